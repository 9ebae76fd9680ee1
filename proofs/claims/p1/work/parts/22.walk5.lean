set_option maxHeartbeats 4000000 in
set_option maxRecDepth 100000 in
theorem c_MSession_init (l : Launch) (dC : Nat → ClassId) (dI : Nat → Nat → Nat) (sz : Nat) (h0 : Nat) (h1 : Nat) : Met l y_MSession_init w_MSession_init ({ frames := 2, cells := 57, slots := 101742, locals := 42 }) (va_Pc [.ref h0, .ref h1] (fun U => U.heap.size = sz ∧ va_P (dC, dI) classes [(h0, .inr (19, [.int 0, .int 0, .int 0, .int 0, .int 0, .int 0, .int 0, .int 0, .null, .null, .null, .int 0, .null, .null, .null, .null, .null, .null, .null, .int 0, .null, .null, .int 0, .int 0, .null, .null, .null, .int 0, .int 0, .int 0, .int 0, .int 0, .null, .null, .int 0, .int 0, .int 0, .int 0, .int 0, .int 0, .int 0, .null, .int 0, .int 0]))] U.heap ∧ va_K (dC, dI) classes [] U ∧ va_D (fun _ => True) [(h0, .inr (19, [.int 0, .int 0, .int 0, .int 0, .int 0, .int 0, .int 0, .int 0, .null, .null, .null, .int 0, .null, .null, .null, .null, .null, .null, .null, .int 0, .null, .null, .int 0, .int 0, .null, .null, .null, .int 0, .int 0, .int 0, .int 0, .int 0, .null, .null, .int 0, .int 0, .int 0, .int 0, .int 0, .int 0, .int 0, .null, .int 0, .int 0]))] ∧ bx_N U)) (va_Qv (fun _ : Unit => True) (fun (_ : Unit) t => ∃ e1 : Nat, ∃ e2 : Nat, ∃ e3 : Nat, ∃ e4 : Nat, ∃ e5 : Nat, ∃ e6 : Nat, ∃ e7 : Nat, ∃ e8 : Nat, ∃ e9 : Nat, ∃ e10 : Nat, ∃ e11 : Nat, ∃ e12 : Nat, ∃ e13 : Nat, ∃ e14 : Nat, ∃ e15 : Nat, ∃ e16 : Nat, ∃ e17 : Nat, ∃ e18 : Nat, ∃ e19 : ClassId, va_P (dC, dI) classes [(h0, .inr (19, [.int 0, .int 0, .int 0, .int 0, .int 0, .int (-1), .int 0, .int 0, .ref e1, .ref e2, .ref e3, .int 0, .ref e4, .ref e5, .ref e6, .ref e7, .ref e8, .ref e9, .ref e10, .int 0, .ref e11, .ref e12, .int 0, .int 0, .ref e13, .ref e14, .ref e15, .int 0, .int 0, .int 0, .int 0, .int 0, .ref e16, .ref e17, .int 0, .int 0, .int 0, .int 0, .int 0, .int 0, .int 0, .ref e18, .int 0, .int 0])), (e1, .inl (e19, 8, .inl (fun _ => 0)))] t.heap ∧ va_K (dC, dI) classes [(e19, .int)] t ∧ va_D (va_A [(h0, .inr (19, [.int 0, .int 0, .int 0, .int 0, .int 0, .int 0, .int 0, .int 0, .null, .null, .null, .int 0, .null, .null, .null, .null, .null, .null, .null, .int 0, .null, .null, .int 0, .int 0, .null, .null, .null, .int 0, .int 0, .int 0, .int 0, .int 0, .null, .null, .int 0, .int 0, .int 0, .int 0, .int 0, .int 0, .int 0, .null, .int 0, .int 0]))] sz) [(h0, .inr (19, [.int 0, .int 0, .int 0, .int 0, .int 0, .int (-1), .int 0, .int 0, .ref e1, .ref e2, .ref e3, .int 0, .ref e4, .ref e5, .ref e6, .ref e7, .ref e8, .ref e9, .ref e10, .int 0, .ref e11, .ref e12, .int 0, .int 0, .ref e13, .ref e14, .ref e15, .int 0, .int 0, .int 0, .int 0, .int 0, .ref e16, .ref e17, .int 0, .int 0, .int 0, .int 0, .int 0, .int 0, .int 0, .ref e18, .int 0, .int 0])), (e1, .inl (e19, 8, .inl (fun _ => 0)))]) (va_A [(h0, .inr (19, [.int 0, .int 0, .int 0, .int 0, .int 0, .int 0, .int 0, .int 0, .null, .null, .null, .int 0, .null, .null, .null, .null, .null, .null, .null, .int 0, .null, .null, .int 0, .int 0, .null, .null, .null, .int 0, .int 0, .int 0, .int 0, .int 0, .null, .null, .int 0, .int 0, .int 0, .int 0, .int 0, .int 0, .int 0, .null, .int 0, .int 0]))] sz)) 57 101742 (va_A [(h0, .inr (19, [.int 0, .int 0, .int 0, .int 0, .int 0, .int 0, .int 0, .int 0, .null, .null, .null, .int 0, .null, .null, .null, .null, .null, .null, .null, .int 0, .null, .null, .int 0, .int 0, .null, .null, .null, .int 0, .int 0, .int 0, .int 0, .int 0, .null, .null, .int 0, .int 0, .int 0, .int 0, .int 0, .int 0, .int 0, .null, .int 0, .int 0]))] sz) := by
  refine Met.ofW (cc := b_MSession_init) (maxL := 2) (ret := none) (by decide) rfl ?_
  intro p e s m args below meth c s₁ B hml hv
  obtain ⟨rfl, hsz, hP, hK, hD0, hN⟩ := hv
  have hx := B.exec
  have hb := B.bytes
  have hr := B.returns
  have hts := atoms_spec (ws := w_MSession_init) B.pre
  have hown : s.vm.findClass R_MSession = some m.cls := findClass_of_methodNamed B.named
  have hlocks := B.notSynchronized
  have hin : meth.name = "<init>" := (name_of_methodNamed B.named B.method).1
  subst hsz
  have hD := hD0.self (sz := s.heap.size)
  generalize hAe : va_A [(h0, .inr (19, [.int 0, .int 0, .int 0, .int 0, .int 0, .int 0, .int 0, .int 0, .null, .null, .null, .int 0, .null, .null, .null, .null, .null, .null, .null, .int 0, .null, .null, .int 0, .int 0, .null, .null, .null, .int 0, .int 0, .int 0, .int 0, .int 0, .null, .null, .int 0, .int 0, .int 0, .int 0, .int 0, .int 0, .int 0, .null, .int 0, .int 0]))] s.heap.size = A at hD ⊢
  have hA : ∀ q : Nat, s.heap.size ≤ q → A q := fun q h => by rw [← hAe]; exact Or.inr h
  have hS : va_S A s.heap s.heap [] := va_S.rf
  have hP : va_P (dC, dI) classes [(h0, .inr (19, [.int 0, .int 0, .int 0, .int 0, .int 0, .int 0, .int 0, .int 0, .null, .null, .null, .int 0, .null, .null, .null, .null, .null, .null, .null, .int 0, .null, .null, .int 0, .int 0, .null, .null, .null, .int 0, .int 0, .int 0, .int 0, .int 0, .null, .null, .int 0, .int 0, .int 0, .int 0, .int 0, .int 0, .int 0, .null, .int 0, .int 0]))] s.heap := hP
  have hl := lv_entry ([.ref h0, .ref h1]) (n := 2) (Nat.le_of_ble_eq_true rfl)
  rw [lg_entry_eq]
  generalize (lg_sl ([.ref h0, .ref h1]) ++ List.replicate (2 - (lg_sl ([.ref h0, .ref h1])).length) Slot.unset).toArray = ls at hl ⊢
  have hl : lv_has ls 2 [(0, .ref h0), (1, .ref h1)] := hl
  obtain ⟨H, hH⟩ : ∃ H : Heap, s.heap = H := ⟨_, rfl⟩
  have hP : va_P (dC, dI) classes [(h0, .inr (19, [.int 0, .int 0, .int 0, .int 0, .int 0, .int 0, .int 0, .int 0, .null, .null, .null, .int 0, .null, .null, .null, .null, .null, .null, .null, .int 0, .null, .null, .int 0, .int 0, .null, .null, .null, .int 0, .int 0, .int 0, .int 0, .int 0, .null, .null, .int 0, .int 0, .int 0, .int 0, .int 0, .int 0, .int 0, .null, .int 0, .int 0]))] H := by rw [← hH]; exact hP
  have hS : va_S A s.heap H [] := by rw [← hH]; exact va_S.rf
  refine bx_heap hH ?_
  refine lv_aload_n hx hb d_MSession_init_0 rfl (lv_at hl 0 rfl) ?_
  refine W.objInit hx hb hown (hts _ (List.mem_cons_of_mem _ q_2223)) (hts _ (List.mem_cons_of_mem _ q_35)) (hts _ (List.mem_cons_of_mem _ q_36)) rfl (by rw [hml]; exact hl.1) rfl d_MSession_init_1 (Nat.le_of_ble_eq_true rfl) (Nat.le_of_ble_eq_true rfl) ?_
  refine W.eq (g2 := F0 m 4 ls []) rfl ?_
  refine lv_aload_n hx hb d_MSession_init_4 rfl (lv_at hl 0 rfl) ?_
  refine lv_iconst (v := -1) hx hb d_MSession_init_5 (by decide) ?_
  refine va_put (D := (dC, dI)) (ci := 19) (v := .int (-1)) (ty := .int) (C := R_MSession) (T := F_MSession) (N := 44) hx hb hts (i_MSession _) t_MSession t_MSession_ok n_MSession hown hK hP hD hS 0 rfl rfl 5 (by decide) (hts _ (List.mem_cons_of_mem _ q_2478)) (fun _ h9 => h9) rfl (by decide +kernel) rfl rfl (Nat.le_of_ble_eq_true rfl) d_MSession_init_6 (fun H locs hP hD hS => ?_)
  have hP : va_P (dC, dI) classes [(h0, .inr (19, [.int 0, .int 0, .int 0, .int 0, .int 0, .int (-1), .int 0, .int 0, .null, .null, .null, .int 0, .null, .null, .null, .null, .null, .null, .null, .int 0, .null, .null, .int 0, .int 0, .null, .null, .null, .int 0, .int 0, .int 0, .int 0, .int 0, .null, .null, .int 0, .int 0, .int 0, .int 0, .int 0, .int 0, .int 0, .null, .int 0, .int 0]))] H := hP
  have hD : va_D A [(h0, .inr (19, [.int 0, .int 0, .int 0, .int 0, .int 0, .int (-1), .int 0, .int 0, .null, .null, .null, .int 0, .null, .null, .null, .null, .null, .null, .null, .int 0, .null, .null, .int 0, .int 0, .null, .null, .null, .int 0, .int 0, .int 0, .int 0, .int 0, .null, .null, .int 0, .int 0, .int 0, .int 0, .int 0, .int 0, .int 0, .null, .int 0, .int 0]))] := hD
  refine lv_aload_n hx hb d_MSession_init_9 rfl (lv_at hl 0 rfl) ?_
  refine lv_bipush (v := 8) hx hb d_MSession_init_10 (by decide) ?_
  refine va_newa (atype := .int) (ty := .int) (a0 := (8, .inl (fun _ => 0))) (n := 8) (N' := 8) hx hb (hts _ (List.mem_cons_of_mem _ q_95)) rfl hK hP hD hS hA (fun _ => rfl) (by decide) (by decide) (by decide) (Nat.le_of_ble_eq_true rfl) (Nat.le_of_ble_eq_true rfl) d_MSession_init_12 (fun q1 cA2 H hK hP hD hS => ?_)
  have hP : va_P (dC, dI) classes [(h0, .inr (19, [.int 0, .int 0, .int 0, .int 0, .int 0, .int (-1), .int 0, .int 0, .null, .null, .null, .int 0, .null, .null, .null, .null, .null, .null, .null, .int 0, .null, .null, .int 0, .int 0, .null, .null, .null, .int 0, .int 0, .int 0, .int 0, .int 0, .null, .null, .int 0, .int 0, .int 0, .int 0, .int 0, .int 0, .int 0, .null, .int 0, .int 0])), (q1, .inl (cA2, 8, .inl (fun _ => 0)))] H := hP
  have hD : va_D A [(h0, .inr (19, [.int 0, .int 0, .int 0, .int 0, .int 0, .int (-1), .int 0, .int 0, .null, .null, .null, .int 0, .null, .null, .null, .null, .null, .null, .null, .int 0, .null, .null, .int 0, .int 0, .null, .null, .null, .int 0, .int 0, .int 0, .int 0, .int 0, .null, .null, .int 0, .int 0, .int 0, .int 0, .int 0, .int 0, .int 0, .null, .int 0, .int 0])), (q1, .inl (cA2, 8, .inl (fun _ => 0)))] := hD
  have hK : va_K (dC, dI) classes [(cA2, .int)] s := hK
  refine W.widen (k := 1) (n := 8) (Nat.le_of_ble_eq_true rfl) (Nat.le_of_ble_eq_true rfl) ?_
  refine va_putF (D := (dC, dI)) (ci := 19) (v := .ref q1) (ty := (.array .int)) (C := R_MSession) (T := F_MSession) (N := 44) hx hb hts (i_MSession _) t_MSession t_MSession_ok n_MSession hown hK hP hD hS 0 rfl rfl 8 (by decide) (hts _ (List.mem_cons_of_mem _ q_2484)) (fun _ h9 => h9) rfl hin rfl (by decide +kernel) rfl rfl (Nat.le_of_ble_eq_true rfl) d_MSession_init_14 (fun H locs hP hD hS => ?_)
  have hP : va_P (dC, dI) classes [(h0, .inr (19, [.int 0, .int 0, .int 0, .int 0, .int 0, .int (-1), .int 0, .int 0, .ref q1, .null, .null, .int 0, .null, .null, .null, .null, .null, .null, .null, .int 0, .null, .null, .int 0, .int 0, .null, .null, .null, .int 0, .int 0, .int 0, .int 0, .int 0, .null, .null, .int 0, .int 0, .int 0, .int 0, .int 0, .int 0, .int 0, .null, .int 0, .int 0])), (q1, .inl (cA2, 8, .inl (fun _ => 0)))] H := hP
  have hD : va_D A [(h0, .inr (19, [.int 0, .int 0, .int 0, .int 0, .int 0, .int (-1), .int 0, .int 0, .ref q1, .null, .null, .int 0, .null, .null, .null, .null, .null, .null, .null, .int 0, .null, .null, .int 0, .int 0, .null, .null, .null, .int 0, .int 0, .int 0, .int 0, .int 0, .null, .null, .int 0, .int 0, .int 0, .int 0, .int 0, .int 0, .int 0, .null, .int 0, .int 0])), (q1, .inl (cA2, 8, .inl (fun _ => 0)))] := hD
  refine lv_aload_n hx hb d_MSession_init_17 rfl (lv_at hl 0 rfl) ?_
  refine lv_sipush (v := 128) hx hb d_MSession_init_18 (by decide) ?_
  refine va_newa (atype := .byte) (ty := .byte) (a0 := (128, .inl (fun _ => 0))) (n := 128) (N' := 128) hx hb (hts _ (List.mem_cons_of_mem _ q_94)) rfl hK hP hD hS hA (fun _ => rfl) (by decide) (by decide) (by decide) (Nat.le_of_ble_eq_true rfl) (Nat.le_of_ble_eq_true rfl) d_MSession_init_21 (fun q3 cA4 H hK hP hD hS => ?_)
  have hP : va_P (dC, dI) classes [(h0, .inr (19, [.int 0, .int 0, .int 0, .int 0, .int 0, .int (-1), .int 0, .int 0, .ref q1, .null, .null, .int 0, .null, .null, .null, .null, .null, .null, .null, .int 0, .null, .null, .int 0, .int 0, .null, .null, .null, .int 0, .int 0, .int 0, .int 0, .int 0, .null, .null, .int 0, .int 0, .int 0, .int 0, .int 0, .int 0, .int 0, .null, .int 0, .int 0])), (q1, .inl (cA2, 8, .inl (fun _ => 0))), (q3, .inl (cA4, 128, .inl (fun _ => 0)))] H := hP
  have hD : va_D A [(h0, .inr (19, [.int 0, .int 0, .int 0, .int 0, .int 0, .int (-1), .int 0, .int 0, .ref q1, .null, .null, .int 0, .null, .null, .null, .null, .null, .null, .null, .int 0, .null, .null, .int 0, .int 0, .null, .null, .null, .int 0, .int 0, .int 0, .int 0, .int 0, .null, .null, .int 0, .int 0, .int 0, .int 0, .int 0, .int 0, .int 0, .null, .int 0, .int 0])), (q1, .inl (cA2, 8, .inl (fun _ => 0))), (q3, .inl (cA4, 128, .inl (fun _ => 0)))] := hD
  have hK : va_K (dC, dI) classes [(cA2, .int), (cA4, .byte)] s := hK
  refine W.widen (k := 2) (n := 136) (Nat.le_of_ble_eq_true rfl) (Nat.le_of_ble_eq_true rfl) ?_
  refine va_putF (D := (dC, dI)) (ci := 19) (v := .ref q3) (ty := (.array .byte)) (C := R_MSession) (T := F_MSession) (N := 44) hx hb hts (i_MSession _) t_MSession t_MSession_ok n_MSession hown hK hP hD hS 0 rfl rfl 9 (by decide) (hts _ (List.mem_cons_of_mem _ q_2486)) (fun _ h9 => h9) rfl hin rfl (by decide +kernel) rfl rfl (Nat.le_of_ble_eq_true rfl) d_MSession_init_23 (fun H locs hP hD hS => ?_)
  have hP : va_P (dC, dI) classes [(h0, .inr (19, [.int 0, .int 0, .int 0, .int 0, .int 0, .int (-1), .int 0, .int 0, .ref q1, .ref q3, .null, .int 0, .null, .null, .null, .null, .null, .null, .null, .int 0, .null, .null, .int 0, .int 0, .null, .null, .null, .int 0, .int 0, .int 0, .int 0, .int 0, .null, .null, .int 0, .int 0, .int 0, .int 0, .int 0, .int 0, .int 0, .null, .int 0, .int 0])), (q1, .inl (cA2, 8, .inl (fun _ => 0))), (q3, .inl (cA4, 128, .inl (fun _ => 0)))] H := hP
  have hD : va_D A [(h0, .inr (19, [.int 0, .int 0, .int 0, .int 0, .int 0, .int (-1), .int 0, .int 0, .ref q1, .ref q3, .null, .int 0, .null, .null, .null, .null, .null, .null, .null, .int 0, .null, .null, .int 0, .int 0, .null, .null, .null, .int 0, .int 0, .int 0, .int 0, .int 0, .null, .null, .int 0, .int 0, .int 0, .int 0, .int 0, .int 0, .int 0, .null, .int 0, .int 0])), (q1, .inl (cA2, 8, .inl (fun _ => 0))), (q3, .inl (cA4, 128, .inl (fun _ => 0)))] := hD
  have hP := hP.sub (ws' := [(h0, .inr (19, [.int 0, .int 0, .int 0, .int 0, .int 0, .int (-1), .int 0, .int 0, .ref q1, .ref q3, .null, .int 0, .null, .null, .null, .null, .null, .null, .null, .int 0, .null, .null, .int 0, .int 0, .null, .null, .null, .int 0, .int 0, .int 0, .int 0, .int 0, .null, .null, .int 0, .int 0, .int 0, .int 0, .int 0, .int 0, .int 0, .null, .int 0, .int 0])), (q1, .inl (cA2, 8, .inl (fun _ => 0)))]) [0, 1] rfl
  have hD := hD.sub (ws' := [(h0, .inr (19, [.int 0, .int 0, .int 0, .int 0, .int 0, .int (-1), .int 0, .int 0, .ref q1, .ref q3, .null, .int 0, .null, .null, .null, .null, .null, .null, .null, .int 0, .null, .null, .int 0, .int 0, .null, .null, .null, .int 0, .int 0, .int 0, .int 0, .int 0, .null, .null, .int 0, .int 0, .int 0, .int 0, .int 0, .int 0, .int 0, .null, .int 0, .int 0])), (q1, .inl (cA2, 8, .inl (fun _ => 0)))]) [0, 1] (by decide) rfl
  have hK := hK.sub (tys' := [(cA2, .int)]) [0] rfl
  refine lv_aload_n hx hb d_MSession_init_26 rfl (lv_at hl 0 rfl) ?_
  refine lv_bipush (v := 8) hx hb d_MSession_init_27 (by decide) ?_
  refine va_newa (atype := .int) (ty := .int) (a0 := (8, .inl (fun _ => 0))) (n := 8) (N' := 8) hx hb (hts _ (List.mem_cons_of_mem _ q_95)) rfl hK hP hD hS hA (fun _ => rfl) (by decide) (by decide) (by decide) (Nat.le_of_ble_eq_true rfl) (Nat.le_of_ble_eq_true rfl) d_MSession_init_29 (fun q5 cA6 H hK hP hD hS => ?_)
  have hP : va_P (dC, dI) classes [(h0, .inr (19, [.int 0, .int 0, .int 0, .int 0, .int 0, .int (-1), .int 0, .int 0, .ref q1, .ref q3, .null, .int 0, .null, .null, .null, .null, .null, .null, .null, .int 0, .null, .null, .int 0, .int 0, .null, .null, .null, .int 0, .int 0, .int 0, .int 0, .int 0, .null, .null, .int 0, .int 0, .int 0, .int 0, .int 0, .int 0, .int 0, .null, .int 0, .int 0])), (q1, .inl (cA2, 8, .inl (fun _ => 0))), (q5, .inl (cA6, 8, .inl (fun _ => 0)))] H := hP
  have hD : va_D A [(h0, .inr (19, [.int 0, .int 0, .int 0, .int 0, .int 0, .int (-1), .int 0, .int 0, .ref q1, .ref q3, .null, .int 0, .null, .null, .null, .null, .null, .null, .null, .int 0, .null, .null, .int 0, .int 0, .null, .null, .null, .int 0, .int 0, .int 0, .int 0, .int 0, .null, .null, .int 0, .int 0, .int 0, .int 0, .int 0, .int 0, .int 0, .null, .int 0, .int 0])), (q1, .inl (cA2, 8, .inl (fun _ => 0))), (q5, .inl (cA6, 8, .inl (fun _ => 0)))] := hD
  have hK : va_K (dC, dI) classes [(cA2, .int), (cA6, .int)] s := hK
  refine W.widen (k := 3) (n := 144) (Nat.le_of_ble_eq_true rfl) (Nat.le_of_ble_eq_true rfl) ?_
  refine va_putF (D := (dC, dI)) (ci := 19) (v := .ref q5) (ty := (.array .int)) (C := R_MSession) (T := F_MSession) (N := 44) hx hb hts (i_MSession _) t_MSession t_MSession_ok n_MSession hown hK hP hD hS 0 rfl rfl 10 (by decide) (hts _ (List.mem_cons_of_mem _ q_2488)) (fun _ h9 => h9) rfl hin rfl (by decide +kernel) rfl rfl (Nat.le_of_ble_eq_true rfl) d_MSession_init_31 (fun H locs hP hD hS => ?_)
  have hP : va_P (dC, dI) classes [(h0, .inr (19, [.int 0, .int 0, .int 0, .int 0, .int 0, .int (-1), .int 0, .int 0, .ref q1, .ref q3, .ref q5, .int 0, .null, .null, .null, .null, .null, .null, .null, .int 0, .null, .null, .int 0, .int 0, .null, .null, .null, .int 0, .int 0, .int 0, .int 0, .int 0, .null, .null, .int 0, .int 0, .int 0, .int 0, .int 0, .int 0, .int 0, .null, .int 0, .int 0])), (q1, .inl (cA2, 8, .inl (fun _ => 0))), (q5, .inl (cA6, 8, .inl (fun _ => 0)))] H := hP
  have hD : va_D A [(h0, .inr (19, [.int 0, .int 0, .int 0, .int 0, .int 0, .int (-1), .int 0, .int 0, .ref q1, .ref q3, .ref q5, .int 0, .null, .null, .null, .null, .null, .null, .null, .int 0, .null, .null, .int 0, .int 0, .null, .null, .null, .int 0, .int 0, .int 0, .int 0, .int 0, .null, .null, .int 0, .int 0, .int 0, .int 0, .int 0, .int 0, .int 0, .null, .int 0, .int 0])), (q1, .inl (cA2, 8, .inl (fun _ => 0))), (q5, .inl (cA6, 8, .inl (fun _ => 0)))] := hD
  have hP := hP.sub (ws' := [(h0, .inr (19, [.int 0, .int 0, .int 0, .int 0, .int 0, .int (-1), .int 0, .int 0, .ref q1, .ref q3, .ref q5, .int 0, .null, .null, .null, .null, .null, .null, .null, .int 0, .null, .null, .int 0, .int 0, .null, .null, .null, .int 0, .int 0, .int 0, .int 0, .int 0, .null, .null, .int 0, .int 0, .int 0, .int 0, .int 0, .int 0, .int 0, .null, .int 0, .int 0])), (q1, .inl (cA2, 8, .inl (fun _ => 0)))]) [0, 1] rfl
  have hD := hD.sub (ws' := [(h0, .inr (19, [.int 0, .int 0, .int 0, .int 0, .int 0, .int (-1), .int 0, .int 0, .ref q1, .ref q3, .ref q5, .int 0, .null, .null, .null, .null, .null, .null, .null, .int 0, .null, .null, .int 0, .int 0, .null, .null, .null, .int 0, .int 0, .int 0, .int 0, .int 0, .null, .null, .int 0, .int 0, .int 0, .int 0, .int 0, .int 0, .int 0, .null, .int 0, .int 0])), (q1, .inl (cA2, 8, .inl (fun _ => 0)))]) [0, 1] (by decide) rfl
  have hK := hK.sub (tys' := [(cA2, .int)]) [0] rfl
  refine lv_aload_n hx hb d_MSession_init_34 rfl (lv_at hl 0 rfl) ?_
  refine lv_sipush (v := 128) hx hb d_MSession_init_35 (by decide) ?_
  refine va_newa (atype := .byte) (ty := .byte) (a0 := (128, .inl (fun _ => 0))) (n := 128) (N' := 128) hx hb (hts _ (List.mem_cons_of_mem _ q_94)) rfl hK hP hD hS hA (fun _ => rfl) (by decide) (by decide) (by decide) (Nat.le_of_ble_eq_true rfl) (Nat.le_of_ble_eq_true rfl) d_MSession_init_38 (fun q7 cA8 H hK hP hD hS => ?_)
  have hP : va_P (dC, dI) classes [(h0, .inr (19, [.int 0, .int 0, .int 0, .int 0, .int 0, .int (-1), .int 0, .int 0, .ref q1, .ref q3, .ref q5, .int 0, .null, .null, .null, .null, .null, .null, .null, .int 0, .null, .null, .int 0, .int 0, .null, .null, .null, .int 0, .int 0, .int 0, .int 0, .int 0, .null, .null, .int 0, .int 0, .int 0, .int 0, .int 0, .int 0, .int 0, .null, .int 0, .int 0])), (q1, .inl (cA2, 8, .inl (fun _ => 0))), (q7, .inl (cA8, 128, .inl (fun _ => 0)))] H := hP
  have hD : va_D A [(h0, .inr (19, [.int 0, .int 0, .int 0, .int 0, .int 0, .int (-1), .int 0, .int 0, .ref q1, .ref q3, .ref q5, .int 0, .null, .null, .null, .null, .null, .null, .null, .int 0, .null, .null, .int 0, .int 0, .null, .null, .null, .int 0, .int 0, .int 0, .int 0, .int 0, .null, .null, .int 0, .int 0, .int 0, .int 0, .int 0, .int 0, .int 0, .null, .int 0, .int 0])), (q1, .inl (cA2, 8, .inl (fun _ => 0))), (q7, .inl (cA8, 128, .inl (fun _ => 0)))] := hD
  have hK : va_K (dC, dI) classes [(cA2, .int), (cA8, .byte)] s := hK
  refine W.widen (k := 4) (n := 272) (Nat.le_of_ble_eq_true rfl) (Nat.le_of_ble_eq_true rfl) ?_
  refine va_putF (D := (dC, dI)) (ci := 19) (v := .ref q7) (ty := (.array .byte)) (C := R_MSession) (T := F_MSession) (N := 44) hx hb hts (i_MSession _) t_MSession t_MSession_ok n_MSession hown hK hP hD hS 0 rfl rfl 12 (by decide) (hts _ (List.mem_cons_of_mem _ q_2491)) (fun _ h9 => h9) rfl hin rfl (by decide +kernel) rfl rfl (Nat.le_of_ble_eq_true rfl) d_MSession_init_40 (fun H locs hP hD hS => ?_)
  have hP : va_P (dC, dI) classes [(h0, .inr (19, [.int 0, .int 0, .int 0, .int 0, .int 0, .int (-1), .int 0, .int 0, .ref q1, .ref q3, .ref q5, .int 0, .ref q7, .null, .null, .null, .null, .null, .null, .int 0, .null, .null, .int 0, .int 0, .null, .null, .null, .int 0, .int 0, .int 0, .int 0, .int 0, .null, .null, .int 0, .int 0, .int 0, .int 0, .int 0, .int 0, .int 0, .null, .int 0, .int 0])), (q1, .inl (cA2, 8, .inl (fun _ => 0))), (q7, .inl (cA8, 128, .inl (fun _ => 0)))] H := hP
  have hD : va_D A [(h0, .inr (19, [.int 0, .int 0, .int 0, .int 0, .int 0, .int (-1), .int 0, .int 0, .ref q1, .ref q3, .ref q5, .int 0, .ref q7, .null, .null, .null, .null, .null, .null, .int 0, .null, .null, .int 0, .int 0, .null, .null, .null, .int 0, .int 0, .int 0, .int 0, .int 0, .null, .null, .int 0, .int 0, .int 0, .int 0, .int 0, .int 0, .int 0, .null, .int 0, .int 0])), (q1, .inl (cA2, 8, .inl (fun _ => 0))), (q7, .inl (cA8, 128, .inl (fun _ => 0)))] := hD
  have hP := hP.sub (ws' := [(h0, .inr (19, [.int 0, .int 0, .int 0, .int 0, .int 0, .int (-1), .int 0, .int 0, .ref q1, .ref q3, .ref q5, .int 0, .ref q7, .null, .null, .null, .null, .null, .null, .int 0, .null, .null, .int 0, .int 0, .null, .null, .null, .int 0, .int 0, .int 0, .int 0, .int 0, .null, .null, .int 0, .int 0, .int 0, .int 0, .int 0, .int 0, .int 0, .null, .int 0, .int 0])), (q1, .inl (cA2, 8, .inl (fun _ => 0)))]) [0, 1] rfl
  have hD := hD.sub (ws' := [(h0, .inr (19, [.int 0, .int 0, .int 0, .int 0, .int 0, .int (-1), .int 0, .int 0, .ref q1, .ref q3, .ref q5, .int 0, .ref q7, .null, .null, .null, .null, .null, .null, .int 0, .null, .null, .int 0, .int 0, .null, .null, .null, .int 0, .int 0, .int 0, .int 0, .int 0, .null, .null, .int 0, .int 0, .int 0, .int 0, .int 0, .int 0, .int 0, .null, .int 0, .int 0])), (q1, .inl (cA2, 8, .inl (fun _ => 0)))]) [0, 1] (by decide) rfl
  have hK := hK.sub (tys' := [(cA2, .int)]) [0] rfl
  refine lv_aload_n hx hb d_MSession_init_43 rfl (lv_at hl 0 rfl) ?_
  refine lv_bipush (v := 8) hx hb d_MSession_init_44 (by decide) ?_
  refine va_newa (atype := .int) (ty := .int) (a0 := (8, .inl (fun _ => 0))) (n := 8) (N' := 8) hx hb (hts _ (List.mem_cons_of_mem _ q_95)) rfl hK hP hD hS hA (fun _ => rfl) (by decide) (by decide) (by decide) (Nat.le_of_ble_eq_true rfl) (Nat.le_of_ble_eq_true rfl) d_MSession_init_46 (fun q9 cA10 H hK hP hD hS => ?_)
  have hP : va_P (dC, dI) classes [(h0, .inr (19, [.int 0, .int 0, .int 0, .int 0, .int 0, .int (-1), .int 0, .int 0, .ref q1, .ref q3, .ref q5, .int 0, .ref q7, .null, .null, .null, .null, .null, .null, .int 0, .null, .null, .int 0, .int 0, .null, .null, .null, .int 0, .int 0, .int 0, .int 0, .int 0, .null, .null, .int 0, .int 0, .int 0, .int 0, .int 0, .int 0, .int 0, .null, .int 0, .int 0])), (q1, .inl (cA2, 8, .inl (fun _ => 0))), (q9, .inl (cA10, 8, .inl (fun _ => 0)))] H := hP
  have hD : va_D A [(h0, .inr (19, [.int 0, .int 0, .int 0, .int 0, .int 0, .int (-1), .int 0, .int 0, .ref q1, .ref q3, .ref q5, .int 0, .ref q7, .null, .null, .null, .null, .null, .null, .int 0, .null, .null, .int 0, .int 0, .null, .null, .null, .int 0, .int 0, .int 0, .int 0, .int 0, .null, .null, .int 0, .int 0, .int 0, .int 0, .int 0, .int 0, .int 0, .null, .int 0, .int 0])), (q1, .inl (cA2, 8, .inl (fun _ => 0))), (q9, .inl (cA10, 8, .inl (fun _ => 0)))] := hD
  have hK : va_K (dC, dI) classes [(cA2, .int), (cA10, .int)] s := hK
  refine W.widen (k := 5) (n := 280) (Nat.le_of_ble_eq_true rfl) (Nat.le_of_ble_eq_true rfl) ?_
  refine va_putF (D := (dC, dI)) (ci := 19) (v := .ref q9) (ty := (.array .int)) (C := R_MSession) (T := F_MSession) (N := 44) hx hb hts (i_MSession _) t_MSession t_MSession_ok n_MSession hown hK hP hD hS 0 rfl rfl 13 (by decide) (hts _ (List.mem_cons_of_mem _ q_2493)) (fun _ h9 => h9) rfl hin rfl (by decide +kernel) rfl rfl (Nat.le_of_ble_eq_true rfl) d_MSession_init_48 (fun H locs hP hD hS => ?_)
  have hP : va_P (dC, dI) classes [(h0, .inr (19, [.int 0, .int 0, .int 0, .int 0, .int 0, .int (-1), .int 0, .int 0, .ref q1, .ref q3, .ref q5, .int 0, .ref q7, .ref q9, .null, .null, .null, .null, .null, .int 0, .null, .null, .int 0, .int 0, .null, .null, .null, .int 0, .int 0, .int 0, .int 0, .int 0, .null, .null, .int 0, .int 0, .int 0, .int 0, .int 0, .int 0, .int 0, .null, .int 0, .int 0])), (q1, .inl (cA2, 8, .inl (fun _ => 0))), (q9, .inl (cA10, 8, .inl (fun _ => 0)))] H := hP
  have hD : va_D A [(h0, .inr (19, [.int 0, .int 0, .int 0, .int 0, .int 0, .int (-1), .int 0, .int 0, .ref q1, .ref q3, .ref q5, .int 0, .ref q7, .ref q9, .null, .null, .null, .null, .null, .int 0, .null, .null, .int 0, .int 0, .null, .null, .null, .int 0, .int 0, .int 0, .int 0, .int 0, .null, .null, .int 0, .int 0, .int 0, .int 0, .int 0, .int 0, .int 0, .null, .int 0, .int 0])), (q1, .inl (cA2, 8, .inl (fun _ => 0))), (q9, .inl (cA10, 8, .inl (fun _ => 0)))] := hD
  have hP := hP.sub (ws' := [(h0, .inr (19, [.int 0, .int 0, .int 0, .int 0, .int 0, .int (-1), .int 0, .int 0, .ref q1, .ref q3, .ref q5, .int 0, .ref q7, .ref q9, .null, .null, .null, .null, .null, .int 0, .null, .null, .int 0, .int 0, .null, .null, .null, .int 0, .int 0, .int 0, .int 0, .int 0, .null, .null, .int 0, .int 0, .int 0, .int 0, .int 0, .int 0, .int 0, .null, .int 0, .int 0])), (q1, .inl (cA2, 8, .inl (fun _ => 0)))]) [0, 1] rfl
  have hD := hD.sub (ws' := [(h0, .inr (19, [.int 0, .int 0, .int 0, .int 0, .int 0, .int (-1), .int 0, .int 0, .ref q1, .ref q3, .ref q5, .int 0, .ref q7, .ref q9, .null, .null, .null, .null, .null, .int 0, .null, .null, .int 0, .int 0, .null, .null, .null, .int 0, .int 0, .int 0, .int 0, .int 0, .null, .null, .int 0, .int 0, .int 0, .int 0, .int 0, .int 0, .int 0, .null, .int 0, .int 0])), (q1, .inl (cA2, 8, .inl (fun _ => 0)))]) [0, 1] (by decide) rfl
  have hK := hK.sub (tys' := [(cA2, .int)]) [0] rfl
  refine lv_aload_n hx hb d_MSession_init_51 rfl (lv_at hl 0 rfl) ?_
  refine lv_sipush (v := 2000) hx hb d_MSession_init_52 (by decide) ?_
  refine va_newa (atype := .long) (ty := .long) (a0 := (2000, .inr (.inl (fun _ => 0)))) (n := 2000) (N' := 2000) hx hb (hts _ (List.mem_cons_of_mem _ q_97)) rfl hK hP hD hS hA (fun _ => rfl) (by decide) (by decide) (by decide) (Nat.le_of_ble_eq_true rfl) (Nat.le_of_ble_eq_true rfl) d_MSession_init_55 (fun q11 cA12 H hK hP hD hS => ?_)
  have hP : va_P (dC, dI) classes [(h0, .inr (19, [.int 0, .int 0, .int 0, .int 0, .int 0, .int (-1), .int 0, .int 0, .ref q1, .ref q3, .ref q5, .int 0, .ref q7, .ref q9, .null, .null, .null, .null, .null, .int 0, .null, .null, .int 0, .int 0, .null, .null, .null, .int 0, .int 0, .int 0, .int 0, .int 0, .null, .null, .int 0, .int 0, .int 0, .int 0, .int 0, .int 0, .int 0, .null, .int 0, .int 0])), (q1, .inl (cA2, 8, .inl (fun _ => 0))), (q11, .inl (cA12, 2000, .inr (.inl (fun _ => 0))))] H := hP
  have hD : va_D A [(h0, .inr (19, [.int 0, .int 0, .int 0, .int 0, .int 0, .int (-1), .int 0, .int 0, .ref q1, .ref q3, .ref q5, .int 0, .ref q7, .ref q9, .null, .null, .null, .null, .null, .int 0, .null, .null, .int 0, .int 0, .null, .null, .null, .int 0, .int 0, .int 0, .int 0, .int 0, .null, .null, .int 0, .int 0, .int 0, .int 0, .int 0, .int 0, .int 0, .null, .int 0, .int 0])), (q1, .inl (cA2, 8, .inl (fun _ => 0))), (q11, .inl (cA12, 2000, .inr (.inl (fun _ => 0))))] := hD
  have hK : va_K (dC, dI) classes [(cA2, .int), (cA12, .long)] s := hK
  refine W.widen (k := 6) (n := 2280) (Nat.le_of_ble_eq_true rfl) (Nat.le_of_ble_eq_true rfl) ?_
  refine va_putF (D := (dC, dI)) (ci := 19) (v := .ref q11) (ty := (.array .long)) (C := R_MSession) (T := F_MSession) (N := 44) hx hb hts (i_MSession _) t_MSession t_MSession_ok n_MSession hown hK hP hD hS 0 rfl rfl 14 (by decide) (hts _ (List.mem_cons_of_mem _ q_2495)) (fun _ h9 => h9) rfl hin rfl (by decide +kernel) rfl rfl (Nat.le_of_ble_eq_true rfl) d_MSession_init_57 (fun H locs hP hD hS => ?_)
  have hP : va_P (dC, dI) classes [(h0, .inr (19, [.int 0, .int 0, .int 0, .int 0, .int 0, .int (-1), .int 0, .int 0, .ref q1, .ref q3, .ref q5, .int 0, .ref q7, .ref q9, .ref q11, .null, .null, .null, .null, .int 0, .null, .null, .int 0, .int 0, .null, .null, .null, .int 0, .int 0, .int 0, .int 0, .int 0, .null, .null, .int 0, .int 0, .int 0, .int 0, .int 0, .int 0, .int 0, .null, .int 0, .int 0])), (q1, .inl (cA2, 8, .inl (fun _ => 0))), (q11, .inl (cA12, 2000, .inr (.inl (fun _ => 0))))] H := hP
  have hD : va_D A [(h0, .inr (19, [.int 0, .int 0, .int 0, .int 0, .int 0, .int (-1), .int 0, .int 0, .ref q1, .ref q3, .ref q5, .int 0, .ref q7, .ref q9, .ref q11, .null, .null, .null, .null, .int 0, .null, .null, .int 0, .int 0, .null, .null, .null, .int 0, .int 0, .int 0, .int 0, .int 0, .null, .null, .int 0, .int 0, .int 0, .int 0, .int 0, .int 0, .int 0, .null, .int 0, .int 0])), (q1, .inl (cA2, 8, .inl (fun _ => 0))), (q11, .inl (cA12, 2000, .inr (.inl (fun _ => 0))))] := hD
  have hP := hP.sub (ws' := [(h0, .inr (19, [.int 0, .int 0, .int 0, .int 0, .int 0, .int (-1), .int 0, .int 0, .ref q1, .ref q3, .ref q5, .int 0, .ref q7, .ref q9, .ref q11, .null, .null, .null, .null, .int 0, .null, .null, .int 0, .int 0, .null, .null, .null, .int 0, .int 0, .int 0, .int 0, .int 0, .null, .null, .int 0, .int 0, .int 0, .int 0, .int 0, .int 0, .int 0, .null, .int 0, .int 0])), (q1, .inl (cA2, 8, .inl (fun _ => 0)))]) [0, 1] rfl
  have hD := hD.sub (ws' := [(h0, .inr (19, [.int 0, .int 0, .int 0, .int 0, .int 0, .int (-1), .int 0, .int 0, .ref q1, .ref q3, .ref q5, .int 0, .ref q7, .ref q9, .ref q11, .null, .null, .null, .null, .int 0, .null, .null, .int 0, .int 0, .null, .null, .null, .int 0, .int 0, .int 0, .int 0, .int 0, .null, .null, .int 0, .int 0, .int 0, .int 0, .int 0, .int 0, .int 0, .null, .int 0, .int 0])), (q1, .inl (cA2, 8, .inl (fun _ => 0)))]) [0, 1] (by decide) rfl
  have hK := hK.sub (tys' := [(cA2, .int)]) [0] rfl
  refine lv_aload_n hx hb d_MSession_init_60 rfl (lv_at hl 0 rfl) ?_
  refine lv_bipush (v := 8) hx hb d_MSession_init_61 (by decide) ?_
  refine va_newa (atype := .int) (ty := .int) (a0 := (8, .inl (fun _ => 0))) (n := 8) (N' := 8) hx hb (hts _ (List.mem_cons_of_mem _ q_95)) rfl hK hP hD hS hA (fun _ => rfl) (by decide) (by decide) (by decide) (Nat.le_of_ble_eq_true rfl) (Nat.le_of_ble_eq_true rfl) d_MSession_init_63 (fun q13 cA14 H hK hP hD hS => ?_)
  have hP : va_P (dC, dI) classes [(h0, .inr (19, [.int 0, .int 0, .int 0, .int 0, .int 0, .int (-1), .int 0, .int 0, .ref q1, .ref q3, .ref q5, .int 0, .ref q7, .ref q9, .ref q11, .null, .null, .null, .null, .int 0, .null, .null, .int 0, .int 0, .null, .null, .null, .int 0, .int 0, .int 0, .int 0, .int 0, .null, .null, .int 0, .int 0, .int 0, .int 0, .int 0, .int 0, .int 0, .null, .int 0, .int 0])), (q1, .inl (cA2, 8, .inl (fun _ => 0))), (q13, .inl (cA14, 8, .inl (fun _ => 0)))] H := hP
  have hD : va_D A [(h0, .inr (19, [.int 0, .int 0, .int 0, .int 0, .int 0, .int (-1), .int 0, .int 0, .ref q1, .ref q3, .ref q5, .int 0, .ref q7, .ref q9, .ref q11, .null, .null, .null, .null, .int 0, .null, .null, .int 0, .int 0, .null, .null, .null, .int 0, .int 0, .int 0, .int 0, .int 0, .null, .null, .int 0, .int 0, .int 0, .int 0, .int 0, .int 0, .int 0, .null, .int 0, .int 0])), (q1, .inl (cA2, 8, .inl (fun _ => 0))), (q13, .inl (cA14, 8, .inl (fun _ => 0)))] := hD
  have hK : va_K (dC, dI) classes [(cA2, .int), (cA14, .int)] s := hK
  refine W.widen (k := 7) (n := 2288) (Nat.le_of_ble_eq_true rfl) (Nat.le_of_ble_eq_true rfl) ?_
  refine va_putF (D := (dC, dI)) (ci := 19) (v := .ref q13) (ty := (.array .int)) (C := R_MSession) (T := F_MSession) (N := 44) hx hb hts (i_MSession _) t_MSession t_MSession_ok n_MSession hown hK hP hD hS 0 rfl rfl 15 (by decide) (hts _ (List.mem_cons_of_mem _ q_2497)) (fun _ h9 => h9) rfl hin rfl (by decide +kernel) rfl rfl (Nat.le_of_ble_eq_true rfl) d_MSession_init_65 (fun H locs hP hD hS => ?_)
  have hP : va_P (dC, dI) classes [(h0, .inr (19, [.int 0, .int 0, .int 0, .int 0, .int 0, .int (-1), .int 0, .int 0, .ref q1, .ref q3, .ref q5, .int 0, .ref q7, .ref q9, .ref q11, .ref q13, .null, .null, .null, .int 0, .null, .null, .int 0, .int 0, .null, .null, .null, .int 0, .int 0, .int 0, .int 0, .int 0, .null, .null, .int 0, .int 0, .int 0, .int 0, .int 0, .int 0, .int 0, .null, .int 0, .int 0])), (q1, .inl (cA2, 8, .inl (fun _ => 0))), (q13, .inl (cA14, 8, .inl (fun _ => 0)))] H := hP
  have hD : va_D A [(h0, .inr (19, [.int 0, .int 0, .int 0, .int 0, .int 0, .int (-1), .int 0, .int 0, .ref q1, .ref q3, .ref q5, .int 0, .ref q7, .ref q9, .ref q11, .ref q13, .null, .null, .null, .int 0, .null, .null, .int 0, .int 0, .null, .null, .null, .int 0, .int 0, .int 0, .int 0, .int 0, .null, .null, .int 0, .int 0, .int 0, .int 0, .int 0, .int 0, .int 0, .null, .int 0, .int 0])), (q1, .inl (cA2, 8, .inl (fun _ => 0))), (q13, .inl (cA14, 8, .inl (fun _ => 0)))] := hD
  have hP := hP.sub (ws' := [(h0, .inr (19, [.int 0, .int 0, .int 0, .int 0, .int 0, .int (-1), .int 0, .int 0, .ref q1, .ref q3, .ref q5, .int 0, .ref q7, .ref q9, .ref q11, .ref q13, .null, .null, .null, .int 0, .null, .null, .int 0, .int 0, .null, .null, .null, .int 0, .int 0, .int 0, .int 0, .int 0, .null, .null, .int 0, .int 0, .int 0, .int 0, .int 0, .int 0, .int 0, .null, .int 0, .int 0])), (q1, .inl (cA2, 8, .inl (fun _ => 0)))]) [0, 1] rfl
  have hD := hD.sub (ws' := [(h0, .inr (19, [.int 0, .int 0, .int 0, .int 0, .int 0, .int (-1), .int 0, .int 0, .ref q1, .ref q3, .ref q5, .int 0, .ref q7, .ref q9, .ref q11, .ref q13, .null, .null, .null, .int 0, .null, .null, .int 0, .int 0, .null, .null, .null, .int 0, .int 0, .int 0, .int 0, .int 0, .null, .null, .int 0, .int 0, .int 0, .int 0, .int 0, .int 0, .int 0, .null, .int 0, .int 0])), (q1, .inl (cA2, 8, .inl (fun _ => 0)))]) [0, 1] (by decide) rfl
  have hK := hK.sub (tys' := [(cA2, .int)]) [0] rfl
  refine lv_aload_n hx hb d_MSession_init_68 rfl (lv_at hl 0 rfl) ?_
  refine lv_bipush (v := 80) hx hb d_MSession_init_69 (by decide) ?_
  refine va_newa (atype := .int) (ty := .int) (a0 := (80, .inl (fun _ => 0))) (n := 80) (N' := 80) hx hb (hts _ (List.mem_cons_of_mem _ q_95)) rfl hK hP hD hS hA (fun _ => rfl) (by decide) (by decide) (by decide) (Nat.le_of_ble_eq_true rfl) (Nat.le_of_ble_eq_true rfl) d_MSession_init_71 (fun q15 cA16 H hK hP hD hS => ?_)
  have hP : va_P (dC, dI) classes [(h0, .inr (19, [.int 0, .int 0, .int 0, .int 0, .int 0, .int (-1), .int 0, .int 0, .ref q1, .ref q3, .ref q5, .int 0, .ref q7, .ref q9, .ref q11, .ref q13, .null, .null, .null, .int 0, .null, .null, .int 0, .int 0, .null, .null, .null, .int 0, .int 0, .int 0, .int 0, .int 0, .null, .null, .int 0, .int 0, .int 0, .int 0, .int 0, .int 0, .int 0, .null, .int 0, .int 0])), (q1, .inl (cA2, 8, .inl (fun _ => 0))), (q15, .inl (cA16, 80, .inl (fun _ => 0)))] H := hP
  have hD : va_D A [(h0, .inr (19, [.int 0, .int 0, .int 0, .int 0, .int 0, .int (-1), .int 0, .int 0, .ref q1, .ref q3, .ref q5, .int 0, .ref q7, .ref q9, .ref q11, .ref q13, .null, .null, .null, .int 0, .null, .null, .int 0, .int 0, .null, .null, .null, .int 0, .int 0, .int 0, .int 0, .int 0, .null, .null, .int 0, .int 0, .int 0, .int 0, .int 0, .int 0, .int 0, .null, .int 0, .int 0])), (q1, .inl (cA2, 8, .inl (fun _ => 0))), (q15, .inl (cA16, 80, .inl (fun _ => 0)))] := hD
  have hK : va_K (dC, dI) classes [(cA2, .int), (cA16, .int)] s := hK
  refine W.widen (k := 8) (n := 2368) (Nat.le_of_ble_eq_true rfl) (Nat.le_of_ble_eq_true rfl) ?_
  refine va_putF (D := (dC, dI)) (ci := 19) (v := .ref q15) (ty := (.array .int)) (C := R_MSession) (T := F_MSession) (N := 44) hx hb hts (i_MSession _) t_MSession t_MSession_ok n_MSession hown hK hP hD hS 0 rfl rfl 16 (by decide) (hts _ (List.mem_cons_of_mem _ q_2499)) (fun _ h9 => h9) rfl hin rfl (by decide +kernel) rfl rfl (Nat.le_of_ble_eq_true rfl) d_MSession_init_73 (fun H locs hP hD hS => ?_)
  have hP : va_P (dC, dI) classes [(h0, .inr (19, [.int 0, .int 0, .int 0, .int 0, .int 0, .int (-1), .int 0, .int 0, .ref q1, .ref q3, .ref q5, .int 0, .ref q7, .ref q9, .ref q11, .ref q13, .ref q15, .null, .null, .int 0, .null, .null, .int 0, .int 0, .null, .null, .null, .int 0, .int 0, .int 0, .int 0, .int 0, .null, .null, .int 0, .int 0, .int 0, .int 0, .int 0, .int 0, .int 0, .null, .int 0, .int 0])), (q1, .inl (cA2, 8, .inl (fun _ => 0))), (q15, .inl (cA16, 80, .inl (fun _ => 0)))] H := hP
  have hD : va_D A [(h0, .inr (19, [.int 0, .int 0, .int 0, .int 0, .int 0, .int (-1), .int 0, .int 0, .ref q1, .ref q3, .ref q5, .int 0, .ref q7, .ref q9, .ref q11, .ref q13, .ref q15, .null, .null, .int 0, .null, .null, .int 0, .int 0, .null, .null, .null, .int 0, .int 0, .int 0, .int 0, .int 0, .null, .null, .int 0, .int 0, .int 0, .int 0, .int 0, .int 0, .int 0, .null, .int 0, .int 0])), (q1, .inl (cA2, 8, .inl (fun _ => 0))), (q15, .inl (cA16, 80, .inl (fun _ => 0)))] := hD
  have hP := hP.sub (ws' := [(h0, .inr (19, [.int 0, .int 0, .int 0, .int 0, .int 0, .int (-1), .int 0, .int 0, .ref q1, .ref q3, .ref q5, .int 0, .ref q7, .ref q9, .ref q11, .ref q13, .ref q15, .null, .null, .int 0, .null, .null, .int 0, .int 0, .null, .null, .null, .int 0, .int 0, .int 0, .int 0, .int 0, .null, .null, .int 0, .int 0, .int 0, .int 0, .int 0, .int 0, .int 0, .null, .int 0, .int 0])), (q1, .inl (cA2, 8, .inl (fun _ => 0)))]) [0, 1] rfl
  have hD := hD.sub (ws' := [(h0, .inr (19, [.int 0, .int 0, .int 0, .int 0, .int 0, .int (-1), .int 0, .int 0, .ref q1, .ref q3, .ref q5, .int 0, .ref q7, .ref q9, .ref q11, .ref q13, .ref q15, .null, .null, .int 0, .null, .null, .int 0, .int 0, .null, .null, .null, .int 0, .int 0, .int 0, .int 0, .int 0, .null, .null, .int 0, .int 0, .int 0, .int 0, .int 0, .int 0, .int 0, .null, .int 0, .int 0])), (q1, .inl (cA2, 8, .inl (fun _ => 0)))]) [0, 1] (by decide) rfl
  have hK := hK.sub (tys' := [(cA2, .int)]) [0] rfl
  refine lv_aload_n hx hb d_MSession_init_76 rfl (lv_at hl 0 rfl) ?_
  refine lv_bipush (v := 8) hx hb d_MSession_init_77 (by decide) ?_
  refine va_newa (atype := .int) (ty := .int) (a0 := (8, .inl (fun _ => 0))) (n := 8) (N' := 8) hx hb (hts _ (List.mem_cons_of_mem _ q_95)) rfl hK hP hD hS hA (fun _ => rfl) (by decide) (by decide) (by decide) (Nat.le_of_ble_eq_true rfl) (Nat.le_of_ble_eq_true rfl) d_MSession_init_79 (fun q17 cA18 H hK hP hD hS => ?_)
  have hP : va_P (dC, dI) classes [(h0, .inr (19, [.int 0, .int 0, .int 0, .int 0, .int 0, .int (-1), .int 0, .int 0, .ref q1, .ref q3, .ref q5, .int 0, .ref q7, .ref q9, .ref q11, .ref q13, .ref q15, .null, .null, .int 0, .null, .null, .int 0, .int 0, .null, .null, .null, .int 0, .int 0, .int 0, .int 0, .int 0, .null, .null, .int 0, .int 0, .int 0, .int 0, .int 0, .int 0, .int 0, .null, .int 0, .int 0])), (q1, .inl (cA2, 8, .inl (fun _ => 0))), (q17, .inl (cA18, 8, .inl (fun _ => 0)))] H := hP
  have hD : va_D A [(h0, .inr (19, [.int 0, .int 0, .int 0, .int 0, .int 0, .int (-1), .int 0, .int 0, .ref q1, .ref q3, .ref q5, .int 0, .ref q7, .ref q9, .ref q11, .ref q13, .ref q15, .null, .null, .int 0, .null, .null, .int 0, .int 0, .null, .null, .null, .int 0, .int 0, .int 0, .int 0, .int 0, .null, .null, .int 0, .int 0, .int 0, .int 0, .int 0, .int 0, .int 0, .null, .int 0, .int 0])), (q1, .inl (cA2, 8, .inl (fun _ => 0))), (q17, .inl (cA18, 8, .inl (fun _ => 0)))] := hD
  have hK : va_K (dC, dI) classes [(cA2, .int), (cA18, .int)] s := hK
  refine W.widen (k := 9) (n := 2376) (Nat.le_of_ble_eq_true rfl) (Nat.le_of_ble_eq_true rfl) ?_
  refine va_putF (D := (dC, dI)) (ci := 19) (v := .ref q17) (ty := (.array .int)) (C := R_MSession) (T := F_MSession) (N := 44) hx hb hts (i_MSession _) t_MSession t_MSession_ok n_MSession hown hK hP hD hS 0 rfl rfl 17 (by decide) (hts _ (List.mem_cons_of_mem _ q_2501)) (fun _ h9 => h9) rfl hin rfl (by decide +kernel) rfl rfl (Nat.le_of_ble_eq_true rfl) d_MSession_init_81 (fun H locs hP hD hS => ?_)
  have hP : va_P (dC, dI) classes [(h0, .inr (19, [.int 0, .int 0, .int 0, .int 0, .int 0, .int (-1), .int 0, .int 0, .ref q1, .ref q3, .ref q5, .int 0, .ref q7, .ref q9, .ref q11, .ref q13, .ref q15, .ref q17, .null, .int 0, .null, .null, .int 0, .int 0, .null, .null, .null, .int 0, .int 0, .int 0, .int 0, .int 0, .null, .null, .int 0, .int 0, .int 0, .int 0, .int 0, .int 0, .int 0, .null, .int 0, .int 0])), (q1, .inl (cA2, 8, .inl (fun _ => 0))), (q17, .inl (cA18, 8, .inl (fun _ => 0)))] H := hP
  have hD : va_D A [(h0, .inr (19, [.int 0, .int 0, .int 0, .int 0, .int 0, .int (-1), .int 0, .int 0, .ref q1, .ref q3, .ref q5, .int 0, .ref q7, .ref q9, .ref q11, .ref q13, .ref q15, .ref q17, .null, .int 0, .null, .null, .int 0, .int 0, .null, .null, .null, .int 0, .int 0, .int 0, .int 0, .int 0, .null, .null, .int 0, .int 0, .int 0, .int 0, .int 0, .int 0, .int 0, .null, .int 0, .int 0])), (q1, .inl (cA2, 8, .inl (fun _ => 0))), (q17, .inl (cA18, 8, .inl (fun _ => 0)))] := hD
  have hP := hP.sub (ws' := [(h0, .inr (19, [.int 0, .int 0, .int 0, .int 0, .int 0, .int (-1), .int 0, .int 0, .ref q1, .ref q3, .ref q5, .int 0, .ref q7, .ref q9, .ref q11, .ref q13, .ref q15, .ref q17, .null, .int 0, .null, .null, .int 0, .int 0, .null, .null, .null, .int 0, .int 0, .int 0, .int 0, .int 0, .null, .null, .int 0, .int 0, .int 0, .int 0, .int 0, .int 0, .int 0, .null, .int 0, .int 0])), (q1, .inl (cA2, 8, .inl (fun _ => 0)))]) [0, 1] rfl
  have hD := hD.sub (ws' := [(h0, .inr (19, [.int 0, .int 0, .int 0, .int 0, .int 0, .int (-1), .int 0, .int 0, .ref q1, .ref q3, .ref q5, .int 0, .ref q7, .ref q9, .ref q11, .ref q13, .ref q15, .ref q17, .null, .int 0, .null, .null, .int 0, .int 0, .null, .null, .null, .int 0, .int 0, .int 0, .int 0, .int 0, .null, .null, .int 0, .int 0, .int 0, .int 0, .int 0, .int 0, .int 0, .null, .int 0, .int 0])), (q1, .inl (cA2, 8, .inl (fun _ => 0)))]) [0, 1] (by decide) rfl
  have hK := hK.sub (tys' := [(cA2, .int)]) [0] rfl
  refine lv_aload_n hx hb d_MSession_init_84 rfl (lv_at hl 0 rfl) ?_
  refine lv_sipush (v := 2000) hx hb d_MSession_init_85 (by decide) ?_
  refine va_newa (atype := .byte) (ty := .byte) (a0 := (2000, .inl (fun _ => 0))) (n := 2000) (N' := 2000) hx hb (hts _ (List.mem_cons_of_mem _ q_94)) rfl hK hP hD hS hA (fun _ => rfl) (by decide) (by decide) (by decide) (Nat.le_of_ble_eq_true rfl) (Nat.le_of_ble_eq_true rfl) d_MSession_init_88 (fun q19 cA20 H hK hP hD hS => ?_)
  have hP : va_P (dC, dI) classes [(h0, .inr (19, [.int 0, .int 0, .int 0, .int 0, .int 0, .int (-1), .int 0, .int 0, .ref q1, .ref q3, .ref q5, .int 0, .ref q7, .ref q9, .ref q11, .ref q13, .ref q15, .ref q17, .null, .int 0, .null, .null, .int 0, .int 0, .null, .null, .null, .int 0, .int 0, .int 0, .int 0, .int 0, .null, .null, .int 0, .int 0, .int 0, .int 0, .int 0, .int 0, .int 0, .null, .int 0, .int 0])), (q1, .inl (cA2, 8, .inl (fun _ => 0))), (q19, .inl (cA20, 2000, .inl (fun _ => 0)))] H := hP
  have hD : va_D A [(h0, .inr (19, [.int 0, .int 0, .int 0, .int 0, .int 0, .int (-1), .int 0, .int 0, .ref q1, .ref q3, .ref q5, .int 0, .ref q7, .ref q9, .ref q11, .ref q13, .ref q15, .ref q17, .null, .int 0, .null, .null, .int 0, .int 0, .null, .null, .null, .int 0, .int 0, .int 0, .int 0, .int 0, .null, .null, .int 0, .int 0, .int 0, .int 0, .int 0, .int 0, .int 0, .null, .int 0, .int 0])), (q1, .inl (cA2, 8, .inl (fun _ => 0))), (q19, .inl (cA20, 2000, .inl (fun _ => 0)))] := hD
  have hK : va_K (dC, dI) classes [(cA2, .int), (cA20, .byte)] s := hK
  refine W.widen (k := 10) (n := 4376) (Nat.le_of_ble_eq_true rfl) (Nat.le_of_ble_eq_true rfl) ?_
  refine va_putF (D := (dC, dI)) (ci := 19) (v := .ref q19) (ty := (.array .byte)) (C := R_MSession) (T := F_MSession) (N := 44) hx hb hts (i_MSession _) t_MSession t_MSession_ok n_MSession hown hK hP hD hS 0 rfl rfl 18 (by decide) (hts _ (List.mem_cons_of_mem _ q_2503)) (fun _ h9 => h9) rfl hin rfl (by decide +kernel) rfl rfl (Nat.le_of_ble_eq_true rfl) d_MSession_init_90 (fun H locs hP hD hS => ?_)
  have hP : va_P (dC, dI) classes [(h0, .inr (19, [.int 0, .int 0, .int 0, .int 0, .int 0, .int (-1), .int 0, .int 0, .ref q1, .ref q3, .ref q5, .int 0, .ref q7, .ref q9, .ref q11, .ref q13, .ref q15, .ref q17, .ref q19, .int 0, .null, .null, .int 0, .int 0, .null, .null, .null, .int 0, .int 0, .int 0, .int 0, .int 0, .null, .null, .int 0, .int 0, .int 0, .int 0, .int 0, .int 0, .int 0, .null, .int 0, .int 0])), (q1, .inl (cA2, 8, .inl (fun _ => 0))), (q19, .inl (cA20, 2000, .inl (fun _ => 0)))] H := hP
  have hD : va_D A [(h0, .inr (19, [.int 0, .int 0, .int 0, .int 0, .int 0, .int (-1), .int 0, .int 0, .ref q1, .ref q3, .ref q5, .int 0, .ref q7, .ref q9, .ref q11, .ref q13, .ref q15, .ref q17, .ref q19, .int 0, .null, .null, .int 0, .int 0, .null, .null, .null, .int 0, .int 0, .int 0, .int 0, .int 0, .null, .null, .int 0, .int 0, .int 0, .int 0, .int 0, .int 0, .int 0, .null, .int 0, .int 0])), (q1, .inl (cA2, 8, .inl (fun _ => 0))), (q19, .inl (cA20, 2000, .inl (fun _ => 0)))] := hD
  have hP := hP.sub (ws' := [(h0, .inr (19, [.int 0, .int 0, .int 0, .int 0, .int 0, .int (-1), .int 0, .int 0, .ref q1, .ref q3, .ref q5, .int 0, .ref q7, .ref q9, .ref q11, .ref q13, .ref q15, .ref q17, .ref q19, .int 0, .null, .null, .int 0, .int 0, .null, .null, .null, .int 0, .int 0, .int 0, .int 0, .int 0, .null, .null, .int 0, .int 0, .int 0, .int 0, .int 0, .int 0, .int 0, .null, .int 0, .int 0])), (q1, .inl (cA2, 8, .inl (fun _ => 0)))]) [0, 1] rfl
  have hD := hD.sub (ws' := [(h0, .inr (19, [.int 0, .int 0, .int 0, .int 0, .int 0, .int (-1), .int 0, .int 0, .ref q1, .ref q3, .ref q5, .int 0, .ref q7, .ref q9, .ref q11, .ref q13, .ref q15, .ref q17, .ref q19, .int 0, .null, .null, .int 0, .int 0, .null, .null, .null, .int 0, .int 0, .int 0, .int 0, .int 0, .null, .null, .int 0, .int 0, .int 0, .int 0, .int 0, .int 0, .int 0, .null, .int 0, .int 0])), (q1, .inl (cA2, 8, .inl (fun _ => 0)))]) [0, 1] (by decide) rfl
  have hK := hK.sub (tys' := [(cA2, .int)]) [0] rfl
  refine lv_aload_n hx hb d_MSession_init_93 rfl (lv_at hl 0 rfl) ?_
  refine va_new (ci := 14) (fs := [.null, .null, .null, .null]) (C := R_MCells) (T := F_MCells) (N := 4) hx hb hts (i_MCells _) t_MCells t_MCells_ok hown (hts _ (List.mem_cons_of_mem _ q_2224)) (hts _ (List.mem_cons_of_mem _ q_2051)) (hts _ (List.mem_cons_of_mem _ q_18)) hK hP hD hS hA rfl (fs_MCells) (Nat.le_of_ble_eq_true rfl) (Nat.le_of_ble_eq_true rfl) d_MSession_init_94 (fun q21 H hP hD hS => ?_)
  have hP : va_P (dC, dI) classes [(h0, .inr (19, [.int 0, .int 0, .int 0, .int 0, .int 0, .int (-1), .int 0, .int 0, .ref q1, .ref q3, .ref q5, .int 0, .ref q7, .ref q9, .ref q11, .ref q13, .ref q15, .ref q17, .ref q19, .int 0, .null, .null, .int 0, .int 0, .null, .null, .null, .int 0, .int 0, .int 0, .int 0, .int 0, .null, .null, .int 0, .int 0, .int 0, .int 0, .int 0, .int 0, .int 0, .null, .int 0, .int 0])), (q1, .inl (cA2, 8, .inl (fun _ => 0))), (q21, .inr (14, [.null, .null, .null, .null]))] H := hP
  have hD : va_D A [(h0, .inr (19, [.int 0, .int 0, .int 0, .int 0, .int 0, .int (-1), .int 0, .int 0, .ref q1, .ref q3, .ref q5, .int 0, .ref q7, .ref q9, .ref q11, .ref q13, .ref q15, .ref q17, .ref q19, .int 0, .null, .null, .int 0, .int 0, .null, .null, .null, .int 0, .int 0, .int 0, .int 0, .int 0, .null, .null, .int 0, .int 0, .int 0, .int 0, .int 0, .int 0, .int 0, .null, .int 0, .int 0])), (q1, .inl (cA2, 8, .inl (fun _ => 0))), (q21, .inr (14, [.null, .null, .null, .null]))] := hD
  refine W.widen (k := 11) (n := 4380) (Nat.le_of_ble_eq_true rfl) (Nat.le_of_ble_eq_true rfl) ?_
  refine lv_dup hx hb d_MSession_init_97 rfl ?_
  refine lv_bipush (v := 10) hx hb d_MSession_init_98 (by decide) ?_
  have hPc := hP.sub (ws' := [(q21, .inr (14, [.null, .null, .null, .null]))]) [2] rfl
  have hDc := hD.sub (ws' := [(q21, .inr (14, [.null, .null, .null, .null]))]) [2] (by decide) rfl
  have hKc := hK.sub (tys' := []) [] rfl
  have hFc := va_free (wc := [(q21, .inr (14, [.null, .null, .null, .null]))]) hD hS hA [2] rfl
  refine va_callv (va_runI (As := [.int 10]) (rest := [.ref q21, .ref h0]) ⟨hx, hb, hml, hown, hts⟩ (c_MCells_init_10 l dC dI H.size q21) (cwI 1 hts (gG_good q_2054) rfl rfl rfl (hts _ (List.mem_cons_of_mem _ q_18)) (hts _ (List.mem_cons_of_mem _ q_2225)) (hts _ (List.mem_cons_of_mem _ q_2053)) rfl (by decide +kernel) ⟨Nat.le_of_ble_eq_true rfl, Nat.le_of_ble_eq_true rfl⟩) ⟨fun a U g mk q => by obtain ⟨q0, q1, qP, qK, qD, qN⟩ := q; exact ⟨q0, q1, qP, va_K.moved (u := U) (U := U.calling g mk a) (Vm.Alike.refl U.vm) qK, qD, bx_N.same rfl qN⟩, fun U hU hW => ⟨rfl, by rw [hU], by rw [hU]; exact hPc, va_K.moved hW.alike hKc, hDc.weaken (fun _ _ _ _ => trivial), bx_N.warm hW hN⟩⟩ rfl rfl hl.1 rfl (lv_room (Nat.le_of_ble_eq_true rfl)) d_MSession_init_100 ⟨Nat.le_of_ble_eq_true rfl, Nat.le_of_ble_eq_true rfl⟩) hS (fun q _ h => hFc q h) hFc (fun u t H1 locs ht hvm hw hB hz1 hk1 hS => ?_)
  obtain ⟨hP1, hK1, hD1⟩ := hB
  rw [ht] at hP1
  have hK1 := va_K.moved hvm.symm hK1
  obtain ⟨hP, hD⟩ := va_join (wr := [(h0, .inr (19, [.int 0, .int 0, .int 0, .int 0, .int 0, .int (-1), .int 0, .int 0, .ref q1, .ref q3, .ref q5, .int 0, .ref q7, .ref q9, .ref q11, .ref q13, .ref q15, .ref q17, .ref q19, .int 0, .null, .null, .int 0, .int 0, .null, .null, .null, .int 0, .int 0, .int 0, .int 0, .int 0, .null, .null, .int 0, .int 0, .int 0, .int 0, .int 0, .int 0, .int 0, .null, .int 0, .int 0])), (q1, .inl (cA2, 8, .inl (fun _ => 0)))]) (w1 := []) hP hD [2] [0, 1] rfl rfl (by decide) (by decide) hk1 hFc hP1 hD1
  have hK := (hK.sub (tys' := [(cA2, .int)]) [0] rfl).app hK1
  generalize H1 = H at hP hS ⊢
  have hP : va_P (dC, dI) classes [(h0, .inr (19, [.int 0, .int 0, .int 0, .int 0, .int 0, .int (-1), .int 0, .int 0, .ref q1, .ref q3, .ref q5, .int 0, .ref q7, .ref q9, .ref q11, .ref q13, .ref q15, .ref q17, .ref q19, .int 0, .null, .null, .int 0, .int 0, .null, .null, .null, .int 0, .int 0, .int 0, .int 0, .int 0, .null, .null, .int 0, .int 0, .int 0, .int 0, .int 0, .int 0, .int 0, .null, .int 0, .int 0])), (q1, .inl (cA2, 8, .inl (fun _ => 0)))] H := hP
  have hD : va_D A [(h0, .inr (19, [.int 0, .int 0, .int 0, .int 0, .int 0, .int (-1), .int 0, .int 0, .ref q1, .ref q3, .ref q5, .int 0, .ref q7, .ref q9, .ref q11, .ref q13, .ref q15, .ref q17, .ref q19, .int 0, .null, .null, .int 0, .int 0, .null, .null, .null, .int 0, .int 0, .int 0, .int 0, .int 0, .null, .null, .int 0, .int 0, .int 0, .int 0, .int 0, .int 0, .int 0, .null, .int 0, .int 0])), (q1, .inl (cA2, 8, .inl (fun _ => 0)))] := hD
  have hK : va_K (dC, dI) classes [(cA2, .int)] s := hK
  refine W.widen (k := 15) (n := 4450) (Nat.le_of_ble_eq_true rfl) (Nat.le_of_ble_eq_true rfl) ?_
  refine va_putF (D := (dC, dI)) (ci := 19) (v := .ref q21) (ty := (.object "SessionServerModel$Cells")) (C := R_MSession) (T := F_MSession) (N := 44) hx hb hts (i_MSession _) t_MSession t_MSession_ok n_MSession hown hK hP hD hS 0 rfl rfl 21 (by decide) (hts _ (List.mem_cons_of_mem _ q_2508)) (fun _ h9 => h9) rfl hin rfl (by decide +kernel) rfl rfl (Nat.le_of_ble_eq_true rfl) d_MSession_init_103 (fun H locs hP hD hS => ?_)
  have hP : va_P (dC, dI) classes [(h0, .inr (19, [.int 0, .int 0, .int 0, .int 0, .int 0, .int (-1), .int 0, .int 0, .ref q1, .ref q3, .ref q5, .int 0, .ref q7, .ref q9, .ref q11, .ref q13, .ref q15, .ref q17, .ref q19, .int 0, .null, .ref q21, .int 0, .int 0, .null, .null, .null, .int 0, .int 0, .int 0, .int 0, .int 0, .null, .null, .int 0, .int 0, .int 0, .int 0, .int 0, .int 0, .int 0, .null, .int 0, .int 0])), (q1, .inl (cA2, 8, .inl (fun _ => 0)))] H := hP
  have hD : va_D A [(h0, .inr (19, [.int 0, .int 0, .int 0, .int 0, .int 0, .int (-1), .int 0, .int 0, .ref q1, .ref q3, .ref q5, .int 0, .ref q7, .ref q9, .ref q11, .ref q13, .ref q15, .ref q17, .ref q19, .int 0, .null, .ref q21, .int 0, .int 0, .null, .null, .null, .int 0, .int 0, .int 0, .int 0, .int 0, .null, .null, .int 0, .int 0, .int 0, .int 0, .int 0, .int 0, .int 0, .null, .int 0, .int 0])), (q1, .inl (cA2, 8, .inl (fun _ => 0)))] := hD
  refine lv_aload_n hx hb d_MSession_init_106 rfl (lv_at hl 0 rfl) ?_
  refine lv_iconst (v := 4) hx hb d_MSession_init_107 (by decide) ?_
  refine va_newa (atype := .int) (ty := .int) (a0 := (4, .inl (fun _ => 0))) (n := 4) (N' := 4) hx hb (hts _ (List.mem_cons_of_mem _ q_95)) rfl hK hP hD hS hA (fun _ => rfl) (by decide) (by decide) (by decide) (Nat.le_of_ble_eq_true rfl) (Nat.le_of_ble_eq_true rfl) d_MSession_init_108 (fun q22 cA23 H hK hP hD hS => ?_)
  have hP : va_P (dC, dI) classes [(h0, .inr (19, [.int 0, .int 0, .int 0, .int 0, .int 0, .int (-1), .int 0, .int 0, .ref q1, .ref q3, .ref q5, .int 0, .ref q7, .ref q9, .ref q11, .ref q13, .ref q15, .ref q17, .ref q19, .int 0, .null, .ref q21, .int 0, .int 0, .null, .null, .null, .int 0, .int 0, .int 0, .int 0, .int 0, .null, .null, .int 0, .int 0, .int 0, .int 0, .int 0, .int 0, .int 0, .null, .int 0, .int 0])), (q1, .inl (cA2, 8, .inl (fun _ => 0))), (q22, .inl (cA23, 4, .inl (fun _ => 0)))] H := hP
  have hD : va_D A [(h0, .inr (19, [.int 0, .int 0, .int 0, .int 0, .int 0, .int (-1), .int 0, .int 0, .ref q1, .ref q3, .ref q5, .int 0, .ref q7, .ref q9, .ref q11, .ref q13, .ref q15, .ref q17, .ref q19, .int 0, .null, .ref q21, .int 0, .int 0, .null, .null, .null, .int 0, .int 0, .int 0, .int 0, .int 0, .null, .null, .int 0, .int 0, .int 0, .int 0, .int 0, .int 0, .int 0, .null, .int 0, .int 0])), (q1, .inl (cA2, 8, .inl (fun _ => 0))), (q22, .inl (cA23, 4, .inl (fun _ => 0)))] := hD
  have hK : va_K (dC, dI) classes [(cA2, .int), (cA23, .int)] s := hK
  refine W.widen (k := 16) (n := 4454) (Nat.le_of_ble_eq_true rfl) (Nat.le_of_ble_eq_true rfl) ?_
  refine va_putF (D := (dC, dI)) (ci := 19) (v := .ref q22) (ty := (.array .int)) (C := R_MSession) (T := F_MSession) (N := 44) hx hb hts (i_MSession _) t_MSession t_MSession_ok n_MSession hown hK hP hD hS 0 rfl rfl 24 (by decide) (hts _ (List.mem_cons_of_mem _ q_2512)) (fun _ h9 => h9) rfl hin rfl (by decide +kernel) rfl rfl (Nat.le_of_ble_eq_true rfl) d_MSession_init_110 (fun H locs hP hD hS => ?_)
  have hP : va_P (dC, dI) classes [(h0, .inr (19, [.int 0, .int 0, .int 0, .int 0, .int 0, .int (-1), .int 0, .int 0, .ref q1, .ref q3, .ref q5, .int 0, .ref q7, .ref q9, .ref q11, .ref q13, .ref q15, .ref q17, .ref q19, .int 0, .null, .ref q21, .int 0, .int 0, .ref q22, .null, .null, .int 0, .int 0, .int 0, .int 0, .int 0, .null, .null, .int 0, .int 0, .int 0, .int 0, .int 0, .int 0, .int 0, .null, .int 0, .int 0])), (q1, .inl (cA2, 8, .inl (fun _ => 0))), (q22, .inl (cA23, 4, .inl (fun _ => 0)))] H := hP
  have hD : va_D A [(h0, .inr (19, [.int 0, .int 0, .int 0, .int 0, .int 0, .int (-1), .int 0, .int 0, .ref q1, .ref q3, .ref q5, .int 0, .ref q7, .ref q9, .ref q11, .ref q13, .ref q15, .ref q17, .ref q19, .int 0, .null, .ref q21, .int 0, .int 0, .ref q22, .null, .null, .int 0, .int 0, .int 0, .int 0, .int 0, .null, .null, .int 0, .int 0, .int 0, .int 0, .int 0, .int 0, .int 0, .null, .int 0, .int 0])), (q1, .inl (cA2, 8, .inl (fun _ => 0))), (q22, .inl (cA23, 4, .inl (fun _ => 0)))] := hD
  have hP := hP.sub (ws' := [(h0, .inr (19, [.int 0, .int 0, .int 0, .int 0, .int 0, .int (-1), .int 0, .int 0, .ref q1, .ref q3, .ref q5, .int 0, .ref q7, .ref q9, .ref q11, .ref q13, .ref q15, .ref q17, .ref q19, .int 0, .null, .ref q21, .int 0, .int 0, .ref q22, .null, .null, .int 0, .int 0, .int 0, .int 0, .int 0, .null, .null, .int 0, .int 0, .int 0, .int 0, .int 0, .int 0, .int 0, .null, .int 0, .int 0])), (q1, .inl (cA2, 8, .inl (fun _ => 0)))]) [0, 1] rfl
  have hD := hD.sub (ws' := [(h0, .inr (19, [.int 0, .int 0, .int 0, .int 0, .int 0, .int (-1), .int 0, .int 0, .ref q1, .ref q3, .ref q5, .int 0, .ref q7, .ref q9, .ref q11, .ref q13, .ref q15, .ref q17, .ref q19, .int 0, .null, .ref q21, .int 0, .int 0, .ref q22, .null, .null, .int 0, .int 0, .int 0, .int 0, .int 0, .null, .null, .int 0, .int 0, .int 0, .int 0, .int 0, .int 0, .int 0, .null, .int 0, .int 0])), (q1, .inl (cA2, 8, .inl (fun _ => 0)))]) [0, 1] (by decide) rfl
  have hK := hK.sub (tys' := [(cA2, .int)]) [0] rfl
  refine lv_aload_n hx hb d_MSession_init_113 rfl (lv_at hl 0 rfl) ?_
  refine lv_iconst (v := 4) hx hb d_MSession_init_114 (by decide) ?_
  refine va_newa (atype := .int) (ty := .int) (a0 := (4, .inl (fun _ => 0))) (n := 4) (N' := 4) hx hb (hts _ (List.mem_cons_of_mem _ q_95)) rfl hK hP hD hS hA (fun _ => rfl) (by decide) (by decide) (by decide) (Nat.le_of_ble_eq_true rfl) (Nat.le_of_ble_eq_true rfl) d_MSession_init_115 (fun q24 cA25 H hK hP hD hS => ?_)
  have hP : va_P (dC, dI) classes [(h0, .inr (19, [.int 0, .int 0, .int 0, .int 0, .int 0, .int (-1), .int 0, .int 0, .ref q1, .ref q3, .ref q5, .int 0, .ref q7, .ref q9, .ref q11, .ref q13, .ref q15, .ref q17, .ref q19, .int 0, .null, .ref q21, .int 0, .int 0, .ref q22, .null, .null, .int 0, .int 0, .int 0, .int 0, .int 0, .null, .null, .int 0, .int 0, .int 0, .int 0, .int 0, .int 0, .int 0, .null, .int 0, .int 0])), (q1, .inl (cA2, 8, .inl (fun _ => 0))), (q24, .inl (cA25, 4, .inl (fun _ => 0)))] H := hP
  have hD : va_D A [(h0, .inr (19, [.int 0, .int 0, .int 0, .int 0, .int 0, .int (-1), .int 0, .int 0, .ref q1, .ref q3, .ref q5, .int 0, .ref q7, .ref q9, .ref q11, .ref q13, .ref q15, .ref q17, .ref q19, .int 0, .null, .ref q21, .int 0, .int 0, .ref q22, .null, .null, .int 0, .int 0, .int 0, .int 0, .int 0, .null, .null, .int 0, .int 0, .int 0, .int 0, .int 0, .int 0, .int 0, .null, .int 0, .int 0])), (q1, .inl (cA2, 8, .inl (fun _ => 0))), (q24, .inl (cA25, 4, .inl (fun _ => 0)))] := hD
  have hK : va_K (dC, dI) classes [(cA2, .int), (cA25, .int)] s := hK
  refine W.widen (k := 17) (n := 4458) (Nat.le_of_ble_eq_true rfl) (Nat.le_of_ble_eq_true rfl) ?_
  refine va_putF (D := (dC, dI)) (ci := 19) (v := .ref q24) (ty := (.array .int)) (C := R_MSession) (T := F_MSession) (N := 44) hx hb hts (i_MSession _) t_MSession t_MSession_ok n_MSession hown hK hP hD hS 0 rfl rfl 25 (by decide) (hts _ (List.mem_cons_of_mem _ q_2514)) (fun _ h9 => h9) rfl hin rfl (by decide +kernel) rfl rfl (Nat.le_of_ble_eq_true rfl) d_MSession_init_117 (fun H locs hP hD hS => ?_)
  have hP : va_P (dC, dI) classes [(h0, .inr (19, [.int 0, .int 0, .int 0, .int 0, .int 0, .int (-1), .int 0, .int 0, .ref q1, .ref q3, .ref q5, .int 0, .ref q7, .ref q9, .ref q11, .ref q13, .ref q15, .ref q17, .ref q19, .int 0, .null, .ref q21, .int 0, .int 0, .ref q22, .ref q24, .null, .int 0, .int 0, .int 0, .int 0, .int 0, .null, .null, .int 0, .int 0, .int 0, .int 0, .int 0, .int 0, .int 0, .null, .int 0, .int 0])), (q1, .inl (cA2, 8, .inl (fun _ => 0))), (q24, .inl (cA25, 4, .inl (fun _ => 0)))] H := hP
  have hD : va_D A [(h0, .inr (19, [.int 0, .int 0, .int 0, .int 0, .int 0, .int (-1), .int 0, .int 0, .ref q1, .ref q3, .ref q5, .int 0, .ref q7, .ref q9, .ref q11, .ref q13, .ref q15, .ref q17, .ref q19, .int 0, .null, .ref q21, .int 0, .int 0, .ref q22, .ref q24, .null, .int 0, .int 0, .int 0, .int 0, .int 0, .null, .null, .int 0, .int 0, .int 0, .int 0, .int 0, .int 0, .int 0, .null, .int 0, .int 0])), (q1, .inl (cA2, 8, .inl (fun _ => 0))), (q24, .inl (cA25, 4, .inl (fun _ => 0)))] := hD
  have hP := hP.sub (ws' := [(h0, .inr (19, [.int 0, .int 0, .int 0, .int 0, .int 0, .int (-1), .int 0, .int 0, .ref q1, .ref q3, .ref q5, .int 0, .ref q7, .ref q9, .ref q11, .ref q13, .ref q15, .ref q17, .ref q19, .int 0, .null, .ref q21, .int 0, .int 0, .ref q22, .ref q24, .null, .int 0, .int 0, .int 0, .int 0, .int 0, .null, .null, .int 0, .int 0, .int 0, .int 0, .int 0, .int 0, .int 0, .null, .int 0, .int 0])), (q1, .inl (cA2, 8, .inl (fun _ => 0)))]) [0, 1] rfl
  have hD := hD.sub (ws' := [(h0, .inr (19, [.int 0, .int 0, .int 0, .int 0, .int 0, .int (-1), .int 0, .int 0, .ref q1, .ref q3, .ref q5, .int 0, .ref q7, .ref q9, .ref q11, .ref q13, .ref q15, .ref q17, .ref q19, .int 0, .null, .ref q21, .int 0, .int 0, .ref q22, .ref q24, .null, .int 0, .int 0, .int 0, .int 0, .int 0, .null, .null, .int 0, .int 0, .int 0, .int 0, .int 0, .int 0, .int 0, .null, .int 0, .int 0])), (q1, .inl (cA2, 8, .inl (fun _ => 0)))]) [0, 1] (by decide) rfl
  have hK := hK.sub (tys' := [(cA2, .int)]) [0] rfl
  refine lv_aload_n hx hb d_MSession_init_120 rfl (lv_at hl 0 rfl) ?_
  refine lv_iconst (v := 4) hx hb d_MSession_init_121 (by decide) ?_
  refine va_newa (atype := .int) (ty := .int) (a0 := (4, .inl (fun _ => 0))) (n := 4) (N' := 4) hx hb (hts _ (List.mem_cons_of_mem _ q_95)) rfl hK hP hD hS hA (fun _ => rfl) (by decide) (by decide) (by decide) (Nat.le_of_ble_eq_true rfl) (Nat.le_of_ble_eq_true rfl) d_MSession_init_122 (fun q26 cA27 H hK hP hD hS => ?_)
  have hP : va_P (dC, dI) classes [(h0, .inr (19, [.int 0, .int 0, .int 0, .int 0, .int 0, .int (-1), .int 0, .int 0, .ref q1, .ref q3, .ref q5, .int 0, .ref q7, .ref q9, .ref q11, .ref q13, .ref q15, .ref q17, .ref q19, .int 0, .null, .ref q21, .int 0, .int 0, .ref q22, .ref q24, .null, .int 0, .int 0, .int 0, .int 0, .int 0, .null, .null, .int 0, .int 0, .int 0, .int 0, .int 0, .int 0, .int 0, .null, .int 0, .int 0])), (q1, .inl (cA2, 8, .inl (fun _ => 0))), (q26, .inl (cA27, 4, .inl (fun _ => 0)))] H := hP
  have hD : va_D A [(h0, .inr (19, [.int 0, .int 0, .int 0, .int 0, .int 0, .int (-1), .int 0, .int 0, .ref q1, .ref q3, .ref q5, .int 0, .ref q7, .ref q9, .ref q11, .ref q13, .ref q15, .ref q17, .ref q19, .int 0, .null, .ref q21, .int 0, .int 0, .ref q22, .ref q24, .null, .int 0, .int 0, .int 0, .int 0, .int 0, .null, .null, .int 0, .int 0, .int 0, .int 0, .int 0, .int 0, .int 0, .null, .int 0, .int 0])), (q1, .inl (cA2, 8, .inl (fun _ => 0))), (q26, .inl (cA27, 4, .inl (fun _ => 0)))] := hD
  have hK : va_K (dC, dI) classes [(cA2, .int), (cA27, .int)] s := hK
  refine W.widen (k := 18) (n := 4462) (Nat.le_of_ble_eq_true rfl) (Nat.le_of_ble_eq_true rfl) ?_
  refine va_putF (D := (dC, dI)) (ci := 19) (v := .ref q26) (ty := (.array .int)) (C := R_MSession) (T := F_MSession) (N := 44) hx hb hts (i_MSession _) t_MSession t_MSession_ok n_MSession hown hK hP hD hS 0 rfl rfl 26 (by decide) (hts _ (List.mem_cons_of_mem _ q_2516)) (fun _ h9 => h9) rfl hin rfl (by decide +kernel) rfl rfl (Nat.le_of_ble_eq_true rfl) d_MSession_init_124 (fun H locs hP hD hS => ?_)
  have hP : va_P (dC, dI) classes [(h0, .inr (19, [.int 0, .int 0, .int 0, .int 0, .int 0, .int (-1), .int 0, .int 0, .ref q1, .ref q3, .ref q5, .int 0, .ref q7, .ref q9, .ref q11, .ref q13, .ref q15, .ref q17, .ref q19, .int 0, .null, .ref q21, .int 0, .int 0, .ref q22, .ref q24, .ref q26, .int 0, .int 0, .int 0, .int 0, .int 0, .null, .null, .int 0, .int 0, .int 0, .int 0, .int 0, .int 0, .int 0, .null, .int 0, .int 0])), (q1, .inl (cA2, 8, .inl (fun _ => 0))), (q26, .inl (cA27, 4, .inl (fun _ => 0)))] H := hP
  have hD : va_D A [(h0, .inr (19, [.int 0, .int 0, .int 0, .int 0, .int 0, .int (-1), .int 0, .int 0, .ref q1, .ref q3, .ref q5, .int 0, .ref q7, .ref q9, .ref q11, .ref q13, .ref q15, .ref q17, .ref q19, .int 0, .null, .ref q21, .int 0, .int 0, .ref q22, .ref q24, .ref q26, .int 0, .int 0, .int 0, .int 0, .int 0, .null, .null, .int 0, .int 0, .int 0, .int 0, .int 0, .int 0, .int 0, .null, .int 0, .int 0])), (q1, .inl (cA2, 8, .inl (fun _ => 0))), (q26, .inl (cA27, 4, .inl (fun _ => 0)))] := hD
  have hP := hP.sub (ws' := [(h0, .inr (19, [.int 0, .int 0, .int 0, .int 0, .int 0, .int (-1), .int 0, .int 0, .ref q1, .ref q3, .ref q5, .int 0, .ref q7, .ref q9, .ref q11, .ref q13, .ref q15, .ref q17, .ref q19, .int 0, .null, .ref q21, .int 0, .int 0, .ref q22, .ref q24, .ref q26, .int 0, .int 0, .int 0, .int 0, .int 0, .null, .null, .int 0, .int 0, .int 0, .int 0, .int 0, .int 0, .int 0, .null, .int 0, .int 0])), (q1, .inl (cA2, 8, .inl (fun _ => 0)))]) [0, 1] rfl
  have hD := hD.sub (ws' := [(h0, .inr (19, [.int 0, .int 0, .int 0, .int 0, .int 0, .int (-1), .int 0, .int 0, .ref q1, .ref q3, .ref q5, .int 0, .ref q7, .ref q9, .ref q11, .ref q13, .ref q15, .ref q17, .ref q19, .int 0, .null, .ref q21, .int 0, .int 0, .ref q22, .ref q24, .ref q26, .int 0, .int 0, .int 0, .int 0, .int 0, .null, .null, .int 0, .int 0, .int 0, .int 0, .int 0, .int 0, .int 0, .null, .int 0, .int 0])), (q1, .inl (cA2, 8, .inl (fun _ => 0)))]) [0, 1] (by decide) rfl
  have hK := hK.sub (tys' := [(cA2, .int)]) [0] rfl
  refine lv_aload_n hx hb d_MSession_init_127 rfl (lv_at hl 0 rfl) ?_
  refine lv_sipush (v := 2000) hx hb d_MSession_init_128 (by decide) ?_
  refine va_newa (atype := .int) (ty := .int) (a0 := (2000, .inl (fun _ => 0))) (n := 2000) (N' := 2000) hx hb (hts _ (List.mem_cons_of_mem _ q_95)) rfl hK hP hD hS hA (fun _ => rfl) (by decide) (by decide) (by decide) (Nat.le_of_ble_eq_true rfl) (Nat.le_of_ble_eq_true rfl) d_MSession_init_131 (fun q28 cA29 H hK hP hD hS => ?_)
  have hP : va_P (dC, dI) classes [(h0, .inr (19, [.int 0, .int 0, .int 0, .int 0, .int 0, .int (-1), .int 0, .int 0, .ref q1, .ref q3, .ref q5, .int 0, .ref q7, .ref q9, .ref q11, .ref q13, .ref q15, .ref q17, .ref q19, .int 0, .null, .ref q21, .int 0, .int 0, .ref q22, .ref q24, .ref q26, .int 0, .int 0, .int 0, .int 0, .int 0, .null, .null, .int 0, .int 0, .int 0, .int 0, .int 0, .int 0, .int 0, .null, .int 0, .int 0])), (q1, .inl (cA2, 8, .inl (fun _ => 0))), (q28, .inl (cA29, 2000, .inl (fun _ => 0)))] H := hP
  have hD : va_D A [(h0, .inr (19, [.int 0, .int 0, .int 0, .int 0, .int 0, .int (-1), .int 0, .int 0, .ref q1, .ref q3, .ref q5, .int 0, .ref q7, .ref q9, .ref q11, .ref q13, .ref q15, .ref q17, .ref q19, .int 0, .null, .ref q21, .int 0, .int 0, .ref q22, .ref q24, .ref q26, .int 0, .int 0, .int 0, .int 0, .int 0, .null, .null, .int 0, .int 0, .int 0, .int 0, .int 0, .int 0, .int 0, .null, .int 0, .int 0])), (q1, .inl (cA2, 8, .inl (fun _ => 0))), (q28, .inl (cA29, 2000, .inl (fun _ => 0)))] := hD
  have hK : va_K (dC, dI) classes [(cA2, .int), (cA29, .int)] s := hK
  refine W.widen (k := 19) (n := 6462) (Nat.le_of_ble_eq_true rfl) (Nat.le_of_ble_eq_true rfl) ?_
  refine va_putF (D := (dC, dI)) (ci := 19) (v := .ref q28) (ty := (.array .int)) (C := R_MSession) (T := F_MSession) (N := 44) hx hb hts (i_MSession _) t_MSession t_MSession_ok n_MSession hown hK hP hD hS 0 rfl rfl 32 (by decide) (hts _ (List.mem_cons_of_mem _ q_2523)) (fun _ h9 => h9) rfl hin rfl (by decide +kernel) rfl rfl (Nat.le_of_ble_eq_true rfl) d_MSession_init_133 (fun H locs hP hD hS => ?_)
  have hP : va_P (dC, dI) classes [(h0, .inr (19, [.int 0, .int 0, .int 0, .int 0, .int 0, .int (-1), .int 0, .int 0, .ref q1, .ref q3, .ref q5, .int 0, .ref q7, .ref q9, .ref q11, .ref q13, .ref q15, .ref q17, .ref q19, .int 0, .null, .ref q21, .int 0, .int 0, .ref q22, .ref q24, .ref q26, .int 0, .int 0, .int 0, .int 0, .int 0, .ref q28, .null, .int 0, .int 0, .int 0, .int 0, .int 0, .int 0, .int 0, .null, .int 0, .int 0])), (q1, .inl (cA2, 8, .inl (fun _ => 0))), (q28, .inl (cA29, 2000, .inl (fun _ => 0)))] H := hP
  have hD : va_D A [(h0, .inr (19, [.int 0, .int 0, .int 0, .int 0, .int 0, .int (-1), .int 0, .int 0, .ref q1, .ref q3, .ref q5, .int 0, .ref q7, .ref q9, .ref q11, .ref q13, .ref q15, .ref q17, .ref q19, .int 0, .null, .ref q21, .int 0, .int 0, .ref q22, .ref q24, .ref q26, .int 0, .int 0, .int 0, .int 0, .int 0, .ref q28, .null, .int 0, .int 0, .int 0, .int 0, .int 0, .int 0, .int 0, .null, .int 0, .int 0])), (q1, .inl (cA2, 8, .inl (fun _ => 0))), (q28, .inl (cA29, 2000, .inl (fun _ => 0)))] := hD
  have hP := hP.sub (ws' := [(h0, .inr (19, [.int 0, .int 0, .int 0, .int 0, .int 0, .int (-1), .int 0, .int 0, .ref q1, .ref q3, .ref q5, .int 0, .ref q7, .ref q9, .ref q11, .ref q13, .ref q15, .ref q17, .ref q19, .int 0, .null, .ref q21, .int 0, .int 0, .ref q22, .ref q24, .ref q26, .int 0, .int 0, .int 0, .int 0, .int 0, .ref q28, .null, .int 0, .int 0, .int 0, .int 0, .int 0, .int 0, .int 0, .null, .int 0, .int 0])), (q1, .inl (cA2, 8, .inl (fun _ => 0)))]) [0, 1] rfl
  have hD := hD.sub (ws' := [(h0, .inr (19, [.int 0, .int 0, .int 0, .int 0, .int 0, .int (-1), .int 0, .int 0, .ref q1, .ref q3, .ref q5, .int 0, .ref q7, .ref q9, .ref q11, .ref q13, .ref q15, .ref q17, .ref q19, .int 0, .null, .ref q21, .int 0, .int 0, .ref q22, .ref q24, .ref q26, .int 0, .int 0, .int 0, .int 0, .int 0, .ref q28, .null, .int 0, .int 0, .int 0, .int 0, .int 0, .int 0, .int 0, .null, .int 0, .int 0])), (q1, .inl (cA2, 8, .inl (fun _ => 0)))]) [0, 1] (by decide) rfl
  have hK := hK.sub (tys' := [(cA2, .int)]) [0] rfl
  refine lv_aload_n hx hb d_MSession_init_136 rfl (lv_at hl 0 rfl) ?_
  refine va_new (ci := 14) (fs := [.null, .null, .null, .null]) (C := R_MCells) (T := F_MCells) (N := 4) hx hb hts (i_MCells _) t_MCells t_MCells_ok hown (hts _ (List.mem_cons_of_mem _ q_2224)) (hts _ (List.mem_cons_of_mem _ q_2051)) (hts _ (List.mem_cons_of_mem _ q_18)) hK hP hD hS hA rfl (fs_MCells) (Nat.le_of_ble_eq_true rfl) (Nat.le_of_ble_eq_true rfl) d_MSession_init_137 (fun q30 H hP hD hS => ?_)
  have hP : va_P (dC, dI) classes [(h0, .inr (19, [.int 0, .int 0, .int 0, .int 0, .int 0, .int (-1), .int 0, .int 0, .ref q1, .ref q3, .ref q5, .int 0, .ref q7, .ref q9, .ref q11, .ref q13, .ref q15, .ref q17, .ref q19, .int 0, .null, .ref q21, .int 0, .int 0, .ref q22, .ref q24, .ref q26, .int 0, .int 0, .int 0, .int 0, .int 0, .ref q28, .null, .int 0, .int 0, .int 0, .int 0, .int 0, .int 0, .int 0, .null, .int 0, .int 0])), (q1, .inl (cA2, 8, .inl (fun _ => 0))), (q30, .inr (14, [.null, .null, .null, .null]))] H := hP
  have hD : va_D A [(h0, .inr (19, [.int 0, .int 0, .int 0, .int 0, .int 0, .int (-1), .int 0, .int 0, .ref q1, .ref q3, .ref q5, .int 0, .ref q7, .ref q9, .ref q11, .ref q13, .ref q15, .ref q17, .ref q19, .int 0, .null, .ref q21, .int 0, .int 0, .ref q22, .ref q24, .ref q26, .int 0, .int 0, .int 0, .int 0, .int 0, .ref q28, .null, .int 0, .int 0, .int 0, .int 0, .int 0, .int 0, .int 0, .null, .int 0, .int 0])), (q1, .inl (cA2, 8, .inl (fun _ => 0))), (q30, .inr (14, [.null, .null, .null, .null]))] := hD
  refine W.widen (k := 20) (n := 6466) (Nat.le_of_ble_eq_true rfl) (Nat.le_of_ble_eq_true rfl) ?_
  refine lv_dup hx hb d_MSession_init_140 rfl ?_
  refine lv_sipush (v := 8008) hx hb d_MSession_init_141 (by decide) ?_
  have hPc := hP.sub (ws' := [(q30, .inr (14, [.null, .null, .null, .null]))]) [2] rfl
  have hDc := hD.sub (ws' := [(q30, .inr (14, [.null, .null, .null, .null]))]) [2] (by decide) rfl
  have hKc := hK.sub (tys' := []) [] rfl
  have hFc := va_free (wc := [(q30, .inr (14, [.null, .null, .null, .null]))]) hD hS hA [2] rfl
  refine va_callv (va_runI (As := [.int 8008]) (rest := [.ref q30, .ref h0]) ⟨hx, hb, hml, hown, hts⟩ (c_MCells_init_8008 l dC dI H.size q30) (cwI 1 hts (gG_good q_2054) rfl rfl rfl (hts _ (List.mem_cons_of_mem _ q_18)) (hts _ (List.mem_cons_of_mem _ q_2225)) (hts _ (List.mem_cons_of_mem _ q_2053)) rfl (by decide +kernel) ⟨Nat.le_of_ble_eq_true rfl, Nat.le_of_ble_eq_true rfl⟩) ⟨fun a U g mk q => by obtain ⟨q0, q1, qP, qK, qD, qN⟩ := q; exact ⟨q0, q1, qP, va_K.moved (u := U) (U := U.calling g mk a) (Vm.Alike.refl U.vm) qK, qD, bx_N.same rfl qN⟩, fun U hU hW => ⟨rfl, by rw [hU], by rw [hU]; exact hPc, va_K.moved hW.alike hKc, hDc.weaken (fun _ _ _ _ => trivial), bx_N.warm hW hN⟩⟩ rfl rfl hl.1 rfl (lv_room (Nat.le_of_ble_eq_true rfl)) d_MSession_init_144 ⟨Nat.le_of_ble_eq_true rfl, Nat.le_of_ble_eq_true rfl⟩) hS (fun q _ h => hFc q h) hFc (fun u t H1 locs ht hvm hw hB hz1 hk1 hS => ?_)
  obtain ⟨hP1, hK1, hD1⟩ := hB
  rw [ht] at hP1
  have hK1 := va_K.moved hvm.symm hK1
  obtain ⟨hP, hD⟩ := va_join (wr := [(h0, .inr (19, [.int 0, .int 0, .int 0, .int 0, .int 0, .int (-1), .int 0, .int 0, .ref q1, .ref q3, .ref q5, .int 0, .ref q7, .ref q9, .ref q11, .ref q13, .ref q15, .ref q17, .ref q19, .int 0, .null, .ref q21, .int 0, .int 0, .ref q22, .ref q24, .ref q26, .int 0, .int 0, .int 0, .int 0, .int 0, .ref q28, .null, .int 0, .int 0, .int 0, .int 0, .int 0, .int 0, .int 0, .null, .int 0, .int 0])), (q1, .inl (cA2, 8, .inl (fun _ => 0)))]) (w1 := []) hP hD [2] [0, 1] rfl rfl (by decide) (by decide) hk1 hFc hP1 hD1
  have hK := (hK.sub (tys' := [(cA2, .int)]) [0] rfl).app hK1
  generalize H1 = H at hP hS ⊢
  have hP : va_P (dC, dI) classes [(h0, .inr (19, [.int 0, .int 0, .int 0, .int 0, .int 0, .int (-1), .int 0, .int 0, .ref q1, .ref q3, .ref q5, .int 0, .ref q7, .ref q9, .ref q11, .ref q13, .ref q15, .ref q17, .ref q19, .int 0, .null, .ref q21, .int 0, .int 0, .ref q22, .ref q24, .ref q26, .int 0, .int 0, .int 0, .int 0, .int 0, .ref q28, .null, .int 0, .int 0, .int 0, .int 0, .int 0, .int 0, .int 0, .null, .int 0, .int 0])), (q1, .inl (cA2, 8, .inl (fun _ => 0)))] H := hP
  have hD : va_D A [(h0, .inr (19, [.int 0, .int 0, .int 0, .int 0, .int 0, .int (-1), .int 0, .int 0, .ref q1, .ref q3, .ref q5, .int 0, .ref q7, .ref q9, .ref q11, .ref q13, .ref q15, .ref q17, .ref q19, .int 0, .null, .ref q21, .int 0, .int 0, .ref q22, .ref q24, .ref q26, .int 0, .int 0, .int 0, .int 0, .int 0, .ref q28, .null, .int 0, .int 0, .int 0, .int 0, .int 0, .int 0, .int 0, .null, .int 0, .int 0])), (q1, .inl (cA2, 8, .inl (fun _ => 0)))] := hD
  have hK : va_K (dC, dI) classes [(cA2, .int)] s := hK
  refine W.widen (k := 24) (n := 62522) (Nat.le_of_ble_eq_true rfl) (Nat.le_of_ble_eq_true rfl) ?_
  refine va_putF (D := (dC, dI)) (ci := 19) (v := .ref q30) (ty := (.object "SessionServerModel$Cells")) (C := R_MSession) (T := F_MSession) (N := 44) hx hb hts (i_MSession _) t_MSession t_MSession_ok n_MSession hown hK hP hD hS 0 rfl rfl 33 (by decide) (hts _ (List.mem_cons_of_mem _ q_2525)) (fun _ h9 => h9) rfl hin rfl (by decide +kernel) rfl rfl (Nat.le_of_ble_eq_true rfl) d_MSession_init_147 (fun H locs hP hD hS => ?_)
  have hP : va_P (dC, dI) classes [(h0, .inr (19, [.int 0, .int 0, .int 0, .int 0, .int 0, .int (-1), .int 0, .int 0, .ref q1, .ref q3, .ref q5, .int 0, .ref q7, .ref q9, .ref q11, .ref q13, .ref q15, .ref q17, .ref q19, .int 0, .null, .ref q21, .int 0, .int 0, .ref q22, .ref q24, .ref q26, .int 0, .int 0, .int 0, .int 0, .int 0, .ref q28, .ref q30, .int 0, .int 0, .int 0, .int 0, .int 0, .int 0, .int 0, .null, .int 0, .int 0])), (q1, .inl (cA2, 8, .inl (fun _ => 0)))] H := hP
  have hD : va_D A [(h0, .inr (19, [.int 0, .int 0, .int 0, .int 0, .int 0, .int (-1), .int 0, .int 0, .ref q1, .ref q3, .ref q5, .int 0, .ref q7, .ref q9, .ref q11, .ref q13, .ref q15, .ref q17, .ref q19, .int 0, .null, .ref q21, .int 0, .int 0, .ref q22, .ref q24, .ref q26, .int 0, .int 0, .int 0, .int 0, .int 0, .ref q28, .ref q30, .int 0, .int 0, .int 0, .int 0, .int 0, .int 0, .int 0, .null, .int 0, .int 0])), (q1, .inl (cA2, 8, .inl (fun _ => 0)))] := hD
  refine lv_aload_n hx hb d_MSession_init_150 rfl (lv_at hl 0 rfl) ?_
  refine lv_sipush (v := 18784) hx hb d_MSession_init_151 (by decide) ?_
  refine va_newa (atype := .byte) (ty := .byte) (a0 := (18784, .inl (fun _ => 0))) (n := 18784) (N' := 18784) hx hb (hts _ (List.mem_cons_of_mem _ q_94)) rfl hK hP hD hS hA (fun _ => rfl) (by decide) (by decide) (by decide) (Nat.le_of_ble_eq_true rfl) (Nat.le_of_ble_eq_true rfl) d_MSession_init_154 (fun q31 cA32 H hK hP hD hS => ?_)
  have hP : va_P (dC, dI) classes [(h0, .inr (19, [.int 0, .int 0, .int 0, .int 0, .int 0, .int (-1), .int 0, .int 0, .ref q1, .ref q3, .ref q5, .int 0, .ref q7, .ref q9, .ref q11, .ref q13, .ref q15, .ref q17, .ref q19, .int 0, .null, .ref q21, .int 0, .int 0, .ref q22, .ref q24, .ref q26, .int 0, .int 0, .int 0, .int 0, .int 0, .ref q28, .ref q30, .int 0, .int 0, .int 0, .int 0, .int 0, .int 0, .int 0, .null, .int 0, .int 0])), (q1, .inl (cA2, 8, .inl (fun _ => 0))), (q31, .inl (cA32, 18784, .inl (fun _ => 0)))] H := hP
  have hD : va_D A [(h0, .inr (19, [.int 0, .int 0, .int 0, .int 0, .int 0, .int (-1), .int 0, .int 0, .ref q1, .ref q3, .ref q5, .int 0, .ref q7, .ref q9, .ref q11, .ref q13, .ref q15, .ref q17, .ref q19, .int 0, .null, .ref q21, .int 0, .int 0, .ref q22, .ref q24, .ref q26, .int 0, .int 0, .int 0, .int 0, .int 0, .ref q28, .ref q30, .int 0, .int 0, .int 0, .int 0, .int 0, .int 0, .int 0, .null, .int 0, .int 0])), (q1, .inl (cA2, 8, .inl (fun _ => 0))), (q31, .inl (cA32, 18784, .inl (fun _ => 0)))] := hD
  have hK : va_K (dC, dI) classes [(cA2, .int), (cA32, .byte)] s := hK
  refine W.widen (k := 25) (n := 81306) (Nat.le_of_ble_eq_true rfl) (Nat.le_of_ble_eq_true rfl) ?_
  refine va_putF (D := (dC, dI)) (ci := 19) (v := .ref q31) (ty := (.array .byte)) (C := R_MSession) (T := F_MSession) (N := 44) hx hb hts (i_MSession _) t_MSession t_MSession_ok n_MSession hown hK hP hD hS 0 rfl rfl 41 (by decide) (hts _ (List.mem_cons_of_mem _ q_2534)) (fun _ h9 => h9) rfl hin rfl (by decide +kernel) rfl rfl (Nat.le_of_ble_eq_true rfl) d_MSession_init_156 (fun H locs hP hD hS => ?_)
  have hP : va_P (dC, dI) classes [(h0, .inr (19, [.int 0, .int 0, .int 0, .int 0, .int 0, .int (-1), .int 0, .int 0, .ref q1, .ref q3, .ref q5, .int 0, .ref q7, .ref q9, .ref q11, .ref q13, .ref q15, .ref q17, .ref q19, .int 0, .null, .ref q21, .int 0, .int 0, .ref q22, .ref q24, .ref q26, .int 0, .int 0, .int 0, .int 0, .int 0, .ref q28, .ref q30, .int 0, .int 0, .int 0, .int 0, .int 0, .int 0, .int 0, .ref q31, .int 0, .int 0])), (q1, .inl (cA2, 8, .inl (fun _ => 0))), (q31, .inl (cA32, 18784, .inl (fun _ => 0)))] H := hP
  have hD : va_D A [(h0, .inr (19, [.int 0, .int 0, .int 0, .int 0, .int 0, .int (-1), .int 0, .int 0, .ref q1, .ref q3, .ref q5, .int 0, .ref q7, .ref q9, .ref q11, .ref q13, .ref q15, .ref q17, .ref q19, .int 0, .null, .ref q21, .int 0, .int 0, .ref q22, .ref q24, .ref q26, .int 0, .int 0, .int 0, .int 0, .int 0, .ref q28, .ref q30, .int 0, .int 0, .int 0, .int 0, .int 0, .int 0, .int 0, .ref q31, .int 0, .int 0])), (q1, .inl (cA2, 8, .inl (fun _ => 0))), (q31, .inl (cA32, 18784, .inl (fun _ => 0)))] := hD
  have hP := hP.sub (ws' := [(h0, .inr (19, [.int 0, .int 0, .int 0, .int 0, .int 0, .int (-1), .int 0, .int 0, .ref q1, .ref q3, .ref q5, .int 0, .ref q7, .ref q9, .ref q11, .ref q13, .ref q15, .ref q17, .ref q19, .int 0, .null, .ref q21, .int 0, .int 0, .ref q22, .ref q24, .ref q26, .int 0, .int 0, .int 0, .int 0, .int 0, .ref q28, .ref q30, .int 0, .int 0, .int 0, .int 0, .int 0, .int 0, .int 0, .ref q31, .int 0, .int 0])), (q1, .inl (cA2, 8, .inl (fun _ => 0)))]) [0, 1] rfl
  have hD := hD.sub (ws' := [(h0, .inr (19, [.int 0, .int 0, .int 0, .int 0, .int 0, .int (-1), .int 0, .int 0, .ref q1, .ref q3, .ref q5, .int 0, .ref q7, .ref q9, .ref q11, .ref q13, .ref q15, .ref q17, .ref q19, .int 0, .null, .ref q21, .int 0, .int 0, .ref q22, .ref q24, .ref q26, .int 0, .int 0, .int 0, .int 0, .int 0, .ref q28, .ref q30, .int 0, .int 0, .int 0, .int 0, .int 0, .int 0, .int 0, .ref q31, .int 0, .int 0])), (q1, .inl (cA2, 8, .inl (fun _ => 0)))]) [0, 1] (by decide) rfl
  have hK := hK.sub (tys' := [(cA2, .int)]) [0] rfl
  refine lv_aload_n hx hb d_MSession_init_159 rfl (lv_at hl 0 rfl) ?_
  refine va_new (ci := 18) (fs := [.int 0, .null, .int 0, .null, .null, .null, .int 0, .null, .int 0, .null, .null, .null, .null, .null, .null, .null, .null, .null, .int 0, .null, .null, .null, .int 0, .int 0, .int 0, .int 0, .int 0, .int 0, .int 0, .int 0, .long 0, .int 0, .int 0, .null, .int 0, .null, .int 0, .null, .null, .int 0, .null, .null, .null, .int 0, .null, .null, .null, .int 0, .int 0, .int 0, .null, .int 0, .null, .null, .int 0, .int 0, .int 0, .int 0, .null, .int 0, .int 0, .null]) (C := R_MReader) (T := F_MReader) (N := 62) hx hb hts (i_MReader _) t_MReader t_MReader_ok hown (hts _ (List.mem_cons_of_mem _ q_2226)) (hts _ (List.mem_cons_of_mem _ q_2227)) (hts _ (List.mem_cons_of_mem _ q_21)) hK hP hD hS hA rfl (fs_MReader) (Nat.le_of_ble_eq_true rfl) (Nat.le_of_ble_eq_true rfl) d_MSession_init_160 (fun q33 H hP hD hS => ?_)
  have hP : va_P (dC, dI) classes [(h0, .inr (19, [.int 0, .int 0, .int 0, .int 0, .int 0, .int (-1), .int 0, .int 0, .ref q1, .ref q3, .ref q5, .int 0, .ref q7, .ref q9, .ref q11, .ref q13, .ref q15, .ref q17, .ref q19, .int 0, .null, .ref q21, .int 0, .int 0, .ref q22, .ref q24, .ref q26, .int 0, .int 0, .int 0, .int 0, .int 0, .ref q28, .ref q30, .int 0, .int 0, .int 0, .int 0, .int 0, .int 0, .int 0, .ref q31, .int 0, .int 0])), (q1, .inl (cA2, 8, .inl (fun _ => 0))), (q33, .inr (18, [.int 0, .null, .int 0, .null, .null, .null, .int 0, .null, .int 0, .null, .null, .null, .null, .null, .null, .null, .null, .null, .int 0, .null, .null, .null, .int 0, .int 0, .int 0, .int 0, .int 0, .int 0, .int 0, .int 0, .long 0, .int 0, .int 0, .null, .int 0, .null, .int 0, .null, .null, .int 0, .null, .null, .null, .int 0, .null, .null, .null, .int 0, .int 0, .int 0, .null, .int 0, .null, .null, .int 0, .int 0, .int 0, .int 0, .null, .int 0, .int 0, .null]))] H := hP
  have hD : va_D A [(h0, .inr (19, [.int 0, .int 0, .int 0, .int 0, .int 0, .int (-1), .int 0, .int 0, .ref q1, .ref q3, .ref q5, .int 0, .ref q7, .ref q9, .ref q11, .ref q13, .ref q15, .ref q17, .ref q19, .int 0, .null, .ref q21, .int 0, .int 0, .ref q22, .ref q24, .ref q26, .int 0, .int 0, .int 0, .int 0, .int 0, .ref q28, .ref q30, .int 0, .int 0, .int 0, .int 0, .int 0, .int 0, .int 0, .ref q31, .int 0, .int 0])), (q1, .inl (cA2, 8, .inl (fun _ => 0))), (q33, .inr (18, [.int 0, .null, .int 0, .null, .null, .null, .int 0, .null, .int 0, .null, .null, .null, .null, .null, .null, .null, .null, .null, .int 0, .null, .null, .null, .int 0, .int 0, .int 0, .int 0, .int 0, .int 0, .int 0, .int 0, .long 0, .int 0, .int 0, .null, .int 0, .null, .int 0, .null, .null, .int 0, .null, .null, .null, .int 0, .null, .null, .null, .int 0, .int 0, .int 0, .null, .int 0, .null, .null, .int 0, .int 0, .int 0, .int 0, .null, .int 0, .int 0, .null]))] := hD
  refine W.widen (k := 26) (n := 81368) (Nat.le_of_ble_eq_true rfl) (Nat.le_of_ble_eq_true rfl) ?_
  refine lv_dup hx hb d_MSession_init_163 rfl ?_
  refine lv_aload_n hx hb d_MSession_init_164 rfl (lv_at hl 1 rfl) ?_
  have hPc := hP.sub (ws' := [(q33, .inr (18, [.int 0, .null, .int 0, .null, .null, .null, .int 0, .null, .int 0, .null, .null, .null, .null, .null, .null, .null, .null, .null, .int 0, .null, .null, .null, .int 0, .int 0, .int 0, .int 0, .int 0, .int 0, .int 0, .int 0, .long 0, .int 0, .int 0, .null, .int 0, .null, .int 0, .null, .null, .int 0, .null, .null, .null, .int 0, .null, .null, .null, .int 0, .int 0, .int 0, .null, .int 0, .null, .null, .int 0, .int 0, .int 0, .int 0, .null, .int 0, .int 0, .null]))]) [2] rfl
  have hDc := hD.sub (ws' := [(q33, .inr (18, [.int 0, .null, .int 0, .null, .null, .null, .int 0, .null, .int 0, .null, .null, .null, .null, .null, .null, .null, .null, .null, .int 0, .null, .null, .null, .int 0, .int 0, .int 0, .int 0, .int 0, .int 0, .int 0, .int 0, .long 0, .int 0, .int 0, .null, .int 0, .null, .int 0, .null, .null, .int 0, .null, .null, .null, .int 0, .null, .null, .null, .int 0, .int 0, .int 0, .null, .int 0, .null, .null, .int 0, .int 0, .int 0, .int 0, .null, .int 0, .int 0, .null]))]) [2] (by decide) rfl
  have hKc := hK.sub (tys' := []) [] rfl
  have hFc := va_free (wc := [(q33, .inr (18, [.int 0, .null, .int 0, .null, .null, .null, .int 0, .null, .int 0, .null, .null, .null, .null, .null, .null, .null, .null, .null, .int 0, .null, .null, .null, .int 0, .int 0, .int 0, .int 0, .int 0, .int 0, .int 0, .int 0, .long 0, .int 0, .int 0, .null, .int 0, .null, .int 0, .null, .null, .int 0, .null, .null, .null, .int 0, .null, .null, .null, .int 0, .int 0, .int 0, .null, .int 0, .null, .null, .int 0, .int 0, .int 0, .int 0, .null, .int 0, .int 0, .null]))]) hD hS hA [2] rfl
  refine va_callv (va_runI (As := [.ref h1]) (rest := [.ref q33, .ref h0]) ⟨hx, hb, hml, hown, hts⟩ (c_MReader_init l dC dI H.size q33 h1) (cwI 1 hts (gG_good q_2230) rfl rfl rfl (hts _ (List.mem_cons_of_mem _ q_21)) (hts _ (List.mem_cons_of_mem _ q_2228)) (hts _ (List.mem_cons_of_mem _ q_2229)) rfl (by decide +kernel) ⟨Nat.le_of_ble_eq_true rfl, Nat.le_of_ble_eq_true rfl⟩) ⟨fun a U g mk q => by obtain ⟨q0, q1, qP, qK, qD, qN⟩ := q; exact ⟨q0, q1, qP, va_K.moved (u := U) (U := U.calling g mk a) (Vm.Alike.refl U.vm) qK, qD, bx_N.same rfl qN⟩, fun U hU hW => ⟨rfl, by rw [hU], by rw [hU]; exact hPc, va_K.moved hW.alike hKc, hDc.weaken (fun _ _ _ _ => trivial), bx_N.warm hW hN⟩⟩ rfl rfl hl.1 rfl (lv_room (Nat.le_of_ble_eq_true rfl)) d_MSession_init_165 ⟨Nat.le_of_ble_eq_true rfl, Nat.le_of_ble_eq_true rfl⟩) hS (fun q _ h => hFc q h) hFc (fun u t H1 locs ht hvm hw hB hz1 hk1 hS => ?_)
  obtain ⟨hP1, hK1, hD1⟩ := hB
  rw [ht] at hP1
  have hK1 := va_K.moved hvm.symm hK1
  obtain ⟨hP, hD⟩ := va_join (wr := [(h0, .inr (19, [.int 0, .int 0, .int 0, .int 0, .int 0, .int (-1), .int 0, .int 0, .ref q1, .ref q3, .ref q5, .int 0, .ref q7, .ref q9, .ref q11, .ref q13, .ref q15, .ref q17, .ref q19, .int 0, .null, .ref q21, .int 0, .int 0, .ref q22, .ref q24, .ref q26, .int 0, .int 0, .int 0, .int 0, .int 0, .ref q28, .ref q30, .int 0, .int 0, .int 0, .int 0, .int 0, .int 0, .int 0, .ref q31, .int 0, .int 0])), (q1, .inl (cA2, 8, .inl (fun _ => 0)))]) (w1 := []) hP hD [2] [0, 1] rfl rfl (by decide) (by decide) hk1 hFc hP1 hD1
  have hK := (hK.sub (tys' := [(cA2, .int)]) [0] rfl).app hK1
  generalize H1 = H at hP hS ⊢
  have hP : va_P (dC, dI) classes [(h0, .inr (19, [.int 0, .int 0, .int 0, .int 0, .int 0, .int (-1), .int 0, .int 0, .ref q1, .ref q3, .ref q5, .int 0, .ref q7, .ref q9, .ref q11, .ref q13, .ref q15, .ref q17, .ref q19, .int 0, .null, .ref q21, .int 0, .int 0, .ref q22, .ref q24, .ref q26, .int 0, .int 0, .int 0, .int 0, .int 0, .ref q28, .ref q30, .int 0, .int 0, .int 0, .int 0, .int 0, .int 0, .int 0, .ref q31, .int 0, .int 0])), (q1, .inl (cA2, 8, .inl (fun _ => 0)))] H := hP
  have hD : va_D A [(h0, .inr (19, [.int 0, .int 0, .int 0, .int 0, .int 0, .int (-1), .int 0, .int 0, .ref q1, .ref q3, .ref q5, .int 0, .ref q7, .ref q9, .ref q11, .ref q13, .ref q15, .ref q17, .ref q19, .int 0, .null, .ref q21, .int 0, .int 0, .ref q22, .ref q24, .ref q26, .int 0, .int 0, .int 0, .int 0, .int 0, .ref q28, .ref q30, .int 0, .int 0, .int 0, .int 0, .int 0, .int 0, .int 0, .ref q31, .int 0, .int 0])), (q1, .inl (cA2, 8, .inl (fun _ => 0)))] := hD
  have hK : va_K (dC, dI) classes [(cA2, .int)] s := hK
  refine W.widen (k := 57) (n := 101742) (Nat.le_of_ble_eq_true rfl) (Nat.le_of_ble_eq_true rfl) ?_
  refine va_putF (D := (dC, dI)) (ci := 19) (v := .ref q33) (ty := (.object "SessionServerModel$Reader")) (C := R_MSession) (T := F_MSession) (N := 44) hx hb hts (i_MSession _) t_MSession t_MSession_ok n_MSession hown hK hP hD hS 0 rfl rfl 20 (by decide) (hts _ (List.mem_cons_of_mem _ q_2506)) (fun _ h9 => h9) rfl hin rfl (by decide +kernel) rfl rfl (Nat.le_of_ble_eq_true rfl) d_MSession_init_168 (fun H locs hP hD hS => ?_)
  have hP : va_P (dC, dI) classes [(h0, .inr (19, [.int 0, .int 0, .int 0, .int 0, .int 0, .int (-1), .int 0, .int 0, .ref q1, .ref q3, .ref q5, .int 0, .ref q7, .ref q9, .ref q11, .ref q13, .ref q15, .ref q17, .ref q19, .int 0, .ref q33, .ref q21, .int 0, .int 0, .ref q22, .ref q24, .ref q26, .int 0, .int 0, .int 0, .int 0, .int 0, .ref q28, .ref q30, .int 0, .int 0, .int 0, .int 0, .int 0, .int 0, .int 0, .ref q31, .int 0, .int 0])), (q1, .inl (cA2, 8, .inl (fun _ => 0)))] H := hP
  have hD : va_D A [(h0, .inr (19, [.int 0, .int 0, .int 0, .int 0, .int 0, .int (-1), .int 0, .int 0, .ref q1, .ref q3, .ref q5, .int 0, .ref q7, .ref q9, .ref q11, .ref q13, .ref q15, .ref q17, .ref q19, .int 0, .ref q33, .ref q21, .int 0, .int 0, .ref q22, .ref q24, .ref q26, .int 0, .int 0, .int 0, .int 0, .int 0, .ref q28, .ref q30, .int 0, .int 0, .int 0, .int 0, .int 0, .int 0, .int 0, .ref q31, .int 0, .int 0])), (q1, .inl (cA2, 8, .inl (fun _ => 0)))] := hD
  have hP9 := hP.sub (ws' := [(h0, .inr (19, [.int 0, .int 0, .int 0, .int 0, .int 0, .int (-1), .int 0, .int 0, .ref q1, .ref q3, .ref q5, .int 0, .ref q7, .ref q9, .ref q11, .ref q13, .ref q15, .ref q17, .ref q19, .int 0, .ref q33, .ref q21, .int 0, .int 0, .ref q22, .ref q24, .ref q26, .int 0, .int 0, .int 0, .int 0, .int 0, .ref q28, .ref q30, .int 0, .int 0, .int 0, .int 0, .int 0, .int 0, .int 0, .ref q31, .int 0, .int 0])), (q1, .inl (cA2, 8, .inl (fun _ => 0)))]) [0, 1] rfl
  have hD9 := hD.sub (ws' := [(h0, .inr (19, [.int 0, .int 0, .int 0, .int 0, .int 0, .int (-1), .int 0, .int 0, .ref q1, .ref q3, .ref q5, .int 0, .ref q7, .ref q9, .ref q11, .ref q13, .ref q15, .ref q17, .ref q19, .int 0, .ref q33, .ref q21, .int 0, .int 0, .ref q22, .ref q24, .ref q26, .int 0, .int 0, .int 0, .int 0, .int 0, .ref q28, .ref q30, .int 0, .int 0, .int 0, .int 0, .int 0, .int 0, .int 0, .ref q31, .int 0, .int 0])), (q1, .inl (cA2, 8, .inl (fun _ => 0)))]) [0, 1] (by decide) rfl
  have hK9 := hK.sub (tys' := [(cA2, .int)]) [0] rfl
  refine W.widen (k := 57) (n := 101742) (Nat.le_of_ble_eq_true rfl) (Nat.le_of_ble_eq_true rfl) ?_
  exact W.vret hx hb hr (fun t ht hW => ⟨⟨(), rfl, trivial, q1, q3, q5, q7, q9, q11, q13, q15, q17, q19, q33, q21, q22, q24, q26, q28, q30, q31, cA2, by rw [ht]; exact hP9, va_K.moved hW.alike hK9, hD9⟩, hS.F ht⟩) hS.2.2 d_MSession_init_171
set_option maxHeartbeats 4000000 in
set_option maxRecDepth 100000 in
theorem c_Server_isSession (l : Launch) (dC : Nat → ClassId) (dI : Nat → Nat → Nat) (sz : Nat) (z1 : Int32) : Met l y_Server_isSession w_Server_isSession ({ frames := 0, cells := 0, slots := 0, locals := 0 }) (va_Pc [.int z1] (fun U => U.heap.size = sz ∧ va_P (dC, dI) classes [] U.heap ∧ va_K (dC, dI) classes [] U ∧ va_D (fun _ => True) [] ∧ bx_N U)) (va_Qi (fun (r : Int32) (_ : Unit) => r = bx_in z1) (fun (_ : Unit) t => va_P (dC, dI) classes [] t.heap ∧ va_K (dC, dI) classes [] t ∧ va_D (va_A [] sz) []) (va_A [] sz)) 0 0 (va_A [] sz) := by
  refine Met.ofW (cc := b_Server_isSession) (maxL := 1) (ret := (some .boolean)) (by decide) rfl ?_
  intro p e s m args below meth c s₁ B hml hv
  obtain ⟨rfl, hsz, hP, hK, hD0, hN⟩ := hv
  have hx := B.exec
  have hb := B.bytes
  have hr := B.returns
  have hts := atoms_spec (ws := w_Server_isSession) B.pre
  have hown : s.vm.findClass R_Server = some m.cls := findClass_of_methodNamed B.named
  have hlocks := B.notSynchronized
  subst hsz
  have hD := hD0.self (sz := s.heap.size)
  generalize hAe : va_A [] s.heap.size = A at hD ⊢
  have hA : ∀ q : Nat, s.heap.size ≤ q → A q := fun q h => by rw [← hAe]; exact Or.inr h
  have hS : va_S A s.heap s.heap [] := va_S.rf
  have hP : va_P (dC, dI) classes [] s.heap := hP
  have hl := lv_entry ([.int z1]) (n := 1) (Nat.le_of_ble_eq_true rfl)
  rw [lg_entry_eq]
  generalize (lg_sl ([.int z1]) ++ List.replicate (1 - (lg_sl ([.int z1])).length) Slot.unset).toArray = ls at hl ⊢
  have hl : lv_has ls 1 [(0, .int z1)] := hl
  obtain ⟨H, hH⟩ : ∃ H : Heap, s.heap = H := ⟨_, rfl⟩
  have hP : va_P (dC, dI) classes [] H := by rw [← hH]; exact hP
  have hS : va_S A s.heap H [] := by rw [← hH]; exact va_S.rf
  refine bx_heap hH ?_
  refine lv_iload_n hx hb d_Server_isSession_0 rfl (lv_at hl 0 rfl) ?_
  refine lv_if_lt (tgt := 14) hx hb d_Server_isSession_1 (by decide) (fun c_1 => ?_) (fun c_1 => ?_)
  · skip
    refine lv_iconst (v := 0) hx hb d_Server_isSession_14 (by decide) ?_
    refine W.widen (k := 0) (n := 0) (Nat.le_of_ble_eq_true rfl) (Nat.le_of_ble_eq_true rfl) ?_
    exact W.zret (v := 0) hx hb hr (by decide) (fun t ht hW => ⟨⟨0, (), rfl, (by simp [bx_in, c_1]), va_P.none, va_K.moved hW.alike (hK.sub (tys' := []) [] rfl), va_D.none⟩, hS.F ht⟩) hS.2.2 d_Server_isSession_15
  · skip
    refine lv_iload_n hx hb d_Server_isSession_4 rfl (lv_at hl 0 rfl) ?_
    refine lv_bipush (v := 6) hx hb d_Server_isSession_5 (by decide) ?_
    refine lv_icmp_ge (tgt := 14) hx hb d_Server_isSession_7 (by decide) (fun c_2 => ?_) (fun c_2 => ?_)
    · skip
      refine lv_iconst (v := 0) hx hb d_Server_isSession_14 (by decide) ?_
      refine W.widen (k := 0) (n := 0) (Nat.le_of_ble_eq_true rfl) (Nat.le_of_ble_eq_true rfl) ?_
      exact W.zret (v := 0) hx hb hr (by decide) (fun t ht hW => ⟨⟨0, (), rfl, (by simp [bx_in, c_1, c_2]), va_P.none, va_K.moved hW.alike (hK.sub (tys' := []) [] rfl), va_D.none⟩, hS.F ht⟩) hS.2.2 d_Server_isSession_15
    · skip
      refine lv_iconst (v := 1) hx hb d_Server_isSession_10 (by decide) ?_
      refine lv_goto (tgt := 15) hx hb d_Server_isSession_11 (by decide) ?_
      refine W.widen (k := 0) (n := 0) (Nat.le_of_ble_eq_true rfl) (Nat.le_of_ble_eq_true rfl) ?_
      exact W.zret (v := 1) hx hb hr (by decide) (fun t ht hW => ⟨⟨1, (), rfl, (by simp [bx_in, c_1, c_2]), va_P.none, va_K.moved hW.alike (hK.sub (tys' := []) [] rfl), va_D.none⟩, hS.F ht⟩) hS.2.2 d_Server_isSession_15
set_option maxHeartbeats 4000000 in
set_option maxRecDepth 100000 in
theorem c_SSession_clearLevels (l : Launch) (dC : Nat → ClassId) (dI : Nat → Nat → Nat) (sz : Nat) (h0 : Nat) (z1 : Int32) (e1 : Nat) (e2 : Nat) (e3 : Nat) (e4 : Nat) (e5 : Nat) (e6 : Nat) (e7 : Nat) (e8 : Nat) (e9 : ClassId) (e10 : ClassId) : Met l y_SSession_clearLevels w_SSession_clearLevels ({ frames := 0, cells := 0, slots := 0, locals := 0 }) (va_Pc [.ref h0, .int 0] (fun U => U.heap.size = sz ∧ va_P (dC, dI) classes [(h0, .inr (11, [.int z1, .ref e1, .ref e2, .ref e3, .ref e4, .ref e5, .ref e6, .ref e7, .ref e8, .int 0, .int 1, .int 1, .int 0, .int 0, .int 0, .int (-1), .int 0, .int 0])), (e4, .inl (e9, 8, .inl (fun _ => 0))), (e5, .inl (e10, 64, .inl (fun _ => 0)))] U.heap ∧ va_K (dC, dI) classes [(e9, .int), (e10, .int)] U ∧ va_D (fun _ => True) [(h0, .inr (11, [.int z1, .ref e1, .ref e2, .ref e3, .ref e4, .ref e5, .ref e6, .ref e7, .ref e8, .int 0, .int 1, .int 1, .int 0, .int 0, .int 0, .int (-1), .int 0, .int 0])), (e4, .inl (e9, 8, .inl (fun _ => 0))), (e5, .inl (e10, 64, .inl (fun _ => 0)))] ∧ bx_N U)) (va_Qv (fun _ : Unit => True) (fun (_ : Unit) t => ∃ e_1 : Nat → Int32, ∃ e_2 : Nat → Int32, va_P (dC, dI) classes [(h0, .inr (11, [.int z1, .ref e1, .ref e2, .ref e3, .ref e4, .ref e5, .ref e6, .ref e7, .ref e8, .int 0, .int 1, .int 1, .int 0, .int 0, .int 0, .int (-1), .int 0, .int 0])), (e4, .inl (e9, 8, .inl e_1)), (e5, .inl (e10, 64, .inl e_2))] t.heap ∧ va_K (dC, dI) classes [(e9, .int), (e10, .int)] t ∧ va_D (va_A [(h0, .inr (11, [.int z1, .ref e1, .ref e2, .ref e3, .ref e4, .ref e5, .ref e6, .ref e7, .ref e8, .int 0, .int 1, .int 1, .int 0, .int 0, .int 0, .int (-1), .int 0, .int 0])), (e4, .inl (e9, 8, .inl (fun _ => 0))), (e5, .inl (e10, 64, .inl (fun _ => 0)))] sz) [(h0, .inr (11, [.int z1, .ref e1, .ref e2, .ref e3, .ref e4, .ref e5, .ref e6, .ref e7, .ref e8, .int 0, .int 1, .int 1, .int 0, .int 0, .int 0, .int (-1), .int 0, .int 0])), (e4, .inl (e9, 8, .inl e_1)), (e5, .inl (e10, 64, .inl e_2))]) (va_A [(h0, .inr (11, [.int z1, .ref e1, .ref e2, .ref e3, .ref e4, .ref e5, .ref e6, .ref e7, .ref e8, .int 0, .int 1, .int 1, .int 0, .int 0, .int 0, .int (-1), .int 0, .int 0])), (e4, .inl (e9, 8, .inl (fun _ => 0))), (e5, .inl (e10, 64, .inl (fun _ => 0)))] sz)) 0 0 (va_A [(h0, .inr (11, [.int z1, .ref e1, .ref e2, .ref e3, .ref e4, .ref e5, .ref e6, .ref e7, .ref e8, .int 0, .int 1, .int 1, .int 0, .int 0, .int 0, .int (-1), .int 0, .int 0])), (e4, .inl (e9, 8, .inl (fun _ => 0))), (e5, .inl (e10, 64, .inl (fun _ => 0)))] sz) := by
  refine Met.ofW (cc := b_SSession_clearLevels) (maxL := 4) (ret := none) (by decide) rfl ?_
  intro p e s m args below meth c s₁ B hml hv
  obtain ⟨rfl, hsz, hP, hK, hD0, hN⟩ := hv
  have hx := B.exec
  have hb := B.bytes
  have hr := B.returns
  have hts := atoms_spec (ws := w_SSession_clearLevels) B.pre
  have hown : s.vm.findClass R_SSession = some m.cls := findClass_of_methodNamed B.named
  have hlocks := B.notSynchronized
  subst hsz
  have hD := hD0.self (sz := s.heap.size)
  generalize hAe : va_A [(h0, .inr (11, [.int z1, .ref e1, .ref e2, .ref e3, .ref e4, .ref e5, .ref e6, .ref e7, .ref e8, .int 0, .int 1, .int 1, .int 0, .int 0, .int 0, .int (-1), .int 0, .int 0])), (e4, .inl (e9, 8, .inl (fun _ => 0))), (e5, .inl (e10, 64, .inl (fun _ => 0)))] s.heap.size = A at hD ⊢
  have hA : ∀ q : Nat, s.heap.size ≤ q → A q := fun q h => by rw [← hAe]; exact Or.inr h
  have hS : va_S A s.heap s.heap [] := va_S.rf
  have hP : va_P (dC, dI) classes [(h0, .inr (11, [.int z1, .ref e1, .ref e2, .ref e3, .ref e4, .ref e5, .ref e6, .ref e7, .ref e8, .int 0, .int 1, .int 1, .int 0, .int 0, .int 0, .int (-1), .int 0, .int 0])), (e4, .inl (e9, 8, .inl (fun _ => 0))), (e5, .inl (e10, 64, .inl (fun _ => 0)))] s.heap := hP
  have hl := lv_entry ([.ref h0, .int 0]) (n := 4) (Nat.le_of_ble_eq_true rfl)
  rw [lg_entry_eq]
  generalize (lg_sl ([.ref h0, .int 0]) ++ List.replicate (4 - (lg_sl ([.ref h0, .int 0])).length) Slot.unset).toArray = ls at hl ⊢
  have hl : lv_has ls 4 [(0, .ref h0), (1, .int 0)] := hl
  obtain ⟨H, hH⟩ : ∃ H : Heap, s.heap = H := ⟨_, rfl⟩
  have hP : va_P (dC, dI) classes [(h0, .inr (11, [.int z1, .ref e1, .ref e2, .ref e3, .ref e4, .ref e5, .ref e6, .ref e7, .ref e8, .int 0, .int 1, .int 1, .int 0, .int 0, .int 0, .int (-1), .int 0, .int 0])), (e4, .inl (e9, 8, .inl (fun _ => 0))), (e5, .inl (e10, 64, .inl (fun _ => 0)))] H := by rw [← hH]; exact hP
  have hS : va_S A s.heap H [] := by rw [← hH]; exact va_S.rf
  refine bx_heap hH ?_
  refine lv_iload_n hx hb d_SSession_clearLevels_0 rfl (lv_at hl 1 rfl) ?_
  refine lv_istore_n (lv' := [(2, .int 0), (0, .ref h0), (1, .int 0)]) hx hb d_SSession_clearLevels_1 rfl hl (by decide) rfl (fun ls hl => ?_)
  refine lv_iload_n hx hb d_SSession_clearLevels_2 rfl (lv_at hl 0 rfl) ?_
  refine lv_bipush (v := 8) hx hb d_SSession_clearLevels_3 (by decide) ?_
  refine lv_icmp_ge (tgt := 47) hx hb d_SSession_clearLevels_5 (by decide) (fun c_1 => absurd c_1 (by decide)) (fun c_1 => ?_)
  refine lv_aload_n hx hb d_SSession_clearLevels_8 rfl (lv_at hl 1 rfl) ?_
  refine va_get (D := (dC, dI)) (ci := 11) (v := .ref e4) (C := R_SSession) (T := F_SSession) (N := 18) hx hb hts (i_SSession _) hown hK hP 0 rfl rfl 4 (by decide) (hts _ (List.mem_cons_of_mem _ q_792)) (fun _ h9 => h9) rfl d_SSession_clearLevels_9 ?_
  refine lv_iload_n hx hb d_SSession_clearLevels_12 rfl (lv_at hl 0 rfl) ?_
  refine lv_iconst (v := 0) hx hb d_SSession_clearLevels_13 (by decide) ?_
  refine va_iast hx hb hK hP hD hS 1 0 (i := 0) (x := 0) rfl rfl (vp_in_nI (n := 0) (by decide) (by decide)) d_SSession_clearLevels_14 (fun H locs hP hD hS => ?_)
  obtain ⟨f2, hP, hD⟩ : ∃ f2 : Nat → Int32, va_P (dC, dI) classes [(h0, .inr (11, [.int z1, .ref e1, .ref e2, .ref e3, .ref e4, .ref e5, .ref e6, .ref e7, .ref e8, .int 0, .int 1, .int 1, .int 0, .int 0, .int 0, .int (-1), .int 0, .int 0])), (e4, .inl (e9, 8, .inl f2)), (e5, .inl (e10, 64, .inl (fun _ => 0)))] H ∧ va_D A [(h0, .inr (11, [.int z1, .ref e1, .ref e2, .ref e3, .ref e4, .ref e5, .ref e6, .ref e7, .ref e8, .int 0, .int 1, .int 1, .int 0, .int 0, .int 0, .int (-1), .int 0, .int 0])), (e4, .inl (e9, 8, .inl f2)), (e5, .inl (e10, 64, .inl (fun _ => 0)))] := ⟨_, hP, hD⟩
  refine lv_iconst (v := 0) hx hb d_SSession_clearLevels_15 (by decide) ?_
  refine lv_istore_n (lv' := [(3, .int 0), (2, .int 0), (0, .ref h0), (1, .int 0)]) hx hb d_SSession_clearLevels_16 rfl hl (by decide) rfl (fun ls hl => ?_)
  refine lv_iload_n hx hb d_SSession_clearLevels_17 rfl (lv_at hl 0 rfl) ?_
  refine lv_bipush (v := 8) hx hb d_SSession_clearLevels_18 (by decide) ?_
  refine lv_icmp_ge (tgt := 41) hx hb d_SSession_clearLevels_20 (by decide) (fun c_3 => absurd c_3 (by decide)) (fun c_3 => ?_)
  refine lv_aload_n hx hb d_SSession_clearLevels_23 rfl (lv_at hl 2 rfl) ?_
  refine va_get (D := (dC, dI)) (ci := 11) (v := .ref e5) (C := R_SSession) (T := F_SSession) (N := 18) hx hb hts (i_SSession _) hown hK hP 0 rfl rfl 5 (by decide) (hts _ (List.mem_cons_of_mem _ q_795)) (fun _ h9 => h9) rfl d_SSession_clearLevels_24 ?_
  refine lv_iload_n hx hb d_SSession_clearLevels_27 rfl (lv_at hl 1 rfl) ?_
  refine lv_bipush (v := 8) hx hb d_SSession_clearLevels_28 (by decide) ?_
  refine lv_imul hx hb d_SSession_clearLevels_30 ?_
  refine bx_top (y := 0) (by decide) ?_
  refine lv_iload_n hx hb d_SSession_clearLevels_31 rfl (lv_at hl 0 rfl) ?_
  refine lv_iadd hx hb d_SSession_clearLevels_32 ?_
  refine bx_top (y := 0) (by decide) ?_
  refine lv_iconst (v := 0) hx hb d_SSession_clearLevels_33 (by decide) ?_
  refine va_iast hx hb hK hP hD hS 2 1 (i := 0) (x := 0) rfl rfl (vp_in_nI (n := 0) (by decide) (by decide)) d_SSession_clearLevels_34 (fun H locs hP hD hS => ?_)
  obtain ⟨f4, hP, hD⟩ : ∃ f4 : Nat → Int32, va_P (dC, dI) classes [(h0, .inr (11, [.int z1, .ref e1, .ref e2, .ref e3, .ref e4, .ref e5, .ref e6, .ref e7, .ref e8, .int 0, .int 1, .int 1, .int 0, .int 0, .int 0, .int (-1), .int 0, .int 0])), (e4, .inl (e9, 8, .inl f2)), (e5, .inl (e10, 64, .inl f4))] H ∧ va_D A [(h0, .inr (11, [.int z1, .ref e1, .ref e2, .ref e3, .ref e4, .ref e5, .ref e6, .ref e7, .ref e8, .int 0, .int 1, .int 1, .int 0, .int 0, .int 0, .int (-1), .int 0, .int 0])), (e4, .inl (e9, 8, .inl f2)), (e5, .inl (e10, 64, .inl f4))] := ⟨_, hP, hD⟩
  refine lv_iinc (v := 1) (lv' := [(3, .int 1), (2, .int 0), (0, .ref h0), (1, .int 0)]) hx hb d_SSession_clearLevels_35 hl (k := 0) rfl (by decide) (by decide) rfl (fun ls hl => ?_)
  refine lv_goto (tgt := 17) hx hb d_SSession_clearLevels_38 (by decide) ?_
  refine lv_iload_n hx hb d_SSession_clearLevels_17 rfl (lv_at hl 0 rfl) ?_
  refine lv_bipush (v := 8) hx hb d_SSession_clearLevels_18 (by decide) ?_
  refine lv_icmp_ge (tgt := 41) hx hb d_SSession_clearLevels_20 (by decide) (fun c_5 => absurd c_5 (by decide)) (fun c_5 => ?_)
  refine lv_aload_n hx hb d_SSession_clearLevels_23 rfl (lv_at hl 2 rfl) ?_
  refine va_get (D := (dC, dI)) (ci := 11) (v := .ref e5) (C := R_SSession) (T := F_SSession) (N := 18) hx hb hts (i_SSession _) hown hK hP 0 rfl rfl 5 (by decide) (hts _ (List.mem_cons_of_mem _ q_795)) (fun _ h9 => h9) rfl d_SSession_clearLevels_24 ?_
  refine lv_iload_n hx hb d_SSession_clearLevels_27 rfl (lv_at hl 1 rfl) ?_
  refine lv_bipush (v := 8) hx hb d_SSession_clearLevels_28 (by decide) ?_
  refine lv_imul hx hb d_SSession_clearLevels_30 ?_
  refine bx_top (y := 0) (by decide) ?_
  refine lv_iload_n hx hb d_SSession_clearLevels_31 rfl (lv_at hl 0 rfl) ?_
  refine lv_iadd hx hb d_SSession_clearLevels_32 ?_
  refine bx_top (y := 1) (by decide) ?_
  refine lv_iconst (v := 0) hx hb d_SSession_clearLevels_33 (by decide) ?_
  refine va_iast hx hb hK hP hD hS 2 1 (i := 1) (x := 0) rfl rfl (vp_in_nI (n := 1) (by decide) (by decide)) d_SSession_clearLevels_34 (fun H locs hP hD hS => ?_)
  obtain ⟨f6, hP, hD⟩ : ∃ f6 : Nat → Int32, va_P (dC, dI) classes [(h0, .inr (11, [.int z1, .ref e1, .ref e2, .ref e3, .ref e4, .ref e5, .ref e6, .ref e7, .ref e8, .int 0, .int 1, .int 1, .int 0, .int 0, .int 0, .int (-1), .int 0, .int 0])), (e4, .inl (e9, 8, .inl f2)), (e5, .inl (e10, 64, .inl f6))] H ∧ va_D A [(h0, .inr (11, [.int z1, .ref e1, .ref e2, .ref e3, .ref e4, .ref e5, .ref e6, .ref e7, .ref e8, .int 0, .int 1, .int 1, .int 0, .int 0, .int 0, .int (-1), .int 0, .int 0])), (e4, .inl (e9, 8, .inl f2)), (e5, .inl (e10, 64, .inl f6))] := ⟨_, hP, hD⟩
  refine lv_iinc (v := 2) (lv' := [(3, .int 2), (2, .int 0), (0, .ref h0), (1, .int 0)]) hx hb d_SSession_clearLevels_35 hl (k := 0) rfl (by decide) (by decide) rfl (fun ls hl => ?_)
  refine lv_goto (tgt := 17) hx hb d_SSession_clearLevels_38 (by decide) ?_
  refine lv_iload_n hx hb d_SSession_clearLevels_17 rfl (lv_at hl 0 rfl) ?_
  refine lv_bipush (v := 8) hx hb d_SSession_clearLevels_18 (by decide) ?_
  refine lv_icmp_ge (tgt := 41) hx hb d_SSession_clearLevels_20 (by decide) (fun c_7 => absurd c_7 (by decide)) (fun c_7 => ?_)
  refine lv_aload_n hx hb d_SSession_clearLevels_23 rfl (lv_at hl 2 rfl) ?_
  refine va_get (D := (dC, dI)) (ci := 11) (v := .ref e5) (C := R_SSession) (T := F_SSession) (N := 18) hx hb hts (i_SSession _) hown hK hP 0 rfl rfl 5 (by decide) (hts _ (List.mem_cons_of_mem _ q_795)) (fun _ h9 => h9) rfl d_SSession_clearLevels_24 ?_
  refine lv_iload_n hx hb d_SSession_clearLevels_27 rfl (lv_at hl 1 rfl) ?_
  refine lv_bipush (v := 8) hx hb d_SSession_clearLevels_28 (by decide) ?_
  refine lv_imul hx hb d_SSession_clearLevels_30 ?_
  refine bx_top (y := 0) (by decide) ?_
  refine lv_iload_n hx hb d_SSession_clearLevels_31 rfl (lv_at hl 0 rfl) ?_
  refine lv_iadd hx hb d_SSession_clearLevels_32 ?_
  refine bx_top (y := 2) (by decide) ?_
  refine lv_iconst (v := 0) hx hb d_SSession_clearLevels_33 (by decide) ?_
  refine va_iast hx hb hK hP hD hS 2 1 (i := 2) (x := 0) rfl rfl (vp_in_nI (n := 2) (by decide) (by decide)) d_SSession_clearLevels_34 (fun H locs hP hD hS => ?_)
  obtain ⟨f8, hP, hD⟩ : ∃ f8 : Nat → Int32, va_P (dC, dI) classes [(h0, .inr (11, [.int z1, .ref e1, .ref e2, .ref e3, .ref e4, .ref e5, .ref e6, .ref e7, .ref e8, .int 0, .int 1, .int 1, .int 0, .int 0, .int 0, .int (-1), .int 0, .int 0])), (e4, .inl (e9, 8, .inl f2)), (e5, .inl (e10, 64, .inl f8))] H ∧ va_D A [(h0, .inr (11, [.int z1, .ref e1, .ref e2, .ref e3, .ref e4, .ref e5, .ref e6, .ref e7, .ref e8, .int 0, .int 1, .int 1, .int 0, .int 0, .int 0, .int (-1), .int 0, .int 0])), (e4, .inl (e9, 8, .inl f2)), (e5, .inl (e10, 64, .inl f8))] := ⟨_, hP, hD⟩
  refine lv_iinc (v := 3) (lv' := [(3, .int 3), (2, .int 0), (0, .ref h0), (1, .int 0)]) hx hb d_SSession_clearLevels_35 hl (k := 0) rfl (by decide) (by decide) rfl (fun ls hl => ?_)
  refine lv_goto (tgt := 17) hx hb d_SSession_clearLevels_38 (by decide) ?_
  refine lv_iload_n hx hb d_SSession_clearLevels_17 rfl (lv_at hl 0 rfl) ?_
  refine lv_bipush (v := 8) hx hb d_SSession_clearLevels_18 (by decide) ?_
  refine lv_icmp_ge (tgt := 41) hx hb d_SSession_clearLevels_20 (by decide) (fun c_9 => absurd c_9 (by decide)) (fun c_9 => ?_)
  refine lv_aload_n hx hb d_SSession_clearLevels_23 rfl (lv_at hl 2 rfl) ?_
  refine va_get (D := (dC, dI)) (ci := 11) (v := .ref e5) (C := R_SSession) (T := F_SSession) (N := 18) hx hb hts (i_SSession _) hown hK hP 0 rfl rfl 5 (by decide) (hts _ (List.mem_cons_of_mem _ q_795)) (fun _ h9 => h9) rfl d_SSession_clearLevels_24 ?_
  refine lv_iload_n hx hb d_SSession_clearLevels_27 rfl (lv_at hl 1 rfl) ?_
  refine lv_bipush (v := 8) hx hb d_SSession_clearLevels_28 (by decide) ?_
  refine lv_imul hx hb d_SSession_clearLevels_30 ?_
  refine bx_top (y := 0) (by decide) ?_
  refine lv_iload_n hx hb d_SSession_clearLevels_31 rfl (lv_at hl 0 rfl) ?_
  refine lv_iadd hx hb d_SSession_clearLevels_32 ?_
  refine bx_top (y := 3) (by decide) ?_
  refine lv_iconst (v := 0) hx hb d_SSession_clearLevels_33 (by decide) ?_
  refine va_iast hx hb hK hP hD hS 2 1 (i := 3) (x := 0) rfl rfl (vp_in_nI (n := 3) (by decide) (by decide)) d_SSession_clearLevels_34 (fun H locs hP hD hS => ?_)
  obtain ⟨f10, hP, hD⟩ : ∃ f10 : Nat → Int32, va_P (dC, dI) classes [(h0, .inr (11, [.int z1, .ref e1, .ref e2, .ref e3, .ref e4, .ref e5, .ref e6, .ref e7, .ref e8, .int 0, .int 1, .int 1, .int 0, .int 0, .int 0, .int (-1), .int 0, .int 0])), (e4, .inl (e9, 8, .inl f2)), (e5, .inl (e10, 64, .inl f10))] H ∧ va_D A [(h0, .inr (11, [.int z1, .ref e1, .ref e2, .ref e3, .ref e4, .ref e5, .ref e6, .ref e7, .ref e8, .int 0, .int 1, .int 1, .int 0, .int 0, .int 0, .int (-1), .int 0, .int 0])), (e4, .inl (e9, 8, .inl f2)), (e5, .inl (e10, 64, .inl f10))] := ⟨_, hP, hD⟩
  refine lv_iinc (v := 4) (lv' := [(3, .int 4), (2, .int 0), (0, .ref h0), (1, .int 0)]) hx hb d_SSession_clearLevels_35 hl (k := 0) rfl (by decide) (by decide) rfl (fun ls hl => ?_)
  refine lv_goto (tgt := 17) hx hb d_SSession_clearLevels_38 (by decide) ?_
  refine lv_iload_n hx hb d_SSession_clearLevels_17 rfl (lv_at hl 0 rfl) ?_
  refine lv_bipush (v := 8) hx hb d_SSession_clearLevels_18 (by decide) ?_
  refine lv_icmp_ge (tgt := 41) hx hb d_SSession_clearLevels_20 (by decide) (fun c_11 => absurd c_11 (by decide)) (fun c_11 => ?_)
  refine lv_aload_n hx hb d_SSession_clearLevels_23 rfl (lv_at hl 2 rfl) ?_
  refine va_get (D := (dC, dI)) (ci := 11) (v := .ref e5) (C := R_SSession) (T := F_SSession) (N := 18) hx hb hts (i_SSession _) hown hK hP 0 rfl rfl 5 (by decide) (hts _ (List.mem_cons_of_mem _ q_795)) (fun _ h9 => h9) rfl d_SSession_clearLevels_24 ?_
  refine lv_iload_n hx hb d_SSession_clearLevels_27 rfl (lv_at hl 1 rfl) ?_
  refine lv_bipush (v := 8) hx hb d_SSession_clearLevels_28 (by decide) ?_
  refine lv_imul hx hb d_SSession_clearLevels_30 ?_
  refine bx_top (y := 0) (by decide) ?_
  refine lv_iload_n hx hb d_SSession_clearLevels_31 rfl (lv_at hl 0 rfl) ?_
  refine lv_iadd hx hb d_SSession_clearLevels_32 ?_
  refine bx_top (y := 4) (by decide) ?_
  refine lv_iconst (v := 0) hx hb d_SSession_clearLevels_33 (by decide) ?_
  refine va_iast hx hb hK hP hD hS 2 1 (i := 4) (x := 0) rfl rfl (vp_in_nI (n := 4) (by decide) (by decide)) d_SSession_clearLevels_34 (fun H locs hP hD hS => ?_)
  obtain ⟨f12, hP, hD⟩ : ∃ f12 : Nat → Int32, va_P (dC, dI) classes [(h0, .inr (11, [.int z1, .ref e1, .ref e2, .ref e3, .ref e4, .ref e5, .ref e6, .ref e7, .ref e8, .int 0, .int 1, .int 1, .int 0, .int 0, .int 0, .int (-1), .int 0, .int 0])), (e4, .inl (e9, 8, .inl f2)), (e5, .inl (e10, 64, .inl f12))] H ∧ va_D A [(h0, .inr (11, [.int z1, .ref e1, .ref e2, .ref e3, .ref e4, .ref e5, .ref e6, .ref e7, .ref e8, .int 0, .int 1, .int 1, .int 0, .int 0, .int 0, .int (-1), .int 0, .int 0])), (e4, .inl (e9, 8, .inl f2)), (e5, .inl (e10, 64, .inl f12))] := ⟨_, hP, hD⟩
  refine lv_iinc (v := 5) (lv' := [(3, .int 5), (2, .int 0), (0, .ref h0), (1, .int 0)]) hx hb d_SSession_clearLevels_35 hl (k := 0) rfl (by decide) (by decide) rfl (fun ls hl => ?_)
  refine lv_goto (tgt := 17) hx hb d_SSession_clearLevels_38 (by decide) ?_
  refine lv_iload_n hx hb d_SSession_clearLevels_17 rfl (lv_at hl 0 rfl) ?_
  refine lv_bipush (v := 8) hx hb d_SSession_clearLevels_18 (by decide) ?_
  refine lv_icmp_ge (tgt := 41) hx hb d_SSession_clearLevels_20 (by decide) (fun c_13 => absurd c_13 (by decide)) (fun c_13 => ?_)
  refine lv_aload_n hx hb d_SSession_clearLevels_23 rfl (lv_at hl 2 rfl) ?_
  refine va_get (D := (dC, dI)) (ci := 11) (v := .ref e5) (C := R_SSession) (T := F_SSession) (N := 18) hx hb hts (i_SSession _) hown hK hP 0 rfl rfl 5 (by decide) (hts _ (List.mem_cons_of_mem _ q_795)) (fun _ h9 => h9) rfl d_SSession_clearLevels_24 ?_
  refine lv_iload_n hx hb d_SSession_clearLevels_27 rfl (lv_at hl 1 rfl) ?_
  refine lv_bipush (v := 8) hx hb d_SSession_clearLevels_28 (by decide) ?_
  refine lv_imul hx hb d_SSession_clearLevels_30 ?_
  refine bx_top (y := 0) (by decide) ?_
  refine lv_iload_n hx hb d_SSession_clearLevels_31 rfl (lv_at hl 0 rfl) ?_
  refine lv_iadd hx hb d_SSession_clearLevels_32 ?_
  refine bx_top (y := 5) (by decide) ?_
  refine lv_iconst (v := 0) hx hb d_SSession_clearLevels_33 (by decide) ?_
  refine va_iast hx hb hK hP hD hS 2 1 (i := 5) (x := 0) rfl rfl (vp_in_nI (n := 5) (by decide) (by decide)) d_SSession_clearLevels_34 (fun H locs hP hD hS => ?_)
  obtain ⟨f14, hP, hD⟩ : ∃ f14 : Nat → Int32, va_P (dC, dI) classes [(h0, .inr (11, [.int z1, .ref e1, .ref e2, .ref e3, .ref e4, .ref e5, .ref e6, .ref e7, .ref e8, .int 0, .int 1, .int 1, .int 0, .int 0, .int 0, .int (-1), .int 0, .int 0])), (e4, .inl (e9, 8, .inl f2)), (e5, .inl (e10, 64, .inl f14))] H ∧ va_D A [(h0, .inr (11, [.int z1, .ref e1, .ref e2, .ref e3, .ref e4, .ref e5, .ref e6, .ref e7, .ref e8, .int 0, .int 1, .int 1, .int 0, .int 0, .int 0, .int (-1), .int 0, .int 0])), (e4, .inl (e9, 8, .inl f2)), (e5, .inl (e10, 64, .inl f14))] := ⟨_, hP, hD⟩
  refine lv_iinc (v := 6) (lv' := [(3, .int 6), (2, .int 0), (0, .ref h0), (1, .int 0)]) hx hb d_SSession_clearLevels_35 hl (k := 0) rfl (by decide) (by decide) rfl (fun ls hl => ?_)
  refine lv_goto (tgt := 17) hx hb d_SSession_clearLevels_38 (by decide) ?_
  refine lv_iload_n hx hb d_SSession_clearLevels_17 rfl (lv_at hl 0 rfl) ?_
  refine lv_bipush (v := 8) hx hb d_SSession_clearLevels_18 (by decide) ?_
  refine lv_icmp_ge (tgt := 41) hx hb d_SSession_clearLevels_20 (by decide) (fun c_15 => absurd c_15 (by decide)) (fun c_15 => ?_)
  refine lv_aload_n hx hb d_SSession_clearLevels_23 rfl (lv_at hl 2 rfl) ?_
  refine va_get (D := (dC, dI)) (ci := 11) (v := .ref e5) (C := R_SSession) (T := F_SSession) (N := 18) hx hb hts (i_SSession _) hown hK hP 0 rfl rfl 5 (by decide) (hts _ (List.mem_cons_of_mem _ q_795)) (fun _ h9 => h9) rfl d_SSession_clearLevels_24 ?_
  refine lv_iload_n hx hb d_SSession_clearLevels_27 rfl (lv_at hl 1 rfl) ?_
  refine lv_bipush (v := 8) hx hb d_SSession_clearLevels_28 (by decide) ?_
  refine lv_imul hx hb d_SSession_clearLevels_30 ?_
  refine bx_top (y := 0) (by decide) ?_
  refine lv_iload_n hx hb d_SSession_clearLevels_31 rfl (lv_at hl 0 rfl) ?_
  refine lv_iadd hx hb d_SSession_clearLevels_32 ?_
  refine bx_top (y := 6) (by decide) ?_
  refine lv_iconst (v := 0) hx hb d_SSession_clearLevels_33 (by decide) ?_
  refine va_iast hx hb hK hP hD hS 2 1 (i := 6) (x := 0) rfl rfl (vp_in_nI (n := 6) (by decide) (by decide)) d_SSession_clearLevels_34 (fun H locs hP hD hS => ?_)
  obtain ⟨f16, hP, hD⟩ : ∃ f16 : Nat → Int32, va_P (dC, dI) classes [(h0, .inr (11, [.int z1, .ref e1, .ref e2, .ref e3, .ref e4, .ref e5, .ref e6, .ref e7, .ref e8, .int 0, .int 1, .int 1, .int 0, .int 0, .int 0, .int (-1), .int 0, .int 0])), (e4, .inl (e9, 8, .inl f2)), (e5, .inl (e10, 64, .inl f16))] H ∧ va_D A [(h0, .inr (11, [.int z1, .ref e1, .ref e2, .ref e3, .ref e4, .ref e5, .ref e6, .ref e7, .ref e8, .int 0, .int 1, .int 1, .int 0, .int 0, .int 0, .int (-1), .int 0, .int 0])), (e4, .inl (e9, 8, .inl f2)), (e5, .inl (e10, 64, .inl f16))] := ⟨_, hP, hD⟩
  refine lv_iinc (v := 7) (lv' := [(3, .int 7), (2, .int 0), (0, .ref h0), (1, .int 0)]) hx hb d_SSession_clearLevels_35 hl (k := 0) rfl (by decide) (by decide) rfl (fun ls hl => ?_)
  refine lv_goto (tgt := 17) hx hb d_SSession_clearLevels_38 (by decide) ?_
  refine lv_iload_n hx hb d_SSession_clearLevels_17 rfl (lv_at hl 0 rfl) ?_
  refine lv_bipush (v := 8) hx hb d_SSession_clearLevels_18 (by decide) ?_
  refine lv_icmp_ge (tgt := 41) hx hb d_SSession_clearLevels_20 (by decide) (fun c_17 => absurd c_17 (by decide)) (fun c_17 => ?_)
  refine lv_aload_n hx hb d_SSession_clearLevels_23 rfl (lv_at hl 2 rfl) ?_
  refine va_get (D := (dC, dI)) (ci := 11) (v := .ref e5) (C := R_SSession) (T := F_SSession) (N := 18) hx hb hts (i_SSession _) hown hK hP 0 rfl rfl 5 (by decide) (hts _ (List.mem_cons_of_mem _ q_795)) (fun _ h9 => h9) rfl d_SSession_clearLevels_24 ?_
  refine lv_iload_n hx hb d_SSession_clearLevels_27 rfl (lv_at hl 1 rfl) ?_
  refine lv_bipush (v := 8) hx hb d_SSession_clearLevels_28 (by decide) ?_
  refine lv_imul hx hb d_SSession_clearLevels_30 ?_
  refine bx_top (y := 0) (by decide) ?_
  refine lv_iload_n hx hb d_SSession_clearLevels_31 rfl (lv_at hl 0 rfl) ?_
  refine lv_iadd hx hb d_SSession_clearLevels_32 ?_
  refine bx_top (y := 7) (by decide) ?_
  refine lv_iconst (v := 0) hx hb d_SSession_clearLevels_33 (by decide) ?_
  refine va_iast hx hb hK hP hD hS 2 1 (i := 7) (x := 0) rfl rfl (vp_in_nI (n := 7) (by decide) (by decide)) d_SSession_clearLevels_34 (fun H locs hP hD hS => ?_)
  obtain ⟨f18, hP, hD⟩ : ∃ f18 : Nat → Int32, va_P (dC, dI) classes [(h0, .inr (11, [.int z1, .ref e1, .ref e2, .ref e3, .ref e4, .ref e5, .ref e6, .ref e7, .ref e8, .int 0, .int 1, .int 1, .int 0, .int 0, .int 0, .int (-1), .int 0, .int 0])), (e4, .inl (e9, 8, .inl f2)), (e5, .inl (e10, 64, .inl f18))] H ∧ va_D A [(h0, .inr (11, [.int z1, .ref e1, .ref e2, .ref e3, .ref e4, .ref e5, .ref e6, .ref e7, .ref e8, .int 0, .int 1, .int 1, .int 0, .int 0, .int 0, .int (-1), .int 0, .int 0])), (e4, .inl (e9, 8, .inl f2)), (e5, .inl (e10, 64, .inl f18))] := ⟨_, hP, hD⟩
  refine lv_iinc (v := 8) (lv' := [(3, .int 8), (2, .int 0), (0, .ref h0), (1, .int 0)]) hx hb d_SSession_clearLevels_35 hl (k := 0) rfl (by decide) (by decide) rfl (fun ls hl => ?_)
  refine lv_goto (tgt := 17) hx hb d_SSession_clearLevels_38 (by decide) ?_
  refine lv_iload_n hx hb d_SSession_clearLevels_17 rfl (lv_at hl 0 rfl) ?_
  refine lv_bipush (v := 8) hx hb d_SSession_clearLevels_18 (by decide) ?_
  refine lv_icmp_ge (tgt := 41) hx hb d_SSession_clearLevels_20 (by decide) (fun c_19 => ?_) (fun c_19 => absurd (by decide) c_19)
  refine lv_iinc (v := 1) (lv' := [(2, .int 1), (3, .int 8), (0, .ref h0), (1, .int 0)]) hx hb d_SSession_clearLevels_41 hl (k := 1) rfl (by decide) (by decide) rfl (fun ls hl => ?_)
  refine lv_goto (tgt := 2) hx hb d_SSession_clearLevels_44 (by decide) ?_
  refine lv_iload_n hx hb d_SSession_clearLevels_2 rfl (lv_at hl 0 rfl) ?_
  refine lv_bipush (v := 8) hx hb d_SSession_clearLevels_3 (by decide) ?_
  refine lv_icmp_ge (tgt := 47) hx hb d_SSession_clearLevels_5 (by decide) (fun c_20 => absurd c_20 (by decide)) (fun c_20 => ?_)
  refine lv_aload_n hx hb d_SSession_clearLevels_8 rfl (lv_at hl 2 rfl) ?_
  refine va_get (D := (dC, dI)) (ci := 11) (v := .ref e4) (C := R_SSession) (T := F_SSession) (N := 18) hx hb hts (i_SSession _) hown hK hP 0 rfl rfl 4 (by decide) (hts _ (List.mem_cons_of_mem _ q_792)) (fun _ h9 => h9) rfl d_SSession_clearLevels_9 ?_
  refine lv_iload_n hx hb d_SSession_clearLevels_12 rfl (lv_at hl 0 rfl) ?_
  refine lv_iconst (v := 0) hx hb d_SSession_clearLevels_13 (by decide) ?_
  refine va_iast hx hb hK hP hD hS 1 0 (i := 1) (x := 0) rfl rfl (vp_in_nI (n := 1) (by decide) (by decide)) d_SSession_clearLevels_14 (fun H locs hP hD hS => ?_)
  obtain ⟨f21, hP, hD⟩ : ∃ f21 : Nat → Int32, va_P (dC, dI) classes [(h0, .inr (11, [.int z1, .ref e1, .ref e2, .ref e3, .ref e4, .ref e5, .ref e6, .ref e7, .ref e8, .int 0, .int 1, .int 1, .int 0, .int 0, .int 0, .int (-1), .int 0, .int 0])), (e4, .inl (e9, 8, .inl f21)), (e5, .inl (e10, 64, .inl f18))] H ∧ va_D A [(h0, .inr (11, [.int z1, .ref e1, .ref e2, .ref e3, .ref e4, .ref e5, .ref e6, .ref e7, .ref e8, .int 0, .int 1, .int 1, .int 0, .int 0, .int 0, .int (-1), .int 0, .int 0])), (e4, .inl (e9, 8, .inl f21)), (e5, .inl (e10, 64, .inl f18))] := ⟨_, hP, hD⟩
  refine lv_iconst (v := 0) hx hb d_SSession_clearLevels_15 (by decide) ?_
  refine lv_istore_n (lv' := [(3, .int 0), (2, .int 1), (0, .ref h0), (1, .int 0)]) hx hb d_SSession_clearLevels_16 rfl hl (by decide) rfl (fun ls hl => ?_)
  refine lv_iload_n hx hb d_SSession_clearLevels_17 rfl (lv_at hl 0 rfl) ?_
  refine lv_bipush (v := 8) hx hb d_SSession_clearLevels_18 (by decide) ?_
  refine lv_icmp_ge (tgt := 41) hx hb d_SSession_clearLevels_20 (by decide) (fun c_22 => absurd c_22 (by decide)) (fun c_22 => ?_)
  refine lv_aload_n hx hb d_SSession_clearLevels_23 rfl (lv_at hl 2 rfl) ?_
  refine va_get (D := (dC, dI)) (ci := 11) (v := .ref e5) (C := R_SSession) (T := F_SSession) (N := 18) hx hb hts (i_SSession _) hown hK hP 0 rfl rfl 5 (by decide) (hts _ (List.mem_cons_of_mem _ q_795)) (fun _ h9 => h9) rfl d_SSession_clearLevels_24 ?_
  refine lv_iload_n hx hb d_SSession_clearLevels_27 rfl (lv_at hl 1 rfl) ?_
  refine lv_bipush (v := 8) hx hb d_SSession_clearLevels_28 (by decide) ?_
  refine lv_imul hx hb d_SSession_clearLevels_30 ?_
  refine bx_top (y := 8) (by decide) ?_
  refine lv_iload_n hx hb d_SSession_clearLevels_31 rfl (lv_at hl 0 rfl) ?_
  refine lv_iadd hx hb d_SSession_clearLevels_32 ?_
  refine bx_top (y := 8) (by decide) ?_
  refine lv_iconst (v := 0) hx hb d_SSession_clearLevels_33 (by decide) ?_
  refine va_iast hx hb hK hP hD hS 2 1 (i := 8) (x := 0) rfl rfl (vp_in_nI (n := 8) (by decide) (by decide)) d_SSession_clearLevels_34 (fun H locs hP hD hS => ?_)
  obtain ⟨f23, hP, hD⟩ : ∃ f23 : Nat → Int32, va_P (dC, dI) classes [(h0, .inr (11, [.int z1, .ref e1, .ref e2, .ref e3, .ref e4, .ref e5, .ref e6, .ref e7, .ref e8, .int 0, .int 1, .int 1, .int 0, .int 0, .int 0, .int (-1), .int 0, .int 0])), (e4, .inl (e9, 8, .inl f21)), (e5, .inl (e10, 64, .inl f23))] H ∧ va_D A [(h0, .inr (11, [.int z1, .ref e1, .ref e2, .ref e3, .ref e4, .ref e5, .ref e6, .ref e7, .ref e8, .int 0, .int 1, .int 1, .int 0, .int 0, .int 0, .int (-1), .int 0, .int 0])), (e4, .inl (e9, 8, .inl f21)), (e5, .inl (e10, 64, .inl f23))] := ⟨_, hP, hD⟩
  refine lv_iinc (v := 1) (lv' := [(3, .int 1), (2, .int 1), (0, .ref h0), (1, .int 0)]) hx hb d_SSession_clearLevels_35 hl (k := 0) rfl (by decide) (by decide) rfl (fun ls hl => ?_)
  refine lv_goto (tgt := 17) hx hb d_SSession_clearLevels_38 (by decide) ?_
  refine lv_iload_n hx hb d_SSession_clearLevels_17 rfl (lv_at hl 0 rfl) ?_
  refine lv_bipush (v := 8) hx hb d_SSession_clearLevels_18 (by decide) ?_
  refine lv_icmp_ge (tgt := 41) hx hb d_SSession_clearLevels_20 (by decide) (fun c_24 => absurd c_24 (by decide)) (fun c_24 => ?_)
  refine lv_aload_n hx hb d_SSession_clearLevels_23 rfl (lv_at hl 2 rfl) ?_
  refine va_get (D := (dC, dI)) (ci := 11) (v := .ref e5) (C := R_SSession) (T := F_SSession) (N := 18) hx hb hts (i_SSession _) hown hK hP 0 rfl rfl 5 (by decide) (hts _ (List.mem_cons_of_mem _ q_795)) (fun _ h9 => h9) rfl d_SSession_clearLevels_24 ?_
  refine lv_iload_n hx hb d_SSession_clearLevels_27 rfl (lv_at hl 1 rfl) ?_
  refine lv_bipush (v := 8) hx hb d_SSession_clearLevels_28 (by decide) ?_
  refine lv_imul hx hb d_SSession_clearLevels_30 ?_
  refine bx_top (y := 8) (by decide) ?_
  refine lv_iload_n hx hb d_SSession_clearLevels_31 rfl (lv_at hl 0 rfl) ?_
  refine lv_iadd hx hb d_SSession_clearLevels_32 ?_
  refine bx_top (y := 9) (by decide) ?_
  refine lv_iconst (v := 0) hx hb d_SSession_clearLevels_33 (by decide) ?_
  refine va_iast hx hb hK hP hD hS 2 1 (i := 9) (x := 0) rfl rfl (vp_in_nI (n := 9) (by decide) (by decide)) d_SSession_clearLevels_34 (fun H locs hP hD hS => ?_)
  obtain ⟨f25, hP, hD⟩ : ∃ f25 : Nat → Int32, va_P (dC, dI) classes [(h0, .inr (11, [.int z1, .ref e1, .ref e2, .ref e3, .ref e4, .ref e5, .ref e6, .ref e7, .ref e8, .int 0, .int 1, .int 1, .int 0, .int 0, .int 0, .int (-1), .int 0, .int 0])), (e4, .inl (e9, 8, .inl f21)), (e5, .inl (e10, 64, .inl f25))] H ∧ va_D A [(h0, .inr (11, [.int z1, .ref e1, .ref e2, .ref e3, .ref e4, .ref e5, .ref e6, .ref e7, .ref e8, .int 0, .int 1, .int 1, .int 0, .int 0, .int 0, .int (-1), .int 0, .int 0])), (e4, .inl (e9, 8, .inl f21)), (e5, .inl (e10, 64, .inl f25))] := ⟨_, hP, hD⟩
  refine lv_iinc (v := 2) (lv' := [(3, .int 2), (2, .int 1), (0, .ref h0), (1, .int 0)]) hx hb d_SSession_clearLevels_35 hl (k := 0) rfl (by decide) (by decide) rfl (fun ls hl => ?_)
  refine lv_goto (tgt := 17) hx hb d_SSession_clearLevels_38 (by decide) ?_
  refine lv_iload_n hx hb d_SSession_clearLevels_17 rfl (lv_at hl 0 rfl) ?_
  refine lv_bipush (v := 8) hx hb d_SSession_clearLevels_18 (by decide) ?_
  refine lv_icmp_ge (tgt := 41) hx hb d_SSession_clearLevels_20 (by decide) (fun c_26 => absurd c_26 (by decide)) (fun c_26 => ?_)
  refine lv_aload_n hx hb d_SSession_clearLevels_23 rfl (lv_at hl 2 rfl) ?_
  refine va_get (D := (dC, dI)) (ci := 11) (v := .ref e5) (C := R_SSession) (T := F_SSession) (N := 18) hx hb hts (i_SSession _) hown hK hP 0 rfl rfl 5 (by decide) (hts _ (List.mem_cons_of_mem _ q_795)) (fun _ h9 => h9) rfl d_SSession_clearLevels_24 ?_
  refine lv_iload_n hx hb d_SSession_clearLevels_27 rfl (lv_at hl 1 rfl) ?_
  refine lv_bipush (v := 8) hx hb d_SSession_clearLevels_28 (by decide) ?_
  refine lv_imul hx hb d_SSession_clearLevels_30 ?_
  refine bx_top (y := 8) (by decide) ?_
  refine lv_iload_n hx hb d_SSession_clearLevels_31 rfl (lv_at hl 0 rfl) ?_
  refine lv_iadd hx hb d_SSession_clearLevels_32 ?_
  refine bx_top (y := 10) (by decide) ?_
  refine lv_iconst (v := 0) hx hb d_SSession_clearLevels_33 (by decide) ?_
  refine va_iast hx hb hK hP hD hS 2 1 (i := 10) (x := 0) rfl rfl (vp_in_nI (n := 10) (by decide) (by decide)) d_SSession_clearLevels_34 (fun H locs hP hD hS => ?_)
  obtain ⟨f27, hP, hD⟩ : ∃ f27 : Nat → Int32, va_P (dC, dI) classes [(h0, .inr (11, [.int z1, .ref e1, .ref e2, .ref e3, .ref e4, .ref e5, .ref e6, .ref e7, .ref e8, .int 0, .int 1, .int 1, .int 0, .int 0, .int 0, .int (-1), .int 0, .int 0])), (e4, .inl (e9, 8, .inl f21)), (e5, .inl (e10, 64, .inl f27))] H ∧ va_D A [(h0, .inr (11, [.int z1, .ref e1, .ref e2, .ref e3, .ref e4, .ref e5, .ref e6, .ref e7, .ref e8, .int 0, .int 1, .int 1, .int 0, .int 0, .int 0, .int (-1), .int 0, .int 0])), (e4, .inl (e9, 8, .inl f21)), (e5, .inl (e10, 64, .inl f27))] := ⟨_, hP, hD⟩
  refine lv_iinc (v := 3) (lv' := [(3, .int 3), (2, .int 1), (0, .ref h0), (1, .int 0)]) hx hb d_SSession_clearLevels_35 hl (k := 0) rfl (by decide) (by decide) rfl (fun ls hl => ?_)
  refine lv_goto (tgt := 17) hx hb d_SSession_clearLevels_38 (by decide) ?_
  refine lv_iload_n hx hb d_SSession_clearLevels_17 rfl (lv_at hl 0 rfl) ?_
  refine lv_bipush (v := 8) hx hb d_SSession_clearLevels_18 (by decide) ?_
  refine lv_icmp_ge (tgt := 41) hx hb d_SSession_clearLevels_20 (by decide) (fun c_28 => absurd c_28 (by decide)) (fun c_28 => ?_)
  refine lv_aload_n hx hb d_SSession_clearLevels_23 rfl (lv_at hl 2 rfl) ?_
  refine va_get (D := (dC, dI)) (ci := 11) (v := .ref e5) (C := R_SSession) (T := F_SSession) (N := 18) hx hb hts (i_SSession _) hown hK hP 0 rfl rfl 5 (by decide) (hts _ (List.mem_cons_of_mem _ q_795)) (fun _ h9 => h9) rfl d_SSession_clearLevels_24 ?_
  refine lv_iload_n hx hb d_SSession_clearLevels_27 rfl (lv_at hl 1 rfl) ?_
  refine lv_bipush (v := 8) hx hb d_SSession_clearLevels_28 (by decide) ?_
  refine lv_imul hx hb d_SSession_clearLevels_30 ?_
  refine bx_top (y := 8) (by decide) ?_
  refine lv_iload_n hx hb d_SSession_clearLevels_31 rfl (lv_at hl 0 rfl) ?_
  refine lv_iadd hx hb d_SSession_clearLevels_32 ?_
  refine bx_top (y := 11) (by decide) ?_
  refine lv_iconst (v := 0) hx hb d_SSession_clearLevels_33 (by decide) ?_
  refine va_iast hx hb hK hP hD hS 2 1 (i := 11) (x := 0) rfl rfl (vp_in_nI (n := 11) (by decide) (by decide)) d_SSession_clearLevels_34 (fun H locs hP hD hS => ?_)
  obtain ⟨f29, hP, hD⟩ : ∃ f29 : Nat → Int32, va_P (dC, dI) classes [(h0, .inr (11, [.int z1, .ref e1, .ref e2, .ref e3, .ref e4, .ref e5, .ref e6, .ref e7, .ref e8, .int 0, .int 1, .int 1, .int 0, .int 0, .int 0, .int (-1), .int 0, .int 0])), (e4, .inl (e9, 8, .inl f21)), (e5, .inl (e10, 64, .inl f29))] H ∧ va_D A [(h0, .inr (11, [.int z1, .ref e1, .ref e2, .ref e3, .ref e4, .ref e5, .ref e6, .ref e7, .ref e8, .int 0, .int 1, .int 1, .int 0, .int 0, .int 0, .int (-1), .int 0, .int 0])), (e4, .inl (e9, 8, .inl f21)), (e5, .inl (e10, 64, .inl f29))] := ⟨_, hP, hD⟩
  refine lv_iinc (v := 4) (lv' := [(3, .int 4), (2, .int 1), (0, .ref h0), (1, .int 0)]) hx hb d_SSession_clearLevels_35 hl (k := 0) rfl (by decide) (by decide) rfl (fun ls hl => ?_)
  refine lv_goto (tgt := 17) hx hb d_SSession_clearLevels_38 (by decide) ?_
  refine lv_iload_n hx hb d_SSession_clearLevels_17 rfl (lv_at hl 0 rfl) ?_
  refine lv_bipush (v := 8) hx hb d_SSession_clearLevels_18 (by decide) ?_
  refine lv_icmp_ge (tgt := 41) hx hb d_SSession_clearLevels_20 (by decide) (fun c_30 => absurd c_30 (by decide)) (fun c_30 => ?_)
  refine lv_aload_n hx hb d_SSession_clearLevels_23 rfl (lv_at hl 2 rfl) ?_
  refine va_get (D := (dC, dI)) (ci := 11) (v := .ref e5) (C := R_SSession) (T := F_SSession) (N := 18) hx hb hts (i_SSession _) hown hK hP 0 rfl rfl 5 (by decide) (hts _ (List.mem_cons_of_mem _ q_795)) (fun _ h9 => h9) rfl d_SSession_clearLevels_24 ?_
  refine lv_iload_n hx hb d_SSession_clearLevels_27 rfl (lv_at hl 1 rfl) ?_
  refine lv_bipush (v := 8) hx hb d_SSession_clearLevels_28 (by decide) ?_
  refine lv_imul hx hb d_SSession_clearLevels_30 ?_
  refine bx_top (y := 8) (by decide) ?_
  refine lv_iload_n hx hb d_SSession_clearLevels_31 rfl (lv_at hl 0 rfl) ?_
  refine lv_iadd hx hb d_SSession_clearLevels_32 ?_
  refine bx_top (y := 12) (by decide) ?_
  refine lv_iconst (v := 0) hx hb d_SSession_clearLevels_33 (by decide) ?_
  refine va_iast hx hb hK hP hD hS 2 1 (i := 12) (x := 0) rfl rfl (vp_in_nI (n := 12) (by decide) (by decide)) d_SSession_clearLevels_34 (fun H locs hP hD hS => ?_)
  obtain ⟨f31, hP, hD⟩ : ∃ f31 : Nat → Int32, va_P (dC, dI) classes [(h0, .inr (11, [.int z1, .ref e1, .ref e2, .ref e3, .ref e4, .ref e5, .ref e6, .ref e7, .ref e8, .int 0, .int 1, .int 1, .int 0, .int 0, .int 0, .int (-1), .int 0, .int 0])), (e4, .inl (e9, 8, .inl f21)), (e5, .inl (e10, 64, .inl f31))] H ∧ va_D A [(h0, .inr (11, [.int z1, .ref e1, .ref e2, .ref e3, .ref e4, .ref e5, .ref e6, .ref e7, .ref e8, .int 0, .int 1, .int 1, .int 0, .int 0, .int 0, .int (-1), .int 0, .int 0])), (e4, .inl (e9, 8, .inl f21)), (e5, .inl (e10, 64, .inl f31))] := ⟨_, hP, hD⟩
  refine lv_iinc (v := 5) (lv' := [(3, .int 5), (2, .int 1), (0, .ref h0), (1, .int 0)]) hx hb d_SSession_clearLevels_35 hl (k := 0) rfl (by decide) (by decide) rfl (fun ls hl => ?_)
  refine lv_goto (tgt := 17) hx hb d_SSession_clearLevels_38 (by decide) ?_
  refine lv_iload_n hx hb d_SSession_clearLevels_17 rfl (lv_at hl 0 rfl) ?_
  refine lv_bipush (v := 8) hx hb d_SSession_clearLevels_18 (by decide) ?_
  refine lv_icmp_ge (tgt := 41) hx hb d_SSession_clearLevels_20 (by decide) (fun c_32 => absurd c_32 (by decide)) (fun c_32 => ?_)
  refine lv_aload_n hx hb d_SSession_clearLevels_23 rfl (lv_at hl 2 rfl) ?_
  refine va_get (D := (dC, dI)) (ci := 11) (v := .ref e5) (C := R_SSession) (T := F_SSession) (N := 18) hx hb hts (i_SSession _) hown hK hP 0 rfl rfl 5 (by decide) (hts _ (List.mem_cons_of_mem _ q_795)) (fun _ h9 => h9) rfl d_SSession_clearLevels_24 ?_
  refine lv_iload_n hx hb d_SSession_clearLevels_27 rfl (lv_at hl 1 rfl) ?_
  refine lv_bipush (v := 8) hx hb d_SSession_clearLevels_28 (by decide) ?_
  refine lv_imul hx hb d_SSession_clearLevels_30 ?_
  refine bx_top (y := 8) (by decide) ?_
  refine lv_iload_n hx hb d_SSession_clearLevels_31 rfl (lv_at hl 0 rfl) ?_
  refine lv_iadd hx hb d_SSession_clearLevels_32 ?_
  refine bx_top (y := 13) (by decide) ?_
  refine lv_iconst (v := 0) hx hb d_SSession_clearLevels_33 (by decide) ?_
  refine va_iast hx hb hK hP hD hS 2 1 (i := 13) (x := 0) rfl rfl (vp_in_nI (n := 13) (by decide) (by decide)) d_SSession_clearLevels_34 (fun H locs hP hD hS => ?_)
  obtain ⟨f33, hP, hD⟩ : ∃ f33 : Nat → Int32, va_P (dC, dI) classes [(h0, .inr (11, [.int z1, .ref e1, .ref e2, .ref e3, .ref e4, .ref e5, .ref e6, .ref e7, .ref e8, .int 0, .int 1, .int 1, .int 0, .int 0, .int 0, .int (-1), .int 0, .int 0])), (e4, .inl (e9, 8, .inl f21)), (e5, .inl (e10, 64, .inl f33))] H ∧ va_D A [(h0, .inr (11, [.int z1, .ref e1, .ref e2, .ref e3, .ref e4, .ref e5, .ref e6, .ref e7, .ref e8, .int 0, .int 1, .int 1, .int 0, .int 0, .int 0, .int (-1), .int 0, .int 0])), (e4, .inl (e9, 8, .inl f21)), (e5, .inl (e10, 64, .inl f33))] := ⟨_, hP, hD⟩
  refine lv_iinc (v := 6) (lv' := [(3, .int 6), (2, .int 1), (0, .ref h0), (1, .int 0)]) hx hb d_SSession_clearLevels_35 hl (k := 0) rfl (by decide) (by decide) rfl (fun ls hl => ?_)
  refine lv_goto (tgt := 17) hx hb d_SSession_clearLevels_38 (by decide) ?_
  refine lv_iload_n hx hb d_SSession_clearLevels_17 rfl (lv_at hl 0 rfl) ?_
  refine lv_bipush (v := 8) hx hb d_SSession_clearLevels_18 (by decide) ?_
  refine lv_icmp_ge (tgt := 41) hx hb d_SSession_clearLevels_20 (by decide) (fun c_34 => absurd c_34 (by decide)) (fun c_34 => ?_)
  refine lv_aload_n hx hb d_SSession_clearLevels_23 rfl (lv_at hl 2 rfl) ?_
  refine va_get (D := (dC, dI)) (ci := 11) (v := .ref e5) (C := R_SSession) (T := F_SSession) (N := 18) hx hb hts (i_SSession _) hown hK hP 0 rfl rfl 5 (by decide) (hts _ (List.mem_cons_of_mem _ q_795)) (fun _ h9 => h9) rfl d_SSession_clearLevels_24 ?_
  refine lv_iload_n hx hb d_SSession_clearLevels_27 rfl (lv_at hl 1 rfl) ?_
  refine lv_bipush (v := 8) hx hb d_SSession_clearLevels_28 (by decide) ?_
  refine lv_imul hx hb d_SSession_clearLevels_30 ?_
  refine bx_top (y := 8) (by decide) ?_
  refine lv_iload_n hx hb d_SSession_clearLevels_31 rfl (lv_at hl 0 rfl) ?_
  refine lv_iadd hx hb d_SSession_clearLevels_32 ?_
  refine bx_top (y := 14) (by decide) ?_
  refine lv_iconst (v := 0) hx hb d_SSession_clearLevels_33 (by decide) ?_
  refine va_iast hx hb hK hP hD hS 2 1 (i := 14) (x := 0) rfl rfl (vp_in_nI (n := 14) (by decide) (by decide)) d_SSession_clearLevels_34 (fun H locs hP hD hS => ?_)
  obtain ⟨f35, hP, hD⟩ : ∃ f35 : Nat → Int32, va_P (dC, dI) classes [(h0, .inr (11, [.int z1, .ref e1, .ref e2, .ref e3, .ref e4, .ref e5, .ref e6, .ref e7, .ref e8, .int 0, .int 1, .int 1, .int 0, .int 0, .int 0, .int (-1), .int 0, .int 0])), (e4, .inl (e9, 8, .inl f21)), (e5, .inl (e10, 64, .inl f35))] H ∧ va_D A [(h0, .inr (11, [.int z1, .ref e1, .ref e2, .ref e3, .ref e4, .ref e5, .ref e6, .ref e7, .ref e8, .int 0, .int 1, .int 1, .int 0, .int 0, .int 0, .int (-1), .int 0, .int 0])), (e4, .inl (e9, 8, .inl f21)), (e5, .inl (e10, 64, .inl f35))] := ⟨_, hP, hD⟩
  refine lv_iinc (v := 7) (lv' := [(3, .int 7), (2, .int 1), (0, .ref h0), (1, .int 0)]) hx hb d_SSession_clearLevels_35 hl (k := 0) rfl (by decide) (by decide) rfl (fun ls hl => ?_)
  refine lv_goto (tgt := 17) hx hb d_SSession_clearLevels_38 (by decide) ?_
  refine lv_iload_n hx hb d_SSession_clearLevels_17 rfl (lv_at hl 0 rfl) ?_
  refine lv_bipush (v := 8) hx hb d_SSession_clearLevels_18 (by decide) ?_
  refine lv_icmp_ge (tgt := 41) hx hb d_SSession_clearLevels_20 (by decide) (fun c_36 => absurd c_36 (by decide)) (fun c_36 => ?_)
  refine lv_aload_n hx hb d_SSession_clearLevels_23 rfl (lv_at hl 2 rfl) ?_
  refine va_get (D := (dC, dI)) (ci := 11) (v := .ref e5) (C := R_SSession) (T := F_SSession) (N := 18) hx hb hts (i_SSession _) hown hK hP 0 rfl rfl 5 (by decide) (hts _ (List.mem_cons_of_mem _ q_795)) (fun _ h9 => h9) rfl d_SSession_clearLevels_24 ?_
  refine lv_iload_n hx hb d_SSession_clearLevels_27 rfl (lv_at hl 1 rfl) ?_
  refine lv_bipush (v := 8) hx hb d_SSession_clearLevels_28 (by decide) ?_
  refine lv_imul hx hb d_SSession_clearLevels_30 ?_
  refine bx_top (y := 8) (by decide) ?_
  refine lv_iload_n hx hb d_SSession_clearLevels_31 rfl (lv_at hl 0 rfl) ?_
  refine lv_iadd hx hb d_SSession_clearLevels_32 ?_
  refine bx_top (y := 15) (by decide) ?_
  refine lv_iconst (v := 0) hx hb d_SSession_clearLevels_33 (by decide) ?_
  refine va_iast hx hb hK hP hD hS 2 1 (i := 15) (x := 0) rfl rfl (vp_in_nI (n := 15) (by decide) (by decide)) d_SSession_clearLevels_34 (fun H locs hP hD hS => ?_)
  obtain ⟨f37, hP, hD⟩ : ∃ f37 : Nat → Int32, va_P (dC, dI) classes [(h0, .inr (11, [.int z1, .ref e1, .ref e2, .ref e3, .ref e4, .ref e5, .ref e6, .ref e7, .ref e8, .int 0, .int 1, .int 1, .int 0, .int 0, .int 0, .int (-1), .int 0, .int 0])), (e4, .inl (e9, 8, .inl f21)), (e5, .inl (e10, 64, .inl f37))] H ∧ va_D A [(h0, .inr (11, [.int z1, .ref e1, .ref e2, .ref e3, .ref e4, .ref e5, .ref e6, .ref e7, .ref e8, .int 0, .int 1, .int 1, .int 0, .int 0, .int 0, .int (-1), .int 0, .int 0])), (e4, .inl (e9, 8, .inl f21)), (e5, .inl (e10, 64, .inl f37))] := ⟨_, hP, hD⟩
  refine lv_iinc (v := 8) (lv' := [(3, .int 8), (2, .int 1), (0, .ref h0), (1, .int 0)]) hx hb d_SSession_clearLevels_35 hl (k := 0) rfl (by decide) (by decide) rfl (fun ls hl => ?_)
  refine lv_goto (tgt := 17) hx hb d_SSession_clearLevels_38 (by decide) ?_
  refine lv_iload_n hx hb d_SSession_clearLevels_17 rfl (lv_at hl 0 rfl) ?_
  refine lv_bipush (v := 8) hx hb d_SSession_clearLevels_18 (by decide) ?_
  refine lv_icmp_ge (tgt := 41) hx hb d_SSession_clearLevels_20 (by decide) (fun c_38 => ?_) (fun c_38 => absurd (by decide) c_38)
  refine lv_iinc (v := 2) (lv' := [(2, .int 2), (3, .int 8), (0, .ref h0), (1, .int 0)]) hx hb d_SSession_clearLevels_41 hl (k := 1) rfl (by decide) (by decide) rfl (fun ls hl => ?_)
  refine lv_goto (tgt := 2) hx hb d_SSession_clearLevels_44 (by decide) ?_
  refine lv_iload_n hx hb d_SSession_clearLevels_2 rfl (lv_at hl 0 rfl) ?_
  refine lv_bipush (v := 8) hx hb d_SSession_clearLevels_3 (by decide) ?_
  refine lv_icmp_ge (tgt := 47) hx hb d_SSession_clearLevels_5 (by decide) (fun c_39 => absurd c_39 (by decide)) (fun c_39 => ?_)
  refine lv_aload_n hx hb d_SSession_clearLevels_8 rfl (lv_at hl 2 rfl) ?_
  refine va_get (D := (dC, dI)) (ci := 11) (v := .ref e4) (C := R_SSession) (T := F_SSession) (N := 18) hx hb hts (i_SSession _) hown hK hP 0 rfl rfl 4 (by decide) (hts _ (List.mem_cons_of_mem _ q_792)) (fun _ h9 => h9) rfl d_SSession_clearLevels_9 ?_
  refine lv_iload_n hx hb d_SSession_clearLevels_12 rfl (lv_at hl 0 rfl) ?_
  refine lv_iconst (v := 0) hx hb d_SSession_clearLevels_13 (by decide) ?_
  refine va_iast hx hb hK hP hD hS 1 0 (i := 2) (x := 0) rfl rfl (vp_in_nI (n := 2) (by decide) (by decide)) d_SSession_clearLevels_14 (fun H locs hP hD hS => ?_)
  obtain ⟨f40, hP, hD⟩ : ∃ f40 : Nat → Int32, va_P (dC, dI) classes [(h0, .inr (11, [.int z1, .ref e1, .ref e2, .ref e3, .ref e4, .ref e5, .ref e6, .ref e7, .ref e8, .int 0, .int 1, .int 1, .int 0, .int 0, .int 0, .int (-1), .int 0, .int 0])), (e4, .inl (e9, 8, .inl f40)), (e5, .inl (e10, 64, .inl f37))] H ∧ va_D A [(h0, .inr (11, [.int z1, .ref e1, .ref e2, .ref e3, .ref e4, .ref e5, .ref e6, .ref e7, .ref e8, .int 0, .int 1, .int 1, .int 0, .int 0, .int 0, .int (-1), .int 0, .int 0])), (e4, .inl (e9, 8, .inl f40)), (e5, .inl (e10, 64, .inl f37))] := ⟨_, hP, hD⟩
  refine lv_iconst (v := 0) hx hb d_SSession_clearLevels_15 (by decide) ?_
  refine lv_istore_n (lv' := [(3, .int 0), (2, .int 2), (0, .ref h0), (1, .int 0)]) hx hb d_SSession_clearLevels_16 rfl hl (by decide) rfl (fun ls hl => ?_)
  refine lv_iload_n hx hb d_SSession_clearLevels_17 rfl (lv_at hl 0 rfl) ?_
  refine lv_bipush (v := 8) hx hb d_SSession_clearLevels_18 (by decide) ?_
  refine lv_icmp_ge (tgt := 41) hx hb d_SSession_clearLevels_20 (by decide) (fun c_41 => absurd c_41 (by decide)) (fun c_41 => ?_)
  refine lv_aload_n hx hb d_SSession_clearLevels_23 rfl (lv_at hl 2 rfl) ?_
  refine va_get (D := (dC, dI)) (ci := 11) (v := .ref e5) (C := R_SSession) (T := F_SSession) (N := 18) hx hb hts (i_SSession _) hown hK hP 0 rfl rfl 5 (by decide) (hts _ (List.mem_cons_of_mem _ q_795)) (fun _ h9 => h9) rfl d_SSession_clearLevels_24 ?_
  refine lv_iload_n hx hb d_SSession_clearLevels_27 rfl (lv_at hl 1 rfl) ?_
  refine lv_bipush (v := 8) hx hb d_SSession_clearLevels_28 (by decide) ?_
  refine lv_imul hx hb d_SSession_clearLevels_30 ?_
  refine bx_top (y := 16) (by decide) ?_
  refine lv_iload_n hx hb d_SSession_clearLevels_31 rfl (lv_at hl 0 rfl) ?_
  refine lv_iadd hx hb d_SSession_clearLevels_32 ?_
  refine bx_top (y := 16) (by decide) ?_
  refine lv_iconst (v := 0) hx hb d_SSession_clearLevels_33 (by decide) ?_
  refine va_iast hx hb hK hP hD hS 2 1 (i := 16) (x := 0) rfl rfl (vp_in_nI (n := 16) (by decide) (by decide)) d_SSession_clearLevels_34 (fun H locs hP hD hS => ?_)
  obtain ⟨f42, hP, hD⟩ : ∃ f42 : Nat → Int32, va_P (dC, dI) classes [(h0, .inr (11, [.int z1, .ref e1, .ref e2, .ref e3, .ref e4, .ref e5, .ref e6, .ref e7, .ref e8, .int 0, .int 1, .int 1, .int 0, .int 0, .int 0, .int (-1), .int 0, .int 0])), (e4, .inl (e9, 8, .inl f40)), (e5, .inl (e10, 64, .inl f42))] H ∧ va_D A [(h0, .inr (11, [.int z1, .ref e1, .ref e2, .ref e3, .ref e4, .ref e5, .ref e6, .ref e7, .ref e8, .int 0, .int 1, .int 1, .int 0, .int 0, .int 0, .int (-1), .int 0, .int 0])), (e4, .inl (e9, 8, .inl f40)), (e5, .inl (e10, 64, .inl f42))] := ⟨_, hP, hD⟩
  refine lv_iinc (v := 1) (lv' := [(3, .int 1), (2, .int 2), (0, .ref h0), (1, .int 0)]) hx hb d_SSession_clearLevels_35 hl (k := 0) rfl (by decide) (by decide) rfl (fun ls hl => ?_)
  refine lv_goto (tgt := 17) hx hb d_SSession_clearLevels_38 (by decide) ?_
  refine lv_iload_n hx hb d_SSession_clearLevels_17 rfl (lv_at hl 0 rfl) ?_
  refine lv_bipush (v := 8) hx hb d_SSession_clearLevels_18 (by decide) ?_
  refine lv_icmp_ge (tgt := 41) hx hb d_SSession_clearLevels_20 (by decide) (fun c_43 => absurd c_43 (by decide)) (fun c_43 => ?_)
  refine lv_aload_n hx hb d_SSession_clearLevels_23 rfl (lv_at hl 2 rfl) ?_
  refine va_get (D := (dC, dI)) (ci := 11) (v := .ref e5) (C := R_SSession) (T := F_SSession) (N := 18) hx hb hts (i_SSession _) hown hK hP 0 rfl rfl 5 (by decide) (hts _ (List.mem_cons_of_mem _ q_795)) (fun _ h9 => h9) rfl d_SSession_clearLevels_24 ?_
  refine lv_iload_n hx hb d_SSession_clearLevels_27 rfl (lv_at hl 1 rfl) ?_
  refine lv_bipush (v := 8) hx hb d_SSession_clearLevels_28 (by decide) ?_
  refine lv_imul hx hb d_SSession_clearLevels_30 ?_
  refine bx_top (y := 16) (by decide) ?_
  refine lv_iload_n hx hb d_SSession_clearLevels_31 rfl (lv_at hl 0 rfl) ?_
  refine lv_iadd hx hb d_SSession_clearLevels_32 ?_
  refine bx_top (y := 17) (by decide) ?_
  refine lv_iconst (v := 0) hx hb d_SSession_clearLevels_33 (by decide) ?_
  refine va_iast hx hb hK hP hD hS 2 1 (i := 17) (x := 0) rfl rfl (vp_in_nI (n := 17) (by decide) (by decide)) d_SSession_clearLevels_34 (fun H locs hP hD hS => ?_)
  obtain ⟨f44, hP, hD⟩ : ∃ f44 : Nat → Int32, va_P (dC, dI) classes [(h0, .inr (11, [.int z1, .ref e1, .ref e2, .ref e3, .ref e4, .ref e5, .ref e6, .ref e7, .ref e8, .int 0, .int 1, .int 1, .int 0, .int 0, .int 0, .int (-1), .int 0, .int 0])), (e4, .inl (e9, 8, .inl f40)), (e5, .inl (e10, 64, .inl f44))] H ∧ va_D A [(h0, .inr (11, [.int z1, .ref e1, .ref e2, .ref e3, .ref e4, .ref e5, .ref e6, .ref e7, .ref e8, .int 0, .int 1, .int 1, .int 0, .int 0, .int 0, .int (-1), .int 0, .int 0])), (e4, .inl (e9, 8, .inl f40)), (e5, .inl (e10, 64, .inl f44))] := ⟨_, hP, hD⟩
  refine lv_iinc (v := 2) (lv' := [(3, .int 2), (2, .int 2), (0, .ref h0), (1, .int 0)]) hx hb d_SSession_clearLevels_35 hl (k := 0) rfl (by decide) (by decide) rfl (fun ls hl => ?_)
  refine lv_goto (tgt := 17) hx hb d_SSession_clearLevels_38 (by decide) ?_
  refine lv_iload_n hx hb d_SSession_clearLevels_17 rfl (lv_at hl 0 rfl) ?_
  refine lv_bipush (v := 8) hx hb d_SSession_clearLevels_18 (by decide) ?_
  refine lv_icmp_ge (tgt := 41) hx hb d_SSession_clearLevels_20 (by decide) (fun c_45 => absurd c_45 (by decide)) (fun c_45 => ?_)
  refine lv_aload_n hx hb d_SSession_clearLevels_23 rfl (lv_at hl 2 rfl) ?_
  refine va_get (D := (dC, dI)) (ci := 11) (v := .ref e5) (C := R_SSession) (T := F_SSession) (N := 18) hx hb hts (i_SSession _) hown hK hP 0 rfl rfl 5 (by decide) (hts _ (List.mem_cons_of_mem _ q_795)) (fun _ h9 => h9) rfl d_SSession_clearLevels_24 ?_
  refine lv_iload_n hx hb d_SSession_clearLevels_27 rfl (lv_at hl 1 rfl) ?_
  refine lv_bipush (v := 8) hx hb d_SSession_clearLevels_28 (by decide) ?_
  refine lv_imul hx hb d_SSession_clearLevels_30 ?_
  refine bx_top (y := 16) (by decide) ?_
  refine lv_iload_n hx hb d_SSession_clearLevels_31 rfl (lv_at hl 0 rfl) ?_
  refine lv_iadd hx hb d_SSession_clearLevels_32 ?_
  refine bx_top (y := 18) (by decide) ?_
  refine lv_iconst (v := 0) hx hb d_SSession_clearLevels_33 (by decide) ?_
  refine va_iast hx hb hK hP hD hS 2 1 (i := 18) (x := 0) rfl rfl (vp_in_nI (n := 18) (by decide) (by decide)) d_SSession_clearLevels_34 (fun H locs hP hD hS => ?_)
  obtain ⟨f46, hP, hD⟩ : ∃ f46 : Nat → Int32, va_P (dC, dI) classes [(h0, .inr (11, [.int z1, .ref e1, .ref e2, .ref e3, .ref e4, .ref e5, .ref e6, .ref e7, .ref e8, .int 0, .int 1, .int 1, .int 0, .int 0, .int 0, .int (-1), .int 0, .int 0])), (e4, .inl (e9, 8, .inl f40)), (e5, .inl (e10, 64, .inl f46))] H ∧ va_D A [(h0, .inr (11, [.int z1, .ref e1, .ref e2, .ref e3, .ref e4, .ref e5, .ref e6, .ref e7, .ref e8, .int 0, .int 1, .int 1, .int 0, .int 0, .int 0, .int (-1), .int 0, .int 0])), (e4, .inl (e9, 8, .inl f40)), (e5, .inl (e10, 64, .inl f46))] := ⟨_, hP, hD⟩
  refine lv_iinc (v := 3) (lv' := [(3, .int 3), (2, .int 2), (0, .ref h0), (1, .int 0)]) hx hb d_SSession_clearLevels_35 hl (k := 0) rfl (by decide) (by decide) rfl (fun ls hl => ?_)
  refine lv_goto (tgt := 17) hx hb d_SSession_clearLevels_38 (by decide) ?_
  refine lv_iload_n hx hb d_SSession_clearLevels_17 rfl (lv_at hl 0 rfl) ?_
  refine lv_bipush (v := 8) hx hb d_SSession_clearLevels_18 (by decide) ?_
  refine lv_icmp_ge (tgt := 41) hx hb d_SSession_clearLevels_20 (by decide) (fun c_47 => absurd c_47 (by decide)) (fun c_47 => ?_)
  refine lv_aload_n hx hb d_SSession_clearLevels_23 rfl (lv_at hl 2 rfl) ?_
  refine va_get (D := (dC, dI)) (ci := 11) (v := .ref e5) (C := R_SSession) (T := F_SSession) (N := 18) hx hb hts (i_SSession _) hown hK hP 0 rfl rfl 5 (by decide) (hts _ (List.mem_cons_of_mem _ q_795)) (fun _ h9 => h9) rfl d_SSession_clearLevels_24 ?_
  refine lv_iload_n hx hb d_SSession_clearLevels_27 rfl (lv_at hl 1 rfl) ?_
  refine lv_bipush (v := 8) hx hb d_SSession_clearLevels_28 (by decide) ?_
  refine lv_imul hx hb d_SSession_clearLevels_30 ?_
  refine bx_top (y := 16) (by decide) ?_
  refine lv_iload_n hx hb d_SSession_clearLevels_31 rfl (lv_at hl 0 rfl) ?_
  refine lv_iadd hx hb d_SSession_clearLevels_32 ?_
  refine bx_top (y := 19) (by decide) ?_
  refine lv_iconst (v := 0) hx hb d_SSession_clearLevels_33 (by decide) ?_
  refine va_iast hx hb hK hP hD hS 2 1 (i := 19) (x := 0) rfl rfl (vp_in_nI (n := 19) (by decide) (by decide)) d_SSession_clearLevels_34 (fun H locs hP hD hS => ?_)
  obtain ⟨f48, hP, hD⟩ : ∃ f48 : Nat → Int32, va_P (dC, dI) classes [(h0, .inr (11, [.int z1, .ref e1, .ref e2, .ref e3, .ref e4, .ref e5, .ref e6, .ref e7, .ref e8, .int 0, .int 1, .int 1, .int 0, .int 0, .int 0, .int (-1), .int 0, .int 0])), (e4, .inl (e9, 8, .inl f40)), (e5, .inl (e10, 64, .inl f48))] H ∧ va_D A [(h0, .inr (11, [.int z1, .ref e1, .ref e2, .ref e3, .ref e4, .ref e5, .ref e6, .ref e7, .ref e8, .int 0, .int 1, .int 1, .int 0, .int 0, .int 0, .int (-1), .int 0, .int 0])), (e4, .inl (e9, 8, .inl f40)), (e5, .inl (e10, 64, .inl f48))] := ⟨_, hP, hD⟩
  refine lv_iinc (v := 4) (lv' := [(3, .int 4), (2, .int 2), (0, .ref h0), (1, .int 0)]) hx hb d_SSession_clearLevels_35 hl (k := 0) rfl (by decide) (by decide) rfl (fun ls hl => ?_)
  refine lv_goto (tgt := 17) hx hb d_SSession_clearLevels_38 (by decide) ?_
  refine lv_iload_n hx hb d_SSession_clearLevels_17 rfl (lv_at hl 0 rfl) ?_
  refine lv_bipush (v := 8) hx hb d_SSession_clearLevels_18 (by decide) ?_
  refine lv_icmp_ge (tgt := 41) hx hb d_SSession_clearLevels_20 (by decide) (fun c_49 => absurd c_49 (by decide)) (fun c_49 => ?_)
  refine lv_aload_n hx hb d_SSession_clearLevels_23 rfl (lv_at hl 2 rfl) ?_
  refine va_get (D := (dC, dI)) (ci := 11) (v := .ref e5) (C := R_SSession) (T := F_SSession) (N := 18) hx hb hts (i_SSession _) hown hK hP 0 rfl rfl 5 (by decide) (hts _ (List.mem_cons_of_mem _ q_795)) (fun _ h9 => h9) rfl d_SSession_clearLevels_24 ?_
  refine lv_iload_n hx hb d_SSession_clearLevels_27 rfl (lv_at hl 1 rfl) ?_
  refine lv_bipush (v := 8) hx hb d_SSession_clearLevels_28 (by decide) ?_
  refine lv_imul hx hb d_SSession_clearLevels_30 ?_
  refine bx_top (y := 16) (by decide) ?_
  refine lv_iload_n hx hb d_SSession_clearLevels_31 rfl (lv_at hl 0 rfl) ?_
  refine lv_iadd hx hb d_SSession_clearLevels_32 ?_
  refine bx_top (y := 20) (by decide) ?_
  refine lv_iconst (v := 0) hx hb d_SSession_clearLevels_33 (by decide) ?_
  refine va_iast hx hb hK hP hD hS 2 1 (i := 20) (x := 0) rfl rfl (vp_in_nI (n := 20) (by decide) (by decide)) d_SSession_clearLevels_34 (fun H locs hP hD hS => ?_)
  obtain ⟨f50, hP, hD⟩ : ∃ f50 : Nat → Int32, va_P (dC, dI) classes [(h0, .inr (11, [.int z1, .ref e1, .ref e2, .ref e3, .ref e4, .ref e5, .ref e6, .ref e7, .ref e8, .int 0, .int 1, .int 1, .int 0, .int 0, .int 0, .int (-1), .int 0, .int 0])), (e4, .inl (e9, 8, .inl f40)), (e5, .inl (e10, 64, .inl f50))] H ∧ va_D A [(h0, .inr (11, [.int z1, .ref e1, .ref e2, .ref e3, .ref e4, .ref e5, .ref e6, .ref e7, .ref e8, .int 0, .int 1, .int 1, .int 0, .int 0, .int 0, .int (-1), .int 0, .int 0])), (e4, .inl (e9, 8, .inl f40)), (e5, .inl (e10, 64, .inl f50))] := ⟨_, hP, hD⟩
  refine lv_iinc (v := 5) (lv' := [(3, .int 5), (2, .int 2), (0, .ref h0), (1, .int 0)]) hx hb d_SSession_clearLevels_35 hl (k := 0) rfl (by decide) (by decide) rfl (fun ls hl => ?_)
  refine lv_goto (tgt := 17) hx hb d_SSession_clearLevels_38 (by decide) ?_
  refine lv_iload_n hx hb d_SSession_clearLevels_17 rfl (lv_at hl 0 rfl) ?_
  refine lv_bipush (v := 8) hx hb d_SSession_clearLevels_18 (by decide) ?_
  refine lv_icmp_ge (tgt := 41) hx hb d_SSession_clearLevels_20 (by decide) (fun c_51 => absurd c_51 (by decide)) (fun c_51 => ?_)
  refine lv_aload_n hx hb d_SSession_clearLevels_23 rfl (lv_at hl 2 rfl) ?_
  refine va_get (D := (dC, dI)) (ci := 11) (v := .ref e5) (C := R_SSession) (T := F_SSession) (N := 18) hx hb hts (i_SSession _) hown hK hP 0 rfl rfl 5 (by decide) (hts _ (List.mem_cons_of_mem _ q_795)) (fun _ h9 => h9) rfl d_SSession_clearLevels_24 ?_
  refine lv_iload_n hx hb d_SSession_clearLevels_27 rfl (lv_at hl 1 rfl) ?_
  refine lv_bipush (v := 8) hx hb d_SSession_clearLevels_28 (by decide) ?_
  refine lv_imul hx hb d_SSession_clearLevels_30 ?_
  refine bx_top (y := 16) (by decide) ?_
  refine lv_iload_n hx hb d_SSession_clearLevels_31 rfl (lv_at hl 0 rfl) ?_
  refine lv_iadd hx hb d_SSession_clearLevels_32 ?_
  refine bx_top (y := 21) (by decide) ?_
  refine lv_iconst (v := 0) hx hb d_SSession_clearLevels_33 (by decide) ?_
  refine va_iast hx hb hK hP hD hS 2 1 (i := 21) (x := 0) rfl rfl (vp_in_nI (n := 21) (by decide) (by decide)) d_SSession_clearLevels_34 (fun H locs hP hD hS => ?_)
  obtain ⟨f52, hP, hD⟩ : ∃ f52 : Nat → Int32, va_P (dC, dI) classes [(h0, .inr (11, [.int z1, .ref e1, .ref e2, .ref e3, .ref e4, .ref e5, .ref e6, .ref e7, .ref e8, .int 0, .int 1, .int 1, .int 0, .int 0, .int 0, .int (-1), .int 0, .int 0])), (e4, .inl (e9, 8, .inl f40)), (e5, .inl (e10, 64, .inl f52))] H ∧ va_D A [(h0, .inr (11, [.int z1, .ref e1, .ref e2, .ref e3, .ref e4, .ref e5, .ref e6, .ref e7, .ref e8, .int 0, .int 1, .int 1, .int 0, .int 0, .int 0, .int (-1), .int 0, .int 0])), (e4, .inl (e9, 8, .inl f40)), (e5, .inl (e10, 64, .inl f52))] := ⟨_, hP, hD⟩
  refine lv_iinc (v := 6) (lv' := [(3, .int 6), (2, .int 2), (0, .ref h0), (1, .int 0)]) hx hb d_SSession_clearLevels_35 hl (k := 0) rfl (by decide) (by decide) rfl (fun ls hl => ?_)
  refine lv_goto (tgt := 17) hx hb d_SSession_clearLevels_38 (by decide) ?_
  refine lv_iload_n hx hb d_SSession_clearLevels_17 rfl (lv_at hl 0 rfl) ?_
  refine lv_bipush (v := 8) hx hb d_SSession_clearLevels_18 (by decide) ?_
  refine lv_icmp_ge (tgt := 41) hx hb d_SSession_clearLevels_20 (by decide) (fun c_53 => absurd c_53 (by decide)) (fun c_53 => ?_)
  refine lv_aload_n hx hb d_SSession_clearLevels_23 rfl (lv_at hl 2 rfl) ?_
  refine va_get (D := (dC, dI)) (ci := 11) (v := .ref e5) (C := R_SSession) (T := F_SSession) (N := 18) hx hb hts (i_SSession _) hown hK hP 0 rfl rfl 5 (by decide) (hts _ (List.mem_cons_of_mem _ q_795)) (fun _ h9 => h9) rfl d_SSession_clearLevels_24 ?_
  refine lv_iload_n hx hb d_SSession_clearLevels_27 rfl (lv_at hl 1 rfl) ?_
  refine lv_bipush (v := 8) hx hb d_SSession_clearLevels_28 (by decide) ?_
  refine lv_imul hx hb d_SSession_clearLevels_30 ?_
  refine bx_top (y := 16) (by decide) ?_
  refine lv_iload_n hx hb d_SSession_clearLevels_31 rfl (lv_at hl 0 rfl) ?_
  refine lv_iadd hx hb d_SSession_clearLevels_32 ?_
  refine bx_top (y := 22) (by decide) ?_
  refine lv_iconst (v := 0) hx hb d_SSession_clearLevels_33 (by decide) ?_
  refine va_iast hx hb hK hP hD hS 2 1 (i := 22) (x := 0) rfl rfl (vp_in_nI (n := 22) (by decide) (by decide)) d_SSession_clearLevels_34 (fun H locs hP hD hS => ?_)
  obtain ⟨f54, hP, hD⟩ : ∃ f54 : Nat → Int32, va_P (dC, dI) classes [(h0, .inr (11, [.int z1, .ref e1, .ref e2, .ref e3, .ref e4, .ref e5, .ref e6, .ref e7, .ref e8, .int 0, .int 1, .int 1, .int 0, .int 0, .int 0, .int (-1), .int 0, .int 0])), (e4, .inl (e9, 8, .inl f40)), (e5, .inl (e10, 64, .inl f54))] H ∧ va_D A [(h0, .inr (11, [.int z1, .ref e1, .ref e2, .ref e3, .ref e4, .ref e5, .ref e6, .ref e7, .ref e8, .int 0, .int 1, .int 1, .int 0, .int 0, .int 0, .int (-1), .int 0, .int 0])), (e4, .inl (e9, 8, .inl f40)), (e5, .inl (e10, 64, .inl f54))] := ⟨_, hP, hD⟩
  refine lv_iinc (v := 7) (lv' := [(3, .int 7), (2, .int 2), (0, .ref h0), (1, .int 0)]) hx hb d_SSession_clearLevels_35 hl (k := 0) rfl (by decide) (by decide) rfl (fun ls hl => ?_)
  refine lv_goto (tgt := 17) hx hb d_SSession_clearLevels_38 (by decide) ?_
  refine lv_iload_n hx hb d_SSession_clearLevels_17 rfl (lv_at hl 0 rfl) ?_
  refine lv_bipush (v := 8) hx hb d_SSession_clearLevels_18 (by decide) ?_
  refine lv_icmp_ge (tgt := 41) hx hb d_SSession_clearLevels_20 (by decide) (fun c_55 => absurd c_55 (by decide)) (fun c_55 => ?_)
  refine lv_aload_n hx hb d_SSession_clearLevels_23 rfl (lv_at hl 2 rfl) ?_
  refine va_get (D := (dC, dI)) (ci := 11) (v := .ref e5) (C := R_SSession) (T := F_SSession) (N := 18) hx hb hts (i_SSession _) hown hK hP 0 rfl rfl 5 (by decide) (hts _ (List.mem_cons_of_mem _ q_795)) (fun _ h9 => h9) rfl d_SSession_clearLevels_24 ?_
  refine lv_iload_n hx hb d_SSession_clearLevels_27 rfl (lv_at hl 1 rfl) ?_
  refine lv_bipush (v := 8) hx hb d_SSession_clearLevels_28 (by decide) ?_
  refine lv_imul hx hb d_SSession_clearLevels_30 ?_
  refine bx_top (y := 16) (by decide) ?_
  refine lv_iload_n hx hb d_SSession_clearLevels_31 rfl (lv_at hl 0 rfl) ?_
  refine lv_iadd hx hb d_SSession_clearLevels_32 ?_
  refine bx_top (y := 23) (by decide) ?_
  refine lv_iconst (v := 0) hx hb d_SSession_clearLevels_33 (by decide) ?_
  refine va_iast hx hb hK hP hD hS 2 1 (i := 23) (x := 0) rfl rfl (vp_in_nI (n := 23) (by decide) (by decide)) d_SSession_clearLevels_34 (fun H locs hP hD hS => ?_)
  obtain ⟨f56, hP, hD⟩ : ∃ f56 : Nat → Int32, va_P (dC, dI) classes [(h0, .inr (11, [.int z1, .ref e1, .ref e2, .ref e3, .ref e4, .ref e5, .ref e6, .ref e7, .ref e8, .int 0, .int 1, .int 1, .int 0, .int 0, .int 0, .int (-1), .int 0, .int 0])), (e4, .inl (e9, 8, .inl f40)), (e5, .inl (e10, 64, .inl f56))] H ∧ va_D A [(h0, .inr (11, [.int z1, .ref e1, .ref e2, .ref e3, .ref e4, .ref e5, .ref e6, .ref e7, .ref e8, .int 0, .int 1, .int 1, .int 0, .int 0, .int 0, .int (-1), .int 0, .int 0])), (e4, .inl (e9, 8, .inl f40)), (e5, .inl (e10, 64, .inl f56))] := ⟨_, hP, hD⟩
  refine lv_iinc (v := 8) (lv' := [(3, .int 8), (2, .int 2), (0, .ref h0), (1, .int 0)]) hx hb d_SSession_clearLevels_35 hl (k := 0) rfl (by decide) (by decide) rfl (fun ls hl => ?_)
  refine lv_goto (tgt := 17) hx hb d_SSession_clearLevels_38 (by decide) ?_
  refine lv_iload_n hx hb d_SSession_clearLevels_17 rfl (lv_at hl 0 rfl) ?_
  refine lv_bipush (v := 8) hx hb d_SSession_clearLevels_18 (by decide) ?_
  refine lv_icmp_ge (tgt := 41) hx hb d_SSession_clearLevels_20 (by decide) (fun c_57 => ?_) (fun c_57 => absurd (by decide) c_57)
  refine lv_iinc (v := 3) (lv' := [(2, .int 3), (3, .int 8), (0, .ref h0), (1, .int 0)]) hx hb d_SSession_clearLevels_41 hl (k := 1) rfl (by decide) (by decide) rfl (fun ls hl => ?_)
  refine lv_goto (tgt := 2) hx hb d_SSession_clearLevels_44 (by decide) ?_
  refine lv_iload_n hx hb d_SSession_clearLevels_2 rfl (lv_at hl 0 rfl) ?_
  refine lv_bipush (v := 8) hx hb d_SSession_clearLevels_3 (by decide) ?_
  refine lv_icmp_ge (tgt := 47) hx hb d_SSession_clearLevels_5 (by decide) (fun c_58 => absurd c_58 (by decide)) (fun c_58 => ?_)
  refine lv_aload_n hx hb d_SSession_clearLevels_8 rfl (lv_at hl 2 rfl) ?_
  refine va_get (D := (dC, dI)) (ci := 11) (v := .ref e4) (C := R_SSession) (T := F_SSession) (N := 18) hx hb hts (i_SSession _) hown hK hP 0 rfl rfl 4 (by decide) (hts _ (List.mem_cons_of_mem _ q_792)) (fun _ h9 => h9) rfl d_SSession_clearLevels_9 ?_
  refine lv_iload_n hx hb d_SSession_clearLevels_12 rfl (lv_at hl 0 rfl) ?_
  refine lv_iconst (v := 0) hx hb d_SSession_clearLevels_13 (by decide) ?_
  refine va_iast hx hb hK hP hD hS 1 0 (i := 3) (x := 0) rfl rfl (vp_in_nI (n := 3) (by decide) (by decide)) d_SSession_clearLevels_14 (fun H locs hP hD hS => ?_)
  obtain ⟨f59, hP, hD⟩ : ∃ f59 : Nat → Int32, va_P (dC, dI) classes [(h0, .inr (11, [.int z1, .ref e1, .ref e2, .ref e3, .ref e4, .ref e5, .ref e6, .ref e7, .ref e8, .int 0, .int 1, .int 1, .int 0, .int 0, .int 0, .int (-1), .int 0, .int 0])), (e4, .inl (e9, 8, .inl f59)), (e5, .inl (e10, 64, .inl f56))] H ∧ va_D A [(h0, .inr (11, [.int z1, .ref e1, .ref e2, .ref e3, .ref e4, .ref e5, .ref e6, .ref e7, .ref e8, .int 0, .int 1, .int 1, .int 0, .int 0, .int 0, .int (-1), .int 0, .int 0])), (e4, .inl (e9, 8, .inl f59)), (e5, .inl (e10, 64, .inl f56))] := ⟨_, hP, hD⟩
  refine lv_iconst (v := 0) hx hb d_SSession_clearLevels_15 (by decide) ?_
  refine lv_istore_n (lv' := [(3, .int 0), (2, .int 3), (0, .ref h0), (1, .int 0)]) hx hb d_SSession_clearLevels_16 rfl hl (by decide) rfl (fun ls hl => ?_)
  refine lv_iload_n hx hb d_SSession_clearLevels_17 rfl (lv_at hl 0 rfl) ?_
  refine lv_bipush (v := 8) hx hb d_SSession_clearLevels_18 (by decide) ?_
  refine lv_icmp_ge (tgt := 41) hx hb d_SSession_clearLevels_20 (by decide) (fun c_60 => absurd c_60 (by decide)) (fun c_60 => ?_)
  refine lv_aload_n hx hb d_SSession_clearLevels_23 rfl (lv_at hl 2 rfl) ?_
  refine va_get (D := (dC, dI)) (ci := 11) (v := .ref e5) (C := R_SSession) (T := F_SSession) (N := 18) hx hb hts (i_SSession _) hown hK hP 0 rfl rfl 5 (by decide) (hts _ (List.mem_cons_of_mem _ q_795)) (fun _ h9 => h9) rfl d_SSession_clearLevels_24 ?_
  refine lv_iload_n hx hb d_SSession_clearLevels_27 rfl (lv_at hl 1 rfl) ?_
  refine lv_bipush (v := 8) hx hb d_SSession_clearLevels_28 (by decide) ?_
  refine lv_imul hx hb d_SSession_clearLevels_30 ?_
  refine bx_top (y := 24) (by decide) ?_
  refine lv_iload_n hx hb d_SSession_clearLevels_31 rfl (lv_at hl 0 rfl) ?_
  refine lv_iadd hx hb d_SSession_clearLevels_32 ?_
  refine bx_top (y := 24) (by decide) ?_
  refine lv_iconst (v := 0) hx hb d_SSession_clearLevels_33 (by decide) ?_
  refine va_iast hx hb hK hP hD hS 2 1 (i := 24) (x := 0) rfl rfl (vp_in_nI (n := 24) (by decide) (by decide)) d_SSession_clearLevels_34 (fun H locs hP hD hS => ?_)
  obtain ⟨f61, hP, hD⟩ : ∃ f61 : Nat → Int32, va_P (dC, dI) classes [(h0, .inr (11, [.int z1, .ref e1, .ref e2, .ref e3, .ref e4, .ref e5, .ref e6, .ref e7, .ref e8, .int 0, .int 1, .int 1, .int 0, .int 0, .int 0, .int (-1), .int 0, .int 0])), (e4, .inl (e9, 8, .inl f59)), (e5, .inl (e10, 64, .inl f61))] H ∧ va_D A [(h0, .inr (11, [.int z1, .ref e1, .ref e2, .ref e3, .ref e4, .ref e5, .ref e6, .ref e7, .ref e8, .int 0, .int 1, .int 1, .int 0, .int 0, .int 0, .int (-1), .int 0, .int 0])), (e4, .inl (e9, 8, .inl f59)), (e5, .inl (e10, 64, .inl f61))] := ⟨_, hP, hD⟩
  refine lv_iinc (v := 1) (lv' := [(3, .int 1), (2, .int 3), (0, .ref h0), (1, .int 0)]) hx hb d_SSession_clearLevels_35 hl (k := 0) rfl (by decide) (by decide) rfl (fun ls hl => ?_)
  refine lv_goto (tgt := 17) hx hb d_SSession_clearLevels_38 (by decide) ?_
  refine lv_iload_n hx hb d_SSession_clearLevels_17 rfl (lv_at hl 0 rfl) ?_
  refine lv_bipush (v := 8) hx hb d_SSession_clearLevels_18 (by decide) ?_
  refine lv_icmp_ge (tgt := 41) hx hb d_SSession_clearLevels_20 (by decide) (fun c_62 => absurd c_62 (by decide)) (fun c_62 => ?_)
  refine lv_aload_n hx hb d_SSession_clearLevels_23 rfl (lv_at hl 2 rfl) ?_
  refine va_get (D := (dC, dI)) (ci := 11) (v := .ref e5) (C := R_SSession) (T := F_SSession) (N := 18) hx hb hts (i_SSession _) hown hK hP 0 rfl rfl 5 (by decide) (hts _ (List.mem_cons_of_mem _ q_795)) (fun _ h9 => h9) rfl d_SSession_clearLevels_24 ?_
  refine lv_iload_n hx hb d_SSession_clearLevels_27 rfl (lv_at hl 1 rfl) ?_
  refine lv_bipush (v := 8) hx hb d_SSession_clearLevels_28 (by decide) ?_
  refine lv_imul hx hb d_SSession_clearLevels_30 ?_
  refine bx_top (y := 24) (by decide) ?_
  refine lv_iload_n hx hb d_SSession_clearLevels_31 rfl (lv_at hl 0 rfl) ?_
  refine lv_iadd hx hb d_SSession_clearLevels_32 ?_
  refine bx_top (y := 25) (by decide) ?_
  refine lv_iconst (v := 0) hx hb d_SSession_clearLevels_33 (by decide) ?_
  refine va_iast hx hb hK hP hD hS 2 1 (i := 25) (x := 0) rfl rfl (vp_in_nI (n := 25) (by decide) (by decide)) d_SSession_clearLevels_34 (fun H locs hP hD hS => ?_)
  obtain ⟨f63, hP, hD⟩ : ∃ f63 : Nat → Int32, va_P (dC, dI) classes [(h0, .inr (11, [.int z1, .ref e1, .ref e2, .ref e3, .ref e4, .ref e5, .ref e6, .ref e7, .ref e8, .int 0, .int 1, .int 1, .int 0, .int 0, .int 0, .int (-1), .int 0, .int 0])), (e4, .inl (e9, 8, .inl f59)), (e5, .inl (e10, 64, .inl f63))] H ∧ va_D A [(h0, .inr (11, [.int z1, .ref e1, .ref e2, .ref e3, .ref e4, .ref e5, .ref e6, .ref e7, .ref e8, .int 0, .int 1, .int 1, .int 0, .int 0, .int 0, .int (-1), .int 0, .int 0])), (e4, .inl (e9, 8, .inl f59)), (e5, .inl (e10, 64, .inl f63))] := ⟨_, hP, hD⟩
  refine lv_iinc (v := 2) (lv' := [(3, .int 2), (2, .int 3), (0, .ref h0), (1, .int 0)]) hx hb d_SSession_clearLevels_35 hl (k := 0) rfl (by decide) (by decide) rfl (fun ls hl => ?_)
  refine lv_goto (tgt := 17) hx hb d_SSession_clearLevels_38 (by decide) ?_
  refine lv_iload_n hx hb d_SSession_clearLevels_17 rfl (lv_at hl 0 rfl) ?_
  refine lv_bipush (v := 8) hx hb d_SSession_clearLevels_18 (by decide) ?_
  refine lv_icmp_ge (tgt := 41) hx hb d_SSession_clearLevels_20 (by decide) (fun c_64 => absurd c_64 (by decide)) (fun c_64 => ?_)
  refine lv_aload_n hx hb d_SSession_clearLevels_23 rfl (lv_at hl 2 rfl) ?_
  refine va_get (D := (dC, dI)) (ci := 11) (v := .ref e5) (C := R_SSession) (T := F_SSession) (N := 18) hx hb hts (i_SSession _) hown hK hP 0 rfl rfl 5 (by decide) (hts _ (List.mem_cons_of_mem _ q_795)) (fun _ h9 => h9) rfl d_SSession_clearLevels_24 ?_
  refine lv_iload_n hx hb d_SSession_clearLevels_27 rfl (lv_at hl 1 rfl) ?_
  refine lv_bipush (v := 8) hx hb d_SSession_clearLevels_28 (by decide) ?_
  refine lv_imul hx hb d_SSession_clearLevels_30 ?_
  refine bx_top (y := 24) (by decide) ?_
  refine lv_iload_n hx hb d_SSession_clearLevels_31 rfl (lv_at hl 0 rfl) ?_
  refine lv_iadd hx hb d_SSession_clearLevels_32 ?_
  refine bx_top (y := 26) (by decide) ?_
  refine lv_iconst (v := 0) hx hb d_SSession_clearLevels_33 (by decide) ?_
  refine va_iast hx hb hK hP hD hS 2 1 (i := 26) (x := 0) rfl rfl (vp_in_nI (n := 26) (by decide) (by decide)) d_SSession_clearLevels_34 (fun H locs hP hD hS => ?_)
  obtain ⟨f65, hP, hD⟩ : ∃ f65 : Nat → Int32, va_P (dC, dI) classes [(h0, .inr (11, [.int z1, .ref e1, .ref e2, .ref e3, .ref e4, .ref e5, .ref e6, .ref e7, .ref e8, .int 0, .int 1, .int 1, .int 0, .int 0, .int 0, .int (-1), .int 0, .int 0])), (e4, .inl (e9, 8, .inl f59)), (e5, .inl (e10, 64, .inl f65))] H ∧ va_D A [(h0, .inr (11, [.int z1, .ref e1, .ref e2, .ref e3, .ref e4, .ref e5, .ref e6, .ref e7, .ref e8, .int 0, .int 1, .int 1, .int 0, .int 0, .int 0, .int (-1), .int 0, .int 0])), (e4, .inl (e9, 8, .inl f59)), (e5, .inl (e10, 64, .inl f65))] := ⟨_, hP, hD⟩
  refine lv_iinc (v := 3) (lv' := [(3, .int 3), (2, .int 3), (0, .ref h0), (1, .int 0)]) hx hb d_SSession_clearLevels_35 hl (k := 0) rfl (by decide) (by decide) rfl (fun ls hl => ?_)
  refine lv_goto (tgt := 17) hx hb d_SSession_clearLevels_38 (by decide) ?_
  refine lv_iload_n hx hb d_SSession_clearLevels_17 rfl (lv_at hl 0 rfl) ?_
  refine lv_bipush (v := 8) hx hb d_SSession_clearLevels_18 (by decide) ?_
  refine lv_icmp_ge (tgt := 41) hx hb d_SSession_clearLevels_20 (by decide) (fun c_66 => absurd c_66 (by decide)) (fun c_66 => ?_)
  refine lv_aload_n hx hb d_SSession_clearLevels_23 rfl (lv_at hl 2 rfl) ?_
  refine va_get (D := (dC, dI)) (ci := 11) (v := .ref e5) (C := R_SSession) (T := F_SSession) (N := 18) hx hb hts (i_SSession _) hown hK hP 0 rfl rfl 5 (by decide) (hts _ (List.mem_cons_of_mem _ q_795)) (fun _ h9 => h9) rfl d_SSession_clearLevels_24 ?_
  refine lv_iload_n hx hb d_SSession_clearLevels_27 rfl (lv_at hl 1 rfl) ?_
  refine lv_bipush (v := 8) hx hb d_SSession_clearLevels_28 (by decide) ?_
  refine lv_imul hx hb d_SSession_clearLevels_30 ?_
  refine bx_top (y := 24) (by decide) ?_
  refine lv_iload_n hx hb d_SSession_clearLevels_31 rfl (lv_at hl 0 rfl) ?_
  refine lv_iadd hx hb d_SSession_clearLevels_32 ?_
  refine bx_top (y := 27) (by decide) ?_
  refine lv_iconst (v := 0) hx hb d_SSession_clearLevels_33 (by decide) ?_
  refine va_iast hx hb hK hP hD hS 2 1 (i := 27) (x := 0) rfl rfl (vp_in_nI (n := 27) (by decide) (by decide)) d_SSession_clearLevels_34 (fun H locs hP hD hS => ?_)
  obtain ⟨f67, hP, hD⟩ : ∃ f67 : Nat → Int32, va_P (dC, dI) classes [(h0, .inr (11, [.int z1, .ref e1, .ref e2, .ref e3, .ref e4, .ref e5, .ref e6, .ref e7, .ref e8, .int 0, .int 1, .int 1, .int 0, .int 0, .int 0, .int (-1), .int 0, .int 0])), (e4, .inl (e9, 8, .inl f59)), (e5, .inl (e10, 64, .inl f67))] H ∧ va_D A [(h0, .inr (11, [.int z1, .ref e1, .ref e2, .ref e3, .ref e4, .ref e5, .ref e6, .ref e7, .ref e8, .int 0, .int 1, .int 1, .int 0, .int 0, .int 0, .int (-1), .int 0, .int 0])), (e4, .inl (e9, 8, .inl f59)), (e5, .inl (e10, 64, .inl f67))] := ⟨_, hP, hD⟩
  refine lv_iinc (v := 4) (lv' := [(3, .int 4), (2, .int 3), (0, .ref h0), (1, .int 0)]) hx hb d_SSession_clearLevels_35 hl (k := 0) rfl (by decide) (by decide) rfl (fun ls hl => ?_)
  refine lv_goto (tgt := 17) hx hb d_SSession_clearLevels_38 (by decide) ?_
  refine lv_iload_n hx hb d_SSession_clearLevels_17 rfl (lv_at hl 0 rfl) ?_
  refine lv_bipush (v := 8) hx hb d_SSession_clearLevels_18 (by decide) ?_
  refine lv_icmp_ge (tgt := 41) hx hb d_SSession_clearLevels_20 (by decide) (fun c_68 => absurd c_68 (by decide)) (fun c_68 => ?_)
  refine lv_aload_n hx hb d_SSession_clearLevels_23 rfl (lv_at hl 2 rfl) ?_
  refine va_get (D := (dC, dI)) (ci := 11) (v := .ref e5) (C := R_SSession) (T := F_SSession) (N := 18) hx hb hts (i_SSession _) hown hK hP 0 rfl rfl 5 (by decide) (hts _ (List.mem_cons_of_mem _ q_795)) (fun _ h9 => h9) rfl d_SSession_clearLevels_24 ?_
  refine lv_iload_n hx hb d_SSession_clearLevels_27 rfl (lv_at hl 1 rfl) ?_
  refine lv_bipush (v := 8) hx hb d_SSession_clearLevels_28 (by decide) ?_
  refine lv_imul hx hb d_SSession_clearLevels_30 ?_
  refine bx_top (y := 24) (by decide) ?_
  refine lv_iload_n hx hb d_SSession_clearLevels_31 rfl (lv_at hl 0 rfl) ?_
  refine lv_iadd hx hb d_SSession_clearLevels_32 ?_
  refine bx_top (y := 28) (by decide) ?_
  refine lv_iconst (v := 0) hx hb d_SSession_clearLevels_33 (by decide) ?_
  refine va_iast hx hb hK hP hD hS 2 1 (i := 28) (x := 0) rfl rfl (vp_in_nI (n := 28) (by decide) (by decide)) d_SSession_clearLevels_34 (fun H locs hP hD hS => ?_)
  obtain ⟨f69, hP, hD⟩ : ∃ f69 : Nat → Int32, va_P (dC, dI) classes [(h0, .inr (11, [.int z1, .ref e1, .ref e2, .ref e3, .ref e4, .ref e5, .ref e6, .ref e7, .ref e8, .int 0, .int 1, .int 1, .int 0, .int 0, .int 0, .int (-1), .int 0, .int 0])), (e4, .inl (e9, 8, .inl f59)), (e5, .inl (e10, 64, .inl f69))] H ∧ va_D A [(h0, .inr (11, [.int z1, .ref e1, .ref e2, .ref e3, .ref e4, .ref e5, .ref e6, .ref e7, .ref e8, .int 0, .int 1, .int 1, .int 0, .int 0, .int 0, .int (-1), .int 0, .int 0])), (e4, .inl (e9, 8, .inl f59)), (e5, .inl (e10, 64, .inl f69))] := ⟨_, hP, hD⟩
  refine lv_iinc (v := 5) (lv' := [(3, .int 5), (2, .int 3), (0, .ref h0), (1, .int 0)]) hx hb d_SSession_clearLevels_35 hl (k := 0) rfl (by decide) (by decide) rfl (fun ls hl => ?_)
  refine lv_goto (tgt := 17) hx hb d_SSession_clearLevels_38 (by decide) ?_
  refine lv_iload_n hx hb d_SSession_clearLevels_17 rfl (lv_at hl 0 rfl) ?_
  refine lv_bipush (v := 8) hx hb d_SSession_clearLevels_18 (by decide) ?_
  refine lv_icmp_ge (tgt := 41) hx hb d_SSession_clearLevels_20 (by decide) (fun c_70 => absurd c_70 (by decide)) (fun c_70 => ?_)
  refine lv_aload_n hx hb d_SSession_clearLevels_23 rfl (lv_at hl 2 rfl) ?_
  refine va_get (D := (dC, dI)) (ci := 11) (v := .ref e5) (C := R_SSession) (T := F_SSession) (N := 18) hx hb hts (i_SSession _) hown hK hP 0 rfl rfl 5 (by decide) (hts _ (List.mem_cons_of_mem _ q_795)) (fun _ h9 => h9) rfl d_SSession_clearLevels_24 ?_
  refine lv_iload_n hx hb d_SSession_clearLevels_27 rfl (lv_at hl 1 rfl) ?_
  refine lv_bipush (v := 8) hx hb d_SSession_clearLevels_28 (by decide) ?_
  refine lv_imul hx hb d_SSession_clearLevels_30 ?_
  refine bx_top (y := 24) (by decide) ?_
  refine lv_iload_n hx hb d_SSession_clearLevels_31 rfl (lv_at hl 0 rfl) ?_
  refine lv_iadd hx hb d_SSession_clearLevels_32 ?_
  refine bx_top (y := 29) (by decide) ?_
  refine lv_iconst (v := 0) hx hb d_SSession_clearLevels_33 (by decide) ?_
  refine va_iast hx hb hK hP hD hS 2 1 (i := 29) (x := 0) rfl rfl (vp_in_nI (n := 29) (by decide) (by decide)) d_SSession_clearLevels_34 (fun H locs hP hD hS => ?_)
  obtain ⟨f71, hP, hD⟩ : ∃ f71 : Nat → Int32, va_P (dC, dI) classes [(h0, .inr (11, [.int z1, .ref e1, .ref e2, .ref e3, .ref e4, .ref e5, .ref e6, .ref e7, .ref e8, .int 0, .int 1, .int 1, .int 0, .int 0, .int 0, .int (-1), .int 0, .int 0])), (e4, .inl (e9, 8, .inl f59)), (e5, .inl (e10, 64, .inl f71))] H ∧ va_D A [(h0, .inr (11, [.int z1, .ref e1, .ref e2, .ref e3, .ref e4, .ref e5, .ref e6, .ref e7, .ref e8, .int 0, .int 1, .int 1, .int 0, .int 0, .int 0, .int (-1), .int 0, .int 0])), (e4, .inl (e9, 8, .inl f59)), (e5, .inl (e10, 64, .inl f71))] := ⟨_, hP, hD⟩
  refine lv_iinc (v := 6) (lv' := [(3, .int 6), (2, .int 3), (0, .ref h0), (1, .int 0)]) hx hb d_SSession_clearLevels_35 hl (k := 0) rfl (by decide) (by decide) rfl (fun ls hl => ?_)
  refine lv_goto (tgt := 17) hx hb d_SSession_clearLevels_38 (by decide) ?_
  refine lv_iload_n hx hb d_SSession_clearLevels_17 rfl (lv_at hl 0 rfl) ?_
  refine lv_bipush (v := 8) hx hb d_SSession_clearLevels_18 (by decide) ?_
  refine lv_icmp_ge (tgt := 41) hx hb d_SSession_clearLevels_20 (by decide) (fun c_72 => absurd c_72 (by decide)) (fun c_72 => ?_)
  refine lv_aload_n hx hb d_SSession_clearLevels_23 rfl (lv_at hl 2 rfl) ?_
  refine va_get (D := (dC, dI)) (ci := 11) (v := .ref e5) (C := R_SSession) (T := F_SSession) (N := 18) hx hb hts (i_SSession _) hown hK hP 0 rfl rfl 5 (by decide) (hts _ (List.mem_cons_of_mem _ q_795)) (fun _ h9 => h9) rfl d_SSession_clearLevels_24 ?_
  refine lv_iload_n hx hb d_SSession_clearLevels_27 rfl (lv_at hl 1 rfl) ?_
  refine lv_bipush (v := 8) hx hb d_SSession_clearLevels_28 (by decide) ?_
  refine lv_imul hx hb d_SSession_clearLevels_30 ?_
  refine bx_top (y := 24) (by decide) ?_
  refine lv_iload_n hx hb d_SSession_clearLevels_31 rfl (lv_at hl 0 rfl) ?_
  refine lv_iadd hx hb d_SSession_clearLevels_32 ?_
  refine bx_top (y := 30) (by decide) ?_
  refine lv_iconst (v := 0) hx hb d_SSession_clearLevels_33 (by decide) ?_
  refine va_iast hx hb hK hP hD hS 2 1 (i := 30) (x := 0) rfl rfl (vp_in_nI (n := 30) (by decide) (by decide)) d_SSession_clearLevels_34 (fun H locs hP hD hS => ?_)
  obtain ⟨f73, hP, hD⟩ : ∃ f73 : Nat → Int32, va_P (dC, dI) classes [(h0, .inr (11, [.int z1, .ref e1, .ref e2, .ref e3, .ref e4, .ref e5, .ref e6, .ref e7, .ref e8, .int 0, .int 1, .int 1, .int 0, .int 0, .int 0, .int (-1), .int 0, .int 0])), (e4, .inl (e9, 8, .inl f59)), (e5, .inl (e10, 64, .inl f73))] H ∧ va_D A [(h0, .inr (11, [.int z1, .ref e1, .ref e2, .ref e3, .ref e4, .ref e5, .ref e6, .ref e7, .ref e8, .int 0, .int 1, .int 1, .int 0, .int 0, .int 0, .int (-1), .int 0, .int 0])), (e4, .inl (e9, 8, .inl f59)), (e5, .inl (e10, 64, .inl f73))] := ⟨_, hP, hD⟩
  refine lv_iinc (v := 7) (lv' := [(3, .int 7), (2, .int 3), (0, .ref h0), (1, .int 0)]) hx hb d_SSession_clearLevels_35 hl (k := 0) rfl (by decide) (by decide) rfl (fun ls hl => ?_)
  refine lv_goto (tgt := 17) hx hb d_SSession_clearLevels_38 (by decide) ?_
  refine lv_iload_n hx hb d_SSession_clearLevels_17 rfl (lv_at hl 0 rfl) ?_
  refine lv_bipush (v := 8) hx hb d_SSession_clearLevels_18 (by decide) ?_
  refine lv_icmp_ge (tgt := 41) hx hb d_SSession_clearLevels_20 (by decide) (fun c_74 => absurd c_74 (by decide)) (fun c_74 => ?_)
  refine lv_aload_n hx hb d_SSession_clearLevels_23 rfl (lv_at hl 2 rfl) ?_
  refine va_get (D := (dC, dI)) (ci := 11) (v := .ref e5) (C := R_SSession) (T := F_SSession) (N := 18) hx hb hts (i_SSession _) hown hK hP 0 rfl rfl 5 (by decide) (hts _ (List.mem_cons_of_mem _ q_795)) (fun _ h9 => h9) rfl d_SSession_clearLevels_24 ?_
  refine lv_iload_n hx hb d_SSession_clearLevels_27 rfl (lv_at hl 1 rfl) ?_
  refine lv_bipush (v := 8) hx hb d_SSession_clearLevels_28 (by decide) ?_
  refine lv_imul hx hb d_SSession_clearLevels_30 ?_
  refine bx_top (y := 24) (by decide) ?_
  refine lv_iload_n hx hb d_SSession_clearLevels_31 rfl (lv_at hl 0 rfl) ?_
  refine lv_iadd hx hb d_SSession_clearLevels_32 ?_
  refine bx_top (y := 31) (by decide) ?_
  refine lv_iconst (v := 0) hx hb d_SSession_clearLevels_33 (by decide) ?_
  refine va_iast hx hb hK hP hD hS 2 1 (i := 31) (x := 0) rfl rfl (vp_in_nI (n := 31) (by decide) (by decide)) d_SSession_clearLevels_34 (fun H locs hP hD hS => ?_)
  obtain ⟨f75, hP, hD⟩ : ∃ f75 : Nat → Int32, va_P (dC, dI) classes [(h0, .inr (11, [.int z1, .ref e1, .ref e2, .ref e3, .ref e4, .ref e5, .ref e6, .ref e7, .ref e8, .int 0, .int 1, .int 1, .int 0, .int 0, .int 0, .int (-1), .int 0, .int 0])), (e4, .inl (e9, 8, .inl f59)), (e5, .inl (e10, 64, .inl f75))] H ∧ va_D A [(h0, .inr (11, [.int z1, .ref e1, .ref e2, .ref e3, .ref e4, .ref e5, .ref e6, .ref e7, .ref e8, .int 0, .int 1, .int 1, .int 0, .int 0, .int 0, .int (-1), .int 0, .int 0])), (e4, .inl (e9, 8, .inl f59)), (e5, .inl (e10, 64, .inl f75))] := ⟨_, hP, hD⟩
  refine lv_iinc (v := 8) (lv' := [(3, .int 8), (2, .int 3), (0, .ref h0), (1, .int 0)]) hx hb d_SSession_clearLevels_35 hl (k := 0) rfl (by decide) (by decide) rfl (fun ls hl => ?_)
  refine lv_goto (tgt := 17) hx hb d_SSession_clearLevels_38 (by decide) ?_
  refine lv_iload_n hx hb d_SSession_clearLevels_17 rfl (lv_at hl 0 rfl) ?_
  refine lv_bipush (v := 8) hx hb d_SSession_clearLevels_18 (by decide) ?_
  refine lv_icmp_ge (tgt := 41) hx hb d_SSession_clearLevels_20 (by decide) (fun c_76 => ?_) (fun c_76 => absurd (by decide) c_76)
  refine lv_iinc (v := 4) (lv' := [(2, .int 4), (3, .int 8), (0, .ref h0), (1, .int 0)]) hx hb d_SSession_clearLevels_41 hl (k := 1) rfl (by decide) (by decide) rfl (fun ls hl => ?_)
  refine lv_goto (tgt := 2) hx hb d_SSession_clearLevels_44 (by decide) ?_
  refine lv_iload_n hx hb d_SSession_clearLevels_2 rfl (lv_at hl 0 rfl) ?_
  refine lv_bipush (v := 8) hx hb d_SSession_clearLevels_3 (by decide) ?_
  refine lv_icmp_ge (tgt := 47) hx hb d_SSession_clearLevels_5 (by decide) (fun c_77 => absurd c_77 (by decide)) (fun c_77 => ?_)
  refine lv_aload_n hx hb d_SSession_clearLevels_8 rfl (lv_at hl 2 rfl) ?_
  refine va_get (D := (dC, dI)) (ci := 11) (v := .ref e4) (C := R_SSession) (T := F_SSession) (N := 18) hx hb hts (i_SSession _) hown hK hP 0 rfl rfl 4 (by decide) (hts _ (List.mem_cons_of_mem _ q_792)) (fun _ h9 => h9) rfl d_SSession_clearLevels_9 ?_
  refine lv_iload_n hx hb d_SSession_clearLevels_12 rfl (lv_at hl 0 rfl) ?_
  refine lv_iconst (v := 0) hx hb d_SSession_clearLevels_13 (by decide) ?_
  refine va_iast hx hb hK hP hD hS 1 0 (i := 4) (x := 0) rfl rfl (vp_in_nI (n := 4) (by decide) (by decide)) d_SSession_clearLevels_14 (fun H locs hP hD hS => ?_)
  obtain ⟨f78, hP, hD⟩ : ∃ f78 : Nat → Int32, va_P (dC, dI) classes [(h0, .inr (11, [.int z1, .ref e1, .ref e2, .ref e3, .ref e4, .ref e5, .ref e6, .ref e7, .ref e8, .int 0, .int 1, .int 1, .int 0, .int 0, .int 0, .int (-1), .int 0, .int 0])), (e4, .inl (e9, 8, .inl f78)), (e5, .inl (e10, 64, .inl f75))] H ∧ va_D A [(h0, .inr (11, [.int z1, .ref e1, .ref e2, .ref e3, .ref e4, .ref e5, .ref e6, .ref e7, .ref e8, .int 0, .int 1, .int 1, .int 0, .int 0, .int 0, .int (-1), .int 0, .int 0])), (e4, .inl (e9, 8, .inl f78)), (e5, .inl (e10, 64, .inl f75))] := ⟨_, hP, hD⟩
  refine lv_iconst (v := 0) hx hb d_SSession_clearLevels_15 (by decide) ?_
  refine lv_istore_n (lv' := [(3, .int 0), (2, .int 4), (0, .ref h0), (1, .int 0)]) hx hb d_SSession_clearLevels_16 rfl hl (by decide) rfl (fun ls hl => ?_)
  refine lv_iload_n hx hb d_SSession_clearLevels_17 rfl (lv_at hl 0 rfl) ?_
  refine lv_bipush (v := 8) hx hb d_SSession_clearLevels_18 (by decide) ?_
  refine lv_icmp_ge (tgt := 41) hx hb d_SSession_clearLevels_20 (by decide) (fun c_79 => absurd c_79 (by decide)) (fun c_79 => ?_)
  refine lv_aload_n hx hb d_SSession_clearLevels_23 rfl (lv_at hl 2 rfl) ?_
  refine va_get (D := (dC, dI)) (ci := 11) (v := .ref e5) (C := R_SSession) (T := F_SSession) (N := 18) hx hb hts (i_SSession _) hown hK hP 0 rfl rfl 5 (by decide) (hts _ (List.mem_cons_of_mem _ q_795)) (fun _ h9 => h9) rfl d_SSession_clearLevels_24 ?_
  refine lv_iload_n hx hb d_SSession_clearLevels_27 rfl (lv_at hl 1 rfl) ?_
  refine lv_bipush (v := 8) hx hb d_SSession_clearLevels_28 (by decide) ?_
  refine lv_imul hx hb d_SSession_clearLevels_30 ?_
  refine bx_top (y := 32) (by decide) ?_
  refine lv_iload_n hx hb d_SSession_clearLevels_31 rfl (lv_at hl 0 rfl) ?_
  refine lv_iadd hx hb d_SSession_clearLevels_32 ?_
  refine bx_top (y := 32) (by decide) ?_
  refine lv_iconst (v := 0) hx hb d_SSession_clearLevels_33 (by decide) ?_
  refine va_iast hx hb hK hP hD hS 2 1 (i := 32) (x := 0) rfl rfl (vp_in_nI (n := 32) (by decide) (by decide)) d_SSession_clearLevels_34 (fun H locs hP hD hS => ?_)
  obtain ⟨f80, hP, hD⟩ : ∃ f80 : Nat → Int32, va_P (dC, dI) classes [(h0, .inr (11, [.int z1, .ref e1, .ref e2, .ref e3, .ref e4, .ref e5, .ref e6, .ref e7, .ref e8, .int 0, .int 1, .int 1, .int 0, .int 0, .int 0, .int (-1), .int 0, .int 0])), (e4, .inl (e9, 8, .inl f78)), (e5, .inl (e10, 64, .inl f80))] H ∧ va_D A [(h0, .inr (11, [.int z1, .ref e1, .ref e2, .ref e3, .ref e4, .ref e5, .ref e6, .ref e7, .ref e8, .int 0, .int 1, .int 1, .int 0, .int 0, .int 0, .int (-1), .int 0, .int 0])), (e4, .inl (e9, 8, .inl f78)), (e5, .inl (e10, 64, .inl f80))] := ⟨_, hP, hD⟩
  refine lv_iinc (v := 1) (lv' := [(3, .int 1), (2, .int 4), (0, .ref h0), (1, .int 0)]) hx hb d_SSession_clearLevels_35 hl (k := 0) rfl (by decide) (by decide) rfl (fun ls hl => ?_)
  refine lv_goto (tgt := 17) hx hb d_SSession_clearLevels_38 (by decide) ?_
  refine lv_iload_n hx hb d_SSession_clearLevels_17 rfl (lv_at hl 0 rfl) ?_
  refine lv_bipush (v := 8) hx hb d_SSession_clearLevels_18 (by decide) ?_
  refine lv_icmp_ge (tgt := 41) hx hb d_SSession_clearLevels_20 (by decide) (fun c_81 => absurd c_81 (by decide)) (fun c_81 => ?_)
  refine lv_aload_n hx hb d_SSession_clearLevels_23 rfl (lv_at hl 2 rfl) ?_
  refine va_get (D := (dC, dI)) (ci := 11) (v := .ref e5) (C := R_SSession) (T := F_SSession) (N := 18) hx hb hts (i_SSession _) hown hK hP 0 rfl rfl 5 (by decide) (hts _ (List.mem_cons_of_mem _ q_795)) (fun _ h9 => h9) rfl d_SSession_clearLevels_24 ?_
  refine lv_iload_n hx hb d_SSession_clearLevels_27 rfl (lv_at hl 1 rfl) ?_
  refine lv_bipush (v := 8) hx hb d_SSession_clearLevels_28 (by decide) ?_
  refine lv_imul hx hb d_SSession_clearLevels_30 ?_
  refine bx_top (y := 32) (by decide) ?_
  refine lv_iload_n hx hb d_SSession_clearLevels_31 rfl (lv_at hl 0 rfl) ?_
  refine lv_iadd hx hb d_SSession_clearLevels_32 ?_
  refine bx_top (y := 33) (by decide) ?_
  refine lv_iconst (v := 0) hx hb d_SSession_clearLevels_33 (by decide) ?_
  refine va_iast hx hb hK hP hD hS 2 1 (i := 33) (x := 0) rfl rfl (vp_in_nI (n := 33) (by decide) (by decide)) d_SSession_clearLevels_34 (fun H locs hP hD hS => ?_)
  obtain ⟨f82, hP, hD⟩ : ∃ f82 : Nat → Int32, va_P (dC, dI) classes [(h0, .inr (11, [.int z1, .ref e1, .ref e2, .ref e3, .ref e4, .ref e5, .ref e6, .ref e7, .ref e8, .int 0, .int 1, .int 1, .int 0, .int 0, .int 0, .int (-1), .int 0, .int 0])), (e4, .inl (e9, 8, .inl f78)), (e5, .inl (e10, 64, .inl f82))] H ∧ va_D A [(h0, .inr (11, [.int z1, .ref e1, .ref e2, .ref e3, .ref e4, .ref e5, .ref e6, .ref e7, .ref e8, .int 0, .int 1, .int 1, .int 0, .int 0, .int 0, .int (-1), .int 0, .int 0])), (e4, .inl (e9, 8, .inl f78)), (e5, .inl (e10, 64, .inl f82))] := ⟨_, hP, hD⟩
  refine lv_iinc (v := 2) (lv' := [(3, .int 2), (2, .int 4), (0, .ref h0), (1, .int 0)]) hx hb d_SSession_clearLevels_35 hl (k := 0) rfl (by decide) (by decide) rfl (fun ls hl => ?_)
  refine lv_goto (tgt := 17) hx hb d_SSession_clearLevels_38 (by decide) ?_
  refine lv_iload_n hx hb d_SSession_clearLevels_17 rfl (lv_at hl 0 rfl) ?_
  refine lv_bipush (v := 8) hx hb d_SSession_clearLevels_18 (by decide) ?_
  refine lv_icmp_ge (tgt := 41) hx hb d_SSession_clearLevels_20 (by decide) (fun c_83 => absurd c_83 (by decide)) (fun c_83 => ?_)
  refine lv_aload_n hx hb d_SSession_clearLevels_23 rfl (lv_at hl 2 rfl) ?_
  refine va_get (D := (dC, dI)) (ci := 11) (v := .ref e5) (C := R_SSession) (T := F_SSession) (N := 18) hx hb hts (i_SSession _) hown hK hP 0 rfl rfl 5 (by decide) (hts _ (List.mem_cons_of_mem _ q_795)) (fun _ h9 => h9) rfl d_SSession_clearLevels_24 ?_
  refine lv_iload_n hx hb d_SSession_clearLevels_27 rfl (lv_at hl 1 rfl) ?_
  refine lv_bipush (v := 8) hx hb d_SSession_clearLevels_28 (by decide) ?_
  refine lv_imul hx hb d_SSession_clearLevels_30 ?_
  refine bx_top (y := 32) (by decide) ?_
  refine lv_iload_n hx hb d_SSession_clearLevels_31 rfl (lv_at hl 0 rfl) ?_
  refine lv_iadd hx hb d_SSession_clearLevels_32 ?_
  refine bx_top (y := 34) (by decide) ?_
  refine lv_iconst (v := 0) hx hb d_SSession_clearLevels_33 (by decide) ?_
  refine va_iast hx hb hK hP hD hS 2 1 (i := 34) (x := 0) rfl rfl (vp_in_nI (n := 34) (by decide) (by decide)) d_SSession_clearLevels_34 (fun H locs hP hD hS => ?_)
  obtain ⟨f84, hP, hD⟩ : ∃ f84 : Nat → Int32, va_P (dC, dI) classes [(h0, .inr (11, [.int z1, .ref e1, .ref e2, .ref e3, .ref e4, .ref e5, .ref e6, .ref e7, .ref e8, .int 0, .int 1, .int 1, .int 0, .int 0, .int 0, .int (-1), .int 0, .int 0])), (e4, .inl (e9, 8, .inl f78)), (e5, .inl (e10, 64, .inl f84))] H ∧ va_D A [(h0, .inr (11, [.int z1, .ref e1, .ref e2, .ref e3, .ref e4, .ref e5, .ref e6, .ref e7, .ref e8, .int 0, .int 1, .int 1, .int 0, .int 0, .int 0, .int (-1), .int 0, .int 0])), (e4, .inl (e9, 8, .inl f78)), (e5, .inl (e10, 64, .inl f84))] := ⟨_, hP, hD⟩
  refine lv_iinc (v := 3) (lv' := [(3, .int 3), (2, .int 4), (0, .ref h0), (1, .int 0)]) hx hb d_SSession_clearLevels_35 hl (k := 0) rfl (by decide) (by decide) rfl (fun ls hl => ?_)
  refine lv_goto (tgt := 17) hx hb d_SSession_clearLevels_38 (by decide) ?_
  refine lv_iload_n hx hb d_SSession_clearLevels_17 rfl (lv_at hl 0 rfl) ?_
  refine lv_bipush (v := 8) hx hb d_SSession_clearLevels_18 (by decide) ?_
  refine lv_icmp_ge (tgt := 41) hx hb d_SSession_clearLevels_20 (by decide) (fun c_85 => absurd c_85 (by decide)) (fun c_85 => ?_)
  refine lv_aload_n hx hb d_SSession_clearLevels_23 rfl (lv_at hl 2 rfl) ?_
  refine va_get (D := (dC, dI)) (ci := 11) (v := .ref e5) (C := R_SSession) (T := F_SSession) (N := 18) hx hb hts (i_SSession _) hown hK hP 0 rfl rfl 5 (by decide) (hts _ (List.mem_cons_of_mem _ q_795)) (fun _ h9 => h9) rfl d_SSession_clearLevels_24 ?_
  refine lv_iload_n hx hb d_SSession_clearLevels_27 rfl (lv_at hl 1 rfl) ?_
  refine lv_bipush (v := 8) hx hb d_SSession_clearLevels_28 (by decide) ?_
  refine lv_imul hx hb d_SSession_clearLevels_30 ?_
  refine bx_top (y := 32) (by decide) ?_
  refine lv_iload_n hx hb d_SSession_clearLevels_31 rfl (lv_at hl 0 rfl) ?_
  refine lv_iadd hx hb d_SSession_clearLevels_32 ?_
  refine bx_top (y := 35) (by decide) ?_
  refine lv_iconst (v := 0) hx hb d_SSession_clearLevels_33 (by decide) ?_
  refine va_iast hx hb hK hP hD hS 2 1 (i := 35) (x := 0) rfl rfl (vp_in_nI (n := 35) (by decide) (by decide)) d_SSession_clearLevels_34 (fun H locs hP hD hS => ?_)
  obtain ⟨f86, hP, hD⟩ : ∃ f86 : Nat → Int32, va_P (dC, dI) classes [(h0, .inr (11, [.int z1, .ref e1, .ref e2, .ref e3, .ref e4, .ref e5, .ref e6, .ref e7, .ref e8, .int 0, .int 1, .int 1, .int 0, .int 0, .int 0, .int (-1), .int 0, .int 0])), (e4, .inl (e9, 8, .inl f78)), (e5, .inl (e10, 64, .inl f86))] H ∧ va_D A [(h0, .inr (11, [.int z1, .ref e1, .ref e2, .ref e3, .ref e4, .ref e5, .ref e6, .ref e7, .ref e8, .int 0, .int 1, .int 1, .int 0, .int 0, .int 0, .int (-1), .int 0, .int 0])), (e4, .inl (e9, 8, .inl f78)), (e5, .inl (e10, 64, .inl f86))] := ⟨_, hP, hD⟩
  refine lv_iinc (v := 4) (lv' := [(3, .int 4), (2, .int 4), (0, .ref h0), (1, .int 0)]) hx hb d_SSession_clearLevels_35 hl (k := 0) rfl (by decide) (by decide) rfl (fun ls hl => ?_)
  refine lv_goto (tgt := 17) hx hb d_SSession_clearLevels_38 (by decide) ?_
  refine lv_iload_n hx hb d_SSession_clearLevels_17 rfl (lv_at hl 0 rfl) ?_
  refine lv_bipush (v := 8) hx hb d_SSession_clearLevels_18 (by decide) ?_
  refine lv_icmp_ge (tgt := 41) hx hb d_SSession_clearLevels_20 (by decide) (fun c_87 => absurd c_87 (by decide)) (fun c_87 => ?_)
  refine lv_aload_n hx hb d_SSession_clearLevels_23 rfl (lv_at hl 2 rfl) ?_
  refine va_get (D := (dC, dI)) (ci := 11) (v := .ref e5) (C := R_SSession) (T := F_SSession) (N := 18) hx hb hts (i_SSession _) hown hK hP 0 rfl rfl 5 (by decide) (hts _ (List.mem_cons_of_mem _ q_795)) (fun _ h9 => h9) rfl d_SSession_clearLevels_24 ?_
  refine lv_iload_n hx hb d_SSession_clearLevels_27 rfl (lv_at hl 1 rfl) ?_
  refine lv_bipush (v := 8) hx hb d_SSession_clearLevels_28 (by decide) ?_
  refine lv_imul hx hb d_SSession_clearLevels_30 ?_
  refine bx_top (y := 32) (by decide) ?_
  refine lv_iload_n hx hb d_SSession_clearLevels_31 rfl (lv_at hl 0 rfl) ?_
  refine lv_iadd hx hb d_SSession_clearLevels_32 ?_
  refine bx_top (y := 36) (by decide) ?_
  refine lv_iconst (v := 0) hx hb d_SSession_clearLevels_33 (by decide) ?_
  refine va_iast hx hb hK hP hD hS 2 1 (i := 36) (x := 0) rfl rfl (vp_in_nI (n := 36) (by decide) (by decide)) d_SSession_clearLevels_34 (fun H locs hP hD hS => ?_)
  obtain ⟨f88, hP, hD⟩ : ∃ f88 : Nat → Int32, va_P (dC, dI) classes [(h0, .inr (11, [.int z1, .ref e1, .ref e2, .ref e3, .ref e4, .ref e5, .ref e6, .ref e7, .ref e8, .int 0, .int 1, .int 1, .int 0, .int 0, .int 0, .int (-1), .int 0, .int 0])), (e4, .inl (e9, 8, .inl f78)), (e5, .inl (e10, 64, .inl f88))] H ∧ va_D A [(h0, .inr (11, [.int z1, .ref e1, .ref e2, .ref e3, .ref e4, .ref e5, .ref e6, .ref e7, .ref e8, .int 0, .int 1, .int 1, .int 0, .int 0, .int 0, .int (-1), .int 0, .int 0])), (e4, .inl (e9, 8, .inl f78)), (e5, .inl (e10, 64, .inl f88))] := ⟨_, hP, hD⟩
  refine lv_iinc (v := 5) (lv' := [(3, .int 5), (2, .int 4), (0, .ref h0), (1, .int 0)]) hx hb d_SSession_clearLevels_35 hl (k := 0) rfl (by decide) (by decide) rfl (fun ls hl => ?_)
  refine lv_goto (tgt := 17) hx hb d_SSession_clearLevels_38 (by decide) ?_
  refine lv_iload_n hx hb d_SSession_clearLevels_17 rfl (lv_at hl 0 rfl) ?_
  refine lv_bipush (v := 8) hx hb d_SSession_clearLevels_18 (by decide) ?_
  refine lv_icmp_ge (tgt := 41) hx hb d_SSession_clearLevels_20 (by decide) (fun c_89 => absurd c_89 (by decide)) (fun c_89 => ?_)
  refine lv_aload_n hx hb d_SSession_clearLevels_23 rfl (lv_at hl 2 rfl) ?_
  refine va_get (D := (dC, dI)) (ci := 11) (v := .ref e5) (C := R_SSession) (T := F_SSession) (N := 18) hx hb hts (i_SSession _) hown hK hP 0 rfl rfl 5 (by decide) (hts _ (List.mem_cons_of_mem _ q_795)) (fun _ h9 => h9) rfl d_SSession_clearLevels_24 ?_
  refine lv_iload_n hx hb d_SSession_clearLevels_27 rfl (lv_at hl 1 rfl) ?_
  refine lv_bipush (v := 8) hx hb d_SSession_clearLevels_28 (by decide) ?_
  refine lv_imul hx hb d_SSession_clearLevels_30 ?_
  refine bx_top (y := 32) (by decide) ?_
  refine lv_iload_n hx hb d_SSession_clearLevels_31 rfl (lv_at hl 0 rfl) ?_
  refine lv_iadd hx hb d_SSession_clearLevels_32 ?_
  refine bx_top (y := 37) (by decide) ?_
  refine lv_iconst (v := 0) hx hb d_SSession_clearLevels_33 (by decide) ?_
  refine va_iast hx hb hK hP hD hS 2 1 (i := 37) (x := 0) rfl rfl (vp_in_nI (n := 37) (by decide) (by decide)) d_SSession_clearLevels_34 (fun H locs hP hD hS => ?_)
  obtain ⟨f90, hP, hD⟩ : ∃ f90 : Nat → Int32, va_P (dC, dI) classes [(h0, .inr (11, [.int z1, .ref e1, .ref e2, .ref e3, .ref e4, .ref e5, .ref e6, .ref e7, .ref e8, .int 0, .int 1, .int 1, .int 0, .int 0, .int 0, .int (-1), .int 0, .int 0])), (e4, .inl (e9, 8, .inl f78)), (e5, .inl (e10, 64, .inl f90))] H ∧ va_D A [(h0, .inr (11, [.int z1, .ref e1, .ref e2, .ref e3, .ref e4, .ref e5, .ref e6, .ref e7, .ref e8, .int 0, .int 1, .int 1, .int 0, .int 0, .int 0, .int (-1), .int 0, .int 0])), (e4, .inl (e9, 8, .inl f78)), (e5, .inl (e10, 64, .inl f90))] := ⟨_, hP, hD⟩
  refine lv_iinc (v := 6) (lv' := [(3, .int 6), (2, .int 4), (0, .ref h0), (1, .int 0)]) hx hb d_SSession_clearLevels_35 hl (k := 0) rfl (by decide) (by decide) rfl (fun ls hl => ?_)
  refine lv_goto (tgt := 17) hx hb d_SSession_clearLevels_38 (by decide) ?_
  refine lv_iload_n hx hb d_SSession_clearLevels_17 rfl (lv_at hl 0 rfl) ?_
  refine lv_bipush (v := 8) hx hb d_SSession_clearLevels_18 (by decide) ?_
  refine lv_icmp_ge (tgt := 41) hx hb d_SSession_clearLevels_20 (by decide) (fun c_91 => absurd c_91 (by decide)) (fun c_91 => ?_)
  refine lv_aload_n hx hb d_SSession_clearLevels_23 rfl (lv_at hl 2 rfl) ?_
  refine va_get (D := (dC, dI)) (ci := 11) (v := .ref e5) (C := R_SSession) (T := F_SSession) (N := 18) hx hb hts (i_SSession _) hown hK hP 0 rfl rfl 5 (by decide) (hts _ (List.mem_cons_of_mem _ q_795)) (fun _ h9 => h9) rfl d_SSession_clearLevels_24 ?_
  refine lv_iload_n hx hb d_SSession_clearLevels_27 rfl (lv_at hl 1 rfl) ?_
  refine lv_bipush (v := 8) hx hb d_SSession_clearLevels_28 (by decide) ?_
  refine lv_imul hx hb d_SSession_clearLevels_30 ?_
  refine bx_top (y := 32) (by decide) ?_
  refine lv_iload_n hx hb d_SSession_clearLevels_31 rfl (lv_at hl 0 rfl) ?_
  refine lv_iadd hx hb d_SSession_clearLevels_32 ?_
  refine bx_top (y := 38) (by decide) ?_
  refine lv_iconst (v := 0) hx hb d_SSession_clearLevels_33 (by decide) ?_
  refine va_iast hx hb hK hP hD hS 2 1 (i := 38) (x := 0) rfl rfl (vp_in_nI (n := 38) (by decide) (by decide)) d_SSession_clearLevels_34 (fun H locs hP hD hS => ?_)
  obtain ⟨f92, hP, hD⟩ : ∃ f92 : Nat → Int32, va_P (dC, dI) classes [(h0, .inr (11, [.int z1, .ref e1, .ref e2, .ref e3, .ref e4, .ref e5, .ref e6, .ref e7, .ref e8, .int 0, .int 1, .int 1, .int 0, .int 0, .int 0, .int (-1), .int 0, .int 0])), (e4, .inl (e9, 8, .inl f78)), (e5, .inl (e10, 64, .inl f92))] H ∧ va_D A [(h0, .inr (11, [.int z1, .ref e1, .ref e2, .ref e3, .ref e4, .ref e5, .ref e6, .ref e7, .ref e8, .int 0, .int 1, .int 1, .int 0, .int 0, .int 0, .int (-1), .int 0, .int 0])), (e4, .inl (e9, 8, .inl f78)), (e5, .inl (e10, 64, .inl f92))] := ⟨_, hP, hD⟩
  refine lv_iinc (v := 7) (lv' := [(3, .int 7), (2, .int 4), (0, .ref h0), (1, .int 0)]) hx hb d_SSession_clearLevels_35 hl (k := 0) rfl (by decide) (by decide) rfl (fun ls hl => ?_)
  refine lv_goto (tgt := 17) hx hb d_SSession_clearLevels_38 (by decide) ?_
  refine lv_iload_n hx hb d_SSession_clearLevels_17 rfl (lv_at hl 0 rfl) ?_
  refine lv_bipush (v := 8) hx hb d_SSession_clearLevels_18 (by decide) ?_
  refine lv_icmp_ge (tgt := 41) hx hb d_SSession_clearLevels_20 (by decide) (fun c_93 => absurd c_93 (by decide)) (fun c_93 => ?_)
  refine lv_aload_n hx hb d_SSession_clearLevels_23 rfl (lv_at hl 2 rfl) ?_
  refine va_get (D := (dC, dI)) (ci := 11) (v := .ref e5) (C := R_SSession) (T := F_SSession) (N := 18) hx hb hts (i_SSession _) hown hK hP 0 rfl rfl 5 (by decide) (hts _ (List.mem_cons_of_mem _ q_795)) (fun _ h9 => h9) rfl d_SSession_clearLevels_24 ?_
  refine lv_iload_n hx hb d_SSession_clearLevels_27 rfl (lv_at hl 1 rfl) ?_
  refine lv_bipush (v := 8) hx hb d_SSession_clearLevels_28 (by decide) ?_
  refine lv_imul hx hb d_SSession_clearLevels_30 ?_
  refine bx_top (y := 32) (by decide) ?_
  refine lv_iload_n hx hb d_SSession_clearLevels_31 rfl (lv_at hl 0 rfl) ?_
  refine lv_iadd hx hb d_SSession_clearLevels_32 ?_
  refine bx_top (y := 39) (by decide) ?_
  refine lv_iconst (v := 0) hx hb d_SSession_clearLevels_33 (by decide) ?_
  refine va_iast hx hb hK hP hD hS 2 1 (i := 39) (x := 0) rfl rfl (vp_in_nI (n := 39) (by decide) (by decide)) d_SSession_clearLevels_34 (fun H locs hP hD hS => ?_)
  obtain ⟨f94, hP, hD⟩ : ∃ f94 : Nat → Int32, va_P (dC, dI) classes [(h0, .inr (11, [.int z1, .ref e1, .ref e2, .ref e3, .ref e4, .ref e5, .ref e6, .ref e7, .ref e8, .int 0, .int 1, .int 1, .int 0, .int 0, .int 0, .int (-1), .int 0, .int 0])), (e4, .inl (e9, 8, .inl f78)), (e5, .inl (e10, 64, .inl f94))] H ∧ va_D A [(h0, .inr (11, [.int z1, .ref e1, .ref e2, .ref e3, .ref e4, .ref e5, .ref e6, .ref e7, .ref e8, .int 0, .int 1, .int 1, .int 0, .int 0, .int 0, .int (-1), .int 0, .int 0])), (e4, .inl (e9, 8, .inl f78)), (e5, .inl (e10, 64, .inl f94))] := ⟨_, hP, hD⟩
  refine lv_iinc (v := 8) (lv' := [(3, .int 8), (2, .int 4), (0, .ref h0), (1, .int 0)]) hx hb d_SSession_clearLevels_35 hl (k := 0) rfl (by decide) (by decide) rfl (fun ls hl => ?_)
  refine lv_goto (tgt := 17) hx hb d_SSession_clearLevels_38 (by decide) ?_
  refine lv_iload_n hx hb d_SSession_clearLevels_17 rfl (lv_at hl 0 rfl) ?_
  refine lv_bipush (v := 8) hx hb d_SSession_clearLevels_18 (by decide) ?_
  refine lv_icmp_ge (tgt := 41) hx hb d_SSession_clearLevels_20 (by decide) (fun c_95 => ?_) (fun c_95 => absurd (by decide) c_95)
  refine lv_iinc (v := 5) (lv' := [(2, .int 5), (3, .int 8), (0, .ref h0), (1, .int 0)]) hx hb d_SSession_clearLevels_41 hl (k := 1) rfl (by decide) (by decide) rfl (fun ls hl => ?_)
  refine lv_goto (tgt := 2) hx hb d_SSession_clearLevels_44 (by decide) ?_
  refine lv_iload_n hx hb d_SSession_clearLevels_2 rfl (lv_at hl 0 rfl) ?_
  refine lv_bipush (v := 8) hx hb d_SSession_clearLevels_3 (by decide) ?_
  refine lv_icmp_ge (tgt := 47) hx hb d_SSession_clearLevels_5 (by decide) (fun c_96 => absurd c_96 (by decide)) (fun c_96 => ?_)
  refine lv_aload_n hx hb d_SSession_clearLevels_8 rfl (lv_at hl 2 rfl) ?_
  refine va_get (D := (dC, dI)) (ci := 11) (v := .ref e4) (C := R_SSession) (T := F_SSession) (N := 18) hx hb hts (i_SSession _) hown hK hP 0 rfl rfl 4 (by decide) (hts _ (List.mem_cons_of_mem _ q_792)) (fun _ h9 => h9) rfl d_SSession_clearLevels_9 ?_
  refine lv_iload_n hx hb d_SSession_clearLevels_12 rfl (lv_at hl 0 rfl) ?_
  refine lv_iconst (v := 0) hx hb d_SSession_clearLevels_13 (by decide) ?_
  refine va_iast hx hb hK hP hD hS 1 0 (i := 5) (x := 0) rfl rfl (vp_in_nI (n := 5) (by decide) (by decide)) d_SSession_clearLevels_14 (fun H locs hP hD hS => ?_)
  obtain ⟨f97, hP, hD⟩ : ∃ f97 : Nat → Int32, va_P (dC, dI) classes [(h0, .inr (11, [.int z1, .ref e1, .ref e2, .ref e3, .ref e4, .ref e5, .ref e6, .ref e7, .ref e8, .int 0, .int 1, .int 1, .int 0, .int 0, .int 0, .int (-1), .int 0, .int 0])), (e4, .inl (e9, 8, .inl f97)), (e5, .inl (e10, 64, .inl f94))] H ∧ va_D A [(h0, .inr (11, [.int z1, .ref e1, .ref e2, .ref e3, .ref e4, .ref e5, .ref e6, .ref e7, .ref e8, .int 0, .int 1, .int 1, .int 0, .int 0, .int 0, .int (-1), .int 0, .int 0])), (e4, .inl (e9, 8, .inl f97)), (e5, .inl (e10, 64, .inl f94))] := ⟨_, hP, hD⟩
  refine lv_iconst (v := 0) hx hb d_SSession_clearLevels_15 (by decide) ?_
  refine lv_istore_n (lv' := [(3, .int 0), (2, .int 5), (0, .ref h0), (1, .int 0)]) hx hb d_SSession_clearLevels_16 rfl hl (by decide) rfl (fun ls hl => ?_)
  refine lv_iload_n hx hb d_SSession_clearLevels_17 rfl (lv_at hl 0 rfl) ?_
  refine lv_bipush (v := 8) hx hb d_SSession_clearLevels_18 (by decide) ?_
  refine lv_icmp_ge (tgt := 41) hx hb d_SSession_clearLevels_20 (by decide) (fun c_98 => absurd c_98 (by decide)) (fun c_98 => ?_)
  refine lv_aload_n hx hb d_SSession_clearLevels_23 rfl (lv_at hl 2 rfl) ?_
  refine va_get (D := (dC, dI)) (ci := 11) (v := .ref e5) (C := R_SSession) (T := F_SSession) (N := 18) hx hb hts (i_SSession _) hown hK hP 0 rfl rfl 5 (by decide) (hts _ (List.mem_cons_of_mem _ q_795)) (fun _ h9 => h9) rfl d_SSession_clearLevels_24 ?_
  refine lv_iload_n hx hb d_SSession_clearLevels_27 rfl (lv_at hl 1 rfl) ?_
  refine lv_bipush (v := 8) hx hb d_SSession_clearLevels_28 (by decide) ?_
  refine lv_imul hx hb d_SSession_clearLevels_30 ?_
  refine bx_top (y := 40) (by decide) ?_
  refine lv_iload_n hx hb d_SSession_clearLevels_31 rfl (lv_at hl 0 rfl) ?_
  refine lv_iadd hx hb d_SSession_clearLevels_32 ?_
  refine bx_top (y := 40) (by decide) ?_
  refine lv_iconst (v := 0) hx hb d_SSession_clearLevels_33 (by decide) ?_
  refine va_iast hx hb hK hP hD hS 2 1 (i := 40) (x := 0) rfl rfl (vp_in_nI (n := 40) (by decide) (by decide)) d_SSession_clearLevels_34 (fun H locs hP hD hS => ?_)
  obtain ⟨f99, hP, hD⟩ : ∃ f99 : Nat → Int32, va_P (dC, dI) classes [(h0, .inr (11, [.int z1, .ref e1, .ref e2, .ref e3, .ref e4, .ref e5, .ref e6, .ref e7, .ref e8, .int 0, .int 1, .int 1, .int 0, .int 0, .int 0, .int (-1), .int 0, .int 0])), (e4, .inl (e9, 8, .inl f97)), (e5, .inl (e10, 64, .inl f99))] H ∧ va_D A [(h0, .inr (11, [.int z1, .ref e1, .ref e2, .ref e3, .ref e4, .ref e5, .ref e6, .ref e7, .ref e8, .int 0, .int 1, .int 1, .int 0, .int 0, .int 0, .int (-1), .int 0, .int 0])), (e4, .inl (e9, 8, .inl f97)), (e5, .inl (e10, 64, .inl f99))] := ⟨_, hP, hD⟩
  refine lv_iinc (v := 1) (lv' := [(3, .int 1), (2, .int 5), (0, .ref h0), (1, .int 0)]) hx hb d_SSession_clearLevels_35 hl (k := 0) rfl (by decide) (by decide) rfl (fun ls hl => ?_)
  refine lv_goto (tgt := 17) hx hb d_SSession_clearLevels_38 (by decide) ?_
  refine lv_iload_n hx hb d_SSession_clearLevels_17 rfl (lv_at hl 0 rfl) ?_
  refine lv_bipush (v := 8) hx hb d_SSession_clearLevels_18 (by decide) ?_
  refine lv_icmp_ge (tgt := 41) hx hb d_SSession_clearLevels_20 (by decide) (fun c_100 => absurd c_100 (by decide)) (fun c_100 => ?_)
  refine lv_aload_n hx hb d_SSession_clearLevels_23 rfl (lv_at hl 2 rfl) ?_
  refine va_get (D := (dC, dI)) (ci := 11) (v := .ref e5) (C := R_SSession) (T := F_SSession) (N := 18) hx hb hts (i_SSession _) hown hK hP 0 rfl rfl 5 (by decide) (hts _ (List.mem_cons_of_mem _ q_795)) (fun _ h9 => h9) rfl d_SSession_clearLevels_24 ?_
  refine lv_iload_n hx hb d_SSession_clearLevels_27 rfl (lv_at hl 1 rfl) ?_
  refine lv_bipush (v := 8) hx hb d_SSession_clearLevels_28 (by decide) ?_
  refine lv_imul hx hb d_SSession_clearLevels_30 ?_
  refine bx_top (y := 40) (by decide) ?_
  refine lv_iload_n hx hb d_SSession_clearLevels_31 rfl (lv_at hl 0 rfl) ?_
  refine lv_iadd hx hb d_SSession_clearLevels_32 ?_
  refine bx_top (y := 41) (by decide) ?_
  refine lv_iconst (v := 0) hx hb d_SSession_clearLevels_33 (by decide) ?_
  refine va_iast hx hb hK hP hD hS 2 1 (i := 41) (x := 0) rfl rfl (vp_in_nI (n := 41) (by decide) (by decide)) d_SSession_clearLevels_34 (fun H locs hP hD hS => ?_)
  obtain ⟨f101, hP, hD⟩ : ∃ f101 : Nat → Int32, va_P (dC, dI) classes [(h0, .inr (11, [.int z1, .ref e1, .ref e2, .ref e3, .ref e4, .ref e5, .ref e6, .ref e7, .ref e8, .int 0, .int 1, .int 1, .int 0, .int 0, .int 0, .int (-1), .int 0, .int 0])), (e4, .inl (e9, 8, .inl f97)), (e5, .inl (e10, 64, .inl f101))] H ∧ va_D A [(h0, .inr (11, [.int z1, .ref e1, .ref e2, .ref e3, .ref e4, .ref e5, .ref e6, .ref e7, .ref e8, .int 0, .int 1, .int 1, .int 0, .int 0, .int 0, .int (-1), .int 0, .int 0])), (e4, .inl (e9, 8, .inl f97)), (e5, .inl (e10, 64, .inl f101))] := ⟨_, hP, hD⟩
  refine lv_iinc (v := 2) (lv' := [(3, .int 2), (2, .int 5), (0, .ref h0), (1, .int 0)]) hx hb d_SSession_clearLevels_35 hl (k := 0) rfl (by decide) (by decide) rfl (fun ls hl => ?_)
  refine lv_goto (tgt := 17) hx hb d_SSession_clearLevels_38 (by decide) ?_
  refine lv_iload_n hx hb d_SSession_clearLevels_17 rfl (lv_at hl 0 rfl) ?_
  refine lv_bipush (v := 8) hx hb d_SSession_clearLevels_18 (by decide) ?_
  refine lv_icmp_ge (tgt := 41) hx hb d_SSession_clearLevels_20 (by decide) (fun c_102 => absurd c_102 (by decide)) (fun c_102 => ?_)
  refine lv_aload_n hx hb d_SSession_clearLevels_23 rfl (lv_at hl 2 rfl) ?_
  refine va_get (D := (dC, dI)) (ci := 11) (v := .ref e5) (C := R_SSession) (T := F_SSession) (N := 18) hx hb hts (i_SSession _) hown hK hP 0 rfl rfl 5 (by decide) (hts _ (List.mem_cons_of_mem _ q_795)) (fun _ h9 => h9) rfl d_SSession_clearLevels_24 ?_
  refine lv_iload_n hx hb d_SSession_clearLevels_27 rfl (lv_at hl 1 rfl) ?_
  refine lv_bipush (v := 8) hx hb d_SSession_clearLevels_28 (by decide) ?_
  refine lv_imul hx hb d_SSession_clearLevels_30 ?_
  refine bx_top (y := 40) (by decide) ?_
  refine lv_iload_n hx hb d_SSession_clearLevels_31 rfl (lv_at hl 0 rfl) ?_
  refine lv_iadd hx hb d_SSession_clearLevels_32 ?_
  refine bx_top (y := 42) (by decide) ?_
  refine lv_iconst (v := 0) hx hb d_SSession_clearLevels_33 (by decide) ?_
  refine va_iast hx hb hK hP hD hS 2 1 (i := 42) (x := 0) rfl rfl (vp_in_nI (n := 42) (by decide) (by decide)) d_SSession_clearLevels_34 (fun H locs hP hD hS => ?_)
  obtain ⟨f103, hP, hD⟩ : ∃ f103 : Nat → Int32, va_P (dC, dI) classes [(h0, .inr (11, [.int z1, .ref e1, .ref e2, .ref e3, .ref e4, .ref e5, .ref e6, .ref e7, .ref e8, .int 0, .int 1, .int 1, .int 0, .int 0, .int 0, .int (-1), .int 0, .int 0])), (e4, .inl (e9, 8, .inl f97)), (e5, .inl (e10, 64, .inl f103))] H ∧ va_D A [(h0, .inr (11, [.int z1, .ref e1, .ref e2, .ref e3, .ref e4, .ref e5, .ref e6, .ref e7, .ref e8, .int 0, .int 1, .int 1, .int 0, .int 0, .int 0, .int (-1), .int 0, .int 0])), (e4, .inl (e9, 8, .inl f97)), (e5, .inl (e10, 64, .inl f103))] := ⟨_, hP, hD⟩
  refine lv_iinc (v := 3) (lv' := [(3, .int 3), (2, .int 5), (0, .ref h0), (1, .int 0)]) hx hb d_SSession_clearLevels_35 hl (k := 0) rfl (by decide) (by decide) rfl (fun ls hl => ?_)
  refine lv_goto (tgt := 17) hx hb d_SSession_clearLevels_38 (by decide) ?_
  refine lv_iload_n hx hb d_SSession_clearLevels_17 rfl (lv_at hl 0 rfl) ?_
  refine lv_bipush (v := 8) hx hb d_SSession_clearLevels_18 (by decide) ?_
  refine lv_icmp_ge (tgt := 41) hx hb d_SSession_clearLevels_20 (by decide) (fun c_104 => absurd c_104 (by decide)) (fun c_104 => ?_)
  refine lv_aload_n hx hb d_SSession_clearLevels_23 rfl (lv_at hl 2 rfl) ?_
  refine va_get (D := (dC, dI)) (ci := 11) (v := .ref e5) (C := R_SSession) (T := F_SSession) (N := 18) hx hb hts (i_SSession _) hown hK hP 0 rfl rfl 5 (by decide) (hts _ (List.mem_cons_of_mem _ q_795)) (fun _ h9 => h9) rfl d_SSession_clearLevels_24 ?_
  refine lv_iload_n hx hb d_SSession_clearLevels_27 rfl (lv_at hl 1 rfl) ?_
  refine lv_bipush (v := 8) hx hb d_SSession_clearLevels_28 (by decide) ?_
  refine lv_imul hx hb d_SSession_clearLevels_30 ?_
  refine bx_top (y := 40) (by decide) ?_
  refine lv_iload_n hx hb d_SSession_clearLevels_31 rfl (lv_at hl 0 rfl) ?_
  refine lv_iadd hx hb d_SSession_clearLevels_32 ?_
  refine bx_top (y := 43) (by decide) ?_
  refine lv_iconst (v := 0) hx hb d_SSession_clearLevels_33 (by decide) ?_
  refine va_iast hx hb hK hP hD hS 2 1 (i := 43) (x := 0) rfl rfl (vp_in_nI (n := 43) (by decide) (by decide)) d_SSession_clearLevels_34 (fun H locs hP hD hS => ?_)
  obtain ⟨f105, hP, hD⟩ : ∃ f105 : Nat → Int32, va_P (dC, dI) classes [(h0, .inr (11, [.int z1, .ref e1, .ref e2, .ref e3, .ref e4, .ref e5, .ref e6, .ref e7, .ref e8, .int 0, .int 1, .int 1, .int 0, .int 0, .int 0, .int (-1), .int 0, .int 0])), (e4, .inl (e9, 8, .inl f97)), (e5, .inl (e10, 64, .inl f105))] H ∧ va_D A [(h0, .inr (11, [.int z1, .ref e1, .ref e2, .ref e3, .ref e4, .ref e5, .ref e6, .ref e7, .ref e8, .int 0, .int 1, .int 1, .int 0, .int 0, .int 0, .int (-1), .int 0, .int 0])), (e4, .inl (e9, 8, .inl f97)), (e5, .inl (e10, 64, .inl f105))] := ⟨_, hP, hD⟩
  refine lv_iinc (v := 4) (lv' := [(3, .int 4), (2, .int 5), (0, .ref h0), (1, .int 0)]) hx hb d_SSession_clearLevels_35 hl (k := 0) rfl (by decide) (by decide) rfl (fun ls hl => ?_)
  refine lv_goto (tgt := 17) hx hb d_SSession_clearLevels_38 (by decide) ?_
  refine lv_iload_n hx hb d_SSession_clearLevels_17 rfl (lv_at hl 0 rfl) ?_
  refine lv_bipush (v := 8) hx hb d_SSession_clearLevels_18 (by decide) ?_
  refine lv_icmp_ge (tgt := 41) hx hb d_SSession_clearLevels_20 (by decide) (fun c_106 => absurd c_106 (by decide)) (fun c_106 => ?_)
  refine lv_aload_n hx hb d_SSession_clearLevels_23 rfl (lv_at hl 2 rfl) ?_
  refine va_get (D := (dC, dI)) (ci := 11) (v := .ref e5) (C := R_SSession) (T := F_SSession) (N := 18) hx hb hts (i_SSession _) hown hK hP 0 rfl rfl 5 (by decide) (hts _ (List.mem_cons_of_mem _ q_795)) (fun _ h9 => h9) rfl d_SSession_clearLevels_24 ?_
  refine lv_iload_n hx hb d_SSession_clearLevels_27 rfl (lv_at hl 1 rfl) ?_
  refine lv_bipush (v := 8) hx hb d_SSession_clearLevels_28 (by decide) ?_
  refine lv_imul hx hb d_SSession_clearLevels_30 ?_
  refine bx_top (y := 40) (by decide) ?_
  refine lv_iload_n hx hb d_SSession_clearLevels_31 rfl (lv_at hl 0 rfl) ?_
  refine lv_iadd hx hb d_SSession_clearLevels_32 ?_
  refine bx_top (y := 44) (by decide) ?_
  refine lv_iconst (v := 0) hx hb d_SSession_clearLevels_33 (by decide) ?_
  refine va_iast hx hb hK hP hD hS 2 1 (i := 44) (x := 0) rfl rfl (vp_in_nI (n := 44) (by decide) (by decide)) d_SSession_clearLevels_34 (fun H locs hP hD hS => ?_)
  obtain ⟨f107, hP, hD⟩ : ∃ f107 : Nat → Int32, va_P (dC, dI) classes [(h0, .inr (11, [.int z1, .ref e1, .ref e2, .ref e3, .ref e4, .ref e5, .ref e6, .ref e7, .ref e8, .int 0, .int 1, .int 1, .int 0, .int 0, .int 0, .int (-1), .int 0, .int 0])), (e4, .inl (e9, 8, .inl f97)), (e5, .inl (e10, 64, .inl f107))] H ∧ va_D A [(h0, .inr (11, [.int z1, .ref e1, .ref e2, .ref e3, .ref e4, .ref e5, .ref e6, .ref e7, .ref e8, .int 0, .int 1, .int 1, .int 0, .int 0, .int 0, .int (-1), .int 0, .int 0])), (e4, .inl (e9, 8, .inl f97)), (e5, .inl (e10, 64, .inl f107))] := ⟨_, hP, hD⟩
  refine lv_iinc (v := 5) (lv' := [(3, .int 5), (2, .int 5), (0, .ref h0), (1, .int 0)]) hx hb d_SSession_clearLevels_35 hl (k := 0) rfl (by decide) (by decide) rfl (fun ls hl => ?_)
  refine lv_goto (tgt := 17) hx hb d_SSession_clearLevels_38 (by decide) ?_
  refine lv_iload_n hx hb d_SSession_clearLevels_17 rfl (lv_at hl 0 rfl) ?_
  refine lv_bipush (v := 8) hx hb d_SSession_clearLevels_18 (by decide) ?_
  refine lv_icmp_ge (tgt := 41) hx hb d_SSession_clearLevels_20 (by decide) (fun c_108 => absurd c_108 (by decide)) (fun c_108 => ?_)
  refine lv_aload_n hx hb d_SSession_clearLevels_23 rfl (lv_at hl 2 rfl) ?_
  refine va_get (D := (dC, dI)) (ci := 11) (v := .ref e5) (C := R_SSession) (T := F_SSession) (N := 18) hx hb hts (i_SSession _) hown hK hP 0 rfl rfl 5 (by decide) (hts _ (List.mem_cons_of_mem _ q_795)) (fun _ h9 => h9) rfl d_SSession_clearLevels_24 ?_
  refine lv_iload_n hx hb d_SSession_clearLevels_27 rfl (lv_at hl 1 rfl) ?_
  refine lv_bipush (v := 8) hx hb d_SSession_clearLevels_28 (by decide) ?_
  refine lv_imul hx hb d_SSession_clearLevels_30 ?_
  refine bx_top (y := 40) (by decide) ?_
  refine lv_iload_n hx hb d_SSession_clearLevels_31 rfl (lv_at hl 0 rfl) ?_
  refine lv_iadd hx hb d_SSession_clearLevels_32 ?_
  refine bx_top (y := 45) (by decide) ?_
  refine lv_iconst (v := 0) hx hb d_SSession_clearLevels_33 (by decide) ?_
  refine va_iast hx hb hK hP hD hS 2 1 (i := 45) (x := 0) rfl rfl (vp_in_nI (n := 45) (by decide) (by decide)) d_SSession_clearLevels_34 (fun H locs hP hD hS => ?_)
  obtain ⟨f109, hP, hD⟩ : ∃ f109 : Nat → Int32, va_P (dC, dI) classes [(h0, .inr (11, [.int z1, .ref e1, .ref e2, .ref e3, .ref e4, .ref e5, .ref e6, .ref e7, .ref e8, .int 0, .int 1, .int 1, .int 0, .int 0, .int 0, .int (-1), .int 0, .int 0])), (e4, .inl (e9, 8, .inl f97)), (e5, .inl (e10, 64, .inl f109))] H ∧ va_D A [(h0, .inr (11, [.int z1, .ref e1, .ref e2, .ref e3, .ref e4, .ref e5, .ref e6, .ref e7, .ref e8, .int 0, .int 1, .int 1, .int 0, .int 0, .int 0, .int (-1), .int 0, .int 0])), (e4, .inl (e9, 8, .inl f97)), (e5, .inl (e10, 64, .inl f109))] := ⟨_, hP, hD⟩
  refine lv_iinc (v := 6) (lv' := [(3, .int 6), (2, .int 5), (0, .ref h0), (1, .int 0)]) hx hb d_SSession_clearLevels_35 hl (k := 0) rfl (by decide) (by decide) rfl (fun ls hl => ?_)
  refine lv_goto (tgt := 17) hx hb d_SSession_clearLevels_38 (by decide) ?_
  refine lv_iload_n hx hb d_SSession_clearLevels_17 rfl (lv_at hl 0 rfl) ?_
  refine lv_bipush (v := 8) hx hb d_SSession_clearLevels_18 (by decide) ?_
  refine lv_icmp_ge (tgt := 41) hx hb d_SSession_clearLevels_20 (by decide) (fun c_110 => absurd c_110 (by decide)) (fun c_110 => ?_)
  refine lv_aload_n hx hb d_SSession_clearLevels_23 rfl (lv_at hl 2 rfl) ?_
  refine va_get (D := (dC, dI)) (ci := 11) (v := .ref e5) (C := R_SSession) (T := F_SSession) (N := 18) hx hb hts (i_SSession _) hown hK hP 0 rfl rfl 5 (by decide) (hts _ (List.mem_cons_of_mem _ q_795)) (fun _ h9 => h9) rfl d_SSession_clearLevels_24 ?_
  refine lv_iload_n hx hb d_SSession_clearLevels_27 rfl (lv_at hl 1 rfl) ?_
  refine lv_bipush (v := 8) hx hb d_SSession_clearLevels_28 (by decide) ?_
  refine lv_imul hx hb d_SSession_clearLevels_30 ?_
  refine bx_top (y := 40) (by decide) ?_
  refine lv_iload_n hx hb d_SSession_clearLevels_31 rfl (lv_at hl 0 rfl) ?_
  refine lv_iadd hx hb d_SSession_clearLevels_32 ?_
  refine bx_top (y := 46) (by decide) ?_
  refine lv_iconst (v := 0) hx hb d_SSession_clearLevels_33 (by decide) ?_
  refine va_iast hx hb hK hP hD hS 2 1 (i := 46) (x := 0) rfl rfl (vp_in_nI (n := 46) (by decide) (by decide)) d_SSession_clearLevels_34 (fun H locs hP hD hS => ?_)
  obtain ⟨f111, hP, hD⟩ : ∃ f111 : Nat → Int32, va_P (dC, dI) classes [(h0, .inr (11, [.int z1, .ref e1, .ref e2, .ref e3, .ref e4, .ref e5, .ref e6, .ref e7, .ref e8, .int 0, .int 1, .int 1, .int 0, .int 0, .int 0, .int (-1), .int 0, .int 0])), (e4, .inl (e9, 8, .inl f97)), (e5, .inl (e10, 64, .inl f111))] H ∧ va_D A [(h0, .inr (11, [.int z1, .ref e1, .ref e2, .ref e3, .ref e4, .ref e5, .ref e6, .ref e7, .ref e8, .int 0, .int 1, .int 1, .int 0, .int 0, .int 0, .int (-1), .int 0, .int 0])), (e4, .inl (e9, 8, .inl f97)), (e5, .inl (e10, 64, .inl f111))] := ⟨_, hP, hD⟩
  refine lv_iinc (v := 7) (lv' := [(3, .int 7), (2, .int 5), (0, .ref h0), (1, .int 0)]) hx hb d_SSession_clearLevels_35 hl (k := 0) rfl (by decide) (by decide) rfl (fun ls hl => ?_)
  refine lv_goto (tgt := 17) hx hb d_SSession_clearLevels_38 (by decide) ?_
  refine lv_iload_n hx hb d_SSession_clearLevels_17 rfl (lv_at hl 0 rfl) ?_
  refine lv_bipush (v := 8) hx hb d_SSession_clearLevels_18 (by decide) ?_
  refine lv_icmp_ge (tgt := 41) hx hb d_SSession_clearLevels_20 (by decide) (fun c_112 => absurd c_112 (by decide)) (fun c_112 => ?_)
  refine lv_aload_n hx hb d_SSession_clearLevels_23 rfl (lv_at hl 2 rfl) ?_
  refine va_get (D := (dC, dI)) (ci := 11) (v := .ref e5) (C := R_SSession) (T := F_SSession) (N := 18) hx hb hts (i_SSession _) hown hK hP 0 rfl rfl 5 (by decide) (hts _ (List.mem_cons_of_mem _ q_795)) (fun _ h9 => h9) rfl d_SSession_clearLevels_24 ?_
  refine lv_iload_n hx hb d_SSession_clearLevels_27 rfl (lv_at hl 1 rfl) ?_
  refine lv_bipush (v := 8) hx hb d_SSession_clearLevels_28 (by decide) ?_
  refine lv_imul hx hb d_SSession_clearLevels_30 ?_
  refine bx_top (y := 40) (by decide) ?_
  refine lv_iload_n hx hb d_SSession_clearLevels_31 rfl (lv_at hl 0 rfl) ?_
  refine lv_iadd hx hb d_SSession_clearLevels_32 ?_
  refine bx_top (y := 47) (by decide) ?_
  refine lv_iconst (v := 0) hx hb d_SSession_clearLevels_33 (by decide) ?_
  refine va_iast hx hb hK hP hD hS 2 1 (i := 47) (x := 0) rfl rfl (vp_in_nI (n := 47) (by decide) (by decide)) d_SSession_clearLevels_34 (fun H locs hP hD hS => ?_)
  obtain ⟨f113, hP, hD⟩ : ∃ f113 : Nat → Int32, va_P (dC, dI) classes [(h0, .inr (11, [.int z1, .ref e1, .ref e2, .ref e3, .ref e4, .ref e5, .ref e6, .ref e7, .ref e8, .int 0, .int 1, .int 1, .int 0, .int 0, .int 0, .int (-1), .int 0, .int 0])), (e4, .inl (e9, 8, .inl f97)), (e5, .inl (e10, 64, .inl f113))] H ∧ va_D A [(h0, .inr (11, [.int z1, .ref e1, .ref e2, .ref e3, .ref e4, .ref e5, .ref e6, .ref e7, .ref e8, .int 0, .int 1, .int 1, .int 0, .int 0, .int 0, .int (-1), .int 0, .int 0])), (e4, .inl (e9, 8, .inl f97)), (e5, .inl (e10, 64, .inl f113))] := ⟨_, hP, hD⟩
  refine lv_iinc (v := 8) (lv' := [(3, .int 8), (2, .int 5), (0, .ref h0), (1, .int 0)]) hx hb d_SSession_clearLevels_35 hl (k := 0) rfl (by decide) (by decide) rfl (fun ls hl => ?_)
  refine lv_goto (tgt := 17) hx hb d_SSession_clearLevels_38 (by decide) ?_
  refine lv_iload_n hx hb d_SSession_clearLevels_17 rfl (lv_at hl 0 rfl) ?_
  refine lv_bipush (v := 8) hx hb d_SSession_clearLevels_18 (by decide) ?_
  refine lv_icmp_ge (tgt := 41) hx hb d_SSession_clearLevels_20 (by decide) (fun c_114 => ?_) (fun c_114 => absurd (by decide) c_114)
  refine lv_iinc (v := 6) (lv' := [(2, .int 6), (3, .int 8), (0, .ref h0), (1, .int 0)]) hx hb d_SSession_clearLevels_41 hl (k := 1) rfl (by decide) (by decide) rfl (fun ls hl => ?_)
  refine lv_goto (tgt := 2) hx hb d_SSession_clearLevels_44 (by decide) ?_
  refine lv_iload_n hx hb d_SSession_clearLevels_2 rfl (lv_at hl 0 rfl) ?_
  refine lv_bipush (v := 8) hx hb d_SSession_clearLevels_3 (by decide) ?_
  refine lv_icmp_ge (tgt := 47) hx hb d_SSession_clearLevels_5 (by decide) (fun c_115 => absurd c_115 (by decide)) (fun c_115 => ?_)
  refine lv_aload_n hx hb d_SSession_clearLevels_8 rfl (lv_at hl 2 rfl) ?_
  refine va_get (D := (dC, dI)) (ci := 11) (v := .ref e4) (C := R_SSession) (T := F_SSession) (N := 18) hx hb hts (i_SSession _) hown hK hP 0 rfl rfl 4 (by decide) (hts _ (List.mem_cons_of_mem _ q_792)) (fun _ h9 => h9) rfl d_SSession_clearLevels_9 ?_
  refine lv_iload_n hx hb d_SSession_clearLevels_12 rfl (lv_at hl 0 rfl) ?_
  refine lv_iconst (v := 0) hx hb d_SSession_clearLevels_13 (by decide) ?_
  refine va_iast hx hb hK hP hD hS 1 0 (i := 6) (x := 0) rfl rfl (vp_in_nI (n := 6) (by decide) (by decide)) d_SSession_clearLevels_14 (fun H locs hP hD hS => ?_)
  obtain ⟨f116, hP, hD⟩ : ∃ f116 : Nat → Int32, va_P (dC, dI) classes [(h0, .inr (11, [.int z1, .ref e1, .ref e2, .ref e3, .ref e4, .ref e5, .ref e6, .ref e7, .ref e8, .int 0, .int 1, .int 1, .int 0, .int 0, .int 0, .int (-1), .int 0, .int 0])), (e4, .inl (e9, 8, .inl f116)), (e5, .inl (e10, 64, .inl f113))] H ∧ va_D A [(h0, .inr (11, [.int z1, .ref e1, .ref e2, .ref e3, .ref e4, .ref e5, .ref e6, .ref e7, .ref e8, .int 0, .int 1, .int 1, .int 0, .int 0, .int 0, .int (-1), .int 0, .int 0])), (e4, .inl (e9, 8, .inl f116)), (e5, .inl (e10, 64, .inl f113))] := ⟨_, hP, hD⟩
  refine lv_iconst (v := 0) hx hb d_SSession_clearLevels_15 (by decide) ?_
  refine lv_istore_n (lv' := [(3, .int 0), (2, .int 6), (0, .ref h0), (1, .int 0)]) hx hb d_SSession_clearLevels_16 rfl hl (by decide) rfl (fun ls hl => ?_)
  refine lv_iload_n hx hb d_SSession_clearLevels_17 rfl (lv_at hl 0 rfl) ?_
  refine lv_bipush (v := 8) hx hb d_SSession_clearLevels_18 (by decide) ?_
  refine lv_icmp_ge (tgt := 41) hx hb d_SSession_clearLevels_20 (by decide) (fun c_117 => absurd c_117 (by decide)) (fun c_117 => ?_)
  refine lv_aload_n hx hb d_SSession_clearLevels_23 rfl (lv_at hl 2 rfl) ?_
  refine va_get (D := (dC, dI)) (ci := 11) (v := .ref e5) (C := R_SSession) (T := F_SSession) (N := 18) hx hb hts (i_SSession _) hown hK hP 0 rfl rfl 5 (by decide) (hts _ (List.mem_cons_of_mem _ q_795)) (fun _ h9 => h9) rfl d_SSession_clearLevels_24 ?_
  refine lv_iload_n hx hb d_SSession_clearLevels_27 rfl (lv_at hl 1 rfl) ?_
  refine lv_bipush (v := 8) hx hb d_SSession_clearLevels_28 (by decide) ?_
  refine lv_imul hx hb d_SSession_clearLevels_30 ?_
  refine bx_top (y := 48) (by decide) ?_
  refine lv_iload_n hx hb d_SSession_clearLevels_31 rfl (lv_at hl 0 rfl) ?_
  refine lv_iadd hx hb d_SSession_clearLevels_32 ?_
  refine bx_top (y := 48) (by decide) ?_
  refine lv_iconst (v := 0) hx hb d_SSession_clearLevels_33 (by decide) ?_
  refine va_iast hx hb hK hP hD hS 2 1 (i := 48) (x := 0) rfl rfl (vp_in_nI (n := 48) (by decide) (by decide)) d_SSession_clearLevels_34 (fun H locs hP hD hS => ?_)
  obtain ⟨f118, hP, hD⟩ : ∃ f118 : Nat → Int32, va_P (dC, dI) classes [(h0, .inr (11, [.int z1, .ref e1, .ref e2, .ref e3, .ref e4, .ref e5, .ref e6, .ref e7, .ref e8, .int 0, .int 1, .int 1, .int 0, .int 0, .int 0, .int (-1), .int 0, .int 0])), (e4, .inl (e9, 8, .inl f116)), (e5, .inl (e10, 64, .inl f118))] H ∧ va_D A [(h0, .inr (11, [.int z1, .ref e1, .ref e2, .ref e3, .ref e4, .ref e5, .ref e6, .ref e7, .ref e8, .int 0, .int 1, .int 1, .int 0, .int 0, .int 0, .int (-1), .int 0, .int 0])), (e4, .inl (e9, 8, .inl f116)), (e5, .inl (e10, 64, .inl f118))] := ⟨_, hP, hD⟩
  refine lv_iinc (v := 1) (lv' := [(3, .int 1), (2, .int 6), (0, .ref h0), (1, .int 0)]) hx hb d_SSession_clearLevels_35 hl (k := 0) rfl (by decide) (by decide) rfl (fun ls hl => ?_)
  refine lv_goto (tgt := 17) hx hb d_SSession_clearLevels_38 (by decide) ?_
  refine lv_iload_n hx hb d_SSession_clearLevels_17 rfl (lv_at hl 0 rfl) ?_
  refine lv_bipush (v := 8) hx hb d_SSession_clearLevels_18 (by decide) ?_
  refine lv_icmp_ge (tgt := 41) hx hb d_SSession_clearLevels_20 (by decide) (fun c_119 => absurd c_119 (by decide)) (fun c_119 => ?_)
  refine lv_aload_n hx hb d_SSession_clearLevels_23 rfl (lv_at hl 2 rfl) ?_
  refine va_get (D := (dC, dI)) (ci := 11) (v := .ref e5) (C := R_SSession) (T := F_SSession) (N := 18) hx hb hts (i_SSession _) hown hK hP 0 rfl rfl 5 (by decide) (hts _ (List.mem_cons_of_mem _ q_795)) (fun _ h9 => h9) rfl d_SSession_clearLevels_24 ?_
  refine lv_iload_n hx hb d_SSession_clearLevels_27 rfl (lv_at hl 1 rfl) ?_
  refine lv_bipush (v := 8) hx hb d_SSession_clearLevels_28 (by decide) ?_
  refine lv_imul hx hb d_SSession_clearLevels_30 ?_
  refine bx_top (y := 48) (by decide) ?_
  refine lv_iload_n hx hb d_SSession_clearLevels_31 rfl (lv_at hl 0 rfl) ?_
  refine lv_iadd hx hb d_SSession_clearLevels_32 ?_
  refine bx_top (y := 49) (by decide) ?_
  refine lv_iconst (v := 0) hx hb d_SSession_clearLevels_33 (by decide) ?_
  refine va_iast hx hb hK hP hD hS 2 1 (i := 49) (x := 0) rfl rfl (vp_in_nI (n := 49) (by decide) (by decide)) d_SSession_clearLevels_34 (fun H locs hP hD hS => ?_)
  obtain ⟨f120, hP, hD⟩ : ∃ f120 : Nat → Int32, va_P (dC, dI) classes [(h0, .inr (11, [.int z1, .ref e1, .ref e2, .ref e3, .ref e4, .ref e5, .ref e6, .ref e7, .ref e8, .int 0, .int 1, .int 1, .int 0, .int 0, .int 0, .int (-1), .int 0, .int 0])), (e4, .inl (e9, 8, .inl f116)), (e5, .inl (e10, 64, .inl f120))] H ∧ va_D A [(h0, .inr (11, [.int z1, .ref e1, .ref e2, .ref e3, .ref e4, .ref e5, .ref e6, .ref e7, .ref e8, .int 0, .int 1, .int 1, .int 0, .int 0, .int 0, .int (-1), .int 0, .int 0])), (e4, .inl (e9, 8, .inl f116)), (e5, .inl (e10, 64, .inl f120))] := ⟨_, hP, hD⟩
  refine lv_iinc (v := 2) (lv' := [(3, .int 2), (2, .int 6), (0, .ref h0), (1, .int 0)]) hx hb d_SSession_clearLevels_35 hl (k := 0) rfl (by decide) (by decide) rfl (fun ls hl => ?_)
  refine lv_goto (tgt := 17) hx hb d_SSession_clearLevels_38 (by decide) ?_
  refine lv_iload_n hx hb d_SSession_clearLevels_17 rfl (lv_at hl 0 rfl) ?_
  refine lv_bipush (v := 8) hx hb d_SSession_clearLevels_18 (by decide) ?_
  refine lv_icmp_ge (tgt := 41) hx hb d_SSession_clearLevels_20 (by decide) (fun c_121 => absurd c_121 (by decide)) (fun c_121 => ?_)
  refine lv_aload_n hx hb d_SSession_clearLevels_23 rfl (lv_at hl 2 rfl) ?_
  refine va_get (D := (dC, dI)) (ci := 11) (v := .ref e5) (C := R_SSession) (T := F_SSession) (N := 18) hx hb hts (i_SSession _) hown hK hP 0 rfl rfl 5 (by decide) (hts _ (List.mem_cons_of_mem _ q_795)) (fun _ h9 => h9) rfl d_SSession_clearLevels_24 ?_
  refine lv_iload_n hx hb d_SSession_clearLevels_27 rfl (lv_at hl 1 rfl) ?_
  refine lv_bipush (v := 8) hx hb d_SSession_clearLevels_28 (by decide) ?_
  refine lv_imul hx hb d_SSession_clearLevels_30 ?_
  refine bx_top (y := 48) (by decide) ?_
  refine lv_iload_n hx hb d_SSession_clearLevels_31 rfl (lv_at hl 0 rfl) ?_
  refine lv_iadd hx hb d_SSession_clearLevels_32 ?_
  refine bx_top (y := 50) (by decide) ?_
  refine lv_iconst (v := 0) hx hb d_SSession_clearLevels_33 (by decide) ?_
  refine va_iast hx hb hK hP hD hS 2 1 (i := 50) (x := 0) rfl rfl (vp_in_nI (n := 50) (by decide) (by decide)) d_SSession_clearLevels_34 (fun H locs hP hD hS => ?_)
  obtain ⟨f122, hP, hD⟩ : ∃ f122 : Nat → Int32, va_P (dC, dI) classes [(h0, .inr (11, [.int z1, .ref e1, .ref e2, .ref e3, .ref e4, .ref e5, .ref e6, .ref e7, .ref e8, .int 0, .int 1, .int 1, .int 0, .int 0, .int 0, .int (-1), .int 0, .int 0])), (e4, .inl (e9, 8, .inl f116)), (e5, .inl (e10, 64, .inl f122))] H ∧ va_D A [(h0, .inr (11, [.int z1, .ref e1, .ref e2, .ref e3, .ref e4, .ref e5, .ref e6, .ref e7, .ref e8, .int 0, .int 1, .int 1, .int 0, .int 0, .int 0, .int (-1), .int 0, .int 0])), (e4, .inl (e9, 8, .inl f116)), (e5, .inl (e10, 64, .inl f122))] := ⟨_, hP, hD⟩
  refine lv_iinc (v := 3) (lv' := [(3, .int 3), (2, .int 6), (0, .ref h0), (1, .int 0)]) hx hb d_SSession_clearLevels_35 hl (k := 0) rfl (by decide) (by decide) rfl (fun ls hl => ?_)
  refine lv_goto (tgt := 17) hx hb d_SSession_clearLevels_38 (by decide) ?_
  refine lv_iload_n hx hb d_SSession_clearLevels_17 rfl (lv_at hl 0 rfl) ?_
  refine lv_bipush (v := 8) hx hb d_SSession_clearLevels_18 (by decide) ?_
  refine lv_icmp_ge (tgt := 41) hx hb d_SSession_clearLevels_20 (by decide) (fun c_123 => absurd c_123 (by decide)) (fun c_123 => ?_)
  refine lv_aload_n hx hb d_SSession_clearLevels_23 rfl (lv_at hl 2 rfl) ?_
  refine va_get (D := (dC, dI)) (ci := 11) (v := .ref e5) (C := R_SSession) (T := F_SSession) (N := 18) hx hb hts (i_SSession _) hown hK hP 0 rfl rfl 5 (by decide) (hts _ (List.mem_cons_of_mem _ q_795)) (fun _ h9 => h9) rfl d_SSession_clearLevels_24 ?_
  refine lv_iload_n hx hb d_SSession_clearLevels_27 rfl (lv_at hl 1 rfl) ?_
  refine lv_bipush (v := 8) hx hb d_SSession_clearLevels_28 (by decide) ?_
  refine lv_imul hx hb d_SSession_clearLevels_30 ?_
  refine bx_top (y := 48) (by decide) ?_
  refine lv_iload_n hx hb d_SSession_clearLevels_31 rfl (lv_at hl 0 rfl) ?_
  refine lv_iadd hx hb d_SSession_clearLevels_32 ?_
  refine bx_top (y := 51) (by decide) ?_
  refine lv_iconst (v := 0) hx hb d_SSession_clearLevels_33 (by decide) ?_
  refine va_iast hx hb hK hP hD hS 2 1 (i := 51) (x := 0) rfl rfl (vp_in_nI (n := 51) (by decide) (by decide)) d_SSession_clearLevels_34 (fun H locs hP hD hS => ?_)
  obtain ⟨f124, hP, hD⟩ : ∃ f124 : Nat → Int32, va_P (dC, dI) classes [(h0, .inr (11, [.int z1, .ref e1, .ref e2, .ref e3, .ref e4, .ref e5, .ref e6, .ref e7, .ref e8, .int 0, .int 1, .int 1, .int 0, .int 0, .int 0, .int (-1), .int 0, .int 0])), (e4, .inl (e9, 8, .inl f116)), (e5, .inl (e10, 64, .inl f124))] H ∧ va_D A [(h0, .inr (11, [.int z1, .ref e1, .ref e2, .ref e3, .ref e4, .ref e5, .ref e6, .ref e7, .ref e8, .int 0, .int 1, .int 1, .int 0, .int 0, .int 0, .int (-1), .int 0, .int 0])), (e4, .inl (e9, 8, .inl f116)), (e5, .inl (e10, 64, .inl f124))] := ⟨_, hP, hD⟩
  refine lv_iinc (v := 4) (lv' := [(3, .int 4), (2, .int 6), (0, .ref h0), (1, .int 0)]) hx hb d_SSession_clearLevels_35 hl (k := 0) rfl (by decide) (by decide) rfl (fun ls hl => ?_)
  refine lv_goto (tgt := 17) hx hb d_SSession_clearLevels_38 (by decide) ?_
  refine lv_iload_n hx hb d_SSession_clearLevels_17 rfl (lv_at hl 0 rfl) ?_
  refine lv_bipush (v := 8) hx hb d_SSession_clearLevels_18 (by decide) ?_
  refine lv_icmp_ge (tgt := 41) hx hb d_SSession_clearLevels_20 (by decide) (fun c_125 => absurd c_125 (by decide)) (fun c_125 => ?_)
  refine lv_aload_n hx hb d_SSession_clearLevels_23 rfl (lv_at hl 2 rfl) ?_
  refine va_get (D := (dC, dI)) (ci := 11) (v := .ref e5) (C := R_SSession) (T := F_SSession) (N := 18) hx hb hts (i_SSession _) hown hK hP 0 rfl rfl 5 (by decide) (hts _ (List.mem_cons_of_mem _ q_795)) (fun _ h9 => h9) rfl d_SSession_clearLevels_24 ?_
  refine lv_iload_n hx hb d_SSession_clearLevels_27 rfl (lv_at hl 1 rfl) ?_
  refine lv_bipush (v := 8) hx hb d_SSession_clearLevels_28 (by decide) ?_
  refine lv_imul hx hb d_SSession_clearLevels_30 ?_
  refine bx_top (y := 48) (by decide) ?_
  refine lv_iload_n hx hb d_SSession_clearLevels_31 rfl (lv_at hl 0 rfl) ?_
  refine lv_iadd hx hb d_SSession_clearLevels_32 ?_
  refine bx_top (y := 52) (by decide) ?_
  refine lv_iconst (v := 0) hx hb d_SSession_clearLevels_33 (by decide) ?_
  refine va_iast hx hb hK hP hD hS 2 1 (i := 52) (x := 0) rfl rfl (vp_in_nI (n := 52) (by decide) (by decide)) d_SSession_clearLevels_34 (fun H locs hP hD hS => ?_)
  obtain ⟨f126, hP, hD⟩ : ∃ f126 : Nat → Int32, va_P (dC, dI) classes [(h0, .inr (11, [.int z1, .ref e1, .ref e2, .ref e3, .ref e4, .ref e5, .ref e6, .ref e7, .ref e8, .int 0, .int 1, .int 1, .int 0, .int 0, .int 0, .int (-1), .int 0, .int 0])), (e4, .inl (e9, 8, .inl f116)), (e5, .inl (e10, 64, .inl f126))] H ∧ va_D A [(h0, .inr (11, [.int z1, .ref e1, .ref e2, .ref e3, .ref e4, .ref e5, .ref e6, .ref e7, .ref e8, .int 0, .int 1, .int 1, .int 0, .int 0, .int 0, .int (-1), .int 0, .int 0])), (e4, .inl (e9, 8, .inl f116)), (e5, .inl (e10, 64, .inl f126))] := ⟨_, hP, hD⟩
  refine lv_iinc (v := 5) (lv' := [(3, .int 5), (2, .int 6), (0, .ref h0), (1, .int 0)]) hx hb d_SSession_clearLevels_35 hl (k := 0) rfl (by decide) (by decide) rfl (fun ls hl => ?_)
  refine lv_goto (tgt := 17) hx hb d_SSession_clearLevels_38 (by decide) ?_
  refine lv_iload_n hx hb d_SSession_clearLevels_17 rfl (lv_at hl 0 rfl) ?_
  refine lv_bipush (v := 8) hx hb d_SSession_clearLevels_18 (by decide) ?_
  refine lv_icmp_ge (tgt := 41) hx hb d_SSession_clearLevels_20 (by decide) (fun c_127 => absurd c_127 (by decide)) (fun c_127 => ?_)
  refine lv_aload_n hx hb d_SSession_clearLevels_23 rfl (lv_at hl 2 rfl) ?_
  refine va_get (D := (dC, dI)) (ci := 11) (v := .ref e5) (C := R_SSession) (T := F_SSession) (N := 18) hx hb hts (i_SSession _) hown hK hP 0 rfl rfl 5 (by decide) (hts _ (List.mem_cons_of_mem _ q_795)) (fun _ h9 => h9) rfl d_SSession_clearLevels_24 ?_
  refine lv_iload_n hx hb d_SSession_clearLevels_27 rfl (lv_at hl 1 rfl) ?_
  refine lv_bipush (v := 8) hx hb d_SSession_clearLevels_28 (by decide) ?_
  refine lv_imul hx hb d_SSession_clearLevels_30 ?_
  refine bx_top (y := 48) (by decide) ?_
  refine lv_iload_n hx hb d_SSession_clearLevels_31 rfl (lv_at hl 0 rfl) ?_
  refine lv_iadd hx hb d_SSession_clearLevels_32 ?_
  refine bx_top (y := 53) (by decide) ?_
  refine lv_iconst (v := 0) hx hb d_SSession_clearLevels_33 (by decide) ?_
  refine va_iast hx hb hK hP hD hS 2 1 (i := 53) (x := 0) rfl rfl (vp_in_nI (n := 53) (by decide) (by decide)) d_SSession_clearLevels_34 (fun H locs hP hD hS => ?_)
  obtain ⟨f128, hP, hD⟩ : ∃ f128 : Nat → Int32, va_P (dC, dI) classes [(h0, .inr (11, [.int z1, .ref e1, .ref e2, .ref e3, .ref e4, .ref e5, .ref e6, .ref e7, .ref e8, .int 0, .int 1, .int 1, .int 0, .int 0, .int 0, .int (-1), .int 0, .int 0])), (e4, .inl (e9, 8, .inl f116)), (e5, .inl (e10, 64, .inl f128))] H ∧ va_D A [(h0, .inr (11, [.int z1, .ref e1, .ref e2, .ref e3, .ref e4, .ref e5, .ref e6, .ref e7, .ref e8, .int 0, .int 1, .int 1, .int 0, .int 0, .int 0, .int (-1), .int 0, .int 0])), (e4, .inl (e9, 8, .inl f116)), (e5, .inl (e10, 64, .inl f128))] := ⟨_, hP, hD⟩
  refine lv_iinc (v := 6) (lv' := [(3, .int 6), (2, .int 6), (0, .ref h0), (1, .int 0)]) hx hb d_SSession_clearLevels_35 hl (k := 0) rfl (by decide) (by decide) rfl (fun ls hl => ?_)
  refine lv_goto (tgt := 17) hx hb d_SSession_clearLevels_38 (by decide) ?_
  refine lv_iload_n hx hb d_SSession_clearLevels_17 rfl (lv_at hl 0 rfl) ?_
  refine lv_bipush (v := 8) hx hb d_SSession_clearLevels_18 (by decide) ?_
  refine lv_icmp_ge (tgt := 41) hx hb d_SSession_clearLevels_20 (by decide) (fun c_129 => absurd c_129 (by decide)) (fun c_129 => ?_)
  refine lv_aload_n hx hb d_SSession_clearLevels_23 rfl (lv_at hl 2 rfl) ?_
  refine va_get (D := (dC, dI)) (ci := 11) (v := .ref e5) (C := R_SSession) (T := F_SSession) (N := 18) hx hb hts (i_SSession _) hown hK hP 0 rfl rfl 5 (by decide) (hts _ (List.mem_cons_of_mem _ q_795)) (fun _ h9 => h9) rfl d_SSession_clearLevels_24 ?_
  refine lv_iload_n hx hb d_SSession_clearLevels_27 rfl (lv_at hl 1 rfl) ?_
  refine lv_bipush (v := 8) hx hb d_SSession_clearLevels_28 (by decide) ?_
  refine lv_imul hx hb d_SSession_clearLevels_30 ?_
  refine bx_top (y := 48) (by decide) ?_
  refine lv_iload_n hx hb d_SSession_clearLevels_31 rfl (lv_at hl 0 rfl) ?_
  refine lv_iadd hx hb d_SSession_clearLevels_32 ?_
  refine bx_top (y := 54) (by decide) ?_
  refine lv_iconst (v := 0) hx hb d_SSession_clearLevels_33 (by decide) ?_
  refine va_iast hx hb hK hP hD hS 2 1 (i := 54) (x := 0) rfl rfl (vp_in_nI (n := 54) (by decide) (by decide)) d_SSession_clearLevels_34 (fun H locs hP hD hS => ?_)
  obtain ⟨f130, hP, hD⟩ : ∃ f130 : Nat → Int32, va_P (dC, dI) classes [(h0, .inr (11, [.int z1, .ref e1, .ref e2, .ref e3, .ref e4, .ref e5, .ref e6, .ref e7, .ref e8, .int 0, .int 1, .int 1, .int 0, .int 0, .int 0, .int (-1), .int 0, .int 0])), (e4, .inl (e9, 8, .inl f116)), (e5, .inl (e10, 64, .inl f130))] H ∧ va_D A [(h0, .inr (11, [.int z1, .ref e1, .ref e2, .ref e3, .ref e4, .ref e5, .ref e6, .ref e7, .ref e8, .int 0, .int 1, .int 1, .int 0, .int 0, .int 0, .int (-1), .int 0, .int 0])), (e4, .inl (e9, 8, .inl f116)), (e5, .inl (e10, 64, .inl f130))] := ⟨_, hP, hD⟩
  refine lv_iinc (v := 7) (lv' := [(3, .int 7), (2, .int 6), (0, .ref h0), (1, .int 0)]) hx hb d_SSession_clearLevels_35 hl (k := 0) rfl (by decide) (by decide) rfl (fun ls hl => ?_)
  refine lv_goto (tgt := 17) hx hb d_SSession_clearLevels_38 (by decide) ?_
  refine lv_iload_n hx hb d_SSession_clearLevels_17 rfl (lv_at hl 0 rfl) ?_
  refine lv_bipush (v := 8) hx hb d_SSession_clearLevels_18 (by decide) ?_
  refine lv_icmp_ge (tgt := 41) hx hb d_SSession_clearLevels_20 (by decide) (fun c_131 => absurd c_131 (by decide)) (fun c_131 => ?_)
  refine lv_aload_n hx hb d_SSession_clearLevels_23 rfl (lv_at hl 2 rfl) ?_
  refine va_get (D := (dC, dI)) (ci := 11) (v := .ref e5) (C := R_SSession) (T := F_SSession) (N := 18) hx hb hts (i_SSession _) hown hK hP 0 rfl rfl 5 (by decide) (hts _ (List.mem_cons_of_mem _ q_795)) (fun _ h9 => h9) rfl d_SSession_clearLevels_24 ?_
  refine lv_iload_n hx hb d_SSession_clearLevels_27 rfl (lv_at hl 1 rfl) ?_
  refine lv_bipush (v := 8) hx hb d_SSession_clearLevels_28 (by decide) ?_
  refine lv_imul hx hb d_SSession_clearLevels_30 ?_
  refine bx_top (y := 48) (by decide) ?_
  refine lv_iload_n hx hb d_SSession_clearLevels_31 rfl (lv_at hl 0 rfl) ?_
  refine lv_iadd hx hb d_SSession_clearLevels_32 ?_
  refine bx_top (y := 55) (by decide) ?_
  refine lv_iconst (v := 0) hx hb d_SSession_clearLevels_33 (by decide) ?_
  refine va_iast hx hb hK hP hD hS 2 1 (i := 55) (x := 0) rfl rfl (vp_in_nI (n := 55) (by decide) (by decide)) d_SSession_clearLevels_34 (fun H locs hP hD hS => ?_)
  obtain ⟨f132, hP, hD⟩ : ∃ f132 : Nat → Int32, va_P (dC, dI) classes [(h0, .inr (11, [.int z1, .ref e1, .ref e2, .ref e3, .ref e4, .ref e5, .ref e6, .ref e7, .ref e8, .int 0, .int 1, .int 1, .int 0, .int 0, .int 0, .int (-1), .int 0, .int 0])), (e4, .inl (e9, 8, .inl f116)), (e5, .inl (e10, 64, .inl f132))] H ∧ va_D A [(h0, .inr (11, [.int z1, .ref e1, .ref e2, .ref e3, .ref e4, .ref e5, .ref e6, .ref e7, .ref e8, .int 0, .int 1, .int 1, .int 0, .int 0, .int 0, .int (-1), .int 0, .int 0])), (e4, .inl (e9, 8, .inl f116)), (e5, .inl (e10, 64, .inl f132))] := ⟨_, hP, hD⟩
  refine lv_iinc (v := 8) (lv' := [(3, .int 8), (2, .int 6), (0, .ref h0), (1, .int 0)]) hx hb d_SSession_clearLevels_35 hl (k := 0) rfl (by decide) (by decide) rfl (fun ls hl => ?_)
  refine lv_goto (tgt := 17) hx hb d_SSession_clearLevels_38 (by decide) ?_
  refine lv_iload_n hx hb d_SSession_clearLevels_17 rfl (lv_at hl 0 rfl) ?_
  refine lv_bipush (v := 8) hx hb d_SSession_clearLevels_18 (by decide) ?_
  refine lv_icmp_ge (tgt := 41) hx hb d_SSession_clearLevels_20 (by decide) (fun c_133 => ?_) (fun c_133 => absurd (by decide) c_133)
  refine lv_iinc (v := 7) (lv' := [(2, .int 7), (3, .int 8), (0, .ref h0), (1, .int 0)]) hx hb d_SSession_clearLevels_41 hl (k := 1) rfl (by decide) (by decide) rfl (fun ls hl => ?_)
  refine lv_goto (tgt := 2) hx hb d_SSession_clearLevels_44 (by decide) ?_
  refine lv_iload_n hx hb d_SSession_clearLevels_2 rfl (lv_at hl 0 rfl) ?_
  refine lv_bipush (v := 8) hx hb d_SSession_clearLevels_3 (by decide) ?_
  refine lv_icmp_ge (tgt := 47) hx hb d_SSession_clearLevels_5 (by decide) (fun c_134 => absurd c_134 (by decide)) (fun c_134 => ?_)
  refine lv_aload_n hx hb d_SSession_clearLevels_8 rfl (lv_at hl 2 rfl) ?_
  refine va_get (D := (dC, dI)) (ci := 11) (v := .ref e4) (C := R_SSession) (T := F_SSession) (N := 18) hx hb hts (i_SSession _) hown hK hP 0 rfl rfl 4 (by decide) (hts _ (List.mem_cons_of_mem _ q_792)) (fun _ h9 => h9) rfl d_SSession_clearLevels_9 ?_
  refine lv_iload_n hx hb d_SSession_clearLevels_12 rfl (lv_at hl 0 rfl) ?_
  refine lv_iconst (v := 0) hx hb d_SSession_clearLevels_13 (by decide) ?_
  refine va_iast hx hb hK hP hD hS 1 0 (i := 7) (x := 0) rfl rfl (vp_in_nI (n := 7) (by decide) (by decide)) d_SSession_clearLevels_14 (fun H locs hP hD hS => ?_)
  obtain ⟨f135, hP, hD⟩ : ∃ f135 : Nat → Int32, va_P (dC, dI) classes [(h0, .inr (11, [.int z1, .ref e1, .ref e2, .ref e3, .ref e4, .ref e5, .ref e6, .ref e7, .ref e8, .int 0, .int 1, .int 1, .int 0, .int 0, .int 0, .int (-1), .int 0, .int 0])), (e4, .inl (e9, 8, .inl f135)), (e5, .inl (e10, 64, .inl f132))] H ∧ va_D A [(h0, .inr (11, [.int z1, .ref e1, .ref e2, .ref e3, .ref e4, .ref e5, .ref e6, .ref e7, .ref e8, .int 0, .int 1, .int 1, .int 0, .int 0, .int 0, .int (-1), .int 0, .int 0])), (e4, .inl (e9, 8, .inl f135)), (e5, .inl (e10, 64, .inl f132))] := ⟨_, hP, hD⟩
  refine lv_iconst (v := 0) hx hb d_SSession_clearLevels_15 (by decide) ?_
  refine lv_istore_n (lv' := [(3, .int 0), (2, .int 7), (0, .ref h0), (1, .int 0)]) hx hb d_SSession_clearLevels_16 rfl hl (by decide) rfl (fun ls hl => ?_)
  refine lv_iload_n hx hb d_SSession_clearLevels_17 rfl (lv_at hl 0 rfl) ?_
  refine lv_bipush (v := 8) hx hb d_SSession_clearLevels_18 (by decide) ?_
  refine lv_icmp_ge (tgt := 41) hx hb d_SSession_clearLevels_20 (by decide) (fun c_136 => absurd c_136 (by decide)) (fun c_136 => ?_)
  refine lv_aload_n hx hb d_SSession_clearLevels_23 rfl (lv_at hl 2 rfl) ?_
  refine va_get (D := (dC, dI)) (ci := 11) (v := .ref e5) (C := R_SSession) (T := F_SSession) (N := 18) hx hb hts (i_SSession _) hown hK hP 0 rfl rfl 5 (by decide) (hts _ (List.mem_cons_of_mem _ q_795)) (fun _ h9 => h9) rfl d_SSession_clearLevels_24 ?_
  refine lv_iload_n hx hb d_SSession_clearLevels_27 rfl (lv_at hl 1 rfl) ?_
  refine lv_bipush (v := 8) hx hb d_SSession_clearLevels_28 (by decide) ?_
  refine lv_imul hx hb d_SSession_clearLevels_30 ?_
  refine bx_top (y := 56) (by decide) ?_
  refine lv_iload_n hx hb d_SSession_clearLevels_31 rfl (lv_at hl 0 rfl) ?_
  refine lv_iadd hx hb d_SSession_clearLevels_32 ?_
  refine bx_top (y := 56) (by decide) ?_
  refine lv_iconst (v := 0) hx hb d_SSession_clearLevels_33 (by decide) ?_
  refine va_iast hx hb hK hP hD hS 2 1 (i := 56) (x := 0) rfl rfl (vp_in_nI (n := 56) (by decide) (by decide)) d_SSession_clearLevels_34 (fun H locs hP hD hS => ?_)
  obtain ⟨f137, hP, hD⟩ : ∃ f137 : Nat → Int32, va_P (dC, dI) classes [(h0, .inr (11, [.int z1, .ref e1, .ref e2, .ref e3, .ref e4, .ref e5, .ref e6, .ref e7, .ref e8, .int 0, .int 1, .int 1, .int 0, .int 0, .int 0, .int (-1), .int 0, .int 0])), (e4, .inl (e9, 8, .inl f135)), (e5, .inl (e10, 64, .inl f137))] H ∧ va_D A [(h0, .inr (11, [.int z1, .ref e1, .ref e2, .ref e3, .ref e4, .ref e5, .ref e6, .ref e7, .ref e8, .int 0, .int 1, .int 1, .int 0, .int 0, .int 0, .int (-1), .int 0, .int 0])), (e4, .inl (e9, 8, .inl f135)), (e5, .inl (e10, 64, .inl f137))] := ⟨_, hP, hD⟩
  refine lv_iinc (v := 1) (lv' := [(3, .int 1), (2, .int 7), (0, .ref h0), (1, .int 0)]) hx hb d_SSession_clearLevels_35 hl (k := 0) rfl (by decide) (by decide) rfl (fun ls hl => ?_)
  refine lv_goto (tgt := 17) hx hb d_SSession_clearLevels_38 (by decide) ?_
  refine lv_iload_n hx hb d_SSession_clearLevels_17 rfl (lv_at hl 0 rfl) ?_
  refine lv_bipush (v := 8) hx hb d_SSession_clearLevels_18 (by decide) ?_
  refine lv_icmp_ge (tgt := 41) hx hb d_SSession_clearLevels_20 (by decide) (fun c_138 => absurd c_138 (by decide)) (fun c_138 => ?_)
  refine lv_aload_n hx hb d_SSession_clearLevels_23 rfl (lv_at hl 2 rfl) ?_
  refine va_get (D := (dC, dI)) (ci := 11) (v := .ref e5) (C := R_SSession) (T := F_SSession) (N := 18) hx hb hts (i_SSession _) hown hK hP 0 rfl rfl 5 (by decide) (hts _ (List.mem_cons_of_mem _ q_795)) (fun _ h9 => h9) rfl d_SSession_clearLevels_24 ?_
  refine lv_iload_n hx hb d_SSession_clearLevels_27 rfl (lv_at hl 1 rfl) ?_
  refine lv_bipush (v := 8) hx hb d_SSession_clearLevels_28 (by decide) ?_
  refine lv_imul hx hb d_SSession_clearLevels_30 ?_
  refine bx_top (y := 56) (by decide) ?_
  refine lv_iload_n hx hb d_SSession_clearLevels_31 rfl (lv_at hl 0 rfl) ?_
  refine lv_iadd hx hb d_SSession_clearLevels_32 ?_
  refine bx_top (y := 57) (by decide) ?_
  refine lv_iconst (v := 0) hx hb d_SSession_clearLevels_33 (by decide) ?_
  refine va_iast hx hb hK hP hD hS 2 1 (i := 57) (x := 0) rfl rfl (vp_in_nI (n := 57) (by decide) (by decide)) d_SSession_clearLevels_34 (fun H locs hP hD hS => ?_)
  obtain ⟨f139, hP, hD⟩ : ∃ f139 : Nat → Int32, va_P (dC, dI) classes [(h0, .inr (11, [.int z1, .ref e1, .ref e2, .ref e3, .ref e4, .ref e5, .ref e6, .ref e7, .ref e8, .int 0, .int 1, .int 1, .int 0, .int 0, .int 0, .int (-1), .int 0, .int 0])), (e4, .inl (e9, 8, .inl f135)), (e5, .inl (e10, 64, .inl f139))] H ∧ va_D A [(h0, .inr (11, [.int z1, .ref e1, .ref e2, .ref e3, .ref e4, .ref e5, .ref e6, .ref e7, .ref e8, .int 0, .int 1, .int 1, .int 0, .int 0, .int 0, .int (-1), .int 0, .int 0])), (e4, .inl (e9, 8, .inl f135)), (e5, .inl (e10, 64, .inl f139))] := ⟨_, hP, hD⟩
  refine lv_iinc (v := 2) (lv' := [(3, .int 2), (2, .int 7), (0, .ref h0), (1, .int 0)]) hx hb d_SSession_clearLevels_35 hl (k := 0) rfl (by decide) (by decide) rfl (fun ls hl => ?_)
  refine lv_goto (tgt := 17) hx hb d_SSession_clearLevels_38 (by decide) ?_
  refine lv_iload_n hx hb d_SSession_clearLevels_17 rfl (lv_at hl 0 rfl) ?_
  refine lv_bipush (v := 8) hx hb d_SSession_clearLevels_18 (by decide) ?_
  refine lv_icmp_ge (tgt := 41) hx hb d_SSession_clearLevels_20 (by decide) (fun c_140 => absurd c_140 (by decide)) (fun c_140 => ?_)
  refine lv_aload_n hx hb d_SSession_clearLevels_23 rfl (lv_at hl 2 rfl) ?_
  refine va_get (D := (dC, dI)) (ci := 11) (v := .ref e5) (C := R_SSession) (T := F_SSession) (N := 18) hx hb hts (i_SSession _) hown hK hP 0 rfl rfl 5 (by decide) (hts _ (List.mem_cons_of_mem _ q_795)) (fun _ h9 => h9) rfl d_SSession_clearLevels_24 ?_
  refine lv_iload_n hx hb d_SSession_clearLevels_27 rfl (lv_at hl 1 rfl) ?_
  refine lv_bipush (v := 8) hx hb d_SSession_clearLevels_28 (by decide) ?_
  refine lv_imul hx hb d_SSession_clearLevels_30 ?_
  refine bx_top (y := 56) (by decide) ?_
  refine lv_iload_n hx hb d_SSession_clearLevels_31 rfl (lv_at hl 0 rfl) ?_
  refine lv_iadd hx hb d_SSession_clearLevels_32 ?_
  refine bx_top (y := 58) (by decide) ?_
  refine lv_iconst (v := 0) hx hb d_SSession_clearLevels_33 (by decide) ?_
  refine va_iast hx hb hK hP hD hS 2 1 (i := 58) (x := 0) rfl rfl (vp_in_nI (n := 58) (by decide) (by decide)) d_SSession_clearLevels_34 (fun H locs hP hD hS => ?_)
  obtain ⟨f141, hP, hD⟩ : ∃ f141 : Nat → Int32, va_P (dC, dI) classes [(h0, .inr (11, [.int z1, .ref e1, .ref e2, .ref e3, .ref e4, .ref e5, .ref e6, .ref e7, .ref e8, .int 0, .int 1, .int 1, .int 0, .int 0, .int 0, .int (-1), .int 0, .int 0])), (e4, .inl (e9, 8, .inl f135)), (e5, .inl (e10, 64, .inl f141))] H ∧ va_D A [(h0, .inr (11, [.int z1, .ref e1, .ref e2, .ref e3, .ref e4, .ref e5, .ref e6, .ref e7, .ref e8, .int 0, .int 1, .int 1, .int 0, .int 0, .int 0, .int (-1), .int 0, .int 0])), (e4, .inl (e9, 8, .inl f135)), (e5, .inl (e10, 64, .inl f141))] := ⟨_, hP, hD⟩
  refine lv_iinc (v := 3) (lv' := [(3, .int 3), (2, .int 7), (0, .ref h0), (1, .int 0)]) hx hb d_SSession_clearLevels_35 hl (k := 0) rfl (by decide) (by decide) rfl (fun ls hl => ?_)
  refine lv_goto (tgt := 17) hx hb d_SSession_clearLevels_38 (by decide) ?_
  refine lv_iload_n hx hb d_SSession_clearLevels_17 rfl (lv_at hl 0 rfl) ?_
  refine lv_bipush (v := 8) hx hb d_SSession_clearLevels_18 (by decide) ?_
  refine lv_icmp_ge (tgt := 41) hx hb d_SSession_clearLevels_20 (by decide) (fun c_142 => absurd c_142 (by decide)) (fun c_142 => ?_)
  refine lv_aload_n hx hb d_SSession_clearLevels_23 rfl (lv_at hl 2 rfl) ?_
  refine va_get (D := (dC, dI)) (ci := 11) (v := .ref e5) (C := R_SSession) (T := F_SSession) (N := 18) hx hb hts (i_SSession _) hown hK hP 0 rfl rfl 5 (by decide) (hts _ (List.mem_cons_of_mem _ q_795)) (fun _ h9 => h9) rfl d_SSession_clearLevels_24 ?_
  refine lv_iload_n hx hb d_SSession_clearLevels_27 rfl (lv_at hl 1 rfl) ?_
  refine lv_bipush (v := 8) hx hb d_SSession_clearLevels_28 (by decide) ?_
  refine lv_imul hx hb d_SSession_clearLevels_30 ?_
  refine bx_top (y := 56) (by decide) ?_
  refine lv_iload_n hx hb d_SSession_clearLevels_31 rfl (lv_at hl 0 rfl) ?_
  refine lv_iadd hx hb d_SSession_clearLevels_32 ?_
  refine bx_top (y := 59) (by decide) ?_
  refine lv_iconst (v := 0) hx hb d_SSession_clearLevels_33 (by decide) ?_
  refine va_iast hx hb hK hP hD hS 2 1 (i := 59) (x := 0) rfl rfl (vp_in_nI (n := 59) (by decide) (by decide)) d_SSession_clearLevels_34 (fun H locs hP hD hS => ?_)
  obtain ⟨f143, hP, hD⟩ : ∃ f143 : Nat → Int32, va_P (dC, dI) classes [(h0, .inr (11, [.int z1, .ref e1, .ref e2, .ref e3, .ref e4, .ref e5, .ref e6, .ref e7, .ref e8, .int 0, .int 1, .int 1, .int 0, .int 0, .int 0, .int (-1), .int 0, .int 0])), (e4, .inl (e9, 8, .inl f135)), (e5, .inl (e10, 64, .inl f143))] H ∧ va_D A [(h0, .inr (11, [.int z1, .ref e1, .ref e2, .ref e3, .ref e4, .ref e5, .ref e6, .ref e7, .ref e8, .int 0, .int 1, .int 1, .int 0, .int 0, .int 0, .int (-1), .int 0, .int 0])), (e4, .inl (e9, 8, .inl f135)), (e5, .inl (e10, 64, .inl f143))] := ⟨_, hP, hD⟩
  refine lv_iinc (v := 4) (lv' := [(3, .int 4), (2, .int 7), (0, .ref h0), (1, .int 0)]) hx hb d_SSession_clearLevels_35 hl (k := 0) rfl (by decide) (by decide) rfl (fun ls hl => ?_)
  refine lv_goto (tgt := 17) hx hb d_SSession_clearLevels_38 (by decide) ?_
  refine lv_iload_n hx hb d_SSession_clearLevels_17 rfl (lv_at hl 0 rfl) ?_
  refine lv_bipush (v := 8) hx hb d_SSession_clearLevels_18 (by decide) ?_
  refine lv_icmp_ge (tgt := 41) hx hb d_SSession_clearLevels_20 (by decide) (fun c_144 => absurd c_144 (by decide)) (fun c_144 => ?_)
  refine lv_aload_n hx hb d_SSession_clearLevels_23 rfl (lv_at hl 2 rfl) ?_
  refine va_get (D := (dC, dI)) (ci := 11) (v := .ref e5) (C := R_SSession) (T := F_SSession) (N := 18) hx hb hts (i_SSession _) hown hK hP 0 rfl rfl 5 (by decide) (hts _ (List.mem_cons_of_mem _ q_795)) (fun _ h9 => h9) rfl d_SSession_clearLevels_24 ?_
  refine lv_iload_n hx hb d_SSession_clearLevels_27 rfl (lv_at hl 1 rfl) ?_
  refine lv_bipush (v := 8) hx hb d_SSession_clearLevels_28 (by decide) ?_
  refine lv_imul hx hb d_SSession_clearLevels_30 ?_
  refine bx_top (y := 56) (by decide) ?_
  refine lv_iload_n hx hb d_SSession_clearLevels_31 rfl (lv_at hl 0 rfl) ?_
  refine lv_iadd hx hb d_SSession_clearLevels_32 ?_
  refine bx_top (y := 60) (by decide) ?_
  refine lv_iconst (v := 0) hx hb d_SSession_clearLevels_33 (by decide) ?_
  refine va_iast hx hb hK hP hD hS 2 1 (i := 60) (x := 0) rfl rfl (vp_in_nI (n := 60) (by decide) (by decide)) d_SSession_clearLevels_34 (fun H locs hP hD hS => ?_)
  obtain ⟨f145, hP, hD⟩ : ∃ f145 : Nat → Int32, va_P (dC, dI) classes [(h0, .inr (11, [.int z1, .ref e1, .ref e2, .ref e3, .ref e4, .ref e5, .ref e6, .ref e7, .ref e8, .int 0, .int 1, .int 1, .int 0, .int 0, .int 0, .int (-1), .int 0, .int 0])), (e4, .inl (e9, 8, .inl f135)), (e5, .inl (e10, 64, .inl f145))] H ∧ va_D A [(h0, .inr (11, [.int z1, .ref e1, .ref e2, .ref e3, .ref e4, .ref e5, .ref e6, .ref e7, .ref e8, .int 0, .int 1, .int 1, .int 0, .int 0, .int 0, .int (-1), .int 0, .int 0])), (e4, .inl (e9, 8, .inl f135)), (e5, .inl (e10, 64, .inl f145))] := ⟨_, hP, hD⟩
  refine lv_iinc (v := 5) (lv' := [(3, .int 5), (2, .int 7), (0, .ref h0), (1, .int 0)]) hx hb d_SSession_clearLevels_35 hl (k := 0) rfl (by decide) (by decide) rfl (fun ls hl => ?_)
  refine lv_goto (tgt := 17) hx hb d_SSession_clearLevels_38 (by decide) ?_
  refine lv_iload_n hx hb d_SSession_clearLevels_17 rfl (lv_at hl 0 rfl) ?_
  refine lv_bipush (v := 8) hx hb d_SSession_clearLevels_18 (by decide) ?_
  refine lv_icmp_ge (tgt := 41) hx hb d_SSession_clearLevels_20 (by decide) (fun c_146 => absurd c_146 (by decide)) (fun c_146 => ?_)
  refine lv_aload_n hx hb d_SSession_clearLevels_23 rfl (lv_at hl 2 rfl) ?_
  refine va_get (D := (dC, dI)) (ci := 11) (v := .ref e5) (C := R_SSession) (T := F_SSession) (N := 18) hx hb hts (i_SSession _) hown hK hP 0 rfl rfl 5 (by decide) (hts _ (List.mem_cons_of_mem _ q_795)) (fun _ h9 => h9) rfl d_SSession_clearLevels_24 ?_
  refine lv_iload_n hx hb d_SSession_clearLevels_27 rfl (lv_at hl 1 rfl) ?_
  refine lv_bipush (v := 8) hx hb d_SSession_clearLevels_28 (by decide) ?_
  refine lv_imul hx hb d_SSession_clearLevels_30 ?_
  refine bx_top (y := 56) (by decide) ?_
  refine lv_iload_n hx hb d_SSession_clearLevels_31 rfl (lv_at hl 0 rfl) ?_
  refine lv_iadd hx hb d_SSession_clearLevels_32 ?_
  refine bx_top (y := 61) (by decide) ?_
  refine lv_iconst (v := 0) hx hb d_SSession_clearLevels_33 (by decide) ?_
  refine va_iast hx hb hK hP hD hS 2 1 (i := 61) (x := 0) rfl rfl (vp_in_nI (n := 61) (by decide) (by decide)) d_SSession_clearLevels_34 (fun H locs hP hD hS => ?_)
  obtain ⟨f147, hP, hD⟩ : ∃ f147 : Nat → Int32, va_P (dC, dI) classes [(h0, .inr (11, [.int z1, .ref e1, .ref e2, .ref e3, .ref e4, .ref e5, .ref e6, .ref e7, .ref e8, .int 0, .int 1, .int 1, .int 0, .int 0, .int 0, .int (-1), .int 0, .int 0])), (e4, .inl (e9, 8, .inl f135)), (e5, .inl (e10, 64, .inl f147))] H ∧ va_D A [(h0, .inr (11, [.int z1, .ref e1, .ref e2, .ref e3, .ref e4, .ref e5, .ref e6, .ref e7, .ref e8, .int 0, .int 1, .int 1, .int 0, .int 0, .int 0, .int (-1), .int 0, .int 0])), (e4, .inl (e9, 8, .inl f135)), (e5, .inl (e10, 64, .inl f147))] := ⟨_, hP, hD⟩
  refine lv_iinc (v := 6) (lv' := [(3, .int 6), (2, .int 7), (0, .ref h0), (1, .int 0)]) hx hb d_SSession_clearLevels_35 hl (k := 0) rfl (by decide) (by decide) rfl (fun ls hl => ?_)
  refine lv_goto (tgt := 17) hx hb d_SSession_clearLevels_38 (by decide) ?_
  refine lv_iload_n hx hb d_SSession_clearLevels_17 rfl (lv_at hl 0 rfl) ?_
  refine lv_bipush (v := 8) hx hb d_SSession_clearLevels_18 (by decide) ?_
  refine lv_icmp_ge (tgt := 41) hx hb d_SSession_clearLevels_20 (by decide) (fun c_148 => absurd c_148 (by decide)) (fun c_148 => ?_)
  refine lv_aload_n hx hb d_SSession_clearLevels_23 rfl (lv_at hl 2 rfl) ?_
  refine va_get (D := (dC, dI)) (ci := 11) (v := .ref e5) (C := R_SSession) (T := F_SSession) (N := 18) hx hb hts (i_SSession _) hown hK hP 0 rfl rfl 5 (by decide) (hts _ (List.mem_cons_of_mem _ q_795)) (fun _ h9 => h9) rfl d_SSession_clearLevels_24 ?_
  refine lv_iload_n hx hb d_SSession_clearLevels_27 rfl (lv_at hl 1 rfl) ?_
  refine lv_bipush (v := 8) hx hb d_SSession_clearLevels_28 (by decide) ?_
  refine lv_imul hx hb d_SSession_clearLevels_30 ?_
  refine bx_top (y := 56) (by decide) ?_
  refine lv_iload_n hx hb d_SSession_clearLevels_31 rfl (lv_at hl 0 rfl) ?_
  refine lv_iadd hx hb d_SSession_clearLevels_32 ?_
  refine bx_top (y := 62) (by decide) ?_
  refine lv_iconst (v := 0) hx hb d_SSession_clearLevels_33 (by decide) ?_
  refine va_iast hx hb hK hP hD hS 2 1 (i := 62) (x := 0) rfl rfl (vp_in_nI (n := 62) (by decide) (by decide)) d_SSession_clearLevels_34 (fun H locs hP hD hS => ?_)
  obtain ⟨f149, hP, hD⟩ : ∃ f149 : Nat → Int32, va_P (dC, dI) classes [(h0, .inr (11, [.int z1, .ref e1, .ref e2, .ref e3, .ref e4, .ref e5, .ref e6, .ref e7, .ref e8, .int 0, .int 1, .int 1, .int 0, .int 0, .int 0, .int (-1), .int 0, .int 0])), (e4, .inl (e9, 8, .inl f135)), (e5, .inl (e10, 64, .inl f149))] H ∧ va_D A [(h0, .inr (11, [.int z1, .ref e1, .ref e2, .ref e3, .ref e4, .ref e5, .ref e6, .ref e7, .ref e8, .int 0, .int 1, .int 1, .int 0, .int 0, .int 0, .int (-1), .int 0, .int 0])), (e4, .inl (e9, 8, .inl f135)), (e5, .inl (e10, 64, .inl f149))] := ⟨_, hP, hD⟩
  refine lv_iinc (v := 7) (lv' := [(3, .int 7), (2, .int 7), (0, .ref h0), (1, .int 0)]) hx hb d_SSession_clearLevels_35 hl (k := 0) rfl (by decide) (by decide) rfl (fun ls hl => ?_)
  refine lv_goto (tgt := 17) hx hb d_SSession_clearLevels_38 (by decide) ?_
  refine lv_iload_n hx hb d_SSession_clearLevels_17 rfl (lv_at hl 0 rfl) ?_
  refine lv_bipush (v := 8) hx hb d_SSession_clearLevels_18 (by decide) ?_
  refine lv_icmp_ge (tgt := 41) hx hb d_SSession_clearLevels_20 (by decide) (fun c_150 => absurd c_150 (by decide)) (fun c_150 => ?_)
  refine lv_aload_n hx hb d_SSession_clearLevels_23 rfl (lv_at hl 2 rfl) ?_
  refine va_get (D := (dC, dI)) (ci := 11) (v := .ref e5) (C := R_SSession) (T := F_SSession) (N := 18) hx hb hts (i_SSession _) hown hK hP 0 rfl rfl 5 (by decide) (hts _ (List.mem_cons_of_mem _ q_795)) (fun _ h9 => h9) rfl d_SSession_clearLevels_24 ?_
  refine lv_iload_n hx hb d_SSession_clearLevels_27 rfl (lv_at hl 1 rfl) ?_
  refine lv_bipush (v := 8) hx hb d_SSession_clearLevels_28 (by decide) ?_
  refine lv_imul hx hb d_SSession_clearLevels_30 ?_
  refine bx_top (y := 56) (by decide) ?_
  refine lv_iload_n hx hb d_SSession_clearLevels_31 rfl (lv_at hl 0 rfl) ?_
  refine lv_iadd hx hb d_SSession_clearLevels_32 ?_
  refine bx_top (y := 63) (by decide) ?_
  refine lv_iconst (v := 0) hx hb d_SSession_clearLevels_33 (by decide) ?_
  refine va_iast hx hb hK hP hD hS 2 1 (i := 63) (x := 0) rfl rfl (vp_in_nI (n := 63) (by decide) (by decide)) d_SSession_clearLevels_34 (fun H locs hP hD hS => ?_)
  obtain ⟨f151, hP, hD⟩ : ∃ f151 : Nat → Int32, va_P (dC, dI) classes [(h0, .inr (11, [.int z1, .ref e1, .ref e2, .ref e3, .ref e4, .ref e5, .ref e6, .ref e7, .ref e8, .int 0, .int 1, .int 1, .int 0, .int 0, .int 0, .int (-1), .int 0, .int 0])), (e4, .inl (e9, 8, .inl f135)), (e5, .inl (e10, 64, .inl f151))] H ∧ va_D A [(h0, .inr (11, [.int z1, .ref e1, .ref e2, .ref e3, .ref e4, .ref e5, .ref e6, .ref e7, .ref e8, .int 0, .int 1, .int 1, .int 0, .int 0, .int 0, .int (-1), .int 0, .int 0])), (e4, .inl (e9, 8, .inl f135)), (e5, .inl (e10, 64, .inl f151))] := ⟨_, hP, hD⟩
  refine lv_iinc (v := 8) (lv' := [(3, .int 8), (2, .int 7), (0, .ref h0), (1, .int 0)]) hx hb d_SSession_clearLevels_35 hl (k := 0) rfl (by decide) (by decide) rfl (fun ls hl => ?_)
  refine lv_goto (tgt := 17) hx hb d_SSession_clearLevels_38 (by decide) ?_
  refine lv_iload_n hx hb d_SSession_clearLevels_17 rfl (lv_at hl 0 rfl) ?_
  refine lv_bipush (v := 8) hx hb d_SSession_clearLevels_18 (by decide) ?_
  refine lv_icmp_ge (tgt := 41) hx hb d_SSession_clearLevels_20 (by decide) (fun c_152 => ?_) (fun c_152 => absurd (by decide) c_152)
  refine lv_iinc (v := 8) (lv' := [(2, .int 8), (3, .int 8), (0, .ref h0), (1, .int 0)]) hx hb d_SSession_clearLevels_41 hl (k := 1) rfl (by decide) (by decide) rfl (fun ls hl => ?_)
  refine lv_goto (tgt := 2) hx hb d_SSession_clearLevels_44 (by decide) ?_
  refine lv_iload_n hx hb d_SSession_clearLevels_2 rfl (lv_at hl 0 rfl) ?_
  refine lv_bipush (v := 8) hx hb d_SSession_clearLevels_3 (by decide) ?_
  refine lv_icmp_ge (tgt := 47) hx hb d_SSession_clearLevels_5 (by decide) (fun c_153 => ?_) (fun c_153 => absurd (by decide) c_153)
  refine lv_aload_n hx hb d_SSession_clearLevels_47 rfl (lv_at hl 2 rfl) ?_
  refine lv_iload_n hx hb d_SSession_clearLevels_48 rfl (lv_at hl 3 rfl) ?_
  refine va_put (D := (dC, dI)) (ci := 11) (v := .int 0) (ty := .int) (C := R_SSession) (T := F_SSession) (N := 18) hx hb hts (i_SSession _) t_SSession t_SSession_ok n_SSession hown hK hP hD hS 0 rfl rfl 12 (by decide) (hts _ (List.mem_cons_of_mem _ q_809)) (fun _ h9 => h9) rfl (by decide +kernel) rfl rfl (Nat.le_of_ble_eq_true rfl) d_SSession_clearLevels_49 (fun H locs hP hD hS => ?_)
  have hP : va_P (dC, dI) classes [(h0, .inr (11, [.int z1, .ref e1, .ref e2, .ref e3, .ref e4, .ref e5, .ref e6, .ref e7, .ref e8, .int 0, .int 1, .int 1, .int 0, .int 0, .int 0, .int (-1), .int 0, .int 0])), (e4, .inl (e9, 8, .inl f135)), (e5, .inl (e10, 64, .inl f151))] H := hP
  have hD : va_D A [(h0, .inr (11, [.int z1, .ref e1, .ref e2, .ref e3, .ref e4, .ref e5, .ref e6, .ref e7, .ref e8, .int 0, .int 1, .int 1, .int 0, .int 0, .int 0, .int (-1), .int 0, .int 0])), (e4, .inl (e9, 8, .inl f135)), (e5, .inl (e10, 64, .inl f151))] := hD
  have hP9 := hP.sub (ws' := [(h0, .inr (11, [.int z1, .ref e1, .ref e2, .ref e3, .ref e4, .ref e5, .ref e6, .ref e7, .ref e8, .int 0, .int 1, .int 1, .int 0, .int 0, .int 0, .int (-1), .int 0, .int 0])), (e4, .inl (e9, 8, .inl f135)), (e5, .inl (e10, 64, .inl f151))]) [0, 1, 2] rfl
  have hD9 := hD.sub (ws' := [(h0, .inr (11, [.int z1, .ref e1, .ref e2, .ref e3, .ref e4, .ref e5, .ref e6, .ref e7, .ref e8, .int 0, .int 1, .int 1, .int 0, .int 0, .int 0, .int (-1), .int 0, .int 0])), (e4, .inl (e9, 8, .inl f135)), (e5, .inl (e10, 64, .inl f151))]) [0, 1, 2] (by decide) rfl
  have hK9 := hK.sub (tys' := [(e9, .int), (e10, .int)]) [0, 1] rfl
  refine W.widen (k := 0) (n := 0) (Nat.le_of_ble_eq_true rfl) (Nat.le_of_ble_eq_true rfl) ?_
  exact W.vret hx hb hr (fun t ht hW => ⟨⟨(), rfl, trivial, f135, f151, by rw [ht]; exact hP9, va_K.moved hW.alike hK9, hD9⟩, hS.F ht⟩) hS.2.2 d_SSession_clearLevels_52
