set_option maxHeartbeats 4000000 in
set_option maxRecDepth 100000 in
theorem c_Model_feed (l : Launch) (dC : Nat → ClassId) (dI : Nat → Nat → Nat) (sz : Nat) (h0 : Nat) (e1 : Nat) (e2 : Nat) (e3 : Nat) (e4 : Nat) (e5 : Nat) (e6 : Nat) (e7 : Nat) (e8 : Nat) (e9 : Nat) (e10 : Nat) (e11 : Nat) (e12 : Nat) (e13 : Nat) (e14 : Nat) (e15 : Nat) (e16 : Nat) (e17 : Nat) (e18 : Nat) (e19 : Nat) (e20 : Nat) (e21 : Nat) (e22 : Nat) (e23 : Nat) (e24 : Nat) (e25 : Nat) (e26 : Nat) (e27 : Nat) (e28 : Nat) (e29 : Nat) (e30 : ClassId) (z1 : Int32) (z2 : Int32) (z3 : Int32) (z4 : Int32) (z5 : Int32) : Met l y_Model_feed w_Model_feed ({ frames := 0, cells := 0, slots := 0, locals := 0 }) (va_Pc [.ref h0, .int z1, .int z2, .int z3, .int z4, .int z5] (fun U => U.heap.size = sz ∧ va_P (dC, dI) classes [(h0, .inr (20, [.int 1, .int (-1), .ref e1, .int 0, .ref e2, .ref e3, .ref e4, .int 0, .int 0, .ref e5, .ref e6, .ref e7, .ref e8, .ref e9, .ref e10, .ref e11, .ref e12, .ref e13, .int 0, .int 0, .ref e14, .ref e15, .ref e16, .ref e17, .int 0, .int 0, .int 0, .ref e18, .int 0, .ref e19, .ref e20, .ref e21, .int 0, .ref e22, .ref e23, .ref e24, .ref e25, .ref e26, .int 0, .ref e27, .ref e28, .ref e29])), (e1, .inl (e30, 2000, .inl (fun _ => 0)))] U.heap ∧ va_K (dC, dI) classes [(e30, .byte)] U ∧ va_D (fun _ => True) [(h0, .inr (20, [.int 1, .int (-1), .ref e1, .int 0, .ref e2, .ref e3, .ref e4, .int 0, .int 0, .ref e5, .ref e6, .ref e7, .ref e8, .ref e9, .ref e10, .ref e11, .ref e12, .ref e13, .int 0, .int 0, .ref e14, .ref e15, .ref e16, .ref e17, .int 0, .int 0, .int 0, .ref e18, .int 0, .ref e19, .ref e20, .ref e21, .int 0, .ref e22, .ref e23, .ref e24, .ref e25, .ref e26, .int 0, .ref e27, .ref e28, .ref e29])), (e1, .inl (e30, 2000, .inl (fun _ => 0)))] ∧ bx_N U)) (va_Qi (fun (r : Int32) (_ : Unit) => r = 1) (fun (_ : Unit) t => va_P (dC, dI) classes [] t.heap ∧ va_K (dC, dI) classes [] t ∧ va_D (va_A [(h0, .inr (20, [.int 1, .int (-1), .ref e1, .int 0, .ref e2, .ref e3, .ref e4, .int 0, .int 0, .ref e5, .ref e6, .ref e7, .ref e8, .ref e9, .ref e10, .ref e11, .ref e12, .ref e13, .int 0, .int 0, .ref e14, .ref e15, .ref e16, .ref e17, .int 0, .int 0, .int 0, .ref e18, .int 0, .ref e19, .ref e20, .ref e21, .int 0, .ref e22, .ref e23, .ref e24, .ref e25, .ref e26, .int 0, .ref e27, .ref e28, .ref e29])), (e1, .inl (e30, 2000, .inl (fun _ => 0)))] sz) []) (va_A [(h0, .inr (20, [.int 1, .int (-1), .ref e1, .int 0, .ref e2, .ref e3, .ref e4, .int 0, .int 0, .ref e5, .ref e6, .ref e7, .ref e8, .ref e9, .ref e10, .ref e11, .ref e12, .ref e13, .int 0, .int 0, .ref e14, .ref e15, .ref e16, .ref e17, .int 0, .int 0, .int 0, .ref e18, .int 0, .ref e19, .ref e20, .ref e21, .int 0, .ref e22, .ref e23, .ref e24, .ref e25, .ref e26, .int 0, .ref e27, .ref e28, .ref e29])), (e1, .inl (e30, 2000, .inl (fun _ => 0)))] sz)) 0 0 (va_A [(h0, .inr (20, [.int 1, .int (-1), .ref e1, .int 0, .ref e2, .ref e3, .ref e4, .int 0, .int 0, .ref e5, .ref e6, .ref e7, .ref e8, .ref e9, .ref e10, .ref e11, .ref e12, .ref e13, .int 0, .int 0, .ref e14, .ref e15, .ref e16, .ref e17, .int 0, .int 0, .int 0, .ref e18, .int 0, .ref e19, .ref e20, .ref e21, .int 0, .ref e22, .ref e23, .ref e24, .ref e25, .ref e26, .int 0, .ref e27, .ref e28, .ref e29])), (e1, .inl (e30, 2000, .inl (fun _ => 0)))] sz) := by
  refine Met.ofW (cc := b_Model_feed) (maxL := 8) (ret := (some .boolean)) (by decide) rfl ?_
  intro p e s m args below meth c s₁ B hml hv
  obtain ⟨rfl, hsz, hP, hK, hD0, hN⟩ := hv
  have hx := B.exec
  have hb := B.bytes
  have hr := B.returns
  have hts := atoms_spec (ws := w_Model_feed) B.pre
  have hown : s.vm.findClass R_Model = some m.cls := findClass_of_methodNamed B.named
  have hlocks := B.notSynchronized
  subst hsz
  have hD := hD0.self (sz := s.heap.size)
  generalize hAe : va_A [(h0, .inr (20, [.int 1, .int (-1), .ref e1, .int 0, .ref e2, .ref e3, .ref e4, .int 0, .int 0, .ref e5, .ref e6, .ref e7, .ref e8, .ref e9, .ref e10, .ref e11, .ref e12, .ref e13, .int 0, .int 0, .ref e14, .ref e15, .ref e16, .ref e17, .int 0, .int 0, .int 0, .ref e18, .int 0, .ref e19, .ref e20, .ref e21, .int 0, .ref e22, .ref e23, .ref e24, .ref e25, .ref e26, .int 0, .ref e27, .ref e28, .ref e29])), (e1, .inl (e30, 2000, .inl (fun _ => 0)))] s.heap.size = A at hD ⊢
  have hA : ∀ q : Nat, s.heap.size ≤ q → A q := fun q h => by rw [← hAe]; exact Or.inr h
  have hS : va_S A s.heap s.heap [] := va_S.rf
  have hP : va_P (dC, dI) classes [(h0, .inr (20, [.int 1, .int (-1), .ref e1, .int 0, .ref e2, .ref e3, .ref e4, .int 0, .int 0, .ref e5, .ref e6, .ref e7, .ref e8, .ref e9, .ref e10, .ref e11, .ref e12, .ref e13, .int 0, .int 0, .ref e14, .ref e15, .ref e16, .ref e17, .int 0, .int 0, .int 0, .ref e18, .int 0, .ref e19, .ref e20, .ref e21, .int 0, .ref e22, .ref e23, .ref e24, .ref e25, .ref e26, .int 0, .ref e27, .ref e28, .ref e29])), (e1, .inl (e30, 2000, .inl (fun _ => 0)))] s.heap := hP
  have hl := lv_entry ([.ref h0, .int z1, .int z2, .int z3, .int z4, .int z5]) (n := 8) (Nat.le_of_ble_eq_true rfl)
  rw [lg_entry_eq]
  generalize (lg_sl ([.ref h0, .int z1, .int z2, .int z3, .int z4, .int z5]) ++ List.replicate (8 - (lg_sl ([.ref h0, .int z1, .int z2, .int z3, .int z4, .int z5])).length) Slot.unset).toArray = ls at hl ⊢
  have hl : lv_has ls 8 [(0, .ref h0), (1, .int z1), (2, .int z2), (3, .int z3), (4, .int z4), (5, .int z5)] := hl
  obtain ⟨H, hH⟩ : ∃ H : Heap, s.heap = H := ⟨_, rfl⟩
  have hP : va_P (dC, dI) classes [(h0, .inr (20, [.int 1, .int (-1), .ref e1, .int 0, .ref e2, .ref e3, .ref e4, .int 0, .int 0, .ref e5, .ref e6, .ref e7, .ref e8, .ref e9, .ref e10, .ref e11, .ref e12, .ref e13, .int 0, .int 0, .ref e14, .ref e15, .ref e16, .ref e17, .int 0, .int 0, .int 0, .ref e18, .int 0, .ref e19, .ref e20, .ref e21, .int 0, .ref e22, .ref e23, .ref e24, .ref e25, .ref e26, .int 0, .ref e27, .ref e28, .ref e29])), (e1, .inl (e30, 2000, .inl (fun _ => 0)))] H := by rw [← hH]; exact hP
  have hS : va_S A s.heap H [] := by rw [← hH]; exact va_S.rf
  refine bx_heap hH ?_
  refine lv_aload_n hx hb d_Model_feed_0 rfl (lv_at hl 0 rfl) ?_
  refine va_get (D := (dC, dI)) (ci := 20) (v := .int 0) (C := R_Model) (T := F_Model) (N := 42) hx hb hts (i_Model _) hown hK hP 0 rfl rfl 3 (by decide) (hts _ (List.mem_cons_of_mem _ q_2631)) (fun _ h9 => h9) rfl d_Model_feed_1 ?_
  refine lv_sipush (v := 2000) hx hb d_Model_feed_4 (by decide) ?_
  refine lv_icmp_ne (tgt := 12) hx hb d_Model_feed_7 (by decide) (fun c_1 => ?_) (fun c_1 => absurd c_1 (by decide))
  refine lv_iconst (v := 0) hx hb d_Model_feed_12 (by decide) ?_
  refine lv_istore (lv' := [(6, .int 0), (0, .ref h0), (1, .int z1), (2, .int z2), (3, .int z3), (4, .int z4), (5, .int z5)]) hx hb d_Model_feed_13 hl (by decide) rfl (fun ls hl => ?_)
  refine lv_iload hx hb d_Model_feed_15 (lv_at hl 0 rfl) ?_
  refine lv_bipush (v := 20) hx hb d_Model_feed_17 (by decide) ?_
  refine lv_icmp_ge (tgt := 102) hx hb d_Model_feed_19 (by decide) (fun c_2 => absurd c_2 (by decide)) (fun c_2 => ?_)
  refine lv_iload hx hb d_Model_feed_22 (lv_at hl 0 rfl) ?_
  refine lv_iconst (v := 4) hx hb d_Model_feed_24 (by decide) ?_
  refine lv_icmp_ge (tgt := 32) hx hb d_Model_feed_25 (by decide) (fun c_3 => absurd c_3 (by decide)) (fun c_3 => ?_)
  refine lv_iload_n hx hb d_Model_feed_28 rfl (lv_at hl 2 rfl) ?_
  refine lv_goto (tgt := 68) hx hb d_Model_feed_29 (by decide) ?_
  refine lv_istore (lv' := [(7, .int z1), (6, .int 0), (0, .ref h0), (1, .int z1), (2, .int z2), (3, .int z3), (4, .int z4), (5, .int z5)]) hx hb d_Model_feed_68 hl (by decide) rfl (fun ls hl => ?_)
  refine lv_aload_n hx hb d_Model_feed_70 rfl (lv_at hl 2 rfl) ?_
  refine va_get (D := (dC, dI)) (ci := 20) (v := .ref e1) (C := R_Model) (T := F_Model) (N := 42) hx hb hts (i_Model _) hown hK hP 0 rfl rfl 2 (by decide) (hts _ (List.mem_cons_of_mem _ q_2630)) (fun _ h9 => h9) rfl d_Model_feed_71 ?_
  refine lv_aload_n hx hb d_Model_feed_74 rfl (lv_at hl 2 rfl) ?_
  refine va_get (D := (dC, dI)) (ci := 20) (v := .int 0) (C := R_Model) (T := F_Model) (N := 42) hx hb hts (i_Model _) hown hK hP 0 rfl rfl 3 (by decide) (hts _ (List.mem_cons_of_mem _ q_2631)) (fun _ h9 => h9) rfl d_Model_feed_75 ?_
  refine lv_iload hx hb d_Model_feed_78 (lv_at hl 1 rfl) ?_
  refine lv_iadd hx hb d_Model_feed_80 ?_
  refine bx_top (y := 0) (by decide) ?_
  refine lv_iload hx hb d_Model_feed_81 (lv_at hl 0 rfl) ?_
  refine lv_bipush (v := 24) hx hb d_Model_feed_83 (by decide) ?_
  refine lv_bipush (v := 8) hx hb d_Model_feed_85 (by decide) ?_
  refine lv_iload hx hb d_Model_feed_87 (lv_at hl 1 rfl) ?_
  refine lv_iconst (v := 4) hx hb d_Model_feed_89 (by decide) ?_
  refine lv_irem hx hb d_Model_feed_90 (by decide) ?_
  refine bx_top (y := 0) (by decide) ?_
  refine lv_imul hx hb d_Model_feed_91 ?_
  refine bx_top (y := 0) (by decide) ?_
  refine lv_isub hx hb d_Model_feed_92 ?_
  refine bx_top (y := 24) (by decide) ?_
  refine lv_ishr hx hb d_Model_feed_93 ?_
  refine lv_topi (fun v4 _ => ?_)
  refine lv_i2b hx hb d_Model_feed_94 rfl ?_
  refine lv_topi (fun v5 _ => ?_)
  refine va_bast hx hb hK hP hD hS 1 0 (i := 0) (x := v5) rfl rfl (vp_in_nI (n := 0) (by decide) (by decide)) d_Model_feed_95 (fun H locs hP hD hS => ?_)
  have hP : va_P (dC, dI) classes [(h0, .inr (20, [.int 1, .int (-1), .ref e1, .int 0, .ref e2, .ref e3, .ref e4, .int 0, .int 0, .ref e5, .ref e6, .ref e7, .ref e8, .ref e9, .ref e10, .ref e11, .ref e12, .ref e13, .int 0, .int 0, .ref e14, .ref e15, .ref e16, .ref e17, .int 0, .int 0, .int 0, .ref e18, .int 0, .ref e19, .ref e20, .ref e21, .int 0, .ref e22, .ref e23, .ref e24, .ref e25, .ref e26, .int 0, .ref e27, .ref e28, .ref e29])), (e1, .inl (e30, 2000, .inl (upd (fun _ => 0) (0 : Int32).toNatClampNeg (vp_nar .byte v5))))] H := hP
  have hD : va_D A [(h0, .inr (20, [.int 1, .int (-1), .ref e1, .int 0, .ref e2, .ref e3, .ref e4, .int 0, .int 0, .ref e5, .ref e6, .ref e7, .ref e8, .ref e9, .ref e10, .ref e11, .ref e12, .ref e13, .int 0, .int 0, .ref e14, .ref e15, .ref e16, .ref e17, .int 0, .int 0, .int 0, .ref e18, .int 0, .ref e19, .ref e20, .ref e21, .int 0, .ref e22, .ref e23, .ref e24, .ref e25, .ref e26, .int 0, .ref e27, .ref e28, .ref e29])), (e1, .inl (e30, 2000, .inl (upd (fun _ => 0) (0 : Int32).toNatClampNeg (vp_nar .byte v5))))] := hD
  generalize (upd (fun _ => 0) (0 : Int32).toNatClampNeg (vp_nar .byte v5)) = f6 at hP hD
  refine lv_iinc (v := 1) (lv' := [(6, .int 1), (7, .int z1), (0, .ref h0), (1, .int z1), (2, .int z2), (3, .int z3), (4, .int z4), (5, .int z5)]) hx hb d_Model_feed_96 hl (k := 1) rfl (by decide) (by decide) rfl (fun ls hl => ?_)
  refine lv_goto (tgt := 15) hx hb d_Model_feed_99 (by decide) ?_
  refine lv_iload hx hb d_Model_feed_15 (lv_at hl 0 rfl) ?_
  refine lv_bipush (v := 20) hx hb d_Model_feed_17 (by decide) ?_
  refine lv_icmp_ge (tgt := 102) hx hb d_Model_feed_19 (by decide) (fun c_7 => absurd c_7 (by decide)) (fun c_7 => ?_)
  refine lv_iload hx hb d_Model_feed_22 (lv_at hl 0 rfl) ?_
  refine lv_iconst (v := 4) hx hb d_Model_feed_24 (by decide) ?_
  refine lv_icmp_ge (tgt := 32) hx hb d_Model_feed_25 (by decide) (fun c_8 => absurd c_8 (by decide)) (fun c_8 => ?_)
  refine lv_iload_n hx hb d_Model_feed_28 rfl (lv_at hl 3 rfl) ?_
  refine lv_goto (tgt := 68) hx hb d_Model_feed_29 (by decide) ?_
  refine lv_istore (lv' := [(7, .int z1), (6, .int 1), (0, .ref h0), (1, .int z1), (2, .int z2), (3, .int z3), (4, .int z4), (5, .int z5)]) hx hb d_Model_feed_68 hl (by decide) rfl (fun ls hl => ?_)
  refine lv_aload_n hx hb d_Model_feed_70 rfl (lv_at hl 2 rfl) ?_
  refine va_get (D := (dC, dI)) (ci := 20) (v := .ref e1) (C := R_Model) (T := F_Model) (N := 42) hx hb hts (i_Model _) hown hK hP 0 rfl rfl 2 (by decide) (hts _ (List.mem_cons_of_mem _ q_2630)) (fun _ h9 => h9) rfl d_Model_feed_71 ?_
  refine lv_aload_n hx hb d_Model_feed_74 rfl (lv_at hl 2 rfl) ?_
  refine va_get (D := (dC, dI)) (ci := 20) (v := .int 0) (C := R_Model) (T := F_Model) (N := 42) hx hb hts (i_Model _) hown hK hP 0 rfl rfl 3 (by decide) (hts _ (List.mem_cons_of_mem _ q_2631)) (fun _ h9 => h9) rfl d_Model_feed_75 ?_
  refine lv_iload hx hb d_Model_feed_78 (lv_at hl 1 rfl) ?_
  refine lv_iadd hx hb d_Model_feed_80 ?_
  refine bx_top (y := 1) (by decide) ?_
  refine lv_iload hx hb d_Model_feed_81 (lv_at hl 0 rfl) ?_
  refine lv_bipush (v := 24) hx hb d_Model_feed_83 (by decide) ?_
  refine lv_bipush (v := 8) hx hb d_Model_feed_85 (by decide) ?_
  refine lv_iload hx hb d_Model_feed_87 (lv_at hl 1 rfl) ?_
  refine lv_iconst (v := 4) hx hb d_Model_feed_89 (by decide) ?_
  refine lv_irem hx hb d_Model_feed_90 (by decide) ?_
  refine bx_top (y := 1) (by decide) ?_
  refine lv_imul hx hb d_Model_feed_91 ?_
  refine bx_top (y := 8) (by decide) ?_
  refine lv_isub hx hb d_Model_feed_92 ?_
  refine bx_top (y := 16) (by decide) ?_
  refine lv_ishr hx hb d_Model_feed_93 ?_
  refine lv_topi (fun v9 _ => ?_)
  refine lv_i2b hx hb d_Model_feed_94 rfl ?_
  refine lv_topi (fun v10 _ => ?_)
  refine va_bast hx hb hK hP hD hS 1 0 (i := 1) (x := v10) rfl rfl (vp_in_nI (n := 1) (by decide) (by decide)) d_Model_feed_95 (fun H locs hP hD hS => ?_)
  have hP : va_P (dC, dI) classes [(h0, .inr (20, [.int 1, .int (-1), .ref e1, .int 0, .ref e2, .ref e3, .ref e4, .int 0, .int 0, .ref e5, .ref e6, .ref e7, .ref e8, .ref e9, .ref e10, .ref e11, .ref e12, .ref e13, .int 0, .int 0, .ref e14, .ref e15, .ref e16, .ref e17, .int 0, .int 0, .int 0, .ref e18, .int 0, .ref e19, .ref e20, .ref e21, .int 0, .ref e22, .ref e23, .ref e24, .ref e25, .ref e26, .int 0, .ref e27, .ref e28, .ref e29])), (e1, .inl (e30, 2000, .inl (upd f6 (1 : Int32).toNatClampNeg (vp_nar .byte v10))))] H := hP
  have hD : va_D A [(h0, .inr (20, [.int 1, .int (-1), .ref e1, .int 0, .ref e2, .ref e3, .ref e4, .int 0, .int 0, .ref e5, .ref e6, .ref e7, .ref e8, .ref e9, .ref e10, .ref e11, .ref e12, .ref e13, .int 0, .int 0, .ref e14, .ref e15, .ref e16, .ref e17, .int 0, .int 0, .int 0, .ref e18, .int 0, .ref e19, .ref e20, .ref e21, .int 0, .ref e22, .ref e23, .ref e24, .ref e25, .ref e26, .int 0, .ref e27, .ref e28, .ref e29])), (e1, .inl (e30, 2000, .inl (upd f6 (1 : Int32).toNatClampNeg (vp_nar .byte v10))))] := hD
  generalize (upd f6 (1 : Int32).toNatClampNeg (vp_nar .byte v10)) = f11 at hP hD
  refine lv_iinc (v := 2) (lv' := [(6, .int 2), (7, .int z1), (0, .ref h0), (1, .int z1), (2, .int z2), (3, .int z3), (4, .int z4), (5, .int z5)]) hx hb d_Model_feed_96 hl (k := 1) rfl (by decide) (by decide) rfl (fun ls hl => ?_)
  refine lv_goto (tgt := 15) hx hb d_Model_feed_99 (by decide) ?_
  refine lv_iload hx hb d_Model_feed_15 (lv_at hl 0 rfl) ?_
  refine lv_bipush (v := 20) hx hb d_Model_feed_17 (by decide) ?_
  refine lv_icmp_ge (tgt := 102) hx hb d_Model_feed_19 (by decide) (fun c_12 => absurd c_12 (by decide)) (fun c_12 => ?_)
  refine lv_iload hx hb d_Model_feed_22 (lv_at hl 0 rfl) ?_
  refine lv_iconst (v := 4) hx hb d_Model_feed_24 (by decide) ?_
  refine lv_icmp_ge (tgt := 32) hx hb d_Model_feed_25 (by decide) (fun c_13 => absurd c_13 (by decide)) (fun c_13 => ?_)
  refine lv_iload_n hx hb d_Model_feed_28 rfl (lv_at hl 3 rfl) ?_
  refine lv_goto (tgt := 68) hx hb d_Model_feed_29 (by decide) ?_
  refine lv_istore (lv' := [(7, .int z1), (6, .int 2), (0, .ref h0), (1, .int z1), (2, .int z2), (3, .int z3), (4, .int z4), (5, .int z5)]) hx hb d_Model_feed_68 hl (by decide) rfl (fun ls hl => ?_)
  refine lv_aload_n hx hb d_Model_feed_70 rfl (lv_at hl 2 rfl) ?_
  refine va_get (D := (dC, dI)) (ci := 20) (v := .ref e1) (C := R_Model) (T := F_Model) (N := 42) hx hb hts (i_Model _) hown hK hP 0 rfl rfl 2 (by decide) (hts _ (List.mem_cons_of_mem _ q_2630)) (fun _ h9 => h9) rfl d_Model_feed_71 ?_
  refine lv_aload_n hx hb d_Model_feed_74 rfl (lv_at hl 2 rfl) ?_
  refine va_get (D := (dC, dI)) (ci := 20) (v := .int 0) (C := R_Model) (T := F_Model) (N := 42) hx hb hts (i_Model _) hown hK hP 0 rfl rfl 3 (by decide) (hts _ (List.mem_cons_of_mem _ q_2631)) (fun _ h9 => h9) rfl d_Model_feed_75 ?_
  refine lv_iload hx hb d_Model_feed_78 (lv_at hl 1 rfl) ?_
  refine lv_iadd hx hb d_Model_feed_80 ?_
  refine bx_top (y := 2) (by decide) ?_
  refine lv_iload hx hb d_Model_feed_81 (lv_at hl 0 rfl) ?_
  refine lv_bipush (v := 24) hx hb d_Model_feed_83 (by decide) ?_
  refine lv_bipush (v := 8) hx hb d_Model_feed_85 (by decide) ?_
  refine lv_iload hx hb d_Model_feed_87 (lv_at hl 1 rfl) ?_
  refine lv_iconst (v := 4) hx hb d_Model_feed_89 (by decide) ?_
  refine lv_irem hx hb d_Model_feed_90 (by decide) ?_
  refine bx_top (y := 2) (by decide) ?_
  refine lv_imul hx hb d_Model_feed_91 ?_
  refine bx_top (y := 16) (by decide) ?_
  refine lv_isub hx hb d_Model_feed_92 ?_
  refine bx_top (y := 8) (by decide) ?_
  refine lv_ishr hx hb d_Model_feed_93 ?_
  refine lv_topi (fun v14 _ => ?_)
  refine lv_i2b hx hb d_Model_feed_94 rfl ?_
  refine lv_topi (fun v15 _ => ?_)
  refine va_bast hx hb hK hP hD hS 1 0 (i := 2) (x := v15) rfl rfl (vp_in_nI (n := 2) (by decide) (by decide)) d_Model_feed_95 (fun H locs hP hD hS => ?_)
  have hP : va_P (dC, dI) classes [(h0, .inr (20, [.int 1, .int (-1), .ref e1, .int 0, .ref e2, .ref e3, .ref e4, .int 0, .int 0, .ref e5, .ref e6, .ref e7, .ref e8, .ref e9, .ref e10, .ref e11, .ref e12, .ref e13, .int 0, .int 0, .ref e14, .ref e15, .ref e16, .ref e17, .int 0, .int 0, .int 0, .ref e18, .int 0, .ref e19, .ref e20, .ref e21, .int 0, .ref e22, .ref e23, .ref e24, .ref e25, .ref e26, .int 0, .ref e27, .ref e28, .ref e29])), (e1, .inl (e30, 2000, .inl (upd f11 (2 : Int32).toNatClampNeg (vp_nar .byte v15))))] H := hP
  have hD : va_D A [(h0, .inr (20, [.int 1, .int (-1), .ref e1, .int 0, .ref e2, .ref e3, .ref e4, .int 0, .int 0, .ref e5, .ref e6, .ref e7, .ref e8, .ref e9, .ref e10, .ref e11, .ref e12, .ref e13, .int 0, .int 0, .ref e14, .ref e15, .ref e16, .ref e17, .int 0, .int 0, .int 0, .ref e18, .int 0, .ref e19, .ref e20, .ref e21, .int 0, .ref e22, .ref e23, .ref e24, .ref e25, .ref e26, .int 0, .ref e27, .ref e28, .ref e29])), (e1, .inl (e30, 2000, .inl (upd f11 (2 : Int32).toNatClampNeg (vp_nar .byte v15))))] := hD
  generalize (upd f11 (2 : Int32).toNatClampNeg (vp_nar .byte v15)) = f16 at hP hD
  refine lv_iinc (v := 3) (lv' := [(6, .int 3), (7, .int z1), (0, .ref h0), (1, .int z1), (2, .int z2), (3, .int z3), (4, .int z4), (5, .int z5)]) hx hb d_Model_feed_96 hl (k := 1) rfl (by decide) (by decide) rfl (fun ls hl => ?_)
  refine lv_goto (tgt := 15) hx hb d_Model_feed_99 (by decide) ?_
  refine lv_iload hx hb d_Model_feed_15 (lv_at hl 0 rfl) ?_
  refine lv_bipush (v := 20) hx hb d_Model_feed_17 (by decide) ?_
  refine lv_icmp_ge (tgt := 102) hx hb d_Model_feed_19 (by decide) (fun c_17 => absurd c_17 (by decide)) (fun c_17 => ?_)
  refine lv_iload hx hb d_Model_feed_22 (lv_at hl 0 rfl) ?_
  refine lv_iconst (v := 4) hx hb d_Model_feed_24 (by decide) ?_
  refine lv_icmp_ge (tgt := 32) hx hb d_Model_feed_25 (by decide) (fun c_18 => absurd c_18 (by decide)) (fun c_18 => ?_)
  refine lv_iload_n hx hb d_Model_feed_28 rfl (lv_at hl 3 rfl) ?_
  refine lv_goto (tgt := 68) hx hb d_Model_feed_29 (by decide) ?_
  refine lv_istore (lv' := [(7, .int z1), (6, .int 3), (0, .ref h0), (1, .int z1), (2, .int z2), (3, .int z3), (4, .int z4), (5, .int z5)]) hx hb d_Model_feed_68 hl (by decide) rfl (fun ls hl => ?_)
  refine lv_aload_n hx hb d_Model_feed_70 rfl (lv_at hl 2 rfl) ?_
  refine va_get (D := (dC, dI)) (ci := 20) (v := .ref e1) (C := R_Model) (T := F_Model) (N := 42) hx hb hts (i_Model _) hown hK hP 0 rfl rfl 2 (by decide) (hts _ (List.mem_cons_of_mem _ q_2630)) (fun _ h9 => h9) rfl d_Model_feed_71 ?_
  refine lv_aload_n hx hb d_Model_feed_74 rfl (lv_at hl 2 rfl) ?_
  refine va_get (D := (dC, dI)) (ci := 20) (v := .int 0) (C := R_Model) (T := F_Model) (N := 42) hx hb hts (i_Model _) hown hK hP 0 rfl rfl 3 (by decide) (hts _ (List.mem_cons_of_mem _ q_2631)) (fun _ h9 => h9) rfl d_Model_feed_75 ?_
  refine lv_iload hx hb d_Model_feed_78 (lv_at hl 1 rfl) ?_
  refine lv_iadd hx hb d_Model_feed_80 ?_
  refine bx_top (y := 3) (by decide) ?_
  refine lv_iload hx hb d_Model_feed_81 (lv_at hl 0 rfl) ?_
  refine lv_bipush (v := 24) hx hb d_Model_feed_83 (by decide) ?_
  refine lv_bipush (v := 8) hx hb d_Model_feed_85 (by decide) ?_
  refine lv_iload hx hb d_Model_feed_87 (lv_at hl 1 rfl) ?_
  refine lv_iconst (v := 4) hx hb d_Model_feed_89 (by decide) ?_
  refine lv_irem hx hb d_Model_feed_90 (by decide) ?_
  refine bx_top (y := 3) (by decide) ?_
  refine lv_imul hx hb d_Model_feed_91 ?_
  refine bx_top (y := 24) (by decide) ?_
  refine lv_isub hx hb d_Model_feed_92 ?_
  refine bx_top (y := 0) (by decide) ?_
  refine lv_ishr hx hb d_Model_feed_93 ?_
  refine lv_topi (fun v19 _ => ?_)
  refine lv_i2b hx hb d_Model_feed_94 rfl ?_
  refine lv_topi (fun v20 _ => ?_)
  refine va_bast hx hb hK hP hD hS 1 0 (i := 3) (x := v20) rfl rfl (vp_in_nI (n := 3) (by decide) (by decide)) d_Model_feed_95 (fun H locs hP hD hS => ?_)
  have hP : va_P (dC, dI) classes [(h0, .inr (20, [.int 1, .int (-1), .ref e1, .int 0, .ref e2, .ref e3, .ref e4, .int 0, .int 0, .ref e5, .ref e6, .ref e7, .ref e8, .ref e9, .ref e10, .ref e11, .ref e12, .ref e13, .int 0, .int 0, .ref e14, .ref e15, .ref e16, .ref e17, .int 0, .int 0, .int 0, .ref e18, .int 0, .ref e19, .ref e20, .ref e21, .int 0, .ref e22, .ref e23, .ref e24, .ref e25, .ref e26, .int 0, .ref e27, .ref e28, .ref e29])), (e1, .inl (e30, 2000, .inl (upd f16 (3 : Int32).toNatClampNeg (vp_nar .byte v20))))] H := hP
  have hD : va_D A [(h0, .inr (20, [.int 1, .int (-1), .ref e1, .int 0, .ref e2, .ref e3, .ref e4, .int 0, .int 0, .ref e5, .ref e6, .ref e7, .ref e8, .ref e9, .ref e10, .ref e11, .ref e12, .ref e13, .int 0, .int 0, .ref e14, .ref e15, .ref e16, .ref e17, .int 0, .int 0, .int 0, .ref e18, .int 0, .ref e19, .ref e20, .ref e21, .int 0, .ref e22, .ref e23, .ref e24, .ref e25, .ref e26, .int 0, .ref e27, .ref e28, .ref e29])), (e1, .inl (e30, 2000, .inl (upd f16 (3 : Int32).toNatClampNeg (vp_nar .byte v20))))] := hD
  generalize (upd f16 (3 : Int32).toNatClampNeg (vp_nar .byte v20)) = f21 at hP hD
  refine lv_iinc (v := 4) (lv' := [(6, .int 4), (7, .int z1), (0, .ref h0), (1, .int z1), (2, .int z2), (3, .int z3), (4, .int z4), (5, .int z5)]) hx hb d_Model_feed_96 hl (k := 1) rfl (by decide) (by decide) rfl (fun ls hl => ?_)
  refine lv_goto (tgt := 15) hx hb d_Model_feed_99 (by decide) ?_
  refine lv_iload hx hb d_Model_feed_15 (lv_at hl 0 rfl) ?_
  refine lv_bipush (v := 20) hx hb d_Model_feed_17 (by decide) ?_
  refine lv_icmp_ge (tgt := 102) hx hb d_Model_feed_19 (by decide) (fun c_22 => absurd c_22 (by decide)) (fun c_22 => ?_)
  refine lv_iload hx hb d_Model_feed_22 (lv_at hl 0 rfl) ?_
  refine lv_iconst (v := 4) hx hb d_Model_feed_24 (by decide) ?_
  refine lv_icmp_ge (tgt := 32) hx hb d_Model_feed_25 (by decide) (fun c_23 => ?_) (fun c_23 => absurd (by decide) c_23)
  refine lv_iload hx hb d_Model_feed_32 (lv_at hl 0 rfl) ?_
  refine lv_bipush (v := 8) hx hb d_Model_feed_34 (by decide) ?_
  refine lv_icmp_ge (tgt := 43) hx hb d_Model_feed_36 (by decide) (fun c_24 => absurd c_24 (by decide)) (fun c_24 => ?_)
  refine lv_iload_n hx hb d_Model_feed_39 rfl (lv_at hl 4 rfl) ?_
  refine lv_goto (tgt := 68) hx hb d_Model_feed_40 (by decide) ?_
  refine lv_istore (lv' := [(7, .int z2), (6, .int 4), (0, .ref h0), (1, .int z1), (2, .int z2), (3, .int z3), (4, .int z4), (5, .int z5)]) hx hb d_Model_feed_68 hl (by decide) rfl (fun ls hl => ?_)
  refine lv_aload_n hx hb d_Model_feed_70 rfl (lv_at hl 2 rfl) ?_
  refine va_get (D := (dC, dI)) (ci := 20) (v := .ref e1) (C := R_Model) (T := F_Model) (N := 42) hx hb hts (i_Model _) hown hK hP 0 rfl rfl 2 (by decide) (hts _ (List.mem_cons_of_mem _ q_2630)) (fun _ h9 => h9) rfl d_Model_feed_71 ?_
  refine lv_aload_n hx hb d_Model_feed_74 rfl (lv_at hl 2 rfl) ?_
  refine va_get (D := (dC, dI)) (ci := 20) (v := .int 0) (C := R_Model) (T := F_Model) (N := 42) hx hb hts (i_Model _) hown hK hP 0 rfl rfl 3 (by decide) (hts _ (List.mem_cons_of_mem _ q_2631)) (fun _ h9 => h9) rfl d_Model_feed_75 ?_
  refine lv_iload hx hb d_Model_feed_78 (lv_at hl 1 rfl) ?_
  refine lv_iadd hx hb d_Model_feed_80 ?_
  refine bx_top (y := 4) (by decide) ?_
  refine lv_iload hx hb d_Model_feed_81 (lv_at hl 0 rfl) ?_
  refine lv_bipush (v := 24) hx hb d_Model_feed_83 (by decide) ?_
  refine lv_bipush (v := 8) hx hb d_Model_feed_85 (by decide) ?_
  refine lv_iload hx hb d_Model_feed_87 (lv_at hl 1 rfl) ?_
  refine lv_iconst (v := 4) hx hb d_Model_feed_89 (by decide) ?_
  refine lv_irem hx hb d_Model_feed_90 (by decide) ?_
  refine bx_top (y := 0) (by decide) ?_
  refine lv_imul hx hb d_Model_feed_91 ?_
  refine bx_top (y := 0) (by decide) ?_
  refine lv_isub hx hb d_Model_feed_92 ?_
  refine bx_top (y := 24) (by decide) ?_
  refine lv_ishr hx hb d_Model_feed_93 ?_
  refine lv_topi (fun v25 _ => ?_)
  refine lv_i2b hx hb d_Model_feed_94 rfl ?_
  refine lv_topi (fun v26 _ => ?_)
  refine va_bast hx hb hK hP hD hS 1 0 (i := 4) (x := v26) rfl rfl (vp_in_nI (n := 4) (by decide) (by decide)) d_Model_feed_95 (fun H locs hP hD hS => ?_)
  have hP : va_P (dC, dI) classes [(h0, .inr (20, [.int 1, .int (-1), .ref e1, .int 0, .ref e2, .ref e3, .ref e4, .int 0, .int 0, .ref e5, .ref e6, .ref e7, .ref e8, .ref e9, .ref e10, .ref e11, .ref e12, .ref e13, .int 0, .int 0, .ref e14, .ref e15, .ref e16, .ref e17, .int 0, .int 0, .int 0, .ref e18, .int 0, .ref e19, .ref e20, .ref e21, .int 0, .ref e22, .ref e23, .ref e24, .ref e25, .ref e26, .int 0, .ref e27, .ref e28, .ref e29])), (e1, .inl (e30, 2000, .inl (upd f21 (4 : Int32).toNatClampNeg (vp_nar .byte v26))))] H := hP
  have hD : va_D A [(h0, .inr (20, [.int 1, .int (-1), .ref e1, .int 0, .ref e2, .ref e3, .ref e4, .int 0, .int 0, .ref e5, .ref e6, .ref e7, .ref e8, .ref e9, .ref e10, .ref e11, .ref e12, .ref e13, .int 0, .int 0, .ref e14, .ref e15, .ref e16, .ref e17, .int 0, .int 0, .int 0, .ref e18, .int 0, .ref e19, .ref e20, .ref e21, .int 0, .ref e22, .ref e23, .ref e24, .ref e25, .ref e26, .int 0, .ref e27, .ref e28, .ref e29])), (e1, .inl (e30, 2000, .inl (upd f21 (4 : Int32).toNatClampNeg (vp_nar .byte v26))))] := hD
  generalize (upd f21 (4 : Int32).toNatClampNeg (vp_nar .byte v26)) = f27 at hP hD
  refine lv_iinc (v := 5) (lv' := [(6, .int 5), (7, .int z2), (0, .ref h0), (1, .int z1), (2, .int z2), (3, .int z3), (4, .int z4), (5, .int z5)]) hx hb d_Model_feed_96 hl (k := 1) rfl (by decide) (by decide) rfl (fun ls hl => ?_)
  refine lv_goto (tgt := 15) hx hb d_Model_feed_99 (by decide) ?_
  refine lv_iload hx hb d_Model_feed_15 (lv_at hl 0 rfl) ?_
  refine lv_bipush (v := 20) hx hb d_Model_feed_17 (by decide) ?_
  refine lv_icmp_ge (tgt := 102) hx hb d_Model_feed_19 (by decide) (fun c_28 => absurd c_28 (by decide)) (fun c_28 => ?_)
  refine lv_iload hx hb d_Model_feed_22 (lv_at hl 0 rfl) ?_
  refine lv_iconst (v := 4) hx hb d_Model_feed_24 (by decide) ?_
  refine lv_icmp_ge (tgt := 32) hx hb d_Model_feed_25 (by decide) (fun c_29 => ?_) (fun c_29 => absurd (by decide) c_29)
  refine lv_iload hx hb d_Model_feed_32 (lv_at hl 0 rfl) ?_
  refine lv_bipush (v := 8) hx hb d_Model_feed_34 (by decide) ?_
  refine lv_icmp_ge (tgt := 43) hx hb d_Model_feed_36 (by decide) (fun c_30 => absurd c_30 (by decide)) (fun c_30 => ?_)
  refine lv_iload_n hx hb d_Model_feed_39 rfl (lv_at hl 4 rfl) ?_
  refine lv_goto (tgt := 68) hx hb d_Model_feed_40 (by decide) ?_
  refine lv_istore (lv' := [(7, .int z2), (6, .int 5), (0, .ref h0), (1, .int z1), (2, .int z2), (3, .int z3), (4, .int z4), (5, .int z5)]) hx hb d_Model_feed_68 hl (by decide) rfl (fun ls hl => ?_)
  refine lv_aload_n hx hb d_Model_feed_70 rfl (lv_at hl 2 rfl) ?_
  refine va_get (D := (dC, dI)) (ci := 20) (v := .ref e1) (C := R_Model) (T := F_Model) (N := 42) hx hb hts (i_Model _) hown hK hP 0 rfl rfl 2 (by decide) (hts _ (List.mem_cons_of_mem _ q_2630)) (fun _ h9 => h9) rfl d_Model_feed_71 ?_
  refine lv_aload_n hx hb d_Model_feed_74 rfl (lv_at hl 2 rfl) ?_
  refine va_get (D := (dC, dI)) (ci := 20) (v := .int 0) (C := R_Model) (T := F_Model) (N := 42) hx hb hts (i_Model _) hown hK hP 0 rfl rfl 3 (by decide) (hts _ (List.mem_cons_of_mem _ q_2631)) (fun _ h9 => h9) rfl d_Model_feed_75 ?_
  refine lv_iload hx hb d_Model_feed_78 (lv_at hl 1 rfl) ?_
  refine lv_iadd hx hb d_Model_feed_80 ?_
  refine bx_top (y := 5) (by decide) ?_
  refine lv_iload hx hb d_Model_feed_81 (lv_at hl 0 rfl) ?_
  refine lv_bipush (v := 24) hx hb d_Model_feed_83 (by decide) ?_
  refine lv_bipush (v := 8) hx hb d_Model_feed_85 (by decide) ?_
  refine lv_iload hx hb d_Model_feed_87 (lv_at hl 1 rfl) ?_
  refine lv_iconst (v := 4) hx hb d_Model_feed_89 (by decide) ?_
  refine lv_irem hx hb d_Model_feed_90 (by decide) ?_
  refine bx_top (y := 1) (by decide) ?_
  refine lv_imul hx hb d_Model_feed_91 ?_
  refine bx_top (y := 8) (by decide) ?_
  refine lv_isub hx hb d_Model_feed_92 ?_
  refine bx_top (y := 16) (by decide) ?_
  refine lv_ishr hx hb d_Model_feed_93 ?_
  refine lv_topi (fun v31 _ => ?_)
  refine lv_i2b hx hb d_Model_feed_94 rfl ?_
  refine lv_topi (fun v32 _ => ?_)
  refine va_bast hx hb hK hP hD hS 1 0 (i := 5) (x := v32) rfl rfl (vp_in_nI (n := 5) (by decide) (by decide)) d_Model_feed_95 (fun H locs hP hD hS => ?_)
  have hP : va_P (dC, dI) classes [(h0, .inr (20, [.int 1, .int (-1), .ref e1, .int 0, .ref e2, .ref e3, .ref e4, .int 0, .int 0, .ref e5, .ref e6, .ref e7, .ref e8, .ref e9, .ref e10, .ref e11, .ref e12, .ref e13, .int 0, .int 0, .ref e14, .ref e15, .ref e16, .ref e17, .int 0, .int 0, .int 0, .ref e18, .int 0, .ref e19, .ref e20, .ref e21, .int 0, .ref e22, .ref e23, .ref e24, .ref e25, .ref e26, .int 0, .ref e27, .ref e28, .ref e29])), (e1, .inl (e30, 2000, .inl (upd f27 (5 : Int32).toNatClampNeg (vp_nar .byte v32))))] H := hP
  have hD : va_D A [(h0, .inr (20, [.int 1, .int (-1), .ref e1, .int 0, .ref e2, .ref e3, .ref e4, .int 0, .int 0, .ref e5, .ref e6, .ref e7, .ref e8, .ref e9, .ref e10, .ref e11, .ref e12, .ref e13, .int 0, .int 0, .ref e14, .ref e15, .ref e16, .ref e17, .int 0, .int 0, .int 0, .ref e18, .int 0, .ref e19, .ref e20, .ref e21, .int 0, .ref e22, .ref e23, .ref e24, .ref e25, .ref e26, .int 0, .ref e27, .ref e28, .ref e29])), (e1, .inl (e30, 2000, .inl (upd f27 (5 : Int32).toNatClampNeg (vp_nar .byte v32))))] := hD
  generalize (upd f27 (5 : Int32).toNatClampNeg (vp_nar .byte v32)) = f33 at hP hD
  refine lv_iinc (v := 6) (lv' := [(6, .int 6), (7, .int z2), (0, .ref h0), (1, .int z1), (2, .int z2), (3, .int z3), (4, .int z4), (5, .int z5)]) hx hb d_Model_feed_96 hl (k := 1) rfl (by decide) (by decide) rfl (fun ls hl => ?_)
  refine lv_goto (tgt := 15) hx hb d_Model_feed_99 (by decide) ?_
  refine lv_iload hx hb d_Model_feed_15 (lv_at hl 0 rfl) ?_
  refine lv_bipush (v := 20) hx hb d_Model_feed_17 (by decide) ?_
  refine lv_icmp_ge (tgt := 102) hx hb d_Model_feed_19 (by decide) (fun c_34 => absurd c_34 (by decide)) (fun c_34 => ?_)
  refine lv_iload hx hb d_Model_feed_22 (lv_at hl 0 rfl) ?_
  refine lv_iconst (v := 4) hx hb d_Model_feed_24 (by decide) ?_
  refine lv_icmp_ge (tgt := 32) hx hb d_Model_feed_25 (by decide) (fun c_35 => ?_) (fun c_35 => absurd (by decide) c_35)
  refine lv_iload hx hb d_Model_feed_32 (lv_at hl 0 rfl) ?_
  refine lv_bipush (v := 8) hx hb d_Model_feed_34 (by decide) ?_
  refine lv_icmp_ge (tgt := 43) hx hb d_Model_feed_36 (by decide) (fun c_36 => absurd c_36 (by decide)) (fun c_36 => ?_)
  refine lv_iload_n hx hb d_Model_feed_39 rfl (lv_at hl 4 rfl) ?_
  refine lv_goto (tgt := 68) hx hb d_Model_feed_40 (by decide) ?_
  refine lv_istore (lv' := [(7, .int z2), (6, .int 6), (0, .ref h0), (1, .int z1), (2, .int z2), (3, .int z3), (4, .int z4), (5, .int z5)]) hx hb d_Model_feed_68 hl (by decide) rfl (fun ls hl => ?_)
  refine lv_aload_n hx hb d_Model_feed_70 rfl (lv_at hl 2 rfl) ?_
  refine va_get (D := (dC, dI)) (ci := 20) (v := .ref e1) (C := R_Model) (T := F_Model) (N := 42) hx hb hts (i_Model _) hown hK hP 0 rfl rfl 2 (by decide) (hts _ (List.mem_cons_of_mem _ q_2630)) (fun _ h9 => h9) rfl d_Model_feed_71 ?_
  refine lv_aload_n hx hb d_Model_feed_74 rfl (lv_at hl 2 rfl) ?_
  refine va_get (D := (dC, dI)) (ci := 20) (v := .int 0) (C := R_Model) (T := F_Model) (N := 42) hx hb hts (i_Model _) hown hK hP 0 rfl rfl 3 (by decide) (hts _ (List.mem_cons_of_mem _ q_2631)) (fun _ h9 => h9) rfl d_Model_feed_75 ?_
  refine lv_iload hx hb d_Model_feed_78 (lv_at hl 1 rfl) ?_
  refine lv_iadd hx hb d_Model_feed_80 ?_
  refine bx_top (y := 6) (by decide) ?_
  refine lv_iload hx hb d_Model_feed_81 (lv_at hl 0 rfl) ?_
  refine lv_bipush (v := 24) hx hb d_Model_feed_83 (by decide) ?_
  refine lv_bipush (v := 8) hx hb d_Model_feed_85 (by decide) ?_
  refine lv_iload hx hb d_Model_feed_87 (lv_at hl 1 rfl) ?_
  refine lv_iconst (v := 4) hx hb d_Model_feed_89 (by decide) ?_
  refine lv_irem hx hb d_Model_feed_90 (by decide) ?_
  refine bx_top (y := 2) (by decide) ?_
  refine lv_imul hx hb d_Model_feed_91 ?_
  refine bx_top (y := 16) (by decide) ?_
  refine lv_isub hx hb d_Model_feed_92 ?_
  refine bx_top (y := 8) (by decide) ?_
  refine lv_ishr hx hb d_Model_feed_93 ?_
  refine lv_topi (fun v37 _ => ?_)
  refine lv_i2b hx hb d_Model_feed_94 rfl ?_
  refine lv_topi (fun v38 _ => ?_)
  refine va_bast hx hb hK hP hD hS 1 0 (i := 6) (x := v38) rfl rfl (vp_in_nI (n := 6) (by decide) (by decide)) d_Model_feed_95 (fun H locs hP hD hS => ?_)
  have hP : va_P (dC, dI) classes [(h0, .inr (20, [.int 1, .int (-1), .ref e1, .int 0, .ref e2, .ref e3, .ref e4, .int 0, .int 0, .ref e5, .ref e6, .ref e7, .ref e8, .ref e9, .ref e10, .ref e11, .ref e12, .ref e13, .int 0, .int 0, .ref e14, .ref e15, .ref e16, .ref e17, .int 0, .int 0, .int 0, .ref e18, .int 0, .ref e19, .ref e20, .ref e21, .int 0, .ref e22, .ref e23, .ref e24, .ref e25, .ref e26, .int 0, .ref e27, .ref e28, .ref e29])), (e1, .inl (e30, 2000, .inl (upd f33 (6 : Int32).toNatClampNeg (vp_nar .byte v38))))] H := hP
  have hD : va_D A [(h0, .inr (20, [.int 1, .int (-1), .ref e1, .int 0, .ref e2, .ref e3, .ref e4, .int 0, .int 0, .ref e5, .ref e6, .ref e7, .ref e8, .ref e9, .ref e10, .ref e11, .ref e12, .ref e13, .int 0, .int 0, .ref e14, .ref e15, .ref e16, .ref e17, .int 0, .int 0, .int 0, .ref e18, .int 0, .ref e19, .ref e20, .ref e21, .int 0, .ref e22, .ref e23, .ref e24, .ref e25, .ref e26, .int 0, .ref e27, .ref e28, .ref e29])), (e1, .inl (e30, 2000, .inl (upd f33 (6 : Int32).toNatClampNeg (vp_nar .byte v38))))] := hD
  generalize (upd f33 (6 : Int32).toNatClampNeg (vp_nar .byte v38)) = f39 at hP hD
  refine lv_iinc (v := 7) (lv' := [(6, .int 7), (7, .int z2), (0, .ref h0), (1, .int z1), (2, .int z2), (3, .int z3), (4, .int z4), (5, .int z5)]) hx hb d_Model_feed_96 hl (k := 1) rfl (by decide) (by decide) rfl (fun ls hl => ?_)
  refine lv_goto (tgt := 15) hx hb d_Model_feed_99 (by decide) ?_
  refine lv_iload hx hb d_Model_feed_15 (lv_at hl 0 rfl) ?_
  refine lv_bipush (v := 20) hx hb d_Model_feed_17 (by decide) ?_
  refine lv_icmp_ge (tgt := 102) hx hb d_Model_feed_19 (by decide) (fun c_40 => absurd c_40 (by decide)) (fun c_40 => ?_)
  refine lv_iload hx hb d_Model_feed_22 (lv_at hl 0 rfl) ?_
  refine lv_iconst (v := 4) hx hb d_Model_feed_24 (by decide) ?_
  refine lv_icmp_ge (tgt := 32) hx hb d_Model_feed_25 (by decide) (fun c_41 => ?_) (fun c_41 => absurd (by decide) c_41)
  refine lv_iload hx hb d_Model_feed_32 (lv_at hl 0 rfl) ?_
  refine lv_bipush (v := 8) hx hb d_Model_feed_34 (by decide) ?_
  refine lv_icmp_ge (tgt := 43) hx hb d_Model_feed_36 (by decide) (fun c_42 => absurd c_42 (by decide)) (fun c_42 => ?_)
  refine lv_iload_n hx hb d_Model_feed_39 rfl (lv_at hl 4 rfl) ?_
  refine lv_goto (tgt := 68) hx hb d_Model_feed_40 (by decide) ?_
  refine lv_istore (lv' := [(7, .int z2), (6, .int 7), (0, .ref h0), (1, .int z1), (2, .int z2), (3, .int z3), (4, .int z4), (5, .int z5)]) hx hb d_Model_feed_68 hl (by decide) rfl (fun ls hl => ?_)
  refine lv_aload_n hx hb d_Model_feed_70 rfl (lv_at hl 2 rfl) ?_
  refine va_get (D := (dC, dI)) (ci := 20) (v := .ref e1) (C := R_Model) (T := F_Model) (N := 42) hx hb hts (i_Model _) hown hK hP 0 rfl rfl 2 (by decide) (hts _ (List.mem_cons_of_mem _ q_2630)) (fun _ h9 => h9) rfl d_Model_feed_71 ?_
  refine lv_aload_n hx hb d_Model_feed_74 rfl (lv_at hl 2 rfl) ?_
  refine va_get (D := (dC, dI)) (ci := 20) (v := .int 0) (C := R_Model) (T := F_Model) (N := 42) hx hb hts (i_Model _) hown hK hP 0 rfl rfl 3 (by decide) (hts _ (List.mem_cons_of_mem _ q_2631)) (fun _ h9 => h9) rfl d_Model_feed_75 ?_
  refine lv_iload hx hb d_Model_feed_78 (lv_at hl 1 rfl) ?_
  refine lv_iadd hx hb d_Model_feed_80 ?_
  refine bx_top (y := 7) (by decide) ?_
  refine lv_iload hx hb d_Model_feed_81 (lv_at hl 0 rfl) ?_
  refine lv_bipush (v := 24) hx hb d_Model_feed_83 (by decide) ?_
  refine lv_bipush (v := 8) hx hb d_Model_feed_85 (by decide) ?_
  refine lv_iload hx hb d_Model_feed_87 (lv_at hl 1 rfl) ?_
  refine lv_iconst (v := 4) hx hb d_Model_feed_89 (by decide) ?_
  refine lv_irem hx hb d_Model_feed_90 (by decide) ?_
  refine bx_top (y := 3) (by decide) ?_
  refine lv_imul hx hb d_Model_feed_91 ?_
  refine bx_top (y := 24) (by decide) ?_
  refine lv_isub hx hb d_Model_feed_92 ?_
  refine bx_top (y := 0) (by decide) ?_
  refine lv_ishr hx hb d_Model_feed_93 ?_
  refine lv_topi (fun v43 _ => ?_)
  refine lv_i2b hx hb d_Model_feed_94 rfl ?_
  refine lv_topi (fun v44 _ => ?_)
  refine va_bast hx hb hK hP hD hS 1 0 (i := 7) (x := v44) rfl rfl (vp_in_nI (n := 7) (by decide) (by decide)) d_Model_feed_95 (fun H locs hP hD hS => ?_)
  have hP : va_P (dC, dI) classes [(h0, .inr (20, [.int 1, .int (-1), .ref e1, .int 0, .ref e2, .ref e3, .ref e4, .int 0, .int 0, .ref e5, .ref e6, .ref e7, .ref e8, .ref e9, .ref e10, .ref e11, .ref e12, .ref e13, .int 0, .int 0, .ref e14, .ref e15, .ref e16, .ref e17, .int 0, .int 0, .int 0, .ref e18, .int 0, .ref e19, .ref e20, .ref e21, .int 0, .ref e22, .ref e23, .ref e24, .ref e25, .ref e26, .int 0, .ref e27, .ref e28, .ref e29])), (e1, .inl (e30, 2000, .inl (upd f39 (7 : Int32).toNatClampNeg (vp_nar .byte v44))))] H := hP
  have hD : va_D A [(h0, .inr (20, [.int 1, .int (-1), .ref e1, .int 0, .ref e2, .ref e3, .ref e4, .int 0, .int 0, .ref e5, .ref e6, .ref e7, .ref e8, .ref e9, .ref e10, .ref e11, .ref e12, .ref e13, .int 0, .int 0, .ref e14, .ref e15, .ref e16, .ref e17, .int 0, .int 0, .int 0, .ref e18, .int 0, .ref e19, .ref e20, .ref e21, .int 0, .ref e22, .ref e23, .ref e24, .ref e25, .ref e26, .int 0, .ref e27, .ref e28, .ref e29])), (e1, .inl (e30, 2000, .inl (upd f39 (7 : Int32).toNatClampNeg (vp_nar .byte v44))))] := hD
  generalize (upd f39 (7 : Int32).toNatClampNeg (vp_nar .byte v44)) = f45 at hP hD
  refine lv_iinc (v := 8) (lv' := [(6, .int 8), (7, .int z2), (0, .ref h0), (1, .int z1), (2, .int z2), (3, .int z3), (4, .int z4), (5, .int z5)]) hx hb d_Model_feed_96 hl (k := 1) rfl (by decide) (by decide) rfl (fun ls hl => ?_)
  refine lv_goto (tgt := 15) hx hb d_Model_feed_99 (by decide) ?_
  refine lv_iload hx hb d_Model_feed_15 (lv_at hl 0 rfl) ?_
  refine lv_bipush (v := 20) hx hb d_Model_feed_17 (by decide) ?_
  refine lv_icmp_ge (tgt := 102) hx hb d_Model_feed_19 (by decide) (fun c_46 => absurd c_46 (by decide)) (fun c_46 => ?_)
  refine lv_iload hx hb d_Model_feed_22 (lv_at hl 0 rfl) ?_
  refine lv_iconst (v := 4) hx hb d_Model_feed_24 (by decide) ?_
  refine lv_icmp_ge (tgt := 32) hx hb d_Model_feed_25 (by decide) (fun c_47 => ?_) (fun c_47 => absurd (by decide) c_47)
  refine lv_iload hx hb d_Model_feed_32 (lv_at hl 0 rfl) ?_
  refine lv_bipush (v := 8) hx hb d_Model_feed_34 (by decide) ?_
  refine lv_icmp_ge (tgt := 43) hx hb d_Model_feed_36 (by decide) (fun c_48 => ?_) (fun c_48 => absurd (by decide) c_48)
  refine lv_iload hx hb d_Model_feed_43 (lv_at hl 0 rfl) ?_
  refine lv_bipush (v := 12) hx hb d_Model_feed_45 (by decide) ?_
  refine lv_icmp_ge (tgt := 54) hx hb d_Model_feed_47 (by decide) (fun c_49 => absurd c_49 (by decide)) (fun c_49 => ?_)
  refine lv_iload_n hx hb d_Model_feed_50 rfl (lv_at hl 5 rfl) ?_
  refine lv_goto (tgt := 68) hx hb d_Model_feed_51 (by decide) ?_
  refine lv_istore (lv' := [(7, .int z3), (6, .int 8), (0, .ref h0), (1, .int z1), (2, .int z2), (3, .int z3), (4, .int z4), (5, .int z5)]) hx hb d_Model_feed_68 hl (by decide) rfl (fun ls hl => ?_)
  refine lv_aload_n hx hb d_Model_feed_70 rfl (lv_at hl 2 rfl) ?_
  refine va_get (D := (dC, dI)) (ci := 20) (v := .ref e1) (C := R_Model) (T := F_Model) (N := 42) hx hb hts (i_Model _) hown hK hP 0 rfl rfl 2 (by decide) (hts _ (List.mem_cons_of_mem _ q_2630)) (fun _ h9 => h9) rfl d_Model_feed_71 ?_
  refine lv_aload_n hx hb d_Model_feed_74 rfl (lv_at hl 2 rfl) ?_
  refine va_get (D := (dC, dI)) (ci := 20) (v := .int 0) (C := R_Model) (T := F_Model) (N := 42) hx hb hts (i_Model _) hown hK hP 0 rfl rfl 3 (by decide) (hts _ (List.mem_cons_of_mem _ q_2631)) (fun _ h9 => h9) rfl d_Model_feed_75 ?_
  refine lv_iload hx hb d_Model_feed_78 (lv_at hl 1 rfl) ?_
  refine lv_iadd hx hb d_Model_feed_80 ?_
  refine bx_top (y := 8) (by decide) ?_
  refine lv_iload hx hb d_Model_feed_81 (lv_at hl 0 rfl) ?_
  refine lv_bipush (v := 24) hx hb d_Model_feed_83 (by decide) ?_
  refine lv_bipush (v := 8) hx hb d_Model_feed_85 (by decide) ?_
  refine lv_iload hx hb d_Model_feed_87 (lv_at hl 1 rfl) ?_
  refine lv_iconst (v := 4) hx hb d_Model_feed_89 (by decide) ?_
  refine lv_irem hx hb d_Model_feed_90 (by decide) ?_
  refine bx_top (y := 0) (by decide) ?_
  refine lv_imul hx hb d_Model_feed_91 ?_
  refine bx_top (y := 0) (by decide) ?_
  refine lv_isub hx hb d_Model_feed_92 ?_
  refine bx_top (y := 24) (by decide) ?_
  refine lv_ishr hx hb d_Model_feed_93 ?_
  refine lv_topi (fun v50 _ => ?_)
  refine lv_i2b hx hb d_Model_feed_94 rfl ?_
  refine lv_topi (fun v51 _ => ?_)
  refine va_bast hx hb hK hP hD hS 1 0 (i := 8) (x := v51) rfl rfl (vp_in_nI (n := 8) (by decide) (by decide)) d_Model_feed_95 (fun H locs hP hD hS => ?_)
  have hP : va_P (dC, dI) classes [(h0, .inr (20, [.int 1, .int (-1), .ref e1, .int 0, .ref e2, .ref e3, .ref e4, .int 0, .int 0, .ref e5, .ref e6, .ref e7, .ref e8, .ref e9, .ref e10, .ref e11, .ref e12, .ref e13, .int 0, .int 0, .ref e14, .ref e15, .ref e16, .ref e17, .int 0, .int 0, .int 0, .ref e18, .int 0, .ref e19, .ref e20, .ref e21, .int 0, .ref e22, .ref e23, .ref e24, .ref e25, .ref e26, .int 0, .ref e27, .ref e28, .ref e29])), (e1, .inl (e30, 2000, .inl (upd f45 (8 : Int32).toNatClampNeg (vp_nar .byte v51))))] H := hP
  have hD : va_D A [(h0, .inr (20, [.int 1, .int (-1), .ref e1, .int 0, .ref e2, .ref e3, .ref e4, .int 0, .int 0, .ref e5, .ref e6, .ref e7, .ref e8, .ref e9, .ref e10, .ref e11, .ref e12, .ref e13, .int 0, .int 0, .ref e14, .ref e15, .ref e16, .ref e17, .int 0, .int 0, .int 0, .ref e18, .int 0, .ref e19, .ref e20, .ref e21, .int 0, .ref e22, .ref e23, .ref e24, .ref e25, .ref e26, .int 0, .ref e27, .ref e28, .ref e29])), (e1, .inl (e30, 2000, .inl (upd f45 (8 : Int32).toNatClampNeg (vp_nar .byte v51))))] := hD
  generalize (upd f45 (8 : Int32).toNatClampNeg (vp_nar .byte v51)) = f52 at hP hD
  refine lv_iinc (v := 9) (lv' := [(6, .int 9), (7, .int z3), (0, .ref h0), (1, .int z1), (2, .int z2), (3, .int z3), (4, .int z4), (5, .int z5)]) hx hb d_Model_feed_96 hl (k := 1) rfl (by decide) (by decide) rfl (fun ls hl => ?_)
  refine lv_goto (tgt := 15) hx hb d_Model_feed_99 (by decide) ?_
  refine lv_iload hx hb d_Model_feed_15 (lv_at hl 0 rfl) ?_
  refine lv_bipush (v := 20) hx hb d_Model_feed_17 (by decide) ?_
  refine lv_icmp_ge (tgt := 102) hx hb d_Model_feed_19 (by decide) (fun c_53 => absurd c_53 (by decide)) (fun c_53 => ?_)
  refine lv_iload hx hb d_Model_feed_22 (lv_at hl 0 rfl) ?_
  refine lv_iconst (v := 4) hx hb d_Model_feed_24 (by decide) ?_
  refine lv_icmp_ge (tgt := 32) hx hb d_Model_feed_25 (by decide) (fun c_54 => ?_) (fun c_54 => absurd (by decide) c_54)
  refine lv_iload hx hb d_Model_feed_32 (lv_at hl 0 rfl) ?_
  refine lv_bipush (v := 8) hx hb d_Model_feed_34 (by decide) ?_
  refine lv_icmp_ge (tgt := 43) hx hb d_Model_feed_36 (by decide) (fun c_55 => ?_) (fun c_55 => absurd (by decide) c_55)
  refine lv_iload hx hb d_Model_feed_43 (lv_at hl 0 rfl) ?_
  refine lv_bipush (v := 12) hx hb d_Model_feed_45 (by decide) ?_
  refine lv_icmp_ge (tgt := 54) hx hb d_Model_feed_47 (by decide) (fun c_56 => absurd c_56 (by decide)) (fun c_56 => ?_)
  refine lv_iload_n hx hb d_Model_feed_50 rfl (lv_at hl 5 rfl) ?_
  refine lv_goto (tgt := 68) hx hb d_Model_feed_51 (by decide) ?_
  refine lv_istore (lv' := [(7, .int z3), (6, .int 9), (0, .ref h0), (1, .int z1), (2, .int z2), (3, .int z3), (4, .int z4), (5, .int z5)]) hx hb d_Model_feed_68 hl (by decide) rfl (fun ls hl => ?_)
  refine lv_aload_n hx hb d_Model_feed_70 rfl (lv_at hl 2 rfl) ?_
  refine va_get (D := (dC, dI)) (ci := 20) (v := .ref e1) (C := R_Model) (T := F_Model) (N := 42) hx hb hts (i_Model _) hown hK hP 0 rfl rfl 2 (by decide) (hts _ (List.mem_cons_of_mem _ q_2630)) (fun _ h9 => h9) rfl d_Model_feed_71 ?_
  refine lv_aload_n hx hb d_Model_feed_74 rfl (lv_at hl 2 rfl) ?_
  refine va_get (D := (dC, dI)) (ci := 20) (v := .int 0) (C := R_Model) (T := F_Model) (N := 42) hx hb hts (i_Model _) hown hK hP 0 rfl rfl 3 (by decide) (hts _ (List.mem_cons_of_mem _ q_2631)) (fun _ h9 => h9) rfl d_Model_feed_75 ?_
  refine lv_iload hx hb d_Model_feed_78 (lv_at hl 1 rfl) ?_
  refine lv_iadd hx hb d_Model_feed_80 ?_
  refine bx_top (y := 9) (by decide) ?_
  refine lv_iload hx hb d_Model_feed_81 (lv_at hl 0 rfl) ?_
  refine lv_bipush (v := 24) hx hb d_Model_feed_83 (by decide) ?_
  refine lv_bipush (v := 8) hx hb d_Model_feed_85 (by decide) ?_
  refine lv_iload hx hb d_Model_feed_87 (lv_at hl 1 rfl) ?_
  refine lv_iconst (v := 4) hx hb d_Model_feed_89 (by decide) ?_
  refine lv_irem hx hb d_Model_feed_90 (by decide) ?_
  refine bx_top (y := 1) (by decide) ?_
  refine lv_imul hx hb d_Model_feed_91 ?_
  refine bx_top (y := 8) (by decide) ?_
  refine lv_isub hx hb d_Model_feed_92 ?_
  refine bx_top (y := 16) (by decide) ?_
  refine lv_ishr hx hb d_Model_feed_93 ?_
  refine lv_topi (fun v57 _ => ?_)
  refine lv_i2b hx hb d_Model_feed_94 rfl ?_
  refine lv_topi (fun v58 _ => ?_)
  refine va_bast hx hb hK hP hD hS 1 0 (i := 9) (x := v58) rfl rfl (vp_in_nI (n := 9) (by decide) (by decide)) d_Model_feed_95 (fun H locs hP hD hS => ?_)
  have hP : va_P (dC, dI) classes [(h0, .inr (20, [.int 1, .int (-1), .ref e1, .int 0, .ref e2, .ref e3, .ref e4, .int 0, .int 0, .ref e5, .ref e6, .ref e7, .ref e8, .ref e9, .ref e10, .ref e11, .ref e12, .ref e13, .int 0, .int 0, .ref e14, .ref e15, .ref e16, .ref e17, .int 0, .int 0, .int 0, .ref e18, .int 0, .ref e19, .ref e20, .ref e21, .int 0, .ref e22, .ref e23, .ref e24, .ref e25, .ref e26, .int 0, .ref e27, .ref e28, .ref e29])), (e1, .inl (e30, 2000, .inl (upd f52 (9 : Int32).toNatClampNeg (vp_nar .byte v58))))] H := hP
  have hD : va_D A [(h0, .inr (20, [.int 1, .int (-1), .ref e1, .int 0, .ref e2, .ref e3, .ref e4, .int 0, .int 0, .ref e5, .ref e6, .ref e7, .ref e8, .ref e9, .ref e10, .ref e11, .ref e12, .ref e13, .int 0, .int 0, .ref e14, .ref e15, .ref e16, .ref e17, .int 0, .int 0, .int 0, .ref e18, .int 0, .ref e19, .ref e20, .ref e21, .int 0, .ref e22, .ref e23, .ref e24, .ref e25, .ref e26, .int 0, .ref e27, .ref e28, .ref e29])), (e1, .inl (e30, 2000, .inl (upd f52 (9 : Int32).toNatClampNeg (vp_nar .byte v58))))] := hD
  generalize (upd f52 (9 : Int32).toNatClampNeg (vp_nar .byte v58)) = f59 at hP hD
  refine lv_iinc (v := 10) (lv' := [(6, .int 10), (7, .int z3), (0, .ref h0), (1, .int z1), (2, .int z2), (3, .int z3), (4, .int z4), (5, .int z5)]) hx hb d_Model_feed_96 hl (k := 1) rfl (by decide) (by decide) rfl (fun ls hl => ?_)
  refine lv_goto (tgt := 15) hx hb d_Model_feed_99 (by decide) ?_
  refine lv_iload hx hb d_Model_feed_15 (lv_at hl 0 rfl) ?_
  refine lv_bipush (v := 20) hx hb d_Model_feed_17 (by decide) ?_
  refine lv_icmp_ge (tgt := 102) hx hb d_Model_feed_19 (by decide) (fun c_60 => absurd c_60 (by decide)) (fun c_60 => ?_)
  refine lv_iload hx hb d_Model_feed_22 (lv_at hl 0 rfl) ?_
  refine lv_iconst (v := 4) hx hb d_Model_feed_24 (by decide) ?_
  refine lv_icmp_ge (tgt := 32) hx hb d_Model_feed_25 (by decide) (fun c_61 => ?_) (fun c_61 => absurd (by decide) c_61)
  refine lv_iload hx hb d_Model_feed_32 (lv_at hl 0 rfl) ?_
  refine lv_bipush (v := 8) hx hb d_Model_feed_34 (by decide) ?_
  refine lv_icmp_ge (tgt := 43) hx hb d_Model_feed_36 (by decide) (fun c_62 => ?_) (fun c_62 => absurd (by decide) c_62)
  refine lv_iload hx hb d_Model_feed_43 (lv_at hl 0 rfl) ?_
  refine lv_bipush (v := 12) hx hb d_Model_feed_45 (by decide) ?_
  refine lv_icmp_ge (tgt := 54) hx hb d_Model_feed_47 (by decide) (fun c_63 => absurd c_63 (by decide)) (fun c_63 => ?_)
  refine lv_iload_n hx hb d_Model_feed_50 rfl (lv_at hl 5 rfl) ?_
  refine lv_goto (tgt := 68) hx hb d_Model_feed_51 (by decide) ?_
  refine lv_istore (lv' := [(7, .int z3), (6, .int 10), (0, .ref h0), (1, .int z1), (2, .int z2), (3, .int z3), (4, .int z4), (5, .int z5)]) hx hb d_Model_feed_68 hl (by decide) rfl (fun ls hl => ?_)
  refine lv_aload_n hx hb d_Model_feed_70 rfl (lv_at hl 2 rfl) ?_
  refine va_get (D := (dC, dI)) (ci := 20) (v := .ref e1) (C := R_Model) (T := F_Model) (N := 42) hx hb hts (i_Model _) hown hK hP 0 rfl rfl 2 (by decide) (hts _ (List.mem_cons_of_mem _ q_2630)) (fun _ h9 => h9) rfl d_Model_feed_71 ?_
  refine lv_aload_n hx hb d_Model_feed_74 rfl (lv_at hl 2 rfl) ?_
  refine va_get (D := (dC, dI)) (ci := 20) (v := .int 0) (C := R_Model) (T := F_Model) (N := 42) hx hb hts (i_Model _) hown hK hP 0 rfl rfl 3 (by decide) (hts _ (List.mem_cons_of_mem _ q_2631)) (fun _ h9 => h9) rfl d_Model_feed_75 ?_
  refine lv_iload hx hb d_Model_feed_78 (lv_at hl 1 rfl) ?_
  refine lv_iadd hx hb d_Model_feed_80 ?_
  refine bx_top (y := 10) (by decide) ?_
  refine lv_iload hx hb d_Model_feed_81 (lv_at hl 0 rfl) ?_
  refine lv_bipush (v := 24) hx hb d_Model_feed_83 (by decide) ?_
  refine lv_bipush (v := 8) hx hb d_Model_feed_85 (by decide) ?_
  refine lv_iload hx hb d_Model_feed_87 (lv_at hl 1 rfl) ?_
  refine lv_iconst (v := 4) hx hb d_Model_feed_89 (by decide) ?_
  refine lv_irem hx hb d_Model_feed_90 (by decide) ?_
  refine bx_top (y := 2) (by decide) ?_
  refine lv_imul hx hb d_Model_feed_91 ?_
  refine bx_top (y := 16) (by decide) ?_
  refine lv_isub hx hb d_Model_feed_92 ?_
  refine bx_top (y := 8) (by decide) ?_
  refine lv_ishr hx hb d_Model_feed_93 ?_
  refine lv_topi (fun v64 _ => ?_)
  refine lv_i2b hx hb d_Model_feed_94 rfl ?_
  refine lv_topi (fun v65 _ => ?_)
  refine va_bast hx hb hK hP hD hS 1 0 (i := 10) (x := v65) rfl rfl (vp_in_nI (n := 10) (by decide) (by decide)) d_Model_feed_95 (fun H locs hP hD hS => ?_)
  have hP : va_P (dC, dI) classes [(h0, .inr (20, [.int 1, .int (-1), .ref e1, .int 0, .ref e2, .ref e3, .ref e4, .int 0, .int 0, .ref e5, .ref e6, .ref e7, .ref e8, .ref e9, .ref e10, .ref e11, .ref e12, .ref e13, .int 0, .int 0, .ref e14, .ref e15, .ref e16, .ref e17, .int 0, .int 0, .int 0, .ref e18, .int 0, .ref e19, .ref e20, .ref e21, .int 0, .ref e22, .ref e23, .ref e24, .ref e25, .ref e26, .int 0, .ref e27, .ref e28, .ref e29])), (e1, .inl (e30, 2000, .inl (upd f59 (10 : Int32).toNatClampNeg (vp_nar .byte v65))))] H := hP
  have hD : va_D A [(h0, .inr (20, [.int 1, .int (-1), .ref e1, .int 0, .ref e2, .ref e3, .ref e4, .int 0, .int 0, .ref e5, .ref e6, .ref e7, .ref e8, .ref e9, .ref e10, .ref e11, .ref e12, .ref e13, .int 0, .int 0, .ref e14, .ref e15, .ref e16, .ref e17, .int 0, .int 0, .int 0, .ref e18, .int 0, .ref e19, .ref e20, .ref e21, .int 0, .ref e22, .ref e23, .ref e24, .ref e25, .ref e26, .int 0, .ref e27, .ref e28, .ref e29])), (e1, .inl (e30, 2000, .inl (upd f59 (10 : Int32).toNatClampNeg (vp_nar .byte v65))))] := hD
  generalize (upd f59 (10 : Int32).toNatClampNeg (vp_nar .byte v65)) = f66 at hP hD
  refine lv_iinc (v := 11) (lv' := [(6, .int 11), (7, .int z3), (0, .ref h0), (1, .int z1), (2, .int z2), (3, .int z3), (4, .int z4), (5, .int z5)]) hx hb d_Model_feed_96 hl (k := 1) rfl (by decide) (by decide) rfl (fun ls hl => ?_)
  refine lv_goto (tgt := 15) hx hb d_Model_feed_99 (by decide) ?_
  refine lv_iload hx hb d_Model_feed_15 (lv_at hl 0 rfl) ?_
  refine lv_bipush (v := 20) hx hb d_Model_feed_17 (by decide) ?_
  refine lv_icmp_ge (tgt := 102) hx hb d_Model_feed_19 (by decide) (fun c_67 => absurd c_67 (by decide)) (fun c_67 => ?_)
  refine lv_iload hx hb d_Model_feed_22 (lv_at hl 0 rfl) ?_
  refine lv_iconst (v := 4) hx hb d_Model_feed_24 (by decide) ?_
  refine lv_icmp_ge (tgt := 32) hx hb d_Model_feed_25 (by decide) (fun c_68 => ?_) (fun c_68 => absurd (by decide) c_68)
  refine lv_iload hx hb d_Model_feed_32 (lv_at hl 0 rfl) ?_
  refine lv_bipush (v := 8) hx hb d_Model_feed_34 (by decide) ?_
  refine lv_icmp_ge (tgt := 43) hx hb d_Model_feed_36 (by decide) (fun c_69 => ?_) (fun c_69 => absurd (by decide) c_69)
  refine lv_iload hx hb d_Model_feed_43 (lv_at hl 0 rfl) ?_
  refine lv_bipush (v := 12) hx hb d_Model_feed_45 (by decide) ?_
  refine lv_icmp_ge (tgt := 54) hx hb d_Model_feed_47 (by decide) (fun c_70 => absurd c_70 (by decide)) (fun c_70 => ?_)
  refine lv_iload_n hx hb d_Model_feed_50 rfl (lv_at hl 5 rfl) ?_
  refine lv_goto (tgt := 68) hx hb d_Model_feed_51 (by decide) ?_
  refine lv_istore (lv' := [(7, .int z3), (6, .int 11), (0, .ref h0), (1, .int z1), (2, .int z2), (3, .int z3), (4, .int z4), (5, .int z5)]) hx hb d_Model_feed_68 hl (by decide) rfl (fun ls hl => ?_)
  refine lv_aload_n hx hb d_Model_feed_70 rfl (lv_at hl 2 rfl) ?_
  refine va_get (D := (dC, dI)) (ci := 20) (v := .ref e1) (C := R_Model) (T := F_Model) (N := 42) hx hb hts (i_Model _) hown hK hP 0 rfl rfl 2 (by decide) (hts _ (List.mem_cons_of_mem _ q_2630)) (fun _ h9 => h9) rfl d_Model_feed_71 ?_
  refine lv_aload_n hx hb d_Model_feed_74 rfl (lv_at hl 2 rfl) ?_
  refine va_get (D := (dC, dI)) (ci := 20) (v := .int 0) (C := R_Model) (T := F_Model) (N := 42) hx hb hts (i_Model _) hown hK hP 0 rfl rfl 3 (by decide) (hts _ (List.mem_cons_of_mem _ q_2631)) (fun _ h9 => h9) rfl d_Model_feed_75 ?_
  refine lv_iload hx hb d_Model_feed_78 (lv_at hl 1 rfl) ?_
  refine lv_iadd hx hb d_Model_feed_80 ?_
  refine bx_top (y := 11) (by decide) ?_
  refine lv_iload hx hb d_Model_feed_81 (lv_at hl 0 rfl) ?_
  refine lv_bipush (v := 24) hx hb d_Model_feed_83 (by decide) ?_
  refine lv_bipush (v := 8) hx hb d_Model_feed_85 (by decide) ?_
  refine lv_iload hx hb d_Model_feed_87 (lv_at hl 1 rfl) ?_
  refine lv_iconst (v := 4) hx hb d_Model_feed_89 (by decide) ?_
  refine lv_irem hx hb d_Model_feed_90 (by decide) ?_
  refine bx_top (y := 3) (by decide) ?_
  refine lv_imul hx hb d_Model_feed_91 ?_
  refine bx_top (y := 24) (by decide) ?_
  refine lv_isub hx hb d_Model_feed_92 ?_
  refine bx_top (y := 0) (by decide) ?_
  refine lv_ishr hx hb d_Model_feed_93 ?_
  refine lv_topi (fun v71 _ => ?_)
  refine lv_i2b hx hb d_Model_feed_94 rfl ?_
  refine lv_topi (fun v72 _ => ?_)
  refine va_bast hx hb hK hP hD hS 1 0 (i := 11) (x := v72) rfl rfl (vp_in_nI (n := 11) (by decide) (by decide)) d_Model_feed_95 (fun H locs hP hD hS => ?_)
  have hP : va_P (dC, dI) classes [(h0, .inr (20, [.int 1, .int (-1), .ref e1, .int 0, .ref e2, .ref e3, .ref e4, .int 0, .int 0, .ref e5, .ref e6, .ref e7, .ref e8, .ref e9, .ref e10, .ref e11, .ref e12, .ref e13, .int 0, .int 0, .ref e14, .ref e15, .ref e16, .ref e17, .int 0, .int 0, .int 0, .ref e18, .int 0, .ref e19, .ref e20, .ref e21, .int 0, .ref e22, .ref e23, .ref e24, .ref e25, .ref e26, .int 0, .ref e27, .ref e28, .ref e29])), (e1, .inl (e30, 2000, .inl (upd f66 (11 : Int32).toNatClampNeg (vp_nar .byte v72))))] H := hP
  have hD : va_D A [(h0, .inr (20, [.int 1, .int (-1), .ref e1, .int 0, .ref e2, .ref e3, .ref e4, .int 0, .int 0, .ref e5, .ref e6, .ref e7, .ref e8, .ref e9, .ref e10, .ref e11, .ref e12, .ref e13, .int 0, .int 0, .ref e14, .ref e15, .ref e16, .ref e17, .int 0, .int 0, .int 0, .ref e18, .int 0, .ref e19, .ref e20, .ref e21, .int 0, .ref e22, .ref e23, .ref e24, .ref e25, .ref e26, .int 0, .ref e27, .ref e28, .ref e29])), (e1, .inl (e30, 2000, .inl (upd f66 (11 : Int32).toNatClampNeg (vp_nar .byte v72))))] := hD
  generalize (upd f66 (11 : Int32).toNatClampNeg (vp_nar .byte v72)) = f73 at hP hD
  refine lv_iinc (v := 12) (lv' := [(6, .int 12), (7, .int z3), (0, .ref h0), (1, .int z1), (2, .int z2), (3, .int z3), (4, .int z4), (5, .int z5)]) hx hb d_Model_feed_96 hl (k := 1) rfl (by decide) (by decide) rfl (fun ls hl => ?_)
  refine lv_goto (tgt := 15) hx hb d_Model_feed_99 (by decide) ?_
  refine lv_iload hx hb d_Model_feed_15 (lv_at hl 0 rfl) ?_
  refine lv_bipush (v := 20) hx hb d_Model_feed_17 (by decide) ?_
  refine lv_icmp_ge (tgt := 102) hx hb d_Model_feed_19 (by decide) (fun c_74 => absurd c_74 (by decide)) (fun c_74 => ?_)
  refine lv_iload hx hb d_Model_feed_22 (lv_at hl 0 rfl) ?_
  refine lv_iconst (v := 4) hx hb d_Model_feed_24 (by decide) ?_
  refine lv_icmp_ge (tgt := 32) hx hb d_Model_feed_25 (by decide) (fun c_75 => ?_) (fun c_75 => absurd (by decide) c_75)
  refine lv_iload hx hb d_Model_feed_32 (lv_at hl 0 rfl) ?_
  refine lv_bipush (v := 8) hx hb d_Model_feed_34 (by decide) ?_
  refine lv_icmp_ge (tgt := 43) hx hb d_Model_feed_36 (by decide) (fun c_76 => ?_) (fun c_76 => absurd (by decide) c_76)
  refine lv_iload hx hb d_Model_feed_43 (lv_at hl 0 rfl) ?_
  refine lv_bipush (v := 12) hx hb d_Model_feed_45 (by decide) ?_
  refine lv_icmp_ge (tgt := 54) hx hb d_Model_feed_47 (by decide) (fun c_77 => ?_) (fun c_77 => absurd (by decide) c_77)
  refine lv_iload hx hb d_Model_feed_54 (lv_at hl 0 rfl) ?_
  refine lv_bipush (v := 16) hx hb d_Model_feed_56 (by decide) ?_
  refine lv_icmp_ge (tgt := 66) hx hb d_Model_feed_58 (by decide) (fun c_78 => absurd c_78 (by decide)) (fun c_78 => ?_)
  refine lv_iload hx hb d_Model_feed_61 (lv_at hl 6 rfl) ?_
  refine lv_goto (tgt := 68) hx hb d_Model_feed_63 (by decide) ?_
  refine lv_istore (lv' := [(7, .int z4), (6, .int 12), (0, .ref h0), (1, .int z1), (2, .int z2), (3, .int z3), (4, .int z4), (5, .int z5)]) hx hb d_Model_feed_68 hl (by decide) rfl (fun ls hl => ?_)
  refine lv_aload_n hx hb d_Model_feed_70 rfl (lv_at hl 2 rfl) ?_
  refine va_get (D := (dC, dI)) (ci := 20) (v := .ref e1) (C := R_Model) (T := F_Model) (N := 42) hx hb hts (i_Model _) hown hK hP 0 rfl rfl 2 (by decide) (hts _ (List.mem_cons_of_mem _ q_2630)) (fun _ h9 => h9) rfl d_Model_feed_71 ?_
  refine lv_aload_n hx hb d_Model_feed_74 rfl (lv_at hl 2 rfl) ?_
  refine va_get (D := (dC, dI)) (ci := 20) (v := .int 0) (C := R_Model) (T := F_Model) (N := 42) hx hb hts (i_Model _) hown hK hP 0 rfl rfl 3 (by decide) (hts _ (List.mem_cons_of_mem _ q_2631)) (fun _ h9 => h9) rfl d_Model_feed_75 ?_
  refine lv_iload hx hb d_Model_feed_78 (lv_at hl 1 rfl) ?_
  refine lv_iadd hx hb d_Model_feed_80 ?_
  refine bx_top (y := 12) (by decide) ?_
  refine lv_iload hx hb d_Model_feed_81 (lv_at hl 0 rfl) ?_
  refine lv_bipush (v := 24) hx hb d_Model_feed_83 (by decide) ?_
  refine lv_bipush (v := 8) hx hb d_Model_feed_85 (by decide) ?_
  refine lv_iload hx hb d_Model_feed_87 (lv_at hl 1 rfl) ?_
  refine lv_iconst (v := 4) hx hb d_Model_feed_89 (by decide) ?_
  refine lv_irem hx hb d_Model_feed_90 (by decide) ?_
  refine bx_top (y := 0) (by decide) ?_
  refine lv_imul hx hb d_Model_feed_91 ?_
  refine bx_top (y := 0) (by decide) ?_
  refine lv_isub hx hb d_Model_feed_92 ?_
  refine bx_top (y := 24) (by decide) ?_
  refine lv_ishr hx hb d_Model_feed_93 ?_
  refine lv_topi (fun v79 _ => ?_)
  refine lv_i2b hx hb d_Model_feed_94 rfl ?_
  refine lv_topi (fun v80 _ => ?_)
  refine va_bast hx hb hK hP hD hS 1 0 (i := 12) (x := v80) rfl rfl (vp_in_nI (n := 12) (by decide) (by decide)) d_Model_feed_95 (fun H locs hP hD hS => ?_)
  have hP : va_P (dC, dI) classes [(h0, .inr (20, [.int 1, .int (-1), .ref e1, .int 0, .ref e2, .ref e3, .ref e4, .int 0, .int 0, .ref e5, .ref e6, .ref e7, .ref e8, .ref e9, .ref e10, .ref e11, .ref e12, .ref e13, .int 0, .int 0, .ref e14, .ref e15, .ref e16, .ref e17, .int 0, .int 0, .int 0, .ref e18, .int 0, .ref e19, .ref e20, .ref e21, .int 0, .ref e22, .ref e23, .ref e24, .ref e25, .ref e26, .int 0, .ref e27, .ref e28, .ref e29])), (e1, .inl (e30, 2000, .inl (upd f73 (12 : Int32).toNatClampNeg (vp_nar .byte v80))))] H := hP
  have hD : va_D A [(h0, .inr (20, [.int 1, .int (-1), .ref e1, .int 0, .ref e2, .ref e3, .ref e4, .int 0, .int 0, .ref e5, .ref e6, .ref e7, .ref e8, .ref e9, .ref e10, .ref e11, .ref e12, .ref e13, .int 0, .int 0, .ref e14, .ref e15, .ref e16, .ref e17, .int 0, .int 0, .int 0, .ref e18, .int 0, .ref e19, .ref e20, .ref e21, .int 0, .ref e22, .ref e23, .ref e24, .ref e25, .ref e26, .int 0, .ref e27, .ref e28, .ref e29])), (e1, .inl (e30, 2000, .inl (upd f73 (12 : Int32).toNatClampNeg (vp_nar .byte v80))))] := hD
  generalize (upd f73 (12 : Int32).toNatClampNeg (vp_nar .byte v80)) = f81 at hP hD
  refine lv_iinc (v := 13) (lv' := [(6, .int 13), (7, .int z4), (0, .ref h0), (1, .int z1), (2, .int z2), (3, .int z3), (4, .int z4), (5, .int z5)]) hx hb d_Model_feed_96 hl (k := 1) rfl (by decide) (by decide) rfl (fun ls hl => ?_)
  refine lv_goto (tgt := 15) hx hb d_Model_feed_99 (by decide) ?_
  refine lv_iload hx hb d_Model_feed_15 (lv_at hl 0 rfl) ?_
  refine lv_bipush (v := 20) hx hb d_Model_feed_17 (by decide) ?_
  refine lv_icmp_ge (tgt := 102) hx hb d_Model_feed_19 (by decide) (fun c_82 => absurd c_82 (by decide)) (fun c_82 => ?_)
  refine lv_iload hx hb d_Model_feed_22 (lv_at hl 0 rfl) ?_
  refine lv_iconst (v := 4) hx hb d_Model_feed_24 (by decide) ?_
  refine lv_icmp_ge (tgt := 32) hx hb d_Model_feed_25 (by decide) (fun c_83 => ?_) (fun c_83 => absurd (by decide) c_83)
  refine lv_iload hx hb d_Model_feed_32 (lv_at hl 0 rfl) ?_
  refine lv_bipush (v := 8) hx hb d_Model_feed_34 (by decide) ?_
  refine lv_icmp_ge (tgt := 43) hx hb d_Model_feed_36 (by decide) (fun c_84 => ?_) (fun c_84 => absurd (by decide) c_84)
  refine lv_iload hx hb d_Model_feed_43 (lv_at hl 0 rfl) ?_
  refine lv_bipush (v := 12) hx hb d_Model_feed_45 (by decide) ?_
  refine lv_icmp_ge (tgt := 54) hx hb d_Model_feed_47 (by decide) (fun c_85 => ?_) (fun c_85 => absurd (by decide) c_85)
  refine lv_iload hx hb d_Model_feed_54 (lv_at hl 0 rfl) ?_
  refine lv_bipush (v := 16) hx hb d_Model_feed_56 (by decide) ?_
  refine lv_icmp_ge (tgt := 66) hx hb d_Model_feed_58 (by decide) (fun c_86 => absurd c_86 (by decide)) (fun c_86 => ?_)
  refine lv_iload hx hb d_Model_feed_61 (lv_at hl 6 rfl) ?_
  refine lv_goto (tgt := 68) hx hb d_Model_feed_63 (by decide) ?_
  refine lv_istore (lv' := [(7, .int z4), (6, .int 13), (0, .ref h0), (1, .int z1), (2, .int z2), (3, .int z3), (4, .int z4), (5, .int z5)]) hx hb d_Model_feed_68 hl (by decide) rfl (fun ls hl => ?_)
  refine lv_aload_n hx hb d_Model_feed_70 rfl (lv_at hl 2 rfl) ?_
  refine va_get (D := (dC, dI)) (ci := 20) (v := .ref e1) (C := R_Model) (T := F_Model) (N := 42) hx hb hts (i_Model _) hown hK hP 0 rfl rfl 2 (by decide) (hts _ (List.mem_cons_of_mem _ q_2630)) (fun _ h9 => h9) rfl d_Model_feed_71 ?_
  refine lv_aload_n hx hb d_Model_feed_74 rfl (lv_at hl 2 rfl) ?_
  refine va_get (D := (dC, dI)) (ci := 20) (v := .int 0) (C := R_Model) (T := F_Model) (N := 42) hx hb hts (i_Model _) hown hK hP 0 rfl rfl 3 (by decide) (hts _ (List.mem_cons_of_mem _ q_2631)) (fun _ h9 => h9) rfl d_Model_feed_75 ?_
  refine lv_iload hx hb d_Model_feed_78 (lv_at hl 1 rfl) ?_
  refine lv_iadd hx hb d_Model_feed_80 ?_
  refine bx_top (y := 13) (by decide) ?_
  refine lv_iload hx hb d_Model_feed_81 (lv_at hl 0 rfl) ?_
  refine lv_bipush (v := 24) hx hb d_Model_feed_83 (by decide) ?_
  refine lv_bipush (v := 8) hx hb d_Model_feed_85 (by decide) ?_
  refine lv_iload hx hb d_Model_feed_87 (lv_at hl 1 rfl) ?_
  refine lv_iconst (v := 4) hx hb d_Model_feed_89 (by decide) ?_
  refine lv_irem hx hb d_Model_feed_90 (by decide) ?_
  refine bx_top (y := 1) (by decide) ?_
  refine lv_imul hx hb d_Model_feed_91 ?_
  refine bx_top (y := 8) (by decide) ?_
  refine lv_isub hx hb d_Model_feed_92 ?_
  refine bx_top (y := 16) (by decide) ?_
  refine lv_ishr hx hb d_Model_feed_93 ?_
  refine lv_topi (fun v87 _ => ?_)
  refine lv_i2b hx hb d_Model_feed_94 rfl ?_
  refine lv_topi (fun v88 _ => ?_)
  refine va_bast hx hb hK hP hD hS 1 0 (i := 13) (x := v88) rfl rfl (vp_in_nI (n := 13) (by decide) (by decide)) d_Model_feed_95 (fun H locs hP hD hS => ?_)
  have hP : va_P (dC, dI) classes [(h0, .inr (20, [.int 1, .int (-1), .ref e1, .int 0, .ref e2, .ref e3, .ref e4, .int 0, .int 0, .ref e5, .ref e6, .ref e7, .ref e8, .ref e9, .ref e10, .ref e11, .ref e12, .ref e13, .int 0, .int 0, .ref e14, .ref e15, .ref e16, .ref e17, .int 0, .int 0, .int 0, .ref e18, .int 0, .ref e19, .ref e20, .ref e21, .int 0, .ref e22, .ref e23, .ref e24, .ref e25, .ref e26, .int 0, .ref e27, .ref e28, .ref e29])), (e1, .inl (e30, 2000, .inl (upd f81 (13 : Int32).toNatClampNeg (vp_nar .byte v88))))] H := hP
  have hD : va_D A [(h0, .inr (20, [.int 1, .int (-1), .ref e1, .int 0, .ref e2, .ref e3, .ref e4, .int 0, .int 0, .ref e5, .ref e6, .ref e7, .ref e8, .ref e9, .ref e10, .ref e11, .ref e12, .ref e13, .int 0, .int 0, .ref e14, .ref e15, .ref e16, .ref e17, .int 0, .int 0, .int 0, .ref e18, .int 0, .ref e19, .ref e20, .ref e21, .int 0, .ref e22, .ref e23, .ref e24, .ref e25, .ref e26, .int 0, .ref e27, .ref e28, .ref e29])), (e1, .inl (e30, 2000, .inl (upd f81 (13 : Int32).toNatClampNeg (vp_nar .byte v88))))] := hD
  generalize (upd f81 (13 : Int32).toNatClampNeg (vp_nar .byte v88)) = f89 at hP hD
  refine lv_iinc (v := 14) (lv' := [(6, .int 14), (7, .int z4), (0, .ref h0), (1, .int z1), (2, .int z2), (3, .int z3), (4, .int z4), (5, .int z5)]) hx hb d_Model_feed_96 hl (k := 1) rfl (by decide) (by decide) rfl (fun ls hl => ?_)
  refine lv_goto (tgt := 15) hx hb d_Model_feed_99 (by decide) ?_
  refine lv_iload hx hb d_Model_feed_15 (lv_at hl 0 rfl) ?_
  refine lv_bipush (v := 20) hx hb d_Model_feed_17 (by decide) ?_
  refine lv_icmp_ge (tgt := 102) hx hb d_Model_feed_19 (by decide) (fun c_90 => absurd c_90 (by decide)) (fun c_90 => ?_)
  refine lv_iload hx hb d_Model_feed_22 (lv_at hl 0 rfl) ?_
  refine lv_iconst (v := 4) hx hb d_Model_feed_24 (by decide) ?_
  refine lv_icmp_ge (tgt := 32) hx hb d_Model_feed_25 (by decide) (fun c_91 => ?_) (fun c_91 => absurd (by decide) c_91)
  refine lv_iload hx hb d_Model_feed_32 (lv_at hl 0 rfl) ?_
  refine lv_bipush (v := 8) hx hb d_Model_feed_34 (by decide) ?_
  refine lv_icmp_ge (tgt := 43) hx hb d_Model_feed_36 (by decide) (fun c_92 => ?_) (fun c_92 => absurd (by decide) c_92)
  refine lv_iload hx hb d_Model_feed_43 (lv_at hl 0 rfl) ?_
  refine lv_bipush (v := 12) hx hb d_Model_feed_45 (by decide) ?_
  refine lv_icmp_ge (tgt := 54) hx hb d_Model_feed_47 (by decide) (fun c_93 => ?_) (fun c_93 => absurd (by decide) c_93)
  refine lv_iload hx hb d_Model_feed_54 (lv_at hl 0 rfl) ?_
  refine lv_bipush (v := 16) hx hb d_Model_feed_56 (by decide) ?_
  refine lv_icmp_ge (tgt := 66) hx hb d_Model_feed_58 (by decide) (fun c_94 => absurd c_94 (by decide)) (fun c_94 => ?_)
  refine lv_iload hx hb d_Model_feed_61 (lv_at hl 6 rfl) ?_
  refine lv_goto (tgt := 68) hx hb d_Model_feed_63 (by decide) ?_
  refine lv_istore (lv' := [(7, .int z4), (6, .int 14), (0, .ref h0), (1, .int z1), (2, .int z2), (3, .int z3), (4, .int z4), (5, .int z5)]) hx hb d_Model_feed_68 hl (by decide) rfl (fun ls hl => ?_)
  refine lv_aload_n hx hb d_Model_feed_70 rfl (lv_at hl 2 rfl) ?_
  refine va_get (D := (dC, dI)) (ci := 20) (v := .ref e1) (C := R_Model) (T := F_Model) (N := 42) hx hb hts (i_Model _) hown hK hP 0 rfl rfl 2 (by decide) (hts _ (List.mem_cons_of_mem _ q_2630)) (fun _ h9 => h9) rfl d_Model_feed_71 ?_
  refine lv_aload_n hx hb d_Model_feed_74 rfl (lv_at hl 2 rfl) ?_
  refine va_get (D := (dC, dI)) (ci := 20) (v := .int 0) (C := R_Model) (T := F_Model) (N := 42) hx hb hts (i_Model _) hown hK hP 0 rfl rfl 3 (by decide) (hts _ (List.mem_cons_of_mem _ q_2631)) (fun _ h9 => h9) rfl d_Model_feed_75 ?_
  refine lv_iload hx hb d_Model_feed_78 (lv_at hl 1 rfl) ?_
  refine lv_iadd hx hb d_Model_feed_80 ?_
  refine bx_top (y := 14) (by decide) ?_
  refine lv_iload hx hb d_Model_feed_81 (lv_at hl 0 rfl) ?_
  refine lv_bipush (v := 24) hx hb d_Model_feed_83 (by decide) ?_
  refine lv_bipush (v := 8) hx hb d_Model_feed_85 (by decide) ?_
  refine lv_iload hx hb d_Model_feed_87 (lv_at hl 1 rfl) ?_
  refine lv_iconst (v := 4) hx hb d_Model_feed_89 (by decide) ?_
  refine lv_irem hx hb d_Model_feed_90 (by decide) ?_
  refine bx_top (y := 2) (by decide) ?_
  refine lv_imul hx hb d_Model_feed_91 ?_
  refine bx_top (y := 16) (by decide) ?_
  refine lv_isub hx hb d_Model_feed_92 ?_
  refine bx_top (y := 8) (by decide) ?_
  refine lv_ishr hx hb d_Model_feed_93 ?_
  refine lv_topi (fun v95 _ => ?_)
  refine lv_i2b hx hb d_Model_feed_94 rfl ?_
  refine lv_topi (fun v96 _ => ?_)
  refine va_bast hx hb hK hP hD hS 1 0 (i := 14) (x := v96) rfl rfl (vp_in_nI (n := 14) (by decide) (by decide)) d_Model_feed_95 (fun H locs hP hD hS => ?_)
  have hP : va_P (dC, dI) classes [(h0, .inr (20, [.int 1, .int (-1), .ref e1, .int 0, .ref e2, .ref e3, .ref e4, .int 0, .int 0, .ref e5, .ref e6, .ref e7, .ref e8, .ref e9, .ref e10, .ref e11, .ref e12, .ref e13, .int 0, .int 0, .ref e14, .ref e15, .ref e16, .ref e17, .int 0, .int 0, .int 0, .ref e18, .int 0, .ref e19, .ref e20, .ref e21, .int 0, .ref e22, .ref e23, .ref e24, .ref e25, .ref e26, .int 0, .ref e27, .ref e28, .ref e29])), (e1, .inl (e30, 2000, .inl (upd f89 (14 : Int32).toNatClampNeg (vp_nar .byte v96))))] H := hP
  have hD : va_D A [(h0, .inr (20, [.int 1, .int (-1), .ref e1, .int 0, .ref e2, .ref e3, .ref e4, .int 0, .int 0, .ref e5, .ref e6, .ref e7, .ref e8, .ref e9, .ref e10, .ref e11, .ref e12, .ref e13, .int 0, .int 0, .ref e14, .ref e15, .ref e16, .ref e17, .int 0, .int 0, .int 0, .ref e18, .int 0, .ref e19, .ref e20, .ref e21, .int 0, .ref e22, .ref e23, .ref e24, .ref e25, .ref e26, .int 0, .ref e27, .ref e28, .ref e29])), (e1, .inl (e30, 2000, .inl (upd f89 (14 : Int32).toNatClampNeg (vp_nar .byte v96))))] := hD
  generalize (upd f89 (14 : Int32).toNatClampNeg (vp_nar .byte v96)) = f97 at hP hD
  refine lv_iinc (v := 15) (lv' := [(6, .int 15), (7, .int z4), (0, .ref h0), (1, .int z1), (2, .int z2), (3, .int z3), (4, .int z4), (5, .int z5)]) hx hb d_Model_feed_96 hl (k := 1) rfl (by decide) (by decide) rfl (fun ls hl => ?_)
  refine lv_goto (tgt := 15) hx hb d_Model_feed_99 (by decide) ?_
  refine lv_iload hx hb d_Model_feed_15 (lv_at hl 0 rfl) ?_
  refine lv_bipush (v := 20) hx hb d_Model_feed_17 (by decide) ?_
  refine lv_icmp_ge (tgt := 102) hx hb d_Model_feed_19 (by decide) (fun c_98 => absurd c_98 (by decide)) (fun c_98 => ?_)
  refine lv_iload hx hb d_Model_feed_22 (lv_at hl 0 rfl) ?_
  refine lv_iconst (v := 4) hx hb d_Model_feed_24 (by decide) ?_
  refine lv_icmp_ge (tgt := 32) hx hb d_Model_feed_25 (by decide) (fun c_99 => ?_) (fun c_99 => absurd (by decide) c_99)
  refine lv_iload hx hb d_Model_feed_32 (lv_at hl 0 rfl) ?_
  refine lv_bipush (v := 8) hx hb d_Model_feed_34 (by decide) ?_
  refine lv_icmp_ge (tgt := 43) hx hb d_Model_feed_36 (by decide) (fun c_100 => ?_) (fun c_100 => absurd (by decide) c_100)
  refine lv_iload hx hb d_Model_feed_43 (lv_at hl 0 rfl) ?_
  refine lv_bipush (v := 12) hx hb d_Model_feed_45 (by decide) ?_
  refine lv_icmp_ge (tgt := 54) hx hb d_Model_feed_47 (by decide) (fun c_101 => ?_) (fun c_101 => absurd (by decide) c_101)
  refine lv_iload hx hb d_Model_feed_54 (lv_at hl 0 rfl) ?_
  refine lv_bipush (v := 16) hx hb d_Model_feed_56 (by decide) ?_
  refine lv_icmp_ge (tgt := 66) hx hb d_Model_feed_58 (by decide) (fun c_102 => absurd c_102 (by decide)) (fun c_102 => ?_)
  refine lv_iload hx hb d_Model_feed_61 (lv_at hl 6 rfl) ?_
  refine lv_goto (tgt := 68) hx hb d_Model_feed_63 (by decide) ?_
  refine lv_istore (lv' := [(7, .int z4), (6, .int 15), (0, .ref h0), (1, .int z1), (2, .int z2), (3, .int z3), (4, .int z4), (5, .int z5)]) hx hb d_Model_feed_68 hl (by decide) rfl (fun ls hl => ?_)
  refine lv_aload_n hx hb d_Model_feed_70 rfl (lv_at hl 2 rfl) ?_
  refine va_get (D := (dC, dI)) (ci := 20) (v := .ref e1) (C := R_Model) (T := F_Model) (N := 42) hx hb hts (i_Model _) hown hK hP 0 rfl rfl 2 (by decide) (hts _ (List.mem_cons_of_mem _ q_2630)) (fun _ h9 => h9) rfl d_Model_feed_71 ?_
  refine lv_aload_n hx hb d_Model_feed_74 rfl (lv_at hl 2 rfl) ?_
  refine va_get (D := (dC, dI)) (ci := 20) (v := .int 0) (C := R_Model) (T := F_Model) (N := 42) hx hb hts (i_Model _) hown hK hP 0 rfl rfl 3 (by decide) (hts _ (List.mem_cons_of_mem _ q_2631)) (fun _ h9 => h9) rfl d_Model_feed_75 ?_
  refine lv_iload hx hb d_Model_feed_78 (lv_at hl 1 rfl) ?_
  refine lv_iadd hx hb d_Model_feed_80 ?_
  refine bx_top (y := 15) (by decide) ?_
  refine lv_iload hx hb d_Model_feed_81 (lv_at hl 0 rfl) ?_
  refine lv_bipush (v := 24) hx hb d_Model_feed_83 (by decide) ?_
  refine lv_bipush (v := 8) hx hb d_Model_feed_85 (by decide) ?_
  refine lv_iload hx hb d_Model_feed_87 (lv_at hl 1 rfl) ?_
  refine lv_iconst (v := 4) hx hb d_Model_feed_89 (by decide) ?_
  refine lv_irem hx hb d_Model_feed_90 (by decide) ?_
  refine bx_top (y := 3) (by decide) ?_
  refine lv_imul hx hb d_Model_feed_91 ?_
  refine bx_top (y := 24) (by decide) ?_
  refine lv_isub hx hb d_Model_feed_92 ?_
  refine bx_top (y := 0) (by decide) ?_
  refine lv_ishr hx hb d_Model_feed_93 ?_
  refine lv_topi (fun v103 _ => ?_)
  refine lv_i2b hx hb d_Model_feed_94 rfl ?_
  refine lv_topi (fun v104 _ => ?_)
  refine va_bast hx hb hK hP hD hS 1 0 (i := 15) (x := v104) rfl rfl (vp_in_nI (n := 15) (by decide) (by decide)) d_Model_feed_95 (fun H locs hP hD hS => ?_)
  have hP : va_P (dC, dI) classes [(h0, .inr (20, [.int 1, .int (-1), .ref e1, .int 0, .ref e2, .ref e3, .ref e4, .int 0, .int 0, .ref e5, .ref e6, .ref e7, .ref e8, .ref e9, .ref e10, .ref e11, .ref e12, .ref e13, .int 0, .int 0, .ref e14, .ref e15, .ref e16, .ref e17, .int 0, .int 0, .int 0, .ref e18, .int 0, .ref e19, .ref e20, .ref e21, .int 0, .ref e22, .ref e23, .ref e24, .ref e25, .ref e26, .int 0, .ref e27, .ref e28, .ref e29])), (e1, .inl (e30, 2000, .inl (upd f97 (15 : Int32).toNatClampNeg (vp_nar .byte v104))))] H := hP
  have hD : va_D A [(h0, .inr (20, [.int 1, .int (-1), .ref e1, .int 0, .ref e2, .ref e3, .ref e4, .int 0, .int 0, .ref e5, .ref e6, .ref e7, .ref e8, .ref e9, .ref e10, .ref e11, .ref e12, .ref e13, .int 0, .int 0, .ref e14, .ref e15, .ref e16, .ref e17, .int 0, .int 0, .int 0, .ref e18, .int 0, .ref e19, .ref e20, .ref e21, .int 0, .ref e22, .ref e23, .ref e24, .ref e25, .ref e26, .int 0, .ref e27, .ref e28, .ref e29])), (e1, .inl (e30, 2000, .inl (upd f97 (15 : Int32).toNatClampNeg (vp_nar .byte v104))))] := hD
  generalize (upd f97 (15 : Int32).toNatClampNeg (vp_nar .byte v104)) = f105 at hP hD
  refine lv_iinc (v := 16) (lv' := [(6, .int 16), (7, .int z4), (0, .ref h0), (1, .int z1), (2, .int z2), (3, .int z3), (4, .int z4), (5, .int z5)]) hx hb d_Model_feed_96 hl (k := 1) rfl (by decide) (by decide) rfl (fun ls hl => ?_)
  refine lv_goto (tgt := 15) hx hb d_Model_feed_99 (by decide) ?_
  refine lv_iload hx hb d_Model_feed_15 (lv_at hl 0 rfl) ?_
  refine lv_bipush (v := 20) hx hb d_Model_feed_17 (by decide) ?_
  refine lv_icmp_ge (tgt := 102) hx hb d_Model_feed_19 (by decide) (fun c_106 => absurd c_106 (by decide)) (fun c_106 => ?_)
  refine lv_iload hx hb d_Model_feed_22 (lv_at hl 0 rfl) ?_
  refine lv_iconst (v := 4) hx hb d_Model_feed_24 (by decide) ?_
  refine lv_icmp_ge (tgt := 32) hx hb d_Model_feed_25 (by decide) (fun c_107 => ?_) (fun c_107 => absurd (by decide) c_107)
  refine lv_iload hx hb d_Model_feed_32 (lv_at hl 0 rfl) ?_
  refine lv_bipush (v := 8) hx hb d_Model_feed_34 (by decide) ?_
  refine lv_icmp_ge (tgt := 43) hx hb d_Model_feed_36 (by decide) (fun c_108 => ?_) (fun c_108 => absurd (by decide) c_108)
  refine lv_iload hx hb d_Model_feed_43 (lv_at hl 0 rfl) ?_
  refine lv_bipush (v := 12) hx hb d_Model_feed_45 (by decide) ?_
  refine lv_icmp_ge (tgt := 54) hx hb d_Model_feed_47 (by decide) (fun c_109 => ?_) (fun c_109 => absurd (by decide) c_109)
  refine lv_iload hx hb d_Model_feed_54 (lv_at hl 0 rfl) ?_
  refine lv_bipush (v := 16) hx hb d_Model_feed_56 (by decide) ?_
  refine lv_icmp_ge (tgt := 66) hx hb d_Model_feed_58 (by decide) (fun c_110 => ?_) (fun c_110 => absurd (by decide) c_110)
  refine lv_iload hx hb d_Model_feed_66 (lv_at hl 7 rfl) ?_
  refine lv_istore (lv' := [(7, .int z5), (6, .int 16), (0, .ref h0), (1, .int z1), (2, .int z2), (3, .int z3), (4, .int z4), (5, .int z5)]) hx hb d_Model_feed_68 hl (by decide) rfl (fun ls hl => ?_)
  refine lv_aload_n hx hb d_Model_feed_70 rfl (lv_at hl 2 rfl) ?_
  refine va_get (D := (dC, dI)) (ci := 20) (v := .ref e1) (C := R_Model) (T := F_Model) (N := 42) hx hb hts (i_Model _) hown hK hP 0 rfl rfl 2 (by decide) (hts _ (List.mem_cons_of_mem _ q_2630)) (fun _ h9 => h9) rfl d_Model_feed_71 ?_
  refine lv_aload_n hx hb d_Model_feed_74 rfl (lv_at hl 2 rfl) ?_
  refine va_get (D := (dC, dI)) (ci := 20) (v := .int 0) (C := R_Model) (T := F_Model) (N := 42) hx hb hts (i_Model _) hown hK hP 0 rfl rfl 3 (by decide) (hts _ (List.mem_cons_of_mem _ q_2631)) (fun _ h9 => h9) rfl d_Model_feed_75 ?_
  refine lv_iload hx hb d_Model_feed_78 (lv_at hl 1 rfl) ?_
  refine lv_iadd hx hb d_Model_feed_80 ?_
  refine bx_top (y := 16) (by decide) ?_
  refine lv_iload hx hb d_Model_feed_81 (lv_at hl 0 rfl) ?_
  refine lv_bipush (v := 24) hx hb d_Model_feed_83 (by decide) ?_
  refine lv_bipush (v := 8) hx hb d_Model_feed_85 (by decide) ?_
  refine lv_iload hx hb d_Model_feed_87 (lv_at hl 1 rfl) ?_
  refine lv_iconst (v := 4) hx hb d_Model_feed_89 (by decide) ?_
  refine lv_irem hx hb d_Model_feed_90 (by decide) ?_
  refine bx_top (y := 0) (by decide) ?_
  refine lv_imul hx hb d_Model_feed_91 ?_
  refine bx_top (y := 0) (by decide) ?_
  refine lv_isub hx hb d_Model_feed_92 ?_
  refine bx_top (y := 24) (by decide) ?_
  refine lv_ishr hx hb d_Model_feed_93 ?_
  refine lv_topi (fun v111 _ => ?_)
  refine lv_i2b hx hb d_Model_feed_94 rfl ?_
  refine lv_topi (fun v112 _ => ?_)
  refine va_bast hx hb hK hP hD hS 1 0 (i := 16) (x := v112) rfl rfl (vp_in_nI (n := 16) (by decide) (by decide)) d_Model_feed_95 (fun H locs hP hD hS => ?_)
  have hP : va_P (dC, dI) classes [(h0, .inr (20, [.int 1, .int (-1), .ref e1, .int 0, .ref e2, .ref e3, .ref e4, .int 0, .int 0, .ref e5, .ref e6, .ref e7, .ref e8, .ref e9, .ref e10, .ref e11, .ref e12, .ref e13, .int 0, .int 0, .ref e14, .ref e15, .ref e16, .ref e17, .int 0, .int 0, .int 0, .ref e18, .int 0, .ref e19, .ref e20, .ref e21, .int 0, .ref e22, .ref e23, .ref e24, .ref e25, .ref e26, .int 0, .ref e27, .ref e28, .ref e29])), (e1, .inl (e30, 2000, .inl (upd f105 (16 : Int32).toNatClampNeg (vp_nar .byte v112))))] H := hP
  have hD : va_D A [(h0, .inr (20, [.int 1, .int (-1), .ref e1, .int 0, .ref e2, .ref e3, .ref e4, .int 0, .int 0, .ref e5, .ref e6, .ref e7, .ref e8, .ref e9, .ref e10, .ref e11, .ref e12, .ref e13, .int 0, .int 0, .ref e14, .ref e15, .ref e16, .ref e17, .int 0, .int 0, .int 0, .ref e18, .int 0, .ref e19, .ref e20, .ref e21, .int 0, .ref e22, .ref e23, .ref e24, .ref e25, .ref e26, .int 0, .ref e27, .ref e28, .ref e29])), (e1, .inl (e30, 2000, .inl (upd f105 (16 : Int32).toNatClampNeg (vp_nar .byte v112))))] := hD
  generalize (upd f105 (16 : Int32).toNatClampNeg (vp_nar .byte v112)) = f113 at hP hD
  refine lv_iinc (v := 17) (lv' := [(6, .int 17), (7, .int z5), (0, .ref h0), (1, .int z1), (2, .int z2), (3, .int z3), (4, .int z4), (5, .int z5)]) hx hb d_Model_feed_96 hl (k := 1) rfl (by decide) (by decide) rfl (fun ls hl => ?_)
  refine lv_goto (tgt := 15) hx hb d_Model_feed_99 (by decide) ?_
  refine lv_iload hx hb d_Model_feed_15 (lv_at hl 0 rfl) ?_
  refine lv_bipush (v := 20) hx hb d_Model_feed_17 (by decide) ?_
  refine lv_icmp_ge (tgt := 102) hx hb d_Model_feed_19 (by decide) (fun c_114 => absurd c_114 (by decide)) (fun c_114 => ?_)
  refine lv_iload hx hb d_Model_feed_22 (lv_at hl 0 rfl) ?_
  refine lv_iconst (v := 4) hx hb d_Model_feed_24 (by decide) ?_
  refine lv_icmp_ge (tgt := 32) hx hb d_Model_feed_25 (by decide) (fun c_115 => ?_) (fun c_115 => absurd (by decide) c_115)
  refine lv_iload hx hb d_Model_feed_32 (lv_at hl 0 rfl) ?_
  refine lv_bipush (v := 8) hx hb d_Model_feed_34 (by decide) ?_
  refine lv_icmp_ge (tgt := 43) hx hb d_Model_feed_36 (by decide) (fun c_116 => ?_) (fun c_116 => absurd (by decide) c_116)
  refine lv_iload hx hb d_Model_feed_43 (lv_at hl 0 rfl) ?_
  refine lv_bipush (v := 12) hx hb d_Model_feed_45 (by decide) ?_
  refine lv_icmp_ge (tgt := 54) hx hb d_Model_feed_47 (by decide) (fun c_117 => ?_) (fun c_117 => absurd (by decide) c_117)
  refine lv_iload hx hb d_Model_feed_54 (lv_at hl 0 rfl) ?_
  refine lv_bipush (v := 16) hx hb d_Model_feed_56 (by decide) ?_
  refine lv_icmp_ge (tgt := 66) hx hb d_Model_feed_58 (by decide) (fun c_118 => ?_) (fun c_118 => absurd (by decide) c_118)
  refine lv_iload hx hb d_Model_feed_66 (lv_at hl 7 rfl) ?_
  refine lv_istore (lv' := [(7, .int z5), (6, .int 17), (0, .ref h0), (1, .int z1), (2, .int z2), (3, .int z3), (4, .int z4), (5, .int z5)]) hx hb d_Model_feed_68 hl (by decide) rfl (fun ls hl => ?_)
  refine lv_aload_n hx hb d_Model_feed_70 rfl (lv_at hl 2 rfl) ?_
  refine va_get (D := (dC, dI)) (ci := 20) (v := .ref e1) (C := R_Model) (T := F_Model) (N := 42) hx hb hts (i_Model _) hown hK hP 0 rfl rfl 2 (by decide) (hts _ (List.mem_cons_of_mem _ q_2630)) (fun _ h9 => h9) rfl d_Model_feed_71 ?_
  refine lv_aload_n hx hb d_Model_feed_74 rfl (lv_at hl 2 rfl) ?_
  refine va_get (D := (dC, dI)) (ci := 20) (v := .int 0) (C := R_Model) (T := F_Model) (N := 42) hx hb hts (i_Model _) hown hK hP 0 rfl rfl 3 (by decide) (hts _ (List.mem_cons_of_mem _ q_2631)) (fun _ h9 => h9) rfl d_Model_feed_75 ?_
  refine lv_iload hx hb d_Model_feed_78 (lv_at hl 1 rfl) ?_
  refine lv_iadd hx hb d_Model_feed_80 ?_
  refine bx_top (y := 17) (by decide) ?_
  refine lv_iload hx hb d_Model_feed_81 (lv_at hl 0 rfl) ?_
  refine lv_bipush (v := 24) hx hb d_Model_feed_83 (by decide) ?_
  refine lv_bipush (v := 8) hx hb d_Model_feed_85 (by decide) ?_
  refine lv_iload hx hb d_Model_feed_87 (lv_at hl 1 rfl) ?_
  refine lv_iconst (v := 4) hx hb d_Model_feed_89 (by decide) ?_
  refine lv_irem hx hb d_Model_feed_90 (by decide) ?_
  refine bx_top (y := 1) (by decide) ?_
  refine lv_imul hx hb d_Model_feed_91 ?_
  refine bx_top (y := 8) (by decide) ?_
  refine lv_isub hx hb d_Model_feed_92 ?_
  refine bx_top (y := 16) (by decide) ?_
  refine lv_ishr hx hb d_Model_feed_93 ?_
  refine lv_topi (fun v119 _ => ?_)
  refine lv_i2b hx hb d_Model_feed_94 rfl ?_
  refine lv_topi (fun v120 _ => ?_)
  refine va_bast hx hb hK hP hD hS 1 0 (i := 17) (x := v120) rfl rfl (vp_in_nI (n := 17) (by decide) (by decide)) d_Model_feed_95 (fun H locs hP hD hS => ?_)
  have hP : va_P (dC, dI) classes [(h0, .inr (20, [.int 1, .int (-1), .ref e1, .int 0, .ref e2, .ref e3, .ref e4, .int 0, .int 0, .ref e5, .ref e6, .ref e7, .ref e8, .ref e9, .ref e10, .ref e11, .ref e12, .ref e13, .int 0, .int 0, .ref e14, .ref e15, .ref e16, .ref e17, .int 0, .int 0, .int 0, .ref e18, .int 0, .ref e19, .ref e20, .ref e21, .int 0, .ref e22, .ref e23, .ref e24, .ref e25, .ref e26, .int 0, .ref e27, .ref e28, .ref e29])), (e1, .inl (e30, 2000, .inl (upd f113 (17 : Int32).toNatClampNeg (vp_nar .byte v120))))] H := hP
  have hD : va_D A [(h0, .inr (20, [.int 1, .int (-1), .ref e1, .int 0, .ref e2, .ref e3, .ref e4, .int 0, .int 0, .ref e5, .ref e6, .ref e7, .ref e8, .ref e9, .ref e10, .ref e11, .ref e12, .ref e13, .int 0, .int 0, .ref e14, .ref e15, .ref e16, .ref e17, .int 0, .int 0, .int 0, .ref e18, .int 0, .ref e19, .ref e20, .ref e21, .int 0, .ref e22, .ref e23, .ref e24, .ref e25, .ref e26, .int 0, .ref e27, .ref e28, .ref e29])), (e1, .inl (e30, 2000, .inl (upd f113 (17 : Int32).toNatClampNeg (vp_nar .byte v120))))] := hD
  generalize (upd f113 (17 : Int32).toNatClampNeg (vp_nar .byte v120)) = f121 at hP hD
  refine lv_iinc (v := 18) (lv' := [(6, .int 18), (7, .int z5), (0, .ref h0), (1, .int z1), (2, .int z2), (3, .int z3), (4, .int z4), (5, .int z5)]) hx hb d_Model_feed_96 hl (k := 1) rfl (by decide) (by decide) rfl (fun ls hl => ?_)
  refine lv_goto (tgt := 15) hx hb d_Model_feed_99 (by decide) ?_
  refine lv_iload hx hb d_Model_feed_15 (lv_at hl 0 rfl) ?_
  refine lv_bipush (v := 20) hx hb d_Model_feed_17 (by decide) ?_
  refine lv_icmp_ge (tgt := 102) hx hb d_Model_feed_19 (by decide) (fun c_122 => absurd c_122 (by decide)) (fun c_122 => ?_)
  refine lv_iload hx hb d_Model_feed_22 (lv_at hl 0 rfl) ?_
  refine lv_iconst (v := 4) hx hb d_Model_feed_24 (by decide) ?_
  refine lv_icmp_ge (tgt := 32) hx hb d_Model_feed_25 (by decide) (fun c_123 => ?_) (fun c_123 => absurd (by decide) c_123)
  refine lv_iload hx hb d_Model_feed_32 (lv_at hl 0 rfl) ?_
  refine lv_bipush (v := 8) hx hb d_Model_feed_34 (by decide) ?_
  refine lv_icmp_ge (tgt := 43) hx hb d_Model_feed_36 (by decide) (fun c_124 => ?_) (fun c_124 => absurd (by decide) c_124)
  refine lv_iload hx hb d_Model_feed_43 (lv_at hl 0 rfl) ?_
  refine lv_bipush (v := 12) hx hb d_Model_feed_45 (by decide) ?_
  refine lv_icmp_ge (tgt := 54) hx hb d_Model_feed_47 (by decide) (fun c_125 => ?_) (fun c_125 => absurd (by decide) c_125)
  refine lv_iload hx hb d_Model_feed_54 (lv_at hl 0 rfl) ?_
  refine lv_bipush (v := 16) hx hb d_Model_feed_56 (by decide) ?_
  refine lv_icmp_ge (tgt := 66) hx hb d_Model_feed_58 (by decide) (fun c_126 => ?_) (fun c_126 => absurd (by decide) c_126)
  refine lv_iload hx hb d_Model_feed_66 (lv_at hl 7 rfl) ?_
  refine lv_istore (lv' := [(7, .int z5), (6, .int 18), (0, .ref h0), (1, .int z1), (2, .int z2), (3, .int z3), (4, .int z4), (5, .int z5)]) hx hb d_Model_feed_68 hl (by decide) rfl (fun ls hl => ?_)
  refine lv_aload_n hx hb d_Model_feed_70 rfl (lv_at hl 2 rfl) ?_
  refine va_get (D := (dC, dI)) (ci := 20) (v := .ref e1) (C := R_Model) (T := F_Model) (N := 42) hx hb hts (i_Model _) hown hK hP 0 rfl rfl 2 (by decide) (hts _ (List.mem_cons_of_mem _ q_2630)) (fun _ h9 => h9) rfl d_Model_feed_71 ?_
  refine lv_aload_n hx hb d_Model_feed_74 rfl (lv_at hl 2 rfl) ?_
  refine va_get (D := (dC, dI)) (ci := 20) (v := .int 0) (C := R_Model) (T := F_Model) (N := 42) hx hb hts (i_Model _) hown hK hP 0 rfl rfl 3 (by decide) (hts _ (List.mem_cons_of_mem _ q_2631)) (fun _ h9 => h9) rfl d_Model_feed_75 ?_
  refine lv_iload hx hb d_Model_feed_78 (lv_at hl 1 rfl) ?_
  refine lv_iadd hx hb d_Model_feed_80 ?_
  refine bx_top (y := 18) (by decide) ?_
  refine lv_iload hx hb d_Model_feed_81 (lv_at hl 0 rfl) ?_
  refine lv_bipush (v := 24) hx hb d_Model_feed_83 (by decide) ?_
  refine lv_bipush (v := 8) hx hb d_Model_feed_85 (by decide) ?_
  refine lv_iload hx hb d_Model_feed_87 (lv_at hl 1 rfl) ?_
  refine lv_iconst (v := 4) hx hb d_Model_feed_89 (by decide) ?_
  refine lv_irem hx hb d_Model_feed_90 (by decide) ?_
  refine bx_top (y := 2) (by decide) ?_
  refine lv_imul hx hb d_Model_feed_91 ?_
  refine bx_top (y := 16) (by decide) ?_
  refine lv_isub hx hb d_Model_feed_92 ?_
  refine bx_top (y := 8) (by decide) ?_
  refine lv_ishr hx hb d_Model_feed_93 ?_
  refine lv_topi (fun v127 _ => ?_)
  refine lv_i2b hx hb d_Model_feed_94 rfl ?_
  refine lv_topi (fun v128 _ => ?_)
  refine va_bast hx hb hK hP hD hS 1 0 (i := 18) (x := v128) rfl rfl (vp_in_nI (n := 18) (by decide) (by decide)) d_Model_feed_95 (fun H locs hP hD hS => ?_)
  have hP : va_P (dC, dI) classes [(h0, .inr (20, [.int 1, .int (-1), .ref e1, .int 0, .ref e2, .ref e3, .ref e4, .int 0, .int 0, .ref e5, .ref e6, .ref e7, .ref e8, .ref e9, .ref e10, .ref e11, .ref e12, .ref e13, .int 0, .int 0, .ref e14, .ref e15, .ref e16, .ref e17, .int 0, .int 0, .int 0, .ref e18, .int 0, .ref e19, .ref e20, .ref e21, .int 0, .ref e22, .ref e23, .ref e24, .ref e25, .ref e26, .int 0, .ref e27, .ref e28, .ref e29])), (e1, .inl (e30, 2000, .inl (upd f121 (18 : Int32).toNatClampNeg (vp_nar .byte v128))))] H := hP
  have hD : va_D A [(h0, .inr (20, [.int 1, .int (-1), .ref e1, .int 0, .ref e2, .ref e3, .ref e4, .int 0, .int 0, .ref e5, .ref e6, .ref e7, .ref e8, .ref e9, .ref e10, .ref e11, .ref e12, .ref e13, .int 0, .int 0, .ref e14, .ref e15, .ref e16, .ref e17, .int 0, .int 0, .int 0, .ref e18, .int 0, .ref e19, .ref e20, .ref e21, .int 0, .ref e22, .ref e23, .ref e24, .ref e25, .ref e26, .int 0, .ref e27, .ref e28, .ref e29])), (e1, .inl (e30, 2000, .inl (upd f121 (18 : Int32).toNatClampNeg (vp_nar .byte v128))))] := hD
  generalize (upd f121 (18 : Int32).toNatClampNeg (vp_nar .byte v128)) = f129 at hP hD
  refine lv_iinc (v := 19) (lv' := [(6, .int 19), (7, .int z5), (0, .ref h0), (1, .int z1), (2, .int z2), (3, .int z3), (4, .int z4), (5, .int z5)]) hx hb d_Model_feed_96 hl (k := 1) rfl (by decide) (by decide) rfl (fun ls hl => ?_)
  refine lv_goto (tgt := 15) hx hb d_Model_feed_99 (by decide) ?_
  refine lv_iload hx hb d_Model_feed_15 (lv_at hl 0 rfl) ?_
  refine lv_bipush (v := 20) hx hb d_Model_feed_17 (by decide) ?_
  refine lv_icmp_ge (tgt := 102) hx hb d_Model_feed_19 (by decide) (fun c_130 => absurd c_130 (by decide)) (fun c_130 => ?_)
  refine lv_iload hx hb d_Model_feed_22 (lv_at hl 0 rfl) ?_
  refine lv_iconst (v := 4) hx hb d_Model_feed_24 (by decide) ?_
  refine lv_icmp_ge (tgt := 32) hx hb d_Model_feed_25 (by decide) (fun c_131 => ?_) (fun c_131 => absurd (by decide) c_131)
  refine lv_iload hx hb d_Model_feed_32 (lv_at hl 0 rfl) ?_
  refine lv_bipush (v := 8) hx hb d_Model_feed_34 (by decide) ?_
  refine lv_icmp_ge (tgt := 43) hx hb d_Model_feed_36 (by decide) (fun c_132 => ?_) (fun c_132 => absurd (by decide) c_132)
  refine lv_iload hx hb d_Model_feed_43 (lv_at hl 0 rfl) ?_
  refine lv_bipush (v := 12) hx hb d_Model_feed_45 (by decide) ?_
  refine lv_icmp_ge (tgt := 54) hx hb d_Model_feed_47 (by decide) (fun c_133 => ?_) (fun c_133 => absurd (by decide) c_133)
  refine lv_iload hx hb d_Model_feed_54 (lv_at hl 0 rfl) ?_
  refine lv_bipush (v := 16) hx hb d_Model_feed_56 (by decide) ?_
  refine lv_icmp_ge (tgt := 66) hx hb d_Model_feed_58 (by decide) (fun c_134 => ?_) (fun c_134 => absurd (by decide) c_134)
  refine lv_iload hx hb d_Model_feed_66 (lv_at hl 7 rfl) ?_
  refine lv_istore (lv' := [(7, .int z5), (6, .int 19), (0, .ref h0), (1, .int z1), (2, .int z2), (3, .int z3), (4, .int z4), (5, .int z5)]) hx hb d_Model_feed_68 hl (by decide) rfl (fun ls hl => ?_)
  refine lv_aload_n hx hb d_Model_feed_70 rfl (lv_at hl 2 rfl) ?_
  refine va_get (D := (dC, dI)) (ci := 20) (v := .ref e1) (C := R_Model) (T := F_Model) (N := 42) hx hb hts (i_Model _) hown hK hP 0 rfl rfl 2 (by decide) (hts _ (List.mem_cons_of_mem _ q_2630)) (fun _ h9 => h9) rfl d_Model_feed_71 ?_
  refine lv_aload_n hx hb d_Model_feed_74 rfl (lv_at hl 2 rfl) ?_
  refine va_get (D := (dC, dI)) (ci := 20) (v := .int 0) (C := R_Model) (T := F_Model) (N := 42) hx hb hts (i_Model _) hown hK hP 0 rfl rfl 3 (by decide) (hts _ (List.mem_cons_of_mem _ q_2631)) (fun _ h9 => h9) rfl d_Model_feed_75 ?_
  refine lv_iload hx hb d_Model_feed_78 (lv_at hl 1 rfl) ?_
  refine lv_iadd hx hb d_Model_feed_80 ?_
  refine bx_top (y := 19) (by decide) ?_
  refine lv_iload hx hb d_Model_feed_81 (lv_at hl 0 rfl) ?_
  refine lv_bipush (v := 24) hx hb d_Model_feed_83 (by decide) ?_
  refine lv_bipush (v := 8) hx hb d_Model_feed_85 (by decide) ?_
  refine lv_iload hx hb d_Model_feed_87 (lv_at hl 1 rfl) ?_
  refine lv_iconst (v := 4) hx hb d_Model_feed_89 (by decide) ?_
  refine lv_irem hx hb d_Model_feed_90 (by decide) ?_
  refine bx_top (y := 3) (by decide) ?_
  refine lv_imul hx hb d_Model_feed_91 ?_
  refine bx_top (y := 24) (by decide) ?_
  refine lv_isub hx hb d_Model_feed_92 ?_
  refine bx_top (y := 0) (by decide) ?_
  refine lv_ishr hx hb d_Model_feed_93 ?_
  refine lv_topi (fun v135 _ => ?_)
  refine lv_i2b hx hb d_Model_feed_94 rfl ?_
  refine lv_topi (fun v136 _ => ?_)
  refine va_bast hx hb hK hP hD hS 1 0 (i := 19) (x := v136) rfl rfl (vp_in_nI (n := 19) (by decide) (by decide)) d_Model_feed_95 (fun H locs hP hD hS => ?_)
  have hP : va_P (dC, dI) classes [(h0, .inr (20, [.int 1, .int (-1), .ref e1, .int 0, .ref e2, .ref e3, .ref e4, .int 0, .int 0, .ref e5, .ref e6, .ref e7, .ref e8, .ref e9, .ref e10, .ref e11, .ref e12, .ref e13, .int 0, .int 0, .ref e14, .ref e15, .ref e16, .ref e17, .int 0, .int 0, .int 0, .ref e18, .int 0, .ref e19, .ref e20, .ref e21, .int 0, .ref e22, .ref e23, .ref e24, .ref e25, .ref e26, .int 0, .ref e27, .ref e28, .ref e29])), (e1, .inl (e30, 2000, .inl (upd f129 (19 : Int32).toNatClampNeg (vp_nar .byte v136))))] H := hP
  have hD : va_D A [(h0, .inr (20, [.int 1, .int (-1), .ref e1, .int 0, .ref e2, .ref e3, .ref e4, .int 0, .int 0, .ref e5, .ref e6, .ref e7, .ref e8, .ref e9, .ref e10, .ref e11, .ref e12, .ref e13, .int 0, .int 0, .ref e14, .ref e15, .ref e16, .ref e17, .int 0, .int 0, .int 0, .ref e18, .int 0, .ref e19, .ref e20, .ref e21, .int 0, .ref e22, .ref e23, .ref e24, .ref e25, .ref e26, .int 0, .ref e27, .ref e28, .ref e29])), (e1, .inl (e30, 2000, .inl (upd f129 (19 : Int32).toNatClampNeg (vp_nar .byte v136))))] := hD
  generalize (upd f129 (19 : Int32).toNatClampNeg (vp_nar .byte v136)) = f137 at hP hD
  refine lv_iinc (v := 20) (lv' := [(6, .int 20), (7, .int z5), (0, .ref h0), (1, .int z1), (2, .int z2), (3, .int z3), (4, .int z4), (5, .int z5)]) hx hb d_Model_feed_96 hl (k := 1) rfl (by decide) (by decide) rfl (fun ls hl => ?_)
  refine lv_goto (tgt := 15) hx hb d_Model_feed_99 (by decide) ?_
  refine lv_iload hx hb d_Model_feed_15 (lv_at hl 0 rfl) ?_
  refine lv_bipush (v := 20) hx hb d_Model_feed_17 (by decide) ?_
  refine lv_icmp_ge (tgt := 102) hx hb d_Model_feed_19 (by decide) (fun c_138 => ?_) (fun c_138 => absurd (by decide) c_138)
  refine lv_aload_n hx hb d_Model_feed_102 rfl (lv_at hl 2 rfl) ?_
  refine lv_aload_n hx hb d_Model_feed_103 rfl (lv_at hl 2 rfl) ?_
  refine va_get (D := (dC, dI)) (ci := 20) (v := .int 0) (C := R_Model) (T := F_Model) (N := 42) hx hb hts (i_Model _) hown hK hP 0 rfl rfl 3 (by decide) (hts _ (List.mem_cons_of_mem _ q_2631)) (fun _ h9 => h9) rfl d_Model_feed_104 ?_
  refine lv_bipush (v := 20) hx hb d_Model_feed_107 (by decide) ?_
  refine lv_iadd hx hb d_Model_feed_109 ?_
  refine bx_top (y := 20) (by decide) ?_
  refine va_put (D := (dC, dI)) (ci := 20) (v := .int 20) (ty := .int) (C := R_Model) (T := F_Model) (N := 42) hx hb hts (i_Model _) t_Model t_Model_ok n_Model hown hK hP hD hS 0 rfl rfl 3 (by decide) (hts _ (List.mem_cons_of_mem _ q_2631)) (fun _ h9 => h9) rfl (by decide +kernel) rfl rfl (Nat.le_of_ble_eq_true rfl) d_Model_feed_110 (fun H locs hP hD hS => ?_)
  have hP : va_P (dC, dI) classes [(h0, .inr (20, [.int 1, .int (-1), .ref e1, .int 20, .ref e2, .ref e3, .ref e4, .int 0, .int 0, .ref e5, .ref e6, .ref e7, .ref e8, .ref e9, .ref e10, .ref e11, .ref e12, .ref e13, .int 0, .int 0, .ref e14, .ref e15, .ref e16, .ref e17, .int 0, .int 0, .int 0, .ref e18, .int 0, .ref e19, .ref e20, .ref e21, .int 0, .ref e22, .ref e23, .ref e24, .ref e25, .ref e26, .int 0, .ref e27, .ref e28, .ref e29])), (e1, .inl (e30, 2000, .inl f137))] H := hP
  have hD : va_D A [(h0, .inr (20, [.int 1, .int (-1), .ref e1, .int 20, .ref e2, .ref e3, .ref e4, .int 0, .int 0, .ref e5, .ref e6, .ref e7, .ref e8, .ref e9, .ref e10, .ref e11, .ref e12, .ref e13, .int 0, .int 0, .ref e14, .ref e15, .ref e16, .ref e17, .int 0, .int 0, .int 0, .ref e18, .int 0, .ref e19, .ref e20, .ref e21, .int 0, .ref e22, .ref e23, .ref e24, .ref e25, .ref e26, .int 0, .ref e27, .ref e28, .ref e29])), (e1, .inl (e30, 2000, .inl f137))] := hD
  refine lv_iconst (v := 1) hx hb d_Model_feed_113 (by decide) ?_
  refine W.widen (k := 0) (n := 0) (Nat.le_of_ble_eq_true rfl) (Nat.le_of_ble_eq_true rfl) ?_
  exact W.zret (v := 1) hx hb hr (by decide) (fun t ht hW => ⟨⟨1, (), rfl, rfl, va_P.none, va_K.moved hW.alike (hK.sub (tys' := []) [] rfl), va_D.none⟩, hS.F ht⟩) hS.2.2 d_Model_feed_114
