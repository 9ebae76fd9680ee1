set_option maxHeartbeats 4000000 in
set_option maxRecDepth 100000 in
theorem c_SStore_tablesThere (l : Launch) (dC : Nat → ClassId) (dI : Nat → Nat → Nat) (sz : Nat) (h0 : Nat) (e1 : Nat) (e2 : Nat) (e3 : Nat) (e4 : Nat) (e5 : Nat) (e6 : Nat) (e7 : Nat) (e8 : Nat) (e9 : Nat) (e10 : Nat) (e11 : Nat) (e12 : Nat) (e13 : Nat) (e14 : ClassId) (e15 : Nat) (e16 : Nat) (e17 : Nat) (e18 : Nat) (e19 : Nat) (e20 : Nat) (e21 : Nat) (e22 : Nat) (e23 : Nat) (e24 : Nat) (e25 : Nat) (e26 : Nat) (e27 : Nat) (e28 : Nat) (e29 : Nat) (e30 : Nat) (e31 : Nat) (e32 : Nat) (e33 : Nat) (e34 : Nat) (e35 : Nat) (e36 : Nat) (e37 : Nat) (e38 : Nat) (e39 : Nat) (e40 : Nat) (e41 : Nat) (e42 : Nat) (e43 : Nat) (e44 : Nat) (e45 : Nat) (e46 : Nat) (e47 : Nat) (e48 : Nat) (e49 : Nat) (e50 : Nat) (e51 : Nat) (e52 : Nat) (e53 : Nat) (e54 : Nat) : Met l y_SStore_tablesThere w_SStore_tablesThere ({ frames := 0, cells := 0, slots := 0, locals := 0 }) (va_Pc [.ref h0] (fun U => U.heap.size = sz ∧ va_P (dC, dI) classes [(h0, .inr (1, [.ref e1, .ref e2, .ref e3, .ref e4, .ref e5, .ref e6, .ref e7, .ref e8, .ref e9, .ref e10, .ref e11, .ref e12, .ref e13, .int 0, .int 0, .int 0, .int 0])), (e1, .inl (e14, 8, .inr (.inr (.inr (.inr (va_up (va_up (va_up (va_up (va_up (va_up (va_up (va_up (fun _ => none) 0 (some e15)) 1 (some e16)) 2 (some e17)) 3 (some e18)) 4 (some e19)) 5 (some e20)) 6 (some e21)) 7 (some e22))))))), (e15, .inr (0, [.ref e23, .ref e24, .ref e25, .ref e26, .int 0, .int 0, .int 0, .int 0])), (e16, .inr (0, [.ref e27, .ref e28, .ref e29, .ref e30, .int 0, .int 0, .int 0, .int 0])), (e17, .inr (0, [.ref e31, .ref e32, .ref e33, .ref e34, .int 0, .int 0, .int 0, .int 0])), (e18, .inr (0, [.ref e35, .ref e36, .ref e37, .ref e38, .int 0, .int 0, .int 0, .int 0])), (e19, .inr (0, [.ref e39, .ref e40, .ref e41, .ref e42, .int 0, .int 0, .int 0, .int 0])), (e20, .inr (0, [.ref e43, .ref e44, .ref e45, .ref e46, .int 0, .int 0, .int 0, .int 0])), (e21, .inr (0, [.ref e47, .ref e48, .ref e49, .ref e50, .int 0, .int 0, .int 0, .int 0])), (e22, .inr (0, [.ref e51, .ref e52, .ref e53, .ref e54, .int 0, .int 0, .int 0, .int 0]))] U.heap ∧ va_K (dC, dI) classes [(e14, .object R_STable)] U ∧ va_D (fun _ => True) [(h0, .inr (1, [.ref e1, .ref e2, .ref e3, .ref e4, .ref e5, .ref e6, .ref e7, .ref e8, .ref e9, .ref e10, .ref e11, .ref e12, .ref e13, .int 0, .int 0, .int 0, .int 0])), (e1, .inl (e14, 8, .inr (.inr (.inr (.inr (va_up (va_up (va_up (va_up (va_up (va_up (va_up (va_up (fun _ => none) 0 (some e15)) 1 (some e16)) 2 (some e17)) 3 (some e18)) 4 (some e19)) 5 (some e20)) 6 (some e21)) 7 (some e22))))))), (e15, .inr (0, [.ref e23, .ref e24, .ref e25, .ref e26, .int 0, .int 0, .int 0, .int 0])), (e16, .inr (0, [.ref e27, .ref e28, .ref e29, .ref e30, .int 0, .int 0, .int 0, .int 0])), (e17, .inr (0, [.ref e31, .ref e32, .ref e33, .ref e34, .int 0, .int 0, .int 0, .int 0])), (e18, .inr (0, [.ref e35, .ref e36, .ref e37, .ref e38, .int 0, .int 0, .int 0, .int 0])), (e19, .inr (0, [.ref e39, .ref e40, .ref e41, .ref e42, .int 0, .int 0, .int 0, .int 0])), (e20, .inr (0, [.ref e43, .ref e44, .ref e45, .ref e46, .int 0, .int 0, .int 0, .int 0])), (e21, .inr (0, [.ref e47, .ref e48, .ref e49, .ref e50, .int 0, .int 0, .int 0, .int 0])), (e22, .inr (0, [.ref e51, .ref e52, .ref e53, .ref e54, .int 0, .int 0, .int 0, .int 0]))] ∧ bx_N U)) (va_Qi (fun (r : Int32) (_ : Unit) => r = 0) (fun (_ : Unit) t => va_P (dC, dI) classes [] t.heap ∧ va_K (dC, dI) classes [] t ∧ va_D (va_A [(h0, .inr (1, [.ref e1, .ref e2, .ref e3, .ref e4, .ref e5, .ref e6, .ref e7, .ref e8, .ref e9, .ref e10, .ref e11, .ref e12, .ref e13, .int 0, .int 0, .int 0, .int 0])), (e1, .inl (e14, 8, .inr (.inr (.inr (.inr (va_up (va_up (va_up (va_up (va_up (va_up (va_up (va_up (fun _ => none) 0 (some e15)) 1 (some e16)) 2 (some e17)) 3 (some e18)) 4 (some e19)) 5 (some e20)) 6 (some e21)) 7 (some e22))))))), (e15, .inr (0, [.ref e23, .ref e24, .ref e25, .ref e26, .int 0, .int 0, .int 0, .int 0])), (e16, .inr (0, [.ref e27, .ref e28, .ref e29, .ref e30, .int 0, .int 0, .int 0, .int 0])), (e17, .inr (0, [.ref e31, .ref e32, .ref e33, .ref e34, .int 0, .int 0, .int 0, .int 0])), (e18, .inr (0, [.ref e35, .ref e36, .ref e37, .ref e38, .int 0, .int 0, .int 0, .int 0])), (e19, .inr (0, [.ref e39, .ref e40, .ref e41, .ref e42, .int 0, .int 0, .int 0, .int 0])), (e20, .inr (0, [.ref e43, .ref e44, .ref e45, .ref e46, .int 0, .int 0, .int 0, .int 0])), (e21, .inr (0, [.ref e47, .ref e48, .ref e49, .ref e50, .int 0, .int 0, .int 0, .int 0])), (e22, .inr (0, [.ref e51, .ref e52, .ref e53, .ref e54, .int 0, .int 0, .int 0, .int 0]))] sz) []) (va_A [(h0, .inr (1, [.ref e1, .ref e2, .ref e3, .ref e4, .ref e5, .ref e6, .ref e7, .ref e8, .ref e9, .ref e10, .ref e11, .ref e12, .ref e13, .int 0, .int 0, .int 0, .int 0])), (e1, .inl (e14, 8, .inr (.inr (.inr (.inr (va_up (va_up (va_up (va_up (va_up (va_up (va_up (va_up (fun _ => none) 0 (some e15)) 1 (some e16)) 2 (some e17)) 3 (some e18)) 4 (some e19)) 5 (some e20)) 6 (some e21)) 7 (some e22))))))), (e15, .inr (0, [.ref e23, .ref e24, .ref e25, .ref e26, .int 0, .int 0, .int 0, .int 0])), (e16, .inr (0, [.ref e27, .ref e28, .ref e29, .ref e30, .int 0, .int 0, .int 0, .int 0])), (e17, .inr (0, [.ref e31, .ref e32, .ref e33, .ref e34, .int 0, .int 0, .int 0, .int 0])), (e18, .inr (0, [.ref e35, .ref e36, .ref e37, .ref e38, .int 0, .int 0, .int 0, .int 0])), (e19, .inr (0, [.ref e39, .ref e40, .ref e41, .ref e42, .int 0, .int 0, .int 0, .int 0])), (e20, .inr (0, [.ref e43, .ref e44, .ref e45, .ref e46, .int 0, .int 0, .int 0, .int 0])), (e21, .inr (0, [.ref e47, .ref e48, .ref e49, .ref e50, .int 0, .int 0, .int 0, .int 0])), (e22, .inr (0, [.ref e51, .ref e52, .ref e53, .ref e54, .int 0, .int 0, .int 0, .int 0]))] sz)) 0 0 (va_A [(h0, .inr (1, [.ref e1, .ref e2, .ref e3, .ref e4, .ref e5, .ref e6, .ref e7, .ref e8, .ref e9, .ref e10, .ref e11, .ref e12, .ref e13, .int 0, .int 0, .int 0, .int 0])), (e1, .inl (e14, 8, .inr (.inr (.inr (.inr (va_up (va_up (va_up (va_up (va_up (va_up (va_up (va_up (fun _ => none) 0 (some e15)) 1 (some e16)) 2 (some e17)) 3 (some e18)) 4 (some e19)) 5 (some e20)) 6 (some e21)) 7 (some e22))))))), (e15, .inr (0, [.ref e23, .ref e24, .ref e25, .ref e26, .int 0, .int 0, .int 0, .int 0])), (e16, .inr (0, [.ref e27, .ref e28, .ref e29, .ref e30, .int 0, .int 0, .int 0, .int 0])), (e17, .inr (0, [.ref e31, .ref e32, .ref e33, .ref e34, .int 0, .int 0, .int 0, .int 0])), (e18, .inr (0, [.ref e35, .ref e36, .ref e37, .ref e38, .int 0, .int 0, .int 0, .int 0])), (e19, .inr (0, [.ref e39, .ref e40, .ref e41, .ref e42, .int 0, .int 0, .int 0, .int 0])), (e20, .inr (0, [.ref e43, .ref e44, .ref e45, .ref e46, .int 0, .int 0, .int 0, .int 0])), (e21, .inr (0, [.ref e47, .ref e48, .ref e49, .ref e50, .int 0, .int 0, .int 0, .int 0])), (e22, .inr (0, [.ref e51, .ref e52, .ref e53, .ref e54, .int 0, .int 0, .int 0, .int 0]))] sz) := by
  refine Met.ofW (cc := b_SStore_tablesThere) (maxL := 3) (ret := (some .int)) (by decide) rfl ?_
  intro p e s m args below meth c s₁ B hml hv
  obtain ⟨rfl, hsz, hP, hK, hD0, hN⟩ := hv
  have hx := B.exec
  have hb := B.bytes
  have hr := B.returns
  have hts := atoms_spec (ws := w_SStore_tablesThere) B.pre
  have hown : s.vm.findClass R_SStore = some m.cls := findClass_of_methodNamed B.named
  have hlocks := B.notSynchronized
  subst hsz
  have hD := hD0.self (sz := s.heap.size)
  generalize hAe : va_A [(h0, .inr (1, [.ref e1, .ref e2, .ref e3, .ref e4, .ref e5, .ref e6, .ref e7, .ref e8, .ref e9, .ref e10, .ref e11, .ref e12, .ref e13, .int 0, .int 0, .int 0, .int 0])), (e1, .inl (e14, 8, .inr (.inr (.inr (.inr (va_up (va_up (va_up (va_up (va_up (va_up (va_up (va_up (fun _ => none) 0 (some e15)) 1 (some e16)) 2 (some e17)) 3 (some e18)) 4 (some e19)) 5 (some e20)) 6 (some e21)) 7 (some e22))))))), (e15, .inr (0, [.ref e23, .ref e24, .ref e25, .ref e26, .int 0, .int 0, .int 0, .int 0])), (e16, .inr (0, [.ref e27, .ref e28, .ref e29, .ref e30, .int 0, .int 0, .int 0, .int 0])), (e17, .inr (0, [.ref e31, .ref e32, .ref e33, .ref e34, .int 0, .int 0, .int 0, .int 0])), (e18, .inr (0, [.ref e35, .ref e36, .ref e37, .ref e38, .int 0, .int 0, .int 0, .int 0])), (e19, .inr (0, [.ref e39, .ref e40, .ref e41, .ref e42, .int 0, .int 0, .int 0, .int 0])), (e20, .inr (0, [.ref e43, .ref e44, .ref e45, .ref e46, .int 0, .int 0, .int 0, .int 0])), (e21, .inr (0, [.ref e47, .ref e48, .ref e49, .ref e50, .int 0, .int 0, .int 0, .int 0])), (e22, .inr (0, [.ref e51, .ref e52, .ref e53, .ref e54, .int 0, .int 0, .int 0, .int 0]))] s.heap.size = A at hD ⊢
  have hA : ∀ q : Nat, s.heap.size ≤ q → A q := fun q h => by rw [← hAe]; exact Or.inr h
  have hS : va_S A s.heap s.heap [] := va_S.rf
  have hP : va_P (dC, dI) classes [(h0, .inr (1, [.ref e1, .ref e2, .ref e3, .ref e4, .ref e5, .ref e6, .ref e7, .ref e8, .ref e9, .ref e10, .ref e11, .ref e12, .ref e13, .int 0, .int 0, .int 0, .int 0])), (e1, .inl (e14, 8, .inr (.inr (.inr (.inr (va_up (va_up (va_up (va_up (va_up (va_up (va_up (va_up (fun _ => none) 0 (some e15)) 1 (some e16)) 2 (some e17)) 3 (some e18)) 4 (some e19)) 5 (some e20)) 6 (some e21)) 7 (some e22))))))), (e15, .inr (0, [.ref e23, .ref e24, .ref e25, .ref e26, .int 0, .int 0, .int 0, .int 0])), (e16, .inr (0, [.ref e27, .ref e28, .ref e29, .ref e30, .int 0, .int 0, .int 0, .int 0])), (e17, .inr (0, [.ref e31, .ref e32, .ref e33, .ref e34, .int 0, .int 0, .int 0, .int 0])), (e18, .inr (0, [.ref e35, .ref e36, .ref e37, .ref e38, .int 0, .int 0, .int 0, .int 0])), (e19, .inr (0, [.ref e39, .ref e40, .ref e41, .ref e42, .int 0, .int 0, .int 0, .int 0])), (e20, .inr (0, [.ref e43, .ref e44, .ref e45, .ref e46, .int 0, .int 0, .int 0, .int 0])), (e21, .inr (0, [.ref e47, .ref e48, .ref e49, .ref e50, .int 0, .int 0, .int 0, .int 0])), (e22, .inr (0, [.ref e51, .ref e52, .ref e53, .ref e54, .int 0, .int 0, .int 0, .int 0]))] s.heap := hP
  have hl := lv_entry ([.ref h0]) (n := 3) (Nat.le_of_ble_eq_true rfl)
  rw [lg_entry_eq]
  generalize (lg_sl ([.ref h0]) ++ List.replicate (3 - (lg_sl ([.ref h0])).length) Slot.unset).toArray = ls at hl ⊢
  have hl : lv_has ls 3 [(0, .ref h0)] := hl
  obtain ⟨H, hH⟩ : ∃ H : Heap, s.heap = H := ⟨_, rfl⟩
  have hP : va_P (dC, dI) classes [(h0, .inr (1, [.ref e1, .ref e2, .ref e3, .ref e4, .ref e5, .ref e6, .ref e7, .ref e8, .ref e9, .ref e10, .ref e11, .ref e12, .ref e13, .int 0, .int 0, .int 0, .int 0])), (e1, .inl (e14, 8, .inr (.inr (.inr (.inr (va_up (va_up (va_up (va_up (va_up (va_up (va_up (va_up (fun _ => none) 0 (some e15)) 1 (some e16)) 2 (some e17)) 3 (some e18)) 4 (some e19)) 5 (some e20)) 6 (some e21)) 7 (some e22))))))), (e15, .inr (0, [.ref e23, .ref e24, .ref e25, .ref e26, .int 0, .int 0, .int 0, .int 0])), (e16, .inr (0, [.ref e27, .ref e28, .ref e29, .ref e30, .int 0, .int 0, .int 0, .int 0])), (e17, .inr (0, [.ref e31, .ref e32, .ref e33, .ref e34, .int 0, .int 0, .int 0, .int 0])), (e18, .inr (0, [.ref e35, .ref e36, .ref e37, .ref e38, .int 0, .int 0, .int 0, .int 0])), (e19, .inr (0, [.ref e39, .ref e40, .ref e41, .ref e42, .int 0, .int 0, .int 0, .int 0])), (e20, .inr (0, [.ref e43, .ref e44, .ref e45, .ref e46, .int 0, .int 0, .int 0, .int 0])), (e21, .inr (0, [.ref e47, .ref e48, .ref e49, .ref e50, .int 0, .int 0, .int 0, .int 0])), (e22, .inr (0, [.ref e51, .ref e52, .ref e53, .ref e54, .int 0, .int 0, .int 0, .int 0]))] H := by rw [← hH]; exact hP
  have hS : va_S A s.heap H [] := by rw [← hH]; exact va_S.rf
  refine bx_heap hH ?_
  refine lv_iconst (v := 0) hx hb d_SStore_tablesThere_0 (by decide) ?_
  refine lv_istore_n (lv' := [(1, .int 0), (0, .ref h0)]) hx hb d_SStore_tablesThere_1 rfl hl (by decide) rfl (fun ls hl => ?_)
  refine lv_iconst (v := 0) hx hb d_SStore_tablesThere_2 (by decide) ?_
  refine lv_istore_n (lv' := [(2, .int 0), (1, .int 0), (0, .ref h0)]) hx hb d_SStore_tablesThere_3 rfl hl (by decide) rfl (fun ls hl => ?_)
  refine lv_iload_n hx hb d_SStore_tablesThere_4 rfl (lv_at hl 0 rfl) ?_
  refine lv_bipush (v := 8) hx hb d_SStore_tablesThere_5 (by decide) ?_
  refine lv_icmp_ge (tgt := 36) hx hb d_SStore_tablesThere_7 (by decide) (fun c_1 => absurd c_1 (by decide)) (fun c_1 => ?_)
  refine lv_iload_n hx hb d_SStore_tablesThere_10 rfl (lv_at hl 1 rfl) ?_
  refine lv_aload_n hx hb d_SStore_tablesThere_11 rfl (lv_at hl 2 rfl) ?_
  refine va_get (D := (dC, dI)) (ci := 1) (v := .ref e1) (C := R_SStore) (T := F_SStore) (N := 17) hx hb hts (i_SStore _) hown hK hP 0 rfl rfl 0 (by decide) (hts _ (List.mem_cons_of_mem _ q_98)) (fun _ h9 => h9) rfl d_SStore_tablesThere_12 ?_
  refine lv_iload_n hx hb d_SStore_tablesThere_15 rfl (lv_at hl 0 rfl) ?_
  refine va_aldq hx hb hK hP 1 0 (i := 0) rfl rfl (vp_in_nI (n := 0) (by decide) (by decide)) d_SStore_tablesThere_16 ?_
  refine W.eq (g2 := F0 m 17 ls [.ref e15, .int 0]) rfl ?_
  refine va_get (D := (dC, dI)) (ci := 0) (v := .int 0) (C := R_STable) (T := F_STable) (N := 8) hx hb hts (i_STable _) hown hK hP 2 rfl rfl 5 (by decide) (hts _ (List.mem_cons_of_mem _ q_66)) (fun _ h9 => h9) rfl d_SStore_tablesThere_17 ?_
  refine lv_if_eq (tgt := 27) hx hb d_SStore_tablesThere_20 (by decide) (fun c_2 => ?_) (fun c_2 => absurd (by decide) c_2)
  refine lv_iconst (v := 0) hx hb d_SStore_tablesThere_27 (by decide) ?_
  refine lv_iadd hx hb d_SStore_tablesThere_28 ?_
  refine bx_top (y := 0) (by decide) ?_
  refine lv_istore_n (lv' := [(1, .int 0), (2, .int 0), (0, .ref h0)]) hx hb d_SStore_tablesThere_29 rfl hl (by decide) rfl (fun ls hl => ?_)
  refine lv_iinc (v := 1) (lv' := [(2, .int 1), (1, .int 0), (0, .ref h0)]) hx hb d_SStore_tablesThere_30 hl (k := 1) rfl (by decide) (by decide) rfl (fun ls hl => ?_)
  refine lv_goto (tgt := 4) hx hb d_SStore_tablesThere_33 (by decide) ?_
  refine lv_iload_n hx hb d_SStore_tablesThere_4 rfl (lv_at hl 0 rfl) ?_
  refine lv_bipush (v := 8) hx hb d_SStore_tablesThere_5 (by decide) ?_
  refine lv_icmp_ge (tgt := 36) hx hb d_SStore_tablesThere_7 (by decide) (fun c_3 => absurd c_3 (by decide)) (fun c_3 => ?_)
  refine lv_iload_n hx hb d_SStore_tablesThere_10 rfl (lv_at hl 1 rfl) ?_
  refine lv_aload_n hx hb d_SStore_tablesThere_11 rfl (lv_at hl 2 rfl) ?_
  refine va_get (D := (dC, dI)) (ci := 1) (v := .ref e1) (C := R_SStore) (T := F_SStore) (N := 17) hx hb hts (i_SStore _) hown hK hP 0 rfl rfl 0 (by decide) (hts _ (List.mem_cons_of_mem _ q_98)) (fun _ h9 => h9) rfl d_SStore_tablesThere_12 ?_
  refine lv_iload_n hx hb d_SStore_tablesThere_15 rfl (lv_at hl 0 rfl) ?_
  refine va_aldq hx hb hK hP 1 0 (i := 1) rfl rfl (vp_in_nI (n := 1) (by decide) (by decide)) d_SStore_tablesThere_16 ?_
  refine W.eq (g2 := F0 m 17 ls [.ref e16, .int 0]) rfl ?_
  refine va_get (D := (dC, dI)) (ci := 0) (v := .int 0) (C := R_STable) (T := F_STable) (N := 8) hx hb hts (i_STable _) hown hK hP 3 rfl rfl 5 (by decide) (hts _ (List.mem_cons_of_mem _ q_66)) (fun _ h9 => h9) rfl d_SStore_tablesThere_17 ?_
  refine lv_if_eq (tgt := 27) hx hb d_SStore_tablesThere_20 (by decide) (fun c_4 => ?_) (fun c_4 => absurd (by decide) c_4)
  refine lv_iconst (v := 0) hx hb d_SStore_tablesThere_27 (by decide) ?_
  refine lv_iadd hx hb d_SStore_tablesThere_28 ?_
  refine bx_top (y := 0) (by decide) ?_
  refine lv_istore_n (lv' := [(1, .int 0), (2, .int 1), (0, .ref h0)]) hx hb d_SStore_tablesThere_29 rfl hl (by decide) rfl (fun ls hl => ?_)
  refine lv_iinc (v := 2) (lv' := [(2, .int 2), (1, .int 0), (0, .ref h0)]) hx hb d_SStore_tablesThere_30 hl (k := 1) rfl (by decide) (by decide) rfl (fun ls hl => ?_)
  refine lv_goto (tgt := 4) hx hb d_SStore_tablesThere_33 (by decide) ?_
  refine lv_iload_n hx hb d_SStore_tablesThere_4 rfl (lv_at hl 0 rfl) ?_
  refine lv_bipush (v := 8) hx hb d_SStore_tablesThere_5 (by decide) ?_
  refine lv_icmp_ge (tgt := 36) hx hb d_SStore_tablesThere_7 (by decide) (fun c_5 => absurd c_5 (by decide)) (fun c_5 => ?_)
  refine lv_iload_n hx hb d_SStore_tablesThere_10 rfl (lv_at hl 1 rfl) ?_
  refine lv_aload_n hx hb d_SStore_tablesThere_11 rfl (lv_at hl 2 rfl) ?_
  refine va_get (D := (dC, dI)) (ci := 1) (v := .ref e1) (C := R_SStore) (T := F_SStore) (N := 17) hx hb hts (i_SStore _) hown hK hP 0 rfl rfl 0 (by decide) (hts _ (List.mem_cons_of_mem _ q_98)) (fun _ h9 => h9) rfl d_SStore_tablesThere_12 ?_
  refine lv_iload_n hx hb d_SStore_tablesThere_15 rfl (lv_at hl 0 rfl) ?_
  refine va_aldq hx hb hK hP 1 0 (i := 2) rfl rfl (vp_in_nI (n := 2) (by decide) (by decide)) d_SStore_tablesThere_16 ?_
  refine W.eq (g2 := F0 m 17 ls [.ref e17, .int 0]) rfl ?_
  refine va_get (D := (dC, dI)) (ci := 0) (v := .int 0) (C := R_STable) (T := F_STable) (N := 8) hx hb hts (i_STable _) hown hK hP 4 rfl rfl 5 (by decide) (hts _ (List.mem_cons_of_mem _ q_66)) (fun _ h9 => h9) rfl d_SStore_tablesThere_17 ?_
  refine lv_if_eq (tgt := 27) hx hb d_SStore_tablesThere_20 (by decide) (fun c_6 => ?_) (fun c_6 => absurd (by decide) c_6)
  refine lv_iconst (v := 0) hx hb d_SStore_tablesThere_27 (by decide) ?_
  refine lv_iadd hx hb d_SStore_tablesThere_28 ?_
  refine bx_top (y := 0) (by decide) ?_
  refine lv_istore_n (lv' := [(1, .int 0), (2, .int 2), (0, .ref h0)]) hx hb d_SStore_tablesThere_29 rfl hl (by decide) rfl (fun ls hl => ?_)
  refine lv_iinc (v := 3) (lv' := [(2, .int 3), (1, .int 0), (0, .ref h0)]) hx hb d_SStore_tablesThere_30 hl (k := 1) rfl (by decide) (by decide) rfl (fun ls hl => ?_)
  refine lv_goto (tgt := 4) hx hb d_SStore_tablesThere_33 (by decide) ?_
  refine lv_iload_n hx hb d_SStore_tablesThere_4 rfl (lv_at hl 0 rfl) ?_
  refine lv_bipush (v := 8) hx hb d_SStore_tablesThere_5 (by decide) ?_
  refine lv_icmp_ge (tgt := 36) hx hb d_SStore_tablesThere_7 (by decide) (fun c_7 => absurd c_7 (by decide)) (fun c_7 => ?_)
  refine lv_iload_n hx hb d_SStore_tablesThere_10 rfl (lv_at hl 1 rfl) ?_
  refine lv_aload_n hx hb d_SStore_tablesThere_11 rfl (lv_at hl 2 rfl) ?_
  refine va_get (D := (dC, dI)) (ci := 1) (v := .ref e1) (C := R_SStore) (T := F_SStore) (N := 17) hx hb hts (i_SStore _) hown hK hP 0 rfl rfl 0 (by decide) (hts _ (List.mem_cons_of_mem _ q_98)) (fun _ h9 => h9) rfl d_SStore_tablesThere_12 ?_
  refine lv_iload_n hx hb d_SStore_tablesThere_15 rfl (lv_at hl 0 rfl) ?_
  refine va_aldq hx hb hK hP 1 0 (i := 3) rfl rfl (vp_in_nI (n := 3) (by decide) (by decide)) d_SStore_tablesThere_16 ?_
  refine W.eq (g2 := F0 m 17 ls [.ref e18, .int 0]) rfl ?_
  refine va_get (D := (dC, dI)) (ci := 0) (v := .int 0) (C := R_STable) (T := F_STable) (N := 8) hx hb hts (i_STable _) hown hK hP 5 rfl rfl 5 (by decide) (hts _ (List.mem_cons_of_mem _ q_66)) (fun _ h9 => h9) rfl d_SStore_tablesThere_17 ?_
  refine lv_if_eq (tgt := 27) hx hb d_SStore_tablesThere_20 (by decide) (fun c_8 => ?_) (fun c_8 => absurd (by decide) c_8)
  refine lv_iconst (v := 0) hx hb d_SStore_tablesThere_27 (by decide) ?_
  refine lv_iadd hx hb d_SStore_tablesThere_28 ?_
  refine bx_top (y := 0) (by decide) ?_
  refine lv_istore_n (lv' := [(1, .int 0), (2, .int 3), (0, .ref h0)]) hx hb d_SStore_tablesThere_29 rfl hl (by decide) rfl (fun ls hl => ?_)
  refine lv_iinc (v := 4) (lv' := [(2, .int 4), (1, .int 0), (0, .ref h0)]) hx hb d_SStore_tablesThere_30 hl (k := 1) rfl (by decide) (by decide) rfl (fun ls hl => ?_)
  refine lv_goto (tgt := 4) hx hb d_SStore_tablesThere_33 (by decide) ?_
  refine lv_iload_n hx hb d_SStore_tablesThere_4 rfl (lv_at hl 0 rfl) ?_
  refine lv_bipush (v := 8) hx hb d_SStore_tablesThere_5 (by decide) ?_
  refine lv_icmp_ge (tgt := 36) hx hb d_SStore_tablesThere_7 (by decide) (fun c_9 => absurd c_9 (by decide)) (fun c_9 => ?_)
  refine lv_iload_n hx hb d_SStore_tablesThere_10 rfl (lv_at hl 1 rfl) ?_
  refine lv_aload_n hx hb d_SStore_tablesThere_11 rfl (lv_at hl 2 rfl) ?_
  refine va_get (D := (dC, dI)) (ci := 1) (v := .ref e1) (C := R_SStore) (T := F_SStore) (N := 17) hx hb hts (i_SStore _) hown hK hP 0 rfl rfl 0 (by decide) (hts _ (List.mem_cons_of_mem _ q_98)) (fun _ h9 => h9) rfl d_SStore_tablesThere_12 ?_
  refine lv_iload_n hx hb d_SStore_tablesThere_15 rfl (lv_at hl 0 rfl) ?_
  refine va_aldq hx hb hK hP 1 0 (i := 4) rfl rfl (vp_in_nI (n := 4) (by decide) (by decide)) d_SStore_tablesThere_16 ?_
  refine W.eq (g2 := F0 m 17 ls [.ref e19, .int 0]) rfl ?_
  refine va_get (D := (dC, dI)) (ci := 0) (v := .int 0) (C := R_STable) (T := F_STable) (N := 8) hx hb hts (i_STable _) hown hK hP 6 rfl rfl 5 (by decide) (hts _ (List.mem_cons_of_mem _ q_66)) (fun _ h9 => h9) rfl d_SStore_tablesThere_17 ?_
  refine lv_if_eq (tgt := 27) hx hb d_SStore_tablesThere_20 (by decide) (fun c_10 => ?_) (fun c_10 => absurd (by decide) c_10)
  refine lv_iconst (v := 0) hx hb d_SStore_tablesThere_27 (by decide) ?_
  refine lv_iadd hx hb d_SStore_tablesThere_28 ?_
  refine bx_top (y := 0) (by decide) ?_
  refine lv_istore_n (lv' := [(1, .int 0), (2, .int 4), (0, .ref h0)]) hx hb d_SStore_tablesThere_29 rfl hl (by decide) rfl (fun ls hl => ?_)
  refine lv_iinc (v := 5) (lv' := [(2, .int 5), (1, .int 0), (0, .ref h0)]) hx hb d_SStore_tablesThere_30 hl (k := 1) rfl (by decide) (by decide) rfl (fun ls hl => ?_)
  refine lv_goto (tgt := 4) hx hb d_SStore_tablesThere_33 (by decide) ?_
  refine lv_iload_n hx hb d_SStore_tablesThere_4 rfl (lv_at hl 0 rfl) ?_
  refine lv_bipush (v := 8) hx hb d_SStore_tablesThere_5 (by decide) ?_
  refine lv_icmp_ge (tgt := 36) hx hb d_SStore_tablesThere_7 (by decide) (fun c_11 => absurd c_11 (by decide)) (fun c_11 => ?_)
  refine lv_iload_n hx hb d_SStore_tablesThere_10 rfl (lv_at hl 1 rfl) ?_
  refine lv_aload_n hx hb d_SStore_tablesThere_11 rfl (lv_at hl 2 rfl) ?_
  refine va_get (D := (dC, dI)) (ci := 1) (v := .ref e1) (C := R_SStore) (T := F_SStore) (N := 17) hx hb hts (i_SStore _) hown hK hP 0 rfl rfl 0 (by decide) (hts _ (List.mem_cons_of_mem _ q_98)) (fun _ h9 => h9) rfl d_SStore_tablesThere_12 ?_
  refine lv_iload_n hx hb d_SStore_tablesThere_15 rfl (lv_at hl 0 rfl) ?_
  refine va_aldq hx hb hK hP 1 0 (i := 5) rfl rfl (vp_in_nI (n := 5) (by decide) (by decide)) d_SStore_tablesThere_16 ?_
  refine W.eq (g2 := F0 m 17 ls [.ref e20, .int 0]) rfl ?_
  refine va_get (D := (dC, dI)) (ci := 0) (v := .int 0) (C := R_STable) (T := F_STable) (N := 8) hx hb hts (i_STable _) hown hK hP 7 rfl rfl 5 (by decide) (hts _ (List.mem_cons_of_mem _ q_66)) (fun _ h9 => h9) rfl d_SStore_tablesThere_17 ?_
  refine lv_if_eq (tgt := 27) hx hb d_SStore_tablesThere_20 (by decide) (fun c_12 => ?_) (fun c_12 => absurd (by decide) c_12)
  refine lv_iconst (v := 0) hx hb d_SStore_tablesThere_27 (by decide) ?_
  refine lv_iadd hx hb d_SStore_tablesThere_28 ?_
  refine bx_top (y := 0) (by decide) ?_
  refine lv_istore_n (lv' := [(1, .int 0), (2, .int 5), (0, .ref h0)]) hx hb d_SStore_tablesThere_29 rfl hl (by decide) rfl (fun ls hl => ?_)
  refine lv_iinc (v := 6) (lv' := [(2, .int 6), (1, .int 0), (0, .ref h0)]) hx hb d_SStore_tablesThere_30 hl (k := 1) rfl (by decide) (by decide) rfl (fun ls hl => ?_)
  refine lv_goto (tgt := 4) hx hb d_SStore_tablesThere_33 (by decide) ?_
  refine lv_iload_n hx hb d_SStore_tablesThere_4 rfl (lv_at hl 0 rfl) ?_
  refine lv_bipush (v := 8) hx hb d_SStore_tablesThere_5 (by decide) ?_
  refine lv_icmp_ge (tgt := 36) hx hb d_SStore_tablesThere_7 (by decide) (fun c_13 => absurd c_13 (by decide)) (fun c_13 => ?_)
  refine lv_iload_n hx hb d_SStore_tablesThere_10 rfl (lv_at hl 1 rfl) ?_
  refine lv_aload_n hx hb d_SStore_tablesThere_11 rfl (lv_at hl 2 rfl) ?_
  refine va_get (D := (dC, dI)) (ci := 1) (v := .ref e1) (C := R_SStore) (T := F_SStore) (N := 17) hx hb hts (i_SStore _) hown hK hP 0 rfl rfl 0 (by decide) (hts _ (List.mem_cons_of_mem _ q_98)) (fun _ h9 => h9) rfl d_SStore_tablesThere_12 ?_
  refine lv_iload_n hx hb d_SStore_tablesThere_15 rfl (lv_at hl 0 rfl) ?_
  refine va_aldq hx hb hK hP 1 0 (i := 6) rfl rfl (vp_in_nI (n := 6) (by decide) (by decide)) d_SStore_tablesThere_16 ?_
  refine W.eq (g2 := F0 m 17 ls [.ref e21, .int 0]) rfl ?_
  refine va_get (D := (dC, dI)) (ci := 0) (v := .int 0) (C := R_STable) (T := F_STable) (N := 8) hx hb hts (i_STable _) hown hK hP 8 rfl rfl 5 (by decide) (hts _ (List.mem_cons_of_mem _ q_66)) (fun _ h9 => h9) rfl d_SStore_tablesThere_17 ?_
  refine lv_if_eq (tgt := 27) hx hb d_SStore_tablesThere_20 (by decide) (fun c_14 => ?_) (fun c_14 => absurd (by decide) c_14)
  refine lv_iconst (v := 0) hx hb d_SStore_tablesThere_27 (by decide) ?_
  refine lv_iadd hx hb d_SStore_tablesThere_28 ?_
  refine bx_top (y := 0) (by decide) ?_
  refine lv_istore_n (lv' := [(1, .int 0), (2, .int 6), (0, .ref h0)]) hx hb d_SStore_tablesThere_29 rfl hl (by decide) rfl (fun ls hl => ?_)
  refine lv_iinc (v := 7) (lv' := [(2, .int 7), (1, .int 0), (0, .ref h0)]) hx hb d_SStore_tablesThere_30 hl (k := 1) rfl (by decide) (by decide) rfl (fun ls hl => ?_)
  refine lv_goto (tgt := 4) hx hb d_SStore_tablesThere_33 (by decide) ?_
  refine lv_iload_n hx hb d_SStore_tablesThere_4 rfl (lv_at hl 0 rfl) ?_
  refine lv_bipush (v := 8) hx hb d_SStore_tablesThere_5 (by decide) ?_
  refine lv_icmp_ge (tgt := 36) hx hb d_SStore_tablesThere_7 (by decide) (fun c_15 => absurd c_15 (by decide)) (fun c_15 => ?_)
  refine lv_iload_n hx hb d_SStore_tablesThere_10 rfl (lv_at hl 1 rfl) ?_
  refine lv_aload_n hx hb d_SStore_tablesThere_11 rfl (lv_at hl 2 rfl) ?_
  refine va_get (D := (dC, dI)) (ci := 1) (v := .ref e1) (C := R_SStore) (T := F_SStore) (N := 17) hx hb hts (i_SStore _) hown hK hP 0 rfl rfl 0 (by decide) (hts _ (List.mem_cons_of_mem _ q_98)) (fun _ h9 => h9) rfl d_SStore_tablesThere_12 ?_
  refine lv_iload_n hx hb d_SStore_tablesThere_15 rfl (lv_at hl 0 rfl) ?_
  refine va_aldq hx hb hK hP 1 0 (i := 7) rfl rfl (vp_in_nI (n := 7) (by decide) (by decide)) d_SStore_tablesThere_16 ?_
  refine W.eq (g2 := F0 m 17 ls [.ref e22, .int 0]) rfl ?_
  refine va_get (D := (dC, dI)) (ci := 0) (v := .int 0) (C := R_STable) (T := F_STable) (N := 8) hx hb hts (i_STable _) hown hK hP 9 rfl rfl 5 (by decide) (hts _ (List.mem_cons_of_mem _ q_66)) (fun _ h9 => h9) rfl d_SStore_tablesThere_17 ?_
  refine lv_if_eq (tgt := 27) hx hb d_SStore_tablesThere_20 (by decide) (fun c_16 => ?_) (fun c_16 => absurd (by decide) c_16)
  refine lv_iconst (v := 0) hx hb d_SStore_tablesThere_27 (by decide) ?_
  refine lv_iadd hx hb d_SStore_tablesThere_28 ?_
  refine bx_top (y := 0) (by decide) ?_
  refine lv_istore_n (lv' := [(1, .int 0), (2, .int 7), (0, .ref h0)]) hx hb d_SStore_tablesThere_29 rfl hl (by decide) rfl (fun ls hl => ?_)
  refine lv_iinc (v := 8) (lv' := [(2, .int 8), (1, .int 0), (0, .ref h0)]) hx hb d_SStore_tablesThere_30 hl (k := 1) rfl (by decide) (by decide) rfl (fun ls hl => ?_)
  refine lv_goto (tgt := 4) hx hb d_SStore_tablesThere_33 (by decide) ?_
  refine lv_iload_n hx hb d_SStore_tablesThere_4 rfl (lv_at hl 0 rfl) ?_
  refine lv_bipush (v := 8) hx hb d_SStore_tablesThere_5 (by decide) ?_
  refine lv_icmp_ge (tgt := 36) hx hb d_SStore_tablesThere_7 (by decide) (fun c_17 => ?_) (fun c_17 => absurd (by decide) c_17)
  refine lv_iload_n hx hb d_SStore_tablesThere_36 rfl (lv_at hl 1 rfl) ?_
  refine W.widen (k := 0) (n := 0) (Nat.le_of_ble_eq_true rfl) (Nat.le_of_ble_eq_true rfl) ?_
  exact W.iret (v := 0) hx hb hr (fun t ht hW => ⟨⟨0, (), rfl, rfl, va_P.none, va_K.moved hW.alike (hK.sub (tys' := []) [] rfl), va_D.none⟩, hS.F ht⟩) hS.2.2 d_SStore_tablesThere_37
set_option maxHeartbeats 4000000 in
set_option maxRecDepth 100000 in
theorem c_Server_count (l : Launch) (dC : Nat → ClassId) (dI : Nat → Nat → Nat) (sz : Nat) (h0 : Nat) (e1 : Nat) (e2 : Nat) (e3 : Nat) (e4 : Nat) (e5 : Nat) (e6 : Nat) (e7 : Nat) (e8 : Nat) (e9 : Nat) (e11 : ClassId) (e12 : Nat) (e13 : Nat) (e14 : Nat) (e15 : Nat) (e16 : Nat) (e17 : Nat) (e18 : Nat) (e19 : Nat) (e20 : Nat) (e21 : Nat) (e22 : Nat) (e23 : Nat) (e24 : Nat) (e25 : Nat) (e34 : Nat) (e35 : Nat) (e36 : Nat) (e37 : Nat) (e38 : Nat) (e39 : Nat) (e40 : Nat) (e41 : Nat) (e50 : Nat) (e51 : Nat) (e52 : Nat) (e53 : Nat) (e54 : Nat) (e55 : Nat) (e56 : Nat) (e57 : Nat) (e66 : Nat) (e67 : Nat) (e68 : Nat) (e69 : Nat) (e70 : Nat) (e71 : Nat) (e72 : Nat) (e73 : Nat) (e82 : Nat) (e83 : Nat) (e84 : Nat) (e85 : Nat) (e86 : Nat) (e87 : Nat) (e88 : Nat) (e89 : Nat) (e98 : Nat) (e99 : Nat) (e100 : Nat) (e101 : Nat) (e102 : Nat) (e103 : Nat) (e104 : Nat) (e105 : Nat) (e114 : Nat) (e115 : Nat) (e116 : Nat) (e117 : Nat) (e118 : Nat) (e119 : Nat) (e120 : Nat) (e121 : Nat) (e122 : Nat) (e123 : Nat) (e124 : Nat) (e125 : Nat) (e126 : Nat) (e127 : ClassId) (e128 : Nat) (e129 : Nat) (e130 : Nat) (e131 : Nat) (e132 : Nat) (e133 : Nat) (e134 : Nat) (e135 : Nat) (e136 : Nat) (e137 : Nat) (e138 : Nat) (e139 : Nat) (e140 : Nat) (e141 : Nat) (e142 : Nat) (e143 : Nat) (e144 : Nat) (e145 : Nat) (e146 : Nat) (e147 : Nat) (e148 : Nat) (e149 : Nat) (e150 : Nat) (e151 : Nat) (e152 : Nat) (e153 : Nat) (e154 : Nat) (e155 : Nat) (e156 : Nat) (e157 : Nat) (e158 : Nat) (e159 : Nat) (e160 : Nat) (e161 : Nat) (e162 : Nat) (e163 : Nat) (e164 : Nat) (e165 : Nat) (e166 : Nat) (e167 : Nat) (e168 : Nat) (e169 : Nat) (e170 : Nat) (e171 : Nat) (e172 : Nat) (z1 : Int32) : Met l y_Server_count w_Server_count ({ frames := 1, cells := 0, slots := 0, locals := 22 }) (va_Pc [.ref h0, .int z1] (fun U => U.heap.size = sz ∧ va_P (dC, dI) classes [(h0, .inr (12, [.ref e1, .ref e2, .ref e3, .ref e4, .ref e5, .ref e6, .ref e7, .ref e8, .ref e9, .int 0, .int 0, .int 1])), (e2, .inl (e11, 6, .inr (.inr (.inr (.inr (va_up (va_up (va_up (va_up (va_up (va_up (fun _ => none) 0 (some e12)) 1 (some e13)) 2 (some e14)) 3 (some e15)) 4 (some e16)) 5 (some e17))))))), (e12, .inr (11, [.int 0, .ref e18, .ref e19, .ref e20, .ref e21, .ref e22, .ref e23, .ref e24, .ref e25, .int 0, .int 1, .int 1, .int 0, .int 0, .int 0, .int (-1), .int 0, .int 0])), (e13, .inr (11, [.int 1, .ref e34, .ref e35, .ref e36, .ref e37, .ref e38, .ref e39, .ref e40, .ref e41, .int 0, .int 1, .int 1, .int 0, .int 0, .int 0, .int (-1), .int 0, .int 0])), (e14, .inr (11, [.int 2, .ref e50, .ref e51, .ref e52, .ref e53, .ref e54, .ref e55, .ref e56, .ref e57, .int 0, .int 1, .int 1, .int 0, .int 0, .int 0, .int (-1), .int 0, .int 0])), (e15, .inr (11, [.int 3, .ref e66, .ref e67, .ref e68, .ref e69, .ref e70, .ref e71, .ref e72, .ref e73, .int 0, .int 1, .int 1, .int 0, .int 0, .int 0, .int (-1), .int 0, .int 0])), (e16, .inr (11, [.int 4, .ref e82, .ref e83, .ref e84, .ref e85, .ref e86, .ref e87, .ref e88, .ref e89, .int 0, .int 1, .int 1, .int 0, .int 0, .int 0, .int (-1), .int 0, .int 0])), (e17, .inr (11, [.int 5, .ref e98, .ref e99, .ref e100, .ref e101, .ref e102, .ref e103, .ref e104, .ref e105, .int 0, .int 1, .int 1, .int 0, .int 0, .int 0, .int (-1), .int 0, .int 0])), (e3, .inr (1, [.ref e114, .ref e115, .ref e116, .ref e117, .ref e118, .ref e119, .ref e120, .ref e121, .ref e122, .ref e123, .ref e124, .ref e125, .ref e126, .int 0, .int 0, .int 0, .int 0])), (e114, .inl (e127, 8, .inr (.inr (.inr (.inr (va_up (va_up (va_up (va_up (va_up (va_up (va_up (va_up (fun _ => none) 0 (some e128)) 1 (some e129)) 2 (some e130)) 3 (some e131)) 4 (some e132)) 5 (some e133)) 6 (some e134)) 7 (some e135))))))), (e128, .inr (0, [.ref e136, .ref e137, .ref e138, .ref e139, .int 0, .int 0, .int 0, .int 0])), (e129, .inr (0, [.ref e140, .ref e141, .ref e142, .ref e143, .int 0, .int 0, .int 0, .int 0])), (e130, .inr (0, [.ref e144, .ref e145, .ref e146, .ref e147, .int 0, .int 0, .int 0, .int 0])), (e131, .inr (0, [.ref e148, .ref e149, .ref e150, .ref e151, .int 0, .int 0, .int 0, .int 0])), (e132, .inr (0, [.ref e152, .ref e153, .ref e154, .ref e155, .int 0, .int 0, .int 0, .int 0])), (e133, .inr (0, [.ref e156, .ref e157, .ref e158, .ref e159, .int 0, .int 0, .int 0, .int 0])), (e134, .inr (0, [.ref e160, .ref e161, .ref e162, .ref e163, .int 0, .int 0, .int 0, .int 0])), (e135, .inr (0, [.ref e164, .ref e165, .ref e166, .ref e167, .int 0, .int 0, .int 0, .int 0])), (e4, .inr (2, [.ref e168, .ref e169, .ref e170, .ref e171, .ref e172, .int 0, .int 0, .int 0, .int (-1), .int 0, .int 0, .int 0]))] U.heap ∧ va_K (dC, dI) classes [(e11, .object R_SSession), (e127, .object R_STable)] U ∧ va_D (fun _ => True) [(h0, .inr (12, [.ref e1, .ref e2, .ref e3, .ref e4, .ref e5, .ref e6, .ref e7, .ref e8, .ref e9, .int 0, .int 0, .int 1])), (e2, .inl (e11, 6, .inr (.inr (.inr (.inr (va_up (va_up (va_up (va_up (va_up (va_up (fun _ => none) 0 (some e12)) 1 (some e13)) 2 (some e14)) 3 (some e15)) 4 (some e16)) 5 (some e17))))))), (e12, .inr (11, [.int 0, .ref e18, .ref e19, .ref e20, .ref e21, .ref e22, .ref e23, .ref e24, .ref e25, .int 0, .int 1, .int 1, .int 0, .int 0, .int 0, .int (-1), .int 0, .int 0])), (e13, .inr (11, [.int 1, .ref e34, .ref e35, .ref e36, .ref e37, .ref e38, .ref e39, .ref e40, .ref e41, .int 0, .int 1, .int 1, .int 0, .int 0, .int 0, .int (-1), .int 0, .int 0])), (e14, .inr (11, [.int 2, .ref e50, .ref e51, .ref e52, .ref e53, .ref e54, .ref e55, .ref e56, .ref e57, .int 0, .int 1, .int 1, .int 0, .int 0, .int 0, .int (-1), .int 0, .int 0])), (e15, .inr (11, [.int 3, .ref e66, .ref e67, .ref e68, .ref e69, .ref e70, .ref e71, .ref e72, .ref e73, .int 0, .int 1, .int 1, .int 0, .int 0, .int 0, .int (-1), .int 0, .int 0])), (e16, .inr (11, [.int 4, .ref e82, .ref e83, .ref e84, .ref e85, .ref e86, .ref e87, .ref e88, .ref e89, .int 0, .int 1, .int 1, .int 0, .int 0, .int 0, .int (-1), .int 0, .int 0])), (e17, .inr (11, [.int 5, .ref e98, .ref e99, .ref e100, .ref e101, .ref e102, .ref e103, .ref e104, .ref e105, .int 0, .int 1, .int 1, .int 0, .int 0, .int 0, .int (-1), .int 0, .int 0])), (e3, .inr (1, [.ref e114, .ref e115, .ref e116, .ref e117, .ref e118, .ref e119, .ref e120, .ref e121, .ref e122, .ref e123, .ref e124, .ref e125, .ref e126, .int 0, .int 0, .int 0, .int 0])), (e114, .inl (e127, 8, .inr (.inr (.inr (.inr (va_up (va_up (va_up (va_up (va_up (va_up (va_up (va_up (fun _ => none) 0 (some e128)) 1 (some e129)) 2 (some e130)) 3 (some e131)) 4 (some e132)) 5 (some e133)) 6 (some e134)) 7 (some e135))))))), (e128, .inr (0, [.ref e136, .ref e137, .ref e138, .ref e139, .int 0, .int 0, .int 0, .int 0])), (e129, .inr (0, [.ref e140, .ref e141, .ref e142, .ref e143, .int 0, .int 0, .int 0, .int 0])), (e130, .inr (0, [.ref e144, .ref e145, .ref e146, .ref e147, .int 0, .int 0, .int 0, .int 0])), (e131, .inr (0, [.ref e148, .ref e149, .ref e150, .ref e151, .int 0, .int 0, .int 0, .int 0])), (e132, .inr (0, [.ref e152, .ref e153, .ref e154, .ref e155, .int 0, .int 0, .int 0, .int 0])), (e133, .inr (0, [.ref e156, .ref e157, .ref e158, .ref e159, .int 0, .int 0, .int 0, .int 0])), (e134, .inr (0, [.ref e160, .ref e161, .ref e162, .ref e163, .int 0, .int 0, .int 0, .int 0])), (e135, .inr (0, [.ref e164, .ref e165, .ref e166, .ref e167, .int 0, .int 0, .int 0, .int 0])), (e4, .inr (2, [.ref e168, .ref e169, .ref e170, .ref e171, .ref e172, .int 0, .int 0, .int 0, .int (-1), .int 0, .int 0, .int 0]))] ∧ bx_N U)) (va_Qi (fun (r : Int32) (_ : Unit) => r = bx_cnt z1) (fun (_ : Unit) t => va_P (dC, dI) classes [] t.heap ∧ va_K (dC, dI) classes [] t ∧ va_D (va_A [(h0, .inr (12, [.ref e1, .ref e2, .ref e3, .ref e4, .ref e5, .ref e6, .ref e7, .ref e8, .ref e9, .int 0, .int 0, .int 1])), (e2, .inl (e11, 6, .inr (.inr (.inr (.inr (va_up (va_up (va_up (va_up (va_up (va_up (fun _ => none) 0 (some e12)) 1 (some e13)) 2 (some e14)) 3 (some e15)) 4 (some e16)) 5 (some e17))))))), (e12, .inr (11, [.int 0, .ref e18, .ref e19, .ref e20, .ref e21, .ref e22, .ref e23, .ref e24, .ref e25, .int 0, .int 1, .int 1, .int 0, .int 0, .int 0, .int (-1), .int 0, .int 0])), (e13, .inr (11, [.int 1, .ref e34, .ref e35, .ref e36, .ref e37, .ref e38, .ref e39, .ref e40, .ref e41, .int 0, .int 1, .int 1, .int 0, .int 0, .int 0, .int (-1), .int 0, .int 0])), (e14, .inr (11, [.int 2, .ref e50, .ref e51, .ref e52, .ref e53, .ref e54, .ref e55, .ref e56, .ref e57, .int 0, .int 1, .int 1, .int 0, .int 0, .int 0, .int (-1), .int 0, .int 0])), (e15, .inr (11, [.int 3, .ref e66, .ref e67, .ref e68, .ref e69, .ref e70, .ref e71, .ref e72, .ref e73, .int 0, .int 1, .int 1, .int 0, .int 0, .int 0, .int (-1), .int 0, .int 0])), (e16, .inr (11, [.int 4, .ref e82, .ref e83, .ref e84, .ref e85, .ref e86, .ref e87, .ref e88, .ref e89, .int 0, .int 1, .int 1, .int 0, .int 0, .int 0, .int (-1), .int 0, .int 0])), (e17, .inr (11, [.int 5, .ref e98, .ref e99, .ref e100, .ref e101, .ref e102, .ref e103, .ref e104, .ref e105, .int 0, .int 1, .int 1, .int 0, .int 0, .int 0, .int (-1), .int 0, .int 0])), (e3, .inr (1, [.ref e114, .ref e115, .ref e116, .ref e117, .ref e118, .ref e119, .ref e120, .ref e121, .ref e122, .ref e123, .ref e124, .ref e125, .ref e126, .int 0, .int 0, .int 0, .int 0])), (e114, .inl (e127, 8, .inr (.inr (.inr (.inr (va_up (va_up (va_up (va_up (va_up (va_up (va_up (va_up (fun _ => none) 0 (some e128)) 1 (some e129)) 2 (some e130)) 3 (some e131)) 4 (some e132)) 5 (some e133)) 6 (some e134)) 7 (some e135))))))), (e128, .inr (0, [.ref e136, .ref e137, .ref e138, .ref e139, .int 0, .int 0, .int 0, .int 0])), (e129, .inr (0, [.ref e140, .ref e141, .ref e142, .ref e143, .int 0, .int 0, .int 0, .int 0])), (e130, .inr (0, [.ref e144, .ref e145, .ref e146, .ref e147, .int 0, .int 0, .int 0, .int 0])), (e131, .inr (0, [.ref e148, .ref e149, .ref e150, .ref e151, .int 0, .int 0, .int 0, .int 0])), (e132, .inr (0, [.ref e152, .ref e153, .ref e154, .ref e155, .int 0, .int 0, .int 0, .int 0])), (e133, .inr (0, [.ref e156, .ref e157, .ref e158, .ref e159, .int 0, .int 0, .int 0, .int 0])), (e134, .inr (0, [.ref e160, .ref e161, .ref e162, .ref e163, .int 0, .int 0, .int 0, .int 0])), (e135, .inr (0, [.ref e164, .ref e165, .ref e166, .ref e167, .int 0, .int 0, .int 0, .int 0])), (e4, .inr (2, [.ref e168, .ref e169, .ref e170, .ref e171, .ref e172, .int 0, .int 0, .int 0, .int (-1), .int 0, .int 0, .int 0]))] sz) []) (va_A [(h0, .inr (12, [.ref e1, .ref e2, .ref e3, .ref e4, .ref e5, .ref e6, .ref e7, .ref e8, .ref e9, .int 0, .int 0, .int 1])), (e2, .inl (e11, 6, .inr (.inr (.inr (.inr (va_up (va_up (va_up (va_up (va_up (va_up (fun _ => none) 0 (some e12)) 1 (some e13)) 2 (some e14)) 3 (some e15)) 4 (some e16)) 5 (some e17))))))), (e12, .inr (11, [.int 0, .ref e18, .ref e19, .ref e20, .ref e21, .ref e22, .ref e23, .ref e24, .ref e25, .int 0, .int 1, .int 1, .int 0, .int 0, .int 0, .int (-1), .int 0, .int 0])), (e13, .inr (11, [.int 1, .ref e34, .ref e35, .ref e36, .ref e37, .ref e38, .ref e39, .ref e40, .ref e41, .int 0, .int 1, .int 1, .int 0, .int 0, .int 0, .int (-1), .int 0, .int 0])), (e14, .inr (11, [.int 2, .ref e50, .ref e51, .ref e52, .ref e53, .ref e54, .ref e55, .ref e56, .ref e57, .int 0, .int 1, .int 1, .int 0, .int 0, .int 0, .int (-1), .int 0, .int 0])), (e15, .inr (11, [.int 3, .ref e66, .ref e67, .ref e68, .ref e69, .ref e70, .ref e71, .ref e72, .ref e73, .int 0, .int 1, .int 1, .int 0, .int 0, .int 0, .int (-1), .int 0, .int 0])), (e16, .inr (11, [.int 4, .ref e82, .ref e83, .ref e84, .ref e85, .ref e86, .ref e87, .ref e88, .ref e89, .int 0, .int 1, .int 1, .int 0, .int 0, .int 0, .int (-1), .int 0, .int 0])), (e17, .inr (11, [.int 5, .ref e98, .ref e99, .ref e100, .ref e101, .ref e102, .ref e103, .ref e104, .ref e105, .int 0, .int 1, .int 1, .int 0, .int 0, .int 0, .int (-1), .int 0, .int 0])), (e3, .inr (1, [.ref e114, .ref e115, .ref e116, .ref e117, .ref e118, .ref e119, .ref e120, .ref e121, .ref e122, .ref e123, .ref e124, .ref e125, .ref e126, .int 0, .int 0, .int 0, .int 0])), (e114, .inl (e127, 8, .inr (.inr (.inr (.inr (va_up (va_up (va_up (va_up (va_up (va_up (va_up (va_up (fun _ => none) 0 (some e128)) 1 (some e129)) 2 (some e130)) 3 (some e131)) 4 (some e132)) 5 (some e133)) 6 (some e134)) 7 (some e135))))))), (e128, .inr (0, [.ref e136, .ref e137, .ref e138, .ref e139, .int 0, .int 0, .int 0, .int 0])), (e129, .inr (0, [.ref e140, .ref e141, .ref e142, .ref e143, .int 0, .int 0, .int 0, .int 0])), (e130, .inr (0, [.ref e144, .ref e145, .ref e146, .ref e147, .int 0, .int 0, .int 0, .int 0])), (e131, .inr (0, [.ref e148, .ref e149, .ref e150, .ref e151, .int 0, .int 0, .int 0, .int 0])), (e132, .inr (0, [.ref e152, .ref e153, .ref e154, .ref e155, .int 0, .int 0, .int 0, .int 0])), (e133, .inr (0, [.ref e156, .ref e157, .ref e158, .ref e159, .int 0, .int 0, .int 0, .int 0])), (e134, .inr (0, [.ref e160, .ref e161, .ref e162, .ref e163, .int 0, .int 0, .int 0, .int 0])), (e135, .inr (0, [.ref e164, .ref e165, .ref e166, .ref e167, .int 0, .int 0, .int 0, .int 0])), (e4, .inr (2, [.ref e168, .ref e169, .ref e170, .ref e171, .ref e172, .int 0, .int 0, .int 0, .int (-1), .int 0, .int 0, .int 0]))] sz)) 0 0 (va_A [(h0, .inr (12, [.ref e1, .ref e2, .ref e3, .ref e4, .ref e5, .ref e6, .ref e7, .ref e8, .ref e9, .int 0, .int 0, .int 1])), (e2, .inl (e11, 6, .inr (.inr (.inr (.inr (va_up (va_up (va_up (va_up (va_up (va_up (fun _ => none) 0 (some e12)) 1 (some e13)) 2 (some e14)) 3 (some e15)) 4 (some e16)) 5 (some e17))))))), (e12, .inr (11, [.int 0, .ref e18, .ref e19, .ref e20, .ref e21, .ref e22, .ref e23, .ref e24, .ref e25, .int 0, .int 1, .int 1, .int 0, .int 0, .int 0, .int (-1), .int 0, .int 0])), (e13, .inr (11, [.int 1, .ref e34, .ref e35, .ref e36, .ref e37, .ref e38, .ref e39, .ref e40, .ref e41, .int 0, .int 1, .int 1, .int 0, .int 0, .int 0, .int (-1), .int 0, .int 0])), (e14, .inr (11, [.int 2, .ref e50, .ref e51, .ref e52, .ref e53, .ref e54, .ref e55, .ref e56, .ref e57, .int 0, .int 1, .int 1, .int 0, .int 0, .int 0, .int (-1), .int 0, .int 0])), (e15, .inr (11, [.int 3, .ref e66, .ref e67, .ref e68, .ref e69, .ref e70, .ref e71, .ref e72, .ref e73, .int 0, .int 1, .int 1, .int 0, .int 0, .int 0, .int (-1), .int 0, .int 0])), (e16, .inr (11, [.int 4, .ref e82, .ref e83, .ref e84, .ref e85, .ref e86, .ref e87, .ref e88, .ref e89, .int 0, .int 1, .int 1, .int 0, .int 0, .int 0, .int (-1), .int 0, .int 0])), (e17, .inr (11, [.int 5, .ref e98, .ref e99, .ref e100, .ref e101, .ref e102, .ref e103, .ref e104, .ref e105, .int 0, .int 1, .int 1, .int 0, .int 0, .int 0, .int (-1), .int 0, .int 0])), (e3, .inr (1, [.ref e114, .ref e115, .ref e116, .ref e117, .ref e118, .ref e119, .ref e120, .ref e121, .ref e122, .ref e123, .ref e124, .ref e125, .ref e126, .int 0, .int 0, .int 0, .int 0])), (e114, .inl (e127, 8, .inr (.inr (.inr (.inr (va_up (va_up (va_up (va_up (va_up (va_up (va_up (va_up (fun _ => none) 0 (some e128)) 1 (some e129)) 2 (some e130)) 3 (some e131)) 4 (some e132)) 5 (some e133)) 6 (some e134)) 7 (some e135))))))), (e128, .inr (0, [.ref e136, .ref e137, .ref e138, .ref e139, .int 0, .int 0, .int 0, .int 0])), (e129, .inr (0, [.ref e140, .ref e141, .ref e142, .ref e143, .int 0, .int 0, .int 0, .int 0])), (e130, .inr (0, [.ref e144, .ref e145, .ref e146, .ref e147, .int 0, .int 0, .int 0, .int 0])), (e131, .inr (0, [.ref e148, .ref e149, .ref e150, .ref e151, .int 0, .int 0, .int 0, .int 0])), (e132, .inr (0, [.ref e152, .ref e153, .ref e154, .ref e155, .int 0, .int 0, .int 0, .int 0])), (e133, .inr (0, [.ref e156, .ref e157, .ref e158, .ref e159, .int 0, .int 0, .int 0, .int 0])), (e134, .inr (0, [.ref e160, .ref e161, .ref e162, .ref e163, .int 0, .int 0, .int 0, .int 0])), (e135, .inr (0, [.ref e164, .ref e165, .ref e166, .ref e167, .int 0, .int 0, .int 0, .int 0])), (e4, .inr (2, [.ref e168, .ref e169, .ref e170, .ref e171, .ref e172, .int 0, .int 0, .int 0, .int (-1), .int 0, .int 0, .int 0]))] sz) := by
  refine Met.ofW (cc := b_Server_count) (maxL := 2) (ret := (some .int)) (by decide) rfl ?_
  intro p e s m args below meth c s₁ B hml hv
  obtain ⟨rfl, hsz, hP, hK, hD0, hN⟩ := hv
  have hx := B.exec
  have hb := B.bytes
  have hr := B.returns
  have hts := atoms_spec (ws := w_Server_count) B.pre
  have hown : s.vm.findClass R_Server = some m.cls := findClass_of_methodNamed B.named
  have hlocks := B.notSynchronized
  subst hsz
  have hD := hD0.self (sz := s.heap.size)
  generalize hAe : va_A [(h0, .inr (12, [.ref e1, .ref e2, .ref e3, .ref e4, .ref e5, .ref e6, .ref e7, .ref e8, .ref e9, .int 0, .int 0, .int 1])), (e2, .inl (e11, 6, .inr (.inr (.inr (.inr (va_up (va_up (va_up (va_up (va_up (va_up (fun _ => none) 0 (some e12)) 1 (some e13)) 2 (some e14)) 3 (some e15)) 4 (some e16)) 5 (some e17))))))), (e12, .inr (11, [.int 0, .ref e18, .ref e19, .ref e20, .ref e21, .ref e22, .ref e23, .ref e24, .ref e25, .int 0, .int 1, .int 1, .int 0, .int 0, .int 0, .int (-1), .int 0, .int 0])), (e13, .inr (11, [.int 1, .ref e34, .ref e35, .ref e36, .ref e37, .ref e38, .ref e39, .ref e40, .ref e41, .int 0, .int 1, .int 1, .int 0, .int 0, .int 0, .int (-1), .int 0, .int 0])), (e14, .inr (11, [.int 2, .ref e50, .ref e51, .ref e52, .ref e53, .ref e54, .ref e55, .ref e56, .ref e57, .int 0, .int 1, .int 1, .int 0, .int 0, .int 0, .int (-1), .int 0, .int 0])), (e15, .inr (11, [.int 3, .ref e66, .ref e67, .ref e68, .ref e69, .ref e70, .ref e71, .ref e72, .ref e73, .int 0, .int 1, .int 1, .int 0, .int 0, .int 0, .int (-1), .int 0, .int 0])), (e16, .inr (11, [.int 4, .ref e82, .ref e83, .ref e84, .ref e85, .ref e86, .ref e87, .ref e88, .ref e89, .int 0, .int 1, .int 1, .int 0, .int 0, .int 0, .int (-1), .int 0, .int 0])), (e17, .inr (11, [.int 5, .ref e98, .ref e99, .ref e100, .ref e101, .ref e102, .ref e103, .ref e104, .ref e105, .int 0, .int 1, .int 1, .int 0, .int 0, .int 0, .int (-1), .int 0, .int 0])), (e3, .inr (1, [.ref e114, .ref e115, .ref e116, .ref e117, .ref e118, .ref e119, .ref e120, .ref e121, .ref e122, .ref e123, .ref e124, .ref e125, .ref e126, .int 0, .int 0, .int 0, .int 0])), (e114, .inl (e127, 8, .inr (.inr (.inr (.inr (va_up (va_up (va_up (va_up (va_up (va_up (va_up (va_up (fun _ => none) 0 (some e128)) 1 (some e129)) 2 (some e130)) 3 (some e131)) 4 (some e132)) 5 (some e133)) 6 (some e134)) 7 (some e135))))))), (e128, .inr (0, [.ref e136, .ref e137, .ref e138, .ref e139, .int 0, .int 0, .int 0, .int 0])), (e129, .inr (0, [.ref e140, .ref e141, .ref e142, .ref e143, .int 0, .int 0, .int 0, .int 0])), (e130, .inr (0, [.ref e144, .ref e145, .ref e146, .ref e147, .int 0, .int 0, .int 0, .int 0])), (e131, .inr (0, [.ref e148, .ref e149, .ref e150, .ref e151, .int 0, .int 0, .int 0, .int 0])), (e132, .inr (0, [.ref e152, .ref e153, .ref e154, .ref e155, .int 0, .int 0, .int 0, .int 0])), (e133, .inr (0, [.ref e156, .ref e157, .ref e158, .ref e159, .int 0, .int 0, .int 0, .int 0])), (e134, .inr (0, [.ref e160, .ref e161, .ref e162, .ref e163, .int 0, .int 0, .int 0, .int 0])), (e135, .inr (0, [.ref e164, .ref e165, .ref e166, .ref e167, .int 0, .int 0, .int 0, .int 0])), (e4, .inr (2, [.ref e168, .ref e169, .ref e170, .ref e171, .ref e172, .int 0, .int 0, .int 0, .int (-1), .int 0, .int 0, .int 0]))] s.heap.size = A at hD ⊢
  have hA : ∀ q : Nat, s.heap.size ≤ q → A q := fun q h => by rw [← hAe]; exact Or.inr h
  have hS : va_S A s.heap s.heap [] := va_S.rf
  have hP : va_P (dC, dI) classes [(h0, .inr (12, [.ref e1, .ref e2, .ref e3, .ref e4, .ref e5, .ref e6, .ref e7, .ref e8, .ref e9, .int 0, .int 0, .int 1])), (e2, .inl (e11, 6, .inr (.inr (.inr (.inr (va_up (va_up (va_up (va_up (va_up (va_up (fun _ => none) 0 (some e12)) 1 (some e13)) 2 (some e14)) 3 (some e15)) 4 (some e16)) 5 (some e17))))))), (e12, .inr (11, [.int 0, .ref e18, .ref e19, .ref e20, .ref e21, .ref e22, .ref e23, .ref e24, .ref e25, .int 0, .int 1, .int 1, .int 0, .int 0, .int 0, .int (-1), .int 0, .int 0])), (e13, .inr (11, [.int 1, .ref e34, .ref e35, .ref e36, .ref e37, .ref e38, .ref e39, .ref e40, .ref e41, .int 0, .int 1, .int 1, .int 0, .int 0, .int 0, .int (-1), .int 0, .int 0])), (e14, .inr (11, [.int 2, .ref e50, .ref e51, .ref e52, .ref e53, .ref e54, .ref e55, .ref e56, .ref e57, .int 0, .int 1, .int 1, .int 0, .int 0, .int 0, .int (-1), .int 0, .int 0])), (e15, .inr (11, [.int 3, .ref e66, .ref e67, .ref e68, .ref e69, .ref e70, .ref e71, .ref e72, .ref e73, .int 0, .int 1, .int 1, .int 0, .int 0, .int 0, .int (-1), .int 0, .int 0])), (e16, .inr (11, [.int 4, .ref e82, .ref e83, .ref e84, .ref e85, .ref e86, .ref e87, .ref e88, .ref e89, .int 0, .int 1, .int 1, .int 0, .int 0, .int 0, .int (-1), .int 0, .int 0])), (e17, .inr (11, [.int 5, .ref e98, .ref e99, .ref e100, .ref e101, .ref e102, .ref e103, .ref e104, .ref e105, .int 0, .int 1, .int 1, .int 0, .int 0, .int 0, .int (-1), .int 0, .int 0])), (e3, .inr (1, [.ref e114, .ref e115, .ref e116, .ref e117, .ref e118, .ref e119, .ref e120, .ref e121, .ref e122, .ref e123, .ref e124, .ref e125, .ref e126, .int 0, .int 0, .int 0, .int 0])), (e114, .inl (e127, 8, .inr (.inr (.inr (.inr (va_up (va_up (va_up (va_up (va_up (va_up (va_up (va_up (fun _ => none) 0 (some e128)) 1 (some e129)) 2 (some e130)) 3 (some e131)) 4 (some e132)) 5 (some e133)) 6 (some e134)) 7 (some e135))))))), (e128, .inr (0, [.ref e136, .ref e137, .ref e138, .ref e139, .int 0, .int 0, .int 0, .int 0])), (e129, .inr (0, [.ref e140, .ref e141, .ref e142, .ref e143, .int 0, .int 0, .int 0, .int 0])), (e130, .inr (0, [.ref e144, .ref e145, .ref e146, .ref e147, .int 0, .int 0, .int 0, .int 0])), (e131, .inr (0, [.ref e148, .ref e149, .ref e150, .ref e151, .int 0, .int 0, .int 0, .int 0])), (e132, .inr (0, [.ref e152, .ref e153, .ref e154, .ref e155, .int 0, .int 0, .int 0, .int 0])), (e133, .inr (0, [.ref e156, .ref e157, .ref e158, .ref e159, .int 0, .int 0, .int 0, .int 0])), (e134, .inr (0, [.ref e160, .ref e161, .ref e162, .ref e163, .int 0, .int 0, .int 0, .int 0])), (e135, .inr (0, [.ref e164, .ref e165, .ref e166, .ref e167, .int 0, .int 0, .int 0, .int 0])), (e4, .inr (2, [.ref e168, .ref e169, .ref e170, .ref e171, .ref e172, .int 0, .int 0, .int 0, .int (-1), .int 0, .int 0, .int 0]))] s.heap := hP
  have hl := lv_entry ([.ref h0, .int z1]) (n := 2) (Nat.le_of_ble_eq_true rfl)
  rw [lg_entry_eq]
  generalize (lg_sl ([.ref h0, .int z1]) ++ List.replicate (2 - (lg_sl ([.ref h0, .int z1])).length) Slot.unset).toArray = ls at hl ⊢
  have hl : lv_has ls 2 [(0, .ref h0), (1, .int z1)] := hl
  obtain ⟨H, hH⟩ : ∃ H : Heap, s.heap = H := ⟨_, rfl⟩
  have hP : va_P (dC, dI) classes [(h0, .inr (12, [.ref e1, .ref e2, .ref e3, .ref e4, .ref e5, .ref e6, .ref e7, .ref e8, .ref e9, .int 0, .int 0, .int 1])), (e2, .inl (e11, 6, .inr (.inr (.inr (.inr (va_up (va_up (va_up (va_up (va_up (va_up (fun _ => none) 0 (some e12)) 1 (some e13)) 2 (some e14)) 3 (some e15)) 4 (some e16)) 5 (some e17))))))), (e12, .inr (11, [.int 0, .ref e18, .ref e19, .ref e20, .ref e21, .ref e22, .ref e23, .ref e24, .ref e25, .int 0, .int 1, .int 1, .int 0, .int 0, .int 0, .int (-1), .int 0, .int 0])), (e13, .inr (11, [.int 1, .ref e34, .ref e35, .ref e36, .ref e37, .ref e38, .ref e39, .ref e40, .ref e41, .int 0, .int 1, .int 1, .int 0, .int 0, .int 0, .int (-1), .int 0, .int 0])), (e14, .inr (11, [.int 2, .ref e50, .ref e51, .ref e52, .ref e53, .ref e54, .ref e55, .ref e56, .ref e57, .int 0, .int 1, .int 1, .int 0, .int 0, .int 0, .int (-1), .int 0, .int 0])), (e15, .inr (11, [.int 3, .ref e66, .ref e67, .ref e68, .ref e69, .ref e70, .ref e71, .ref e72, .ref e73, .int 0, .int 1, .int 1, .int 0, .int 0, .int 0, .int (-1), .int 0, .int 0])), (e16, .inr (11, [.int 4, .ref e82, .ref e83, .ref e84, .ref e85, .ref e86, .ref e87, .ref e88, .ref e89, .int 0, .int 1, .int 1, .int 0, .int 0, .int 0, .int (-1), .int 0, .int 0])), (e17, .inr (11, [.int 5, .ref e98, .ref e99, .ref e100, .ref e101, .ref e102, .ref e103, .ref e104, .ref e105, .int 0, .int 1, .int 1, .int 0, .int 0, .int 0, .int (-1), .int 0, .int 0])), (e3, .inr (1, [.ref e114, .ref e115, .ref e116, .ref e117, .ref e118, .ref e119, .ref e120, .ref e121, .ref e122, .ref e123, .ref e124, .ref e125, .ref e126, .int 0, .int 0, .int 0, .int 0])), (e114, .inl (e127, 8, .inr (.inr (.inr (.inr (va_up (va_up (va_up (va_up (va_up (va_up (va_up (va_up (fun _ => none) 0 (some e128)) 1 (some e129)) 2 (some e130)) 3 (some e131)) 4 (some e132)) 5 (some e133)) 6 (some e134)) 7 (some e135))))))), (e128, .inr (0, [.ref e136, .ref e137, .ref e138, .ref e139, .int 0, .int 0, .int 0, .int 0])), (e129, .inr (0, [.ref e140, .ref e141, .ref e142, .ref e143, .int 0, .int 0, .int 0, .int 0])), (e130, .inr (0, [.ref e144, .ref e145, .ref e146, .ref e147, .int 0, .int 0, .int 0, .int 0])), (e131, .inr (0, [.ref e148, .ref e149, .ref e150, .ref e151, .int 0, .int 0, .int 0, .int 0])), (e132, .inr (0, [.ref e152, .ref e153, .ref e154, .ref e155, .int 0, .int 0, .int 0, .int 0])), (e133, .inr (0, [.ref e156, .ref e157, .ref e158, .ref e159, .int 0, .int 0, .int 0, .int 0])), (e134, .inr (0, [.ref e160, .ref e161, .ref e162, .ref e163, .int 0, .int 0, .int 0, .int 0])), (e135, .inr (0, [.ref e164, .ref e165, .ref e166, .ref e167, .int 0, .int 0, .int 0, .int 0])), (e4, .inr (2, [.ref e168, .ref e169, .ref e170, .ref e171, .ref e172, .int 0, .int 0, .int 0, .int (-1), .int 0, .int 0, .int 0]))] H := by rw [← hH]; exact hP
  have hS : va_S A s.heap H [] := by rw [← hH]; exact va_S.rf
  refine bx_heap hH ?_
  refine lv_iload_n hx hb d_Server_count_0 rfl (lv_at hl 1 rfl) ?_
  refine lv_if_lt (tgt := 10) hx hb d_Server_count_1 (by decide) (fun c_1 => ?_) (fun c_1 => ?_)
  · skip
    refine lv_iconst (v := -1) hx hb d_Server_count_10 (by decide) ?_
    refine W.widen (k := 0) (n := 0) (Nat.le_of_ble_eq_true rfl) (Nat.le_of_ble_eq_true rfl) ?_
    exact W.iret (v := (-1)) hx hb hr (fun t ht hW => ⟨⟨(-1), (), rfl, (by simp [bx_cnt, c_1]), va_P.none, va_K.moved hW.alike (hK.sub (tys' := []) [] rfl), va_D.none⟩, hS.F ht⟩) hS.2.2 d_Server_count_11
  · skip
    refine lv_iload_n hx hb d_Server_count_4 rfl (lv_at hl 1 rfl) ?_
    refine lv_bipush (v := 8) hx hb d_Server_count_5 (by decide) ?_
    refine lv_icmp_le (tgt := 12) hx hb d_Server_count_7 (by decide) (fun c_2 => ?_) (fun c_2 => ?_)
    · skip
      rcases bx_nine c_1 c_2 with rfl | rfl | rfl | rfl | rfl | rfl | rfl | rfl | rfl
      · skip
        refine lv_iload_n hx hb d_Server_count_12 rfl (lv_at hl 1 rfl) ?_
        refine lv_bipush (v := 7) hx hb d_Server_count_13 (by decide) ?_
        refine lv_icmp_ne (tgt := 23) hx hb d_Server_count_15 (by decide) (fun c_3 => ?_) (fun c_3 => absurd c_3 (by decide))
        refine lv_aload_n hx hb d_Server_count_23 rfl (lv_at hl 0 rfl) ?_
        refine va_get (D := (dC, dI)) (ci := 12) (v := .int 1) (C := R_Server) (T := F_Server) (N := 12) hx hb hts (i_Server _) hown hK hP 0 rfl rfl 11 (by decide) (hts _ (List.mem_cons_of_mem _ q_873)) (fun _ h9 => h9) rfl d_Server_count_24 ?_
        refine lv_if_ne (tgt := 32) hx hb d_Server_count_27 (by decide) (fun c_4 => ?_) (fun c_4 => absurd c_4 (by decide))
        refine lv_iload_n hx hb d_Server_count_32 rfl (lv_at hl 1 rfl) ?_
        refine lv_tableIn (tgt := 76) hx hb d_Server_count_33 (by decide) (by decide) rfl (by decide) ?_
        refine lv_iconst (v := 1) hx hb d_Server_count_76 (by decide) ?_
        refine W.widen (k := 0) (n := 0) (Nat.le_of_ble_eq_true rfl) (Nat.le_of_ble_eq_true rfl) ?_
        exact W.iret (v := 1) hx hb hr (fun t ht hW => ⟨⟨1, (), rfl, (by decide), va_P.none, va_K.moved hW.alike (hK.sub (tys' := []) [] rfl), va_D.none⟩, hS.F ht⟩) hS.2.2 d_Server_count_77
      · skip
        refine lv_iload_n hx hb d_Server_count_12 rfl (lv_at hl 1 rfl) ?_
        refine lv_bipush (v := 7) hx hb d_Server_count_13 (by decide) ?_
        refine lv_icmp_ne (tgt := 23) hx hb d_Server_count_15 (by decide) (fun c_3 => ?_) (fun c_3 => absurd c_3 (by decide))
        refine lv_aload_n hx hb d_Server_count_23 rfl (lv_at hl 0 rfl) ?_
        refine va_get (D := (dC, dI)) (ci := 12) (v := .int 1) (C := R_Server) (T := F_Server) (N := 12) hx hb hts (i_Server _) hown hK hP 0 rfl rfl 11 (by decide) (hts _ (List.mem_cons_of_mem _ q_873)) (fun _ h9 => h9) rfl d_Server_count_24 ?_
        refine lv_if_ne (tgt := 32) hx hb d_Server_count_27 (by decide) (fun c_4 => ?_) (fun c_4 => absurd c_4 (by decide))
        refine lv_iload_n hx hb d_Server_count_32 rfl (lv_at hl 1 rfl) ?_
        refine lv_tableIn (tgt := 78) hx hb d_Server_count_33 (by decide) (by decide) rfl (by decide) ?_
        refine lv_aload_n hx hb d_Server_count_78 rfl (lv_at hl 0 rfl) ?_
        refine va_get (D := (dC, dI)) (ci := 12) (v := .ref e3) (C := R_Server) (T := F_Server) (N := 12) hx hb hts (i_Server _) hown hK hP 0 rfl rfl 2 (by decide) (hts _ (List.mem_cons_of_mem _ q_864)) (fun _ h9 => h9) rfl d_Server_count_79 ?_
        refine va_get (D := (dC, dI)) (ci := 1) (v := .int 0) (C := R_SStore) (T := F_SStore) (N := 17) hx hb hts (i_SStore _) hown hK hP 8 rfl rfl 15 (by decide) (hts _ (List.mem_cons_of_mem _ q_140)) (fun _ h9 => h9) rfl d_Server_count_82 ?_
        refine W.widen (k := 0) (n := 0) (Nat.le_of_ble_eq_true rfl) (Nat.le_of_ble_eq_true rfl) ?_
        exact W.iret (v := 0) hx hb hr (fun t ht hW => ⟨⟨0, (), rfl, (by decide), va_P.none, va_K.moved hW.alike (hK.sub (tys' := []) [] rfl), va_D.none⟩, hS.F ht⟩) hS.2.2 d_Server_count_85
      · skip
        refine lv_iload_n hx hb d_Server_count_12 rfl (lv_at hl 1 rfl) ?_
        refine lv_bipush (v := 7) hx hb d_Server_count_13 (by decide) ?_
        refine lv_icmp_ne (tgt := 23) hx hb d_Server_count_15 (by decide) (fun c_3 => ?_) (fun c_3 => absurd c_3 (by decide))
        refine lv_aload_n hx hb d_Server_count_23 rfl (lv_at hl 0 rfl) ?_
        refine va_get (D := (dC, dI)) (ci := 12) (v := .int 1) (C := R_Server) (T := F_Server) (N := 12) hx hb hts (i_Server _) hown hK hP 0 rfl rfl 11 (by decide) (hts _ (List.mem_cons_of_mem _ q_873)) (fun _ h9 => h9) rfl d_Server_count_24 ?_
        refine lv_if_ne (tgt := 32) hx hb d_Server_count_27 (by decide) (fun c_4 => ?_) (fun c_4 => absurd c_4 (by decide))
        refine lv_iload_n hx hb d_Server_count_32 rfl (lv_at hl 1 rfl) ?_
        refine lv_tableIn (tgt := 86) hx hb d_Server_count_33 (by decide) (by decide) rfl (by decide) ?_
        refine lv_aload_n hx hb d_Server_count_86 rfl (lv_at hl 0 rfl) ?_
        refine va_get (D := (dC, dI)) (ci := 12) (v := .ref e3) (C := R_Server) (T := F_Server) (N := 12) hx hb hts (i_Server _) hown hK hP 0 rfl rfl 2 (by decide) (hts _ (List.mem_cons_of_mem _ q_864)) (fun _ h9 => h9) rfl d_Server_count_87 ?_
        refine va_get (D := (dC, dI)) (ci := 1) (v := .int 0) (C := R_SStore) (T := F_SStore) (N := 17) hx hb hts (i_SStore _) hown hK hP 8 rfl rfl 16 (by decide) (hts _ (List.mem_cons_of_mem _ q_141)) (fun _ h9 => h9) rfl d_Server_count_90 ?_
        refine W.widen (k := 0) (n := 0) (Nat.le_of_ble_eq_true rfl) (Nat.le_of_ble_eq_true rfl) ?_
        exact W.iret (v := 0) hx hb hr (fun t ht hW => ⟨⟨0, (), rfl, (by decide), va_P.none, va_K.moved hW.alike (hK.sub (tys' := []) [] rfl), va_D.none⟩, hS.F ht⟩) hS.2.2 d_Server_count_93
      · skip
        refine lv_iload_n hx hb d_Server_count_12 rfl (lv_at hl 1 rfl) ?_
        refine lv_bipush (v := 7) hx hb d_Server_count_13 (by decide) ?_
        refine lv_icmp_ne (tgt := 23) hx hb d_Server_count_15 (by decide) (fun c_3 => ?_) (fun c_3 => absurd c_3 (by decide))
        refine lv_aload_n hx hb d_Server_count_23 rfl (lv_at hl 0 rfl) ?_
        refine va_get (D := (dC, dI)) (ci := 12) (v := .int 1) (C := R_Server) (T := F_Server) (N := 12) hx hb hts (i_Server _) hown hK hP 0 rfl rfl 11 (by decide) (hts _ (List.mem_cons_of_mem _ q_873)) (fun _ h9 => h9) rfl d_Server_count_24 ?_
        refine lv_if_ne (tgt := 32) hx hb d_Server_count_27 (by decide) (fun c_4 => ?_) (fun c_4 => absurd c_4 (by decide))
        refine lv_iload_n hx hb d_Server_count_32 rfl (lv_at hl 1 rfl) ?_
        refine lv_tableIn (tgt := 94) hx hb d_Server_count_33 (by decide) (by decide) rfl (by decide) ?_
        refine lv_aload_n hx hb d_Server_count_94 rfl (lv_at hl 0 rfl) ?_
        refine va_get (D := (dC, dI)) (ci := 12) (v := .ref e4) (C := R_Server) (T := F_Server) (N := 12) hx hb hts (i_Server _) hown hK hP 0 rfl rfl 3 (by decide) (hts _ (List.mem_cons_of_mem _ q_865)) (fun _ h9 => h9) rfl d_Server_count_95 ?_
        refine va_get (D := (dC, dI)) (ci := 2) (v := .int 0) (C := R_SLedger) (T := F_SLedger) (N := 12) hx hb hts (i_SLedger _) hown hK hP 18 rfl rfl 5 (by decide) (hts _ (List.mem_cons_of_mem _ q_198)) (fun _ h9 => h9) rfl d_Server_count_98 ?_
        refine W.widen (k := 0) (n := 0) (Nat.le_of_ble_eq_true rfl) (Nat.le_of_ble_eq_true rfl) ?_
        exact W.iret (v := 0) hx hb hr (fun t ht hW => ⟨⟨0, (), rfl, (by decide), va_P.none, va_K.moved hW.alike (hK.sub (tys' := []) [] rfl), va_D.none⟩, hS.F ht⟩) hS.2.2 d_Server_count_101
      · skip
        refine lv_iload_n hx hb d_Server_count_12 rfl (lv_at hl 1 rfl) ?_
        refine lv_bipush (v := 7) hx hb d_Server_count_13 (by decide) ?_
        refine lv_icmp_ne (tgt := 23) hx hb d_Server_count_15 (by decide) (fun c_3 => ?_) (fun c_3 => absurd c_3 (by decide))
        refine lv_aload_n hx hb d_Server_count_23 rfl (lv_at hl 0 rfl) ?_
        refine va_get (D := (dC, dI)) (ci := 12) (v := .int 1) (C := R_Server) (T := F_Server) (N := 12) hx hb hts (i_Server _) hown hK hP 0 rfl rfl 11 (by decide) (hts _ (List.mem_cons_of_mem _ q_873)) (fun _ h9 => h9) rfl d_Server_count_24 ?_
        refine lv_if_ne (tgt := 32) hx hb d_Server_count_27 (by decide) (fun c_4 => ?_) (fun c_4 => absurd c_4 (by decide))
        refine lv_iload_n hx hb d_Server_count_32 rfl (lv_at hl 1 rfl) ?_
        refine lv_tableIn (tgt := 102) hx hb d_Server_count_33 (by decide) (by decide) rfl (by decide) ?_
        refine lv_aload_n hx hb d_Server_count_102 rfl (lv_at hl 0 rfl) ?_
        refine va_get (D := (dC, dI)) (ci := 12) (v := .ref e4) (C := R_Server) (T := F_Server) (N := 12) hx hb hts (i_Server _) hown hK hP 0 rfl rfl 3 (by decide) (hts _ (List.mem_cons_of_mem _ q_865)) (fun _ h9 => h9) rfl d_Server_count_103 ?_
        refine va_get (D := (dC, dI)) (ci := 2) (v := .int 0) (C := R_SLedger) (T := F_SLedger) (N := 12) hx hb hts (i_SLedger _) hown hK hP 18 rfl rfl 6 (by decide) (hts _ (List.mem_cons_of_mem _ q_200)) (fun _ h9 => h9) rfl d_Server_count_106 ?_
        refine W.widen (k := 0) (n := 0) (Nat.le_of_ble_eq_true rfl) (Nat.le_of_ble_eq_true rfl) ?_
        exact W.iret (v := 0) hx hb hr (fun t ht hW => ⟨⟨0, (), rfl, (by decide), va_P.none, va_K.moved hW.alike (hK.sub (tys' := []) [] rfl), va_D.none⟩, hS.F ht⟩) hS.2.2 d_Server_count_109
      · skip
        refine lv_iload_n hx hb d_Server_count_12 rfl (lv_at hl 1 rfl) ?_
        refine lv_bipush (v := 7) hx hb d_Server_count_13 (by decide) ?_
        refine lv_icmp_ne (tgt := 23) hx hb d_Server_count_15 (by decide) (fun c_3 => ?_) (fun c_3 => absurd c_3 (by decide))
        refine lv_aload_n hx hb d_Server_count_23 rfl (lv_at hl 0 rfl) ?_
        refine va_get (D := (dC, dI)) (ci := 12) (v := .int 1) (C := R_Server) (T := F_Server) (N := 12) hx hb hts (i_Server _) hown hK hP 0 rfl rfl 11 (by decide) (hts _ (List.mem_cons_of_mem _ q_873)) (fun _ h9 => h9) rfl d_Server_count_24 ?_
        refine lv_if_ne (tgt := 32) hx hb d_Server_count_27 (by decide) (fun c_4 => ?_) (fun c_4 => absurd c_4 (by decide))
        refine lv_iload_n hx hb d_Server_count_32 rfl (lv_at hl 1 rfl) ?_
        refine lv_tableIn (tgt := 110) hx hb d_Server_count_33 (by decide) (by decide) rfl (by decide) ?_
        refine lv_aload_n hx hb d_Server_count_110 rfl (lv_at hl 0 rfl) ?_
        refine va_get (D := (dC, dI)) (ci := 12) (v := .ref e3) (C := R_Server) (T := F_Server) (N := 12) hx hb hts (i_Server _) hown hK hP 0 rfl rfl 2 (by decide) (hts _ (List.mem_cons_of_mem _ q_864)) (fun _ h9 => h9) rfl d_Server_count_111 ?_
        have hPc := hP.sub (ws' := [(e3, .inr (1, [.ref e114, .ref e115, .ref e116, .ref e117, .ref e118, .ref e119, .ref e120, .ref e121, .ref e122, .ref e123, .ref e124, .ref e125, .ref e126, .int 0, .int 0, .int 0, .int 0])), (e114, .inl (e127, 8, .inr (.inr (.inr (.inr (va_up (va_up (va_up (va_up (va_up (va_up (va_up (va_up (fun _ => none) 0 (some e128)) 1 (some e129)) 2 (some e130)) 3 (some e131)) 4 (some e132)) 5 (some e133)) 6 (some e134)) 7 (some e135))))))), (e128, .inr (0, [.ref e136, .ref e137, .ref e138, .ref e139, .int 0, .int 0, .int 0, .int 0])), (e129, .inr (0, [.ref e140, .ref e141, .ref e142, .ref e143, .int 0, .int 0, .int 0, .int 0])), (e130, .inr (0, [.ref e144, .ref e145, .ref e146, .ref e147, .int 0, .int 0, .int 0, .int 0])), (e131, .inr (0, [.ref e148, .ref e149, .ref e150, .ref e151, .int 0, .int 0, .int 0, .int 0])), (e132, .inr (0, [.ref e152, .ref e153, .ref e154, .ref e155, .int 0, .int 0, .int 0, .int 0])), (e133, .inr (0, [.ref e156, .ref e157, .ref e158, .ref e159, .int 0, .int 0, .int 0, .int 0])), (e134, .inr (0, [.ref e160, .ref e161, .ref e162, .ref e163, .int 0, .int 0, .int 0, .int 0])), (e135, .inr (0, [.ref e164, .ref e165, .ref e166, .ref e167, .int 0, .int 0, .int 0, .int 0]))]) [8, 9, 10, 11, 12, 13, 14, 15, 16, 17] rfl
        have hDc := hD.sub (ws' := [(e3, .inr (1, [.ref e114, .ref e115, .ref e116, .ref e117, .ref e118, .ref e119, .ref e120, .ref e121, .ref e122, .ref e123, .ref e124, .ref e125, .ref e126, .int 0, .int 0, .int 0, .int 0])), (e114, .inl (e127, 8, .inr (.inr (.inr (.inr (va_up (va_up (va_up (va_up (va_up (va_up (va_up (va_up (fun _ => none) 0 (some e128)) 1 (some e129)) 2 (some e130)) 3 (some e131)) 4 (some e132)) 5 (some e133)) 6 (some e134)) 7 (some e135))))))), (e128, .inr (0, [.ref e136, .ref e137, .ref e138, .ref e139, .int 0, .int 0, .int 0, .int 0])), (e129, .inr (0, [.ref e140, .ref e141, .ref e142, .ref e143, .int 0, .int 0, .int 0, .int 0])), (e130, .inr (0, [.ref e144, .ref e145, .ref e146, .ref e147, .int 0, .int 0, .int 0, .int 0])), (e131, .inr (0, [.ref e148, .ref e149, .ref e150, .ref e151, .int 0, .int 0, .int 0, .int 0])), (e132, .inr (0, [.ref e152, .ref e153, .ref e154, .ref e155, .int 0, .int 0, .int 0, .int 0])), (e133, .inr (0, [.ref e156, .ref e157, .ref e158, .ref e159, .int 0, .int 0, .int 0, .int 0])), (e134, .inr (0, [.ref e160, .ref e161, .ref e162, .ref e163, .int 0, .int 0, .int 0, .int 0])), (e135, .inr (0, [.ref e164, .ref e165, .ref e166, .ref e167, .int 0, .int 0, .int 0, .int 0]))]) [8, 9, 10, 11, 12, 13, 14, 15, 16, 17] (by decide) rfl
        have hKc := hK.sub (tys' := [(e127, .object R_STable)]) [1] rfl
        have hFc := va_free (wc := [(e3, .inr (1, [.ref e114, .ref e115, .ref e116, .ref e117, .ref e118, .ref e119, .ref e120, .ref e121, .ref e122, .ref e123, .ref e124, .ref e125, .ref e126, .int 0, .int 0, .int 0, .int 0])), (e114, .inl (e127, 8, .inr (.inr (.inr (.inr (va_up (va_up (va_up (va_up (va_up (va_up (va_up (va_up (fun _ => none) 0 (some e128)) 1 (some e129)) 2 (some e130)) 3 (some e131)) 4 (some e132)) 5 (some e133)) 6 (some e134)) 7 (some e135))))))), (e128, .inr (0, [.ref e136, .ref e137, .ref e138, .ref e139, .int 0, .int 0, .int 0, .int 0])), (e129, .inr (0, [.ref e140, .ref e141, .ref e142, .ref e143, .int 0, .int 0, .int 0, .int 0])), (e130, .inr (0, [.ref e144, .ref e145, .ref e146, .ref e147, .int 0, .int 0, .int 0, .int 0])), (e131, .inr (0, [.ref e148, .ref e149, .ref e150, .ref e151, .int 0, .int 0, .int 0, .int 0])), (e132, .inr (0, [.ref e152, .ref e153, .ref e154, .ref e155, .int 0, .int 0, .int 0, .int 0])), (e133, .inr (0, [.ref e156, .ref e157, .ref e158, .ref e159, .int 0, .int 0, .int 0, .int 0])), (e134, .inr (0, [.ref e160, .ref e161, .ref e162, .ref e163, .int 0, .int 0, .int 0, .int 0])), (e135, .inr (0, [.ref e164, .ref e165, .ref e166, .ref e167, .int 0, .int 0, .int 0, .int 0]))]) hD hS hA [8, 9, 10, 11, 12, 13, 14, 15, 16, 17] rfl
        refine va_calli (va_runV (As := []) (rest := []) ⟨hx, hb, hml, hown, hts⟩ (c_SStore_tablesThere l dC dI H.size e3 e114 e115 e116 e117 e118 e119 e120 e121 e122 e123 e124 e125 e126 e127 e128 e129 e130 e131 e132 e133 e134 e135 e136 e137 e138 e139 e140 e141 e142 e143 e144 e145 e146 e147 e148 e149 e150 e151 e152 e153 e154 e155 e156 e157 e158 e159 e160 e161 e162 e163 e164 e165 e166 e167) (cwV 0 hts (gG_goodV q_1968 q_1376 (sel_SStore_tablesThere) q_2 q_1378) rfl rfl rfl (by decide +kernel) ⟨Nat.le_of_ble_eq_true rfl, Nat.le_of_ble_eq_true rfl⟩) ⟨fun a U g mk q => by obtain ⟨q0, q1, qP, qK, qD, qN⟩ := q; exact ⟨q0, q1, qP, va_K.moved (u := U) (U := U.calling g mk a) (Vm.Alike.refl U.vm) qK, qD, bx_N.same rfl qN⟩, va_recv hKc hPc (ci := 1) (q0 := 0) rfl rfl, fun U hU hW => ⟨rfl, by rw [hU], by rw [hU]; exact hPc, va_K.moved hW.alike hKc, hDc.weaken (fun _ _ _ _ => trivial), bx_N.warm hW hN⟩⟩ rfl rfl hl.1 rfl (lv_room (Nat.le_of_ble_eq_true rfl)) d_Server_count_114 ⟨Nat.le_of_ble_eq_true rfl, Nat.le_of_ble_eq_true rfl⟩) hS (fun q _ h => hFc q h) hFc (fun r5 u t H1 locs ht hvm hw hB hz1 hk1 hS => ?_)
        subst hw
        obtain ⟨hP1, hK1, hD1⟩ := hB
        rw [ht] at hP1
        have hK1 := va_K.moved hvm.symm hK1
        obtain ⟨hP, hD⟩ := va_join (wr := [(h0, .inr (12, [.ref e1, .ref e2, .ref e3, .ref e4, .ref e5, .ref e6, .ref e7, .ref e8, .ref e9, .int 0, .int 0, .int 1])), (e2, .inl (e11, 6, .inr (.inr (.inr (.inr (va_up (va_up (va_up (va_up (va_up (va_up (fun _ => none) 0 (some e12)) 1 (some e13)) 2 (some e14)) 3 (some e15)) 4 (some e16)) 5 (some e17))))))), (e12, .inr (11, [.int 0, .ref e18, .ref e19, .ref e20, .ref e21, .ref e22, .ref e23, .ref e24, .ref e25, .int 0, .int 1, .int 1, .int 0, .int 0, .int 0, .int (-1), .int 0, .int 0])), (e13, .inr (11, [.int 1, .ref e34, .ref e35, .ref e36, .ref e37, .ref e38, .ref e39, .ref e40, .ref e41, .int 0, .int 1, .int 1, .int 0, .int 0, .int 0, .int (-1), .int 0, .int 0])), (e14, .inr (11, [.int 2, .ref e50, .ref e51, .ref e52, .ref e53, .ref e54, .ref e55, .ref e56, .ref e57, .int 0, .int 1, .int 1, .int 0, .int 0, .int 0, .int (-1), .int 0, .int 0])), (e15, .inr (11, [.int 3, .ref e66, .ref e67, .ref e68, .ref e69, .ref e70, .ref e71, .ref e72, .ref e73, .int 0, .int 1, .int 1, .int 0, .int 0, .int 0, .int (-1), .int 0, .int 0])), (e16, .inr (11, [.int 4, .ref e82, .ref e83, .ref e84, .ref e85, .ref e86, .ref e87, .ref e88, .ref e89, .int 0, .int 1, .int 1, .int 0, .int 0, .int 0, .int (-1), .int 0, .int 0])), (e17, .inr (11, [.int 5, .ref e98, .ref e99, .ref e100, .ref e101, .ref e102, .ref e103, .ref e104, .ref e105, .int 0, .int 1, .int 1, .int 0, .int 0, .int 0, .int (-1), .int 0, .int 0])), (e4, .inr (2, [.ref e168, .ref e169, .ref e170, .ref e171, .ref e172, .int 0, .int 0, .int 0, .int (-1), .int 0, .int 0, .int 0]))]) (w1 := []) hP hD [8, 9, 10, 11, 12, 13, 14, 15, 16, 17] [0, 1, 2, 3, 4, 5, 6, 7, 18] rfl rfl (by decide) (by decide) hk1 hFc hP1 hD1
        have hK := (hK.sub (tys' := [(e11, .object R_SSession)]) [0] rfl).app hK1
        generalize H1 = H at hP hS ⊢
        have hP : va_P (dC, dI) classes [(h0, .inr (12, [.ref e1, .ref e2, .ref e3, .ref e4, .ref e5, .ref e6, .ref e7, .ref e8, .ref e9, .int 0, .int 0, .int 1])), (e2, .inl (e11, 6, .inr (.inr (.inr (.inr (va_up (va_up (va_up (va_up (va_up (va_up (fun _ => none) 0 (some e12)) 1 (some e13)) 2 (some e14)) 3 (some e15)) 4 (some e16)) 5 (some e17))))))), (e12, .inr (11, [.int 0, .ref e18, .ref e19, .ref e20, .ref e21, .ref e22, .ref e23, .ref e24, .ref e25, .int 0, .int 1, .int 1, .int 0, .int 0, .int 0, .int (-1), .int 0, .int 0])), (e13, .inr (11, [.int 1, .ref e34, .ref e35, .ref e36, .ref e37, .ref e38, .ref e39, .ref e40, .ref e41, .int 0, .int 1, .int 1, .int 0, .int 0, .int 0, .int (-1), .int 0, .int 0])), (e14, .inr (11, [.int 2, .ref e50, .ref e51, .ref e52, .ref e53, .ref e54, .ref e55, .ref e56, .ref e57, .int 0, .int 1, .int 1, .int 0, .int 0, .int 0, .int (-1), .int 0, .int 0])), (e15, .inr (11, [.int 3, .ref e66, .ref e67, .ref e68, .ref e69, .ref e70, .ref e71, .ref e72, .ref e73, .int 0, .int 1, .int 1, .int 0, .int 0, .int 0, .int (-1), .int 0, .int 0])), (e16, .inr (11, [.int 4, .ref e82, .ref e83, .ref e84, .ref e85, .ref e86, .ref e87, .ref e88, .ref e89, .int 0, .int 1, .int 1, .int 0, .int 0, .int 0, .int (-1), .int 0, .int 0])), (e17, .inr (11, [.int 5, .ref e98, .ref e99, .ref e100, .ref e101, .ref e102, .ref e103, .ref e104, .ref e105, .int 0, .int 1, .int 1, .int 0, .int 0, .int 0, .int (-1), .int 0, .int 0])), (e4, .inr (2, [.ref e168, .ref e169, .ref e170, .ref e171, .ref e172, .int 0, .int 0, .int 0, .int (-1), .int 0, .int 0, .int 0]))] H := hP
        have hD : va_D A [(h0, .inr (12, [.ref e1, .ref e2, .ref e3, .ref e4, .ref e5, .ref e6, .ref e7, .ref e8, .ref e9, .int 0, .int 0, .int 1])), (e2, .inl (e11, 6, .inr (.inr (.inr (.inr (va_up (va_up (va_up (va_up (va_up (va_up (fun _ => none) 0 (some e12)) 1 (some e13)) 2 (some e14)) 3 (some e15)) 4 (some e16)) 5 (some e17))))))), (e12, .inr (11, [.int 0, .ref e18, .ref e19, .ref e20, .ref e21, .ref e22, .ref e23, .ref e24, .ref e25, .int 0, .int 1, .int 1, .int 0, .int 0, .int 0, .int (-1), .int 0, .int 0])), (e13, .inr (11, [.int 1, .ref e34, .ref e35, .ref e36, .ref e37, .ref e38, .ref e39, .ref e40, .ref e41, .int 0, .int 1, .int 1, .int 0, .int 0, .int 0, .int (-1), .int 0, .int 0])), (e14, .inr (11, [.int 2, .ref e50, .ref e51, .ref e52, .ref e53, .ref e54, .ref e55, .ref e56, .ref e57, .int 0, .int 1, .int 1, .int 0, .int 0, .int 0, .int (-1), .int 0, .int 0])), (e15, .inr (11, [.int 3, .ref e66, .ref e67, .ref e68, .ref e69, .ref e70, .ref e71, .ref e72, .ref e73, .int 0, .int 1, .int 1, .int 0, .int 0, .int 0, .int (-1), .int 0, .int 0])), (e16, .inr (11, [.int 4, .ref e82, .ref e83, .ref e84, .ref e85, .ref e86, .ref e87, .ref e88, .ref e89, .int 0, .int 1, .int 1, .int 0, .int 0, .int 0, .int (-1), .int 0, .int 0])), (e17, .inr (11, [.int 5, .ref e98, .ref e99, .ref e100, .ref e101, .ref e102, .ref e103, .ref e104, .ref e105, .int 0, .int 1, .int 1, .int 0, .int 0, .int 0, .int (-1), .int 0, .int 0])), (e4, .inr (2, [.ref e168, .ref e169, .ref e170, .ref e171, .ref e172, .int 0, .int 0, .int 0, .int (-1), .int 0, .int 0, .int 0]))] := hD
        have hK : va_K (dC, dI) classes [(e11, .object R_SSession)] s := hK
        refine W.widen (k := 0) (n := 0) (Nat.le_of_ble_eq_true rfl) (Nat.le_of_ble_eq_true rfl) ?_
        refine W.widen (k := 0) (n := 0) (Nat.le_of_ble_eq_true rfl) (Nat.le_of_ble_eq_true rfl) ?_
        exact W.iret (v := 0) hx hb hr (fun t ht hW => ⟨⟨0, (), rfl, (by decide), va_P.none, va_K.moved hW.alike (hK.sub (tys' := []) [] rfl), va_D.none⟩, hS.F ht⟩) hS.2.2 d_Server_count_117
      · skip
        refine lv_iload_n hx hb d_Server_count_12 rfl (lv_at hl 1 rfl) ?_
        refine lv_bipush (v := 7) hx hb d_Server_count_13 (by decide) ?_
        refine lv_icmp_ne (tgt := 23) hx hb d_Server_count_15 (by decide) (fun c_3 => ?_) (fun c_3 => absurd c_3 (by decide))
        refine lv_aload_n hx hb d_Server_count_23 rfl (lv_at hl 0 rfl) ?_
        refine va_get (D := (dC, dI)) (ci := 12) (v := .int 1) (C := R_Server) (T := F_Server) (N := 12) hx hb hts (i_Server _) hown hK hP 0 rfl rfl 11 (by decide) (hts _ (List.mem_cons_of_mem _ q_873)) (fun _ h9 => h9) rfl d_Server_count_24 ?_
        refine lv_if_ne (tgt := 32) hx hb d_Server_count_27 (by decide) (fun c_4 => ?_) (fun c_4 => absurd c_4 (by decide))
        refine lv_iload_n hx hb d_Server_count_32 rfl (lv_at hl 1 rfl) ?_
        refine lv_tableIn (tgt := 118) hx hb d_Server_count_33 (by decide) (by decide) rfl (by decide) ?_
        refine lv_aload_n hx hb d_Server_count_118 rfl (lv_at hl 0 rfl) ?_
        refine va_get (D := (dC, dI)) (ci := 12) (v := .ref e3) (C := R_Server) (T := F_Server) (N := 12) hx hb hts (i_Server _) hown hK hP 0 rfl rfl 2 (by decide) (hts _ (List.mem_cons_of_mem _ q_864)) (fun _ h9 => h9) rfl d_Server_count_119 ?_
        refine va_get (D := (dC, dI)) (ci := 1) (v := .int 0) (C := R_SStore) (T := F_SStore) (N := 17) hx hb hts (i_SStore _) hown hK hP 8 rfl rfl 13 (by decide) (hts _ (List.mem_cons_of_mem _ q_137)) (fun _ h9 => h9) rfl d_Server_count_122 ?_
        refine W.widen (k := 0) (n := 0) (Nat.le_of_ble_eq_true rfl) (Nat.le_of_ble_eq_true rfl) ?_
        exact W.iret (v := 0) hx hb hr (fun t ht hW => ⟨⟨0, (), rfl, (by decide), va_P.none, va_K.moved hW.alike (hK.sub (tys' := []) [] rfl), va_D.none⟩, hS.F ht⟩) hS.2.2 d_Server_count_125
      · skip
        refine lv_iload_n hx hb d_Server_count_12 rfl (lv_at hl 1 rfl) ?_
        refine lv_bipush (v := 7) hx hb d_Server_count_13 (by decide) ?_
        refine lv_icmp_ne (tgt := 23) hx hb d_Server_count_15 (by decide) (fun c_3 => absurd c_3 (by decide)) (fun c_3 => ?_)
        refine lv_aload_n hx hb d_Server_count_18 rfl (lv_at hl 0 rfl) ?_
        refine va_get (D := (dC, dI)) (ci := 12) (v := .int 0) (C := R_Server) (T := F_Server) (N := 12) hx hb hts (i_Server _) hown hK hP 0 rfl rfl 9 (by decide) (hts _ (List.mem_cons_of_mem _ q_871)) (fun _ h9 => h9) rfl d_Server_count_19 ?_
        refine W.widen (k := 0) (n := 0) (Nat.le_of_ble_eq_true rfl) (Nat.le_of_ble_eq_true rfl) ?_
        exact W.iret (v := 0) hx hb hr (fun t ht hW => ⟨⟨0, (), rfl, (by decide), va_P.none, va_K.moved hW.alike (hK.sub (tys' := []) [] rfl), va_D.none⟩, hS.F ht⟩) hS.2.2 d_Server_count_22
      · skip
        refine lv_iload_n hx hb d_Server_count_12 rfl (lv_at hl 1 rfl) ?_
        refine lv_bipush (v := 7) hx hb d_Server_count_13 (by decide) ?_
        refine lv_icmp_ne (tgt := 23) hx hb d_Server_count_15 (by decide) (fun c_3 => ?_) (fun c_3 => absurd c_3 (by decide))
        refine lv_aload_n hx hb d_Server_count_23 rfl (lv_at hl 0 rfl) ?_
        refine va_get (D := (dC, dI)) (ci := 12) (v := .int 1) (C := R_Server) (T := F_Server) (N := 12) hx hb hts (i_Server _) hown hK hP 0 rfl rfl 11 (by decide) (hts _ (List.mem_cons_of_mem _ q_873)) (fun _ h9 => h9) rfl d_Server_count_24 ?_
        refine lv_if_ne (tgt := 32) hx hb d_Server_count_27 (by decide) (fun c_4 => ?_) (fun c_4 => absurd c_4 (by decide))
        refine lv_iload_n hx hb d_Server_count_32 rfl (lv_at hl 1 rfl) ?_
        refine lv_tableOut (tgt := 126) hx hb d_Server_count_33 (by decide) (by decide) ?_
        refine lv_aload_n hx hb d_Server_count_126 rfl (lv_at hl 0 rfl) ?_
        have hPc := hP.sub (ws' := [(h0, .inr (12, [.ref e1, .ref e2, .ref e3, .ref e4, .ref e5, .ref e6, .ref e7, .ref e8, .ref e9, .int 0, .int 0, .int 1])), (e2, .inl (e11, 6, .inr (.inr (.inr (.inr (va_up (va_up (va_up (va_up (va_up (va_up (fun _ => none) 0 (some e12)) 1 (some e13)) 2 (some e14)) 3 (some e15)) 4 (some e16)) 5 (some e17))))))), (e12, .inr (11, [.int 0, .ref e18, .ref e19, .ref e20, .ref e21, .ref e22, .ref e23, .ref e24, .ref e25, .int 0, .int 1, .int 1, .int 0, .int 0, .int 0, .int (-1), .int 0, .int 0])), (e13, .inr (11, [.int 1, .ref e34, .ref e35, .ref e36, .ref e37, .ref e38, .ref e39, .ref e40, .ref e41, .int 0, .int 1, .int 1, .int 0, .int 0, .int 0, .int (-1), .int 0, .int 0])), (e14, .inr (11, [.int 2, .ref e50, .ref e51, .ref e52, .ref e53, .ref e54, .ref e55, .ref e56, .ref e57, .int 0, .int 1, .int 1, .int 0, .int 0, .int 0, .int (-1), .int 0, .int 0])), (e15, .inr (11, [.int 3, .ref e66, .ref e67, .ref e68, .ref e69, .ref e70, .ref e71, .ref e72, .ref e73, .int 0, .int 1, .int 1, .int 0, .int 0, .int 0, .int (-1), .int 0, .int 0])), (e16, .inr (11, [.int 4, .ref e82, .ref e83, .ref e84, .ref e85, .ref e86, .ref e87, .ref e88, .ref e89, .int 0, .int 1, .int 1, .int 0, .int 0, .int 0, .int (-1), .int 0, .int 0])), (e17, .inr (11, [.int 5, .ref e98, .ref e99, .ref e100, .ref e101, .ref e102, .ref e103, .ref e104, .ref e105, .int 0, .int 1, .int 1, .int 0, .int 0, .int 0, .int (-1), .int 0, .int 0]))]) [0, 1, 2, 3, 4, 5, 6, 7] rfl
        have hDc := hD.sub (ws' := [(h0, .inr (12, [.ref e1, .ref e2, .ref e3, .ref e4, .ref e5, .ref e6, .ref e7, .ref e8, .ref e9, .int 0, .int 0, .int 1])), (e2, .inl (e11, 6, .inr (.inr (.inr (.inr (va_up (va_up (va_up (va_up (va_up (va_up (fun _ => none) 0 (some e12)) 1 (some e13)) 2 (some e14)) 3 (some e15)) 4 (some e16)) 5 (some e17))))))), (e12, .inr (11, [.int 0, .ref e18, .ref e19, .ref e20, .ref e21, .ref e22, .ref e23, .ref e24, .ref e25, .int 0, .int 1, .int 1, .int 0, .int 0, .int 0, .int (-1), .int 0, .int 0])), (e13, .inr (11, [.int 1, .ref e34, .ref e35, .ref e36, .ref e37, .ref e38, .ref e39, .ref e40, .ref e41, .int 0, .int 1, .int 1, .int 0, .int 0, .int 0, .int (-1), .int 0, .int 0])), (e14, .inr (11, [.int 2, .ref e50, .ref e51, .ref e52, .ref e53, .ref e54, .ref e55, .ref e56, .ref e57, .int 0, .int 1, .int 1, .int 0, .int 0, .int 0, .int (-1), .int 0, .int 0])), (e15, .inr (11, [.int 3, .ref e66, .ref e67, .ref e68, .ref e69, .ref e70, .ref e71, .ref e72, .ref e73, .int 0, .int 1, .int 1, .int 0, .int 0, .int 0, .int (-1), .int 0, .int 0])), (e16, .inr (11, [.int 4, .ref e82, .ref e83, .ref e84, .ref e85, .ref e86, .ref e87, .ref e88, .ref e89, .int 0, .int 1, .int 1, .int 0, .int 0, .int 0, .int (-1), .int 0, .int 0])), (e17, .inr (11, [.int 5, .ref e98, .ref e99, .ref e100, .ref e101, .ref e102, .ref e103, .ref e104, .ref e105, .int 0, .int 1, .int 1, .int 0, .int 0, .int 0, .int (-1), .int 0, .int 0]))]) [0, 1, 2, 3, 4, 5, 6, 7] (by decide) rfl
        have hKc := hK.sub (tys' := [(e11, .object R_SSession)]) [0] rfl
        have hFc := va_free (wc := [(h0, .inr (12, [.ref e1, .ref e2, .ref e3, .ref e4, .ref e5, .ref e6, .ref e7, .ref e8, .ref e9, .int 0, .int 0, .int 1])), (e2, .inl (e11, 6, .inr (.inr (.inr (.inr (va_up (va_up (va_up (va_up (va_up (va_up (fun _ => none) 0 (some e12)) 1 (some e13)) 2 (some e14)) 3 (some e15)) 4 (some e16)) 5 (some e17))))))), (e12, .inr (11, [.int 0, .ref e18, .ref e19, .ref e20, .ref e21, .ref e22, .ref e23, .ref e24, .ref e25, .int 0, .int 1, .int 1, .int 0, .int 0, .int 0, .int (-1), .int 0, .int 0])), (e13, .inr (11, [.int 1, .ref e34, .ref e35, .ref e36, .ref e37, .ref e38, .ref e39, .ref e40, .ref e41, .int 0, .int 1, .int 1, .int 0, .int 0, .int 0, .int (-1), .int 0, .int 0])), (e14, .inr (11, [.int 2, .ref e50, .ref e51, .ref e52, .ref e53, .ref e54, .ref e55, .ref e56, .ref e57, .int 0, .int 1, .int 1, .int 0, .int 0, .int 0, .int (-1), .int 0, .int 0])), (e15, .inr (11, [.int 3, .ref e66, .ref e67, .ref e68, .ref e69, .ref e70, .ref e71, .ref e72, .ref e73, .int 0, .int 1, .int 1, .int 0, .int 0, .int 0, .int (-1), .int 0, .int 0])), (e16, .inr (11, [.int 4, .ref e82, .ref e83, .ref e84, .ref e85, .ref e86, .ref e87, .ref e88, .ref e89, .int 0, .int 1, .int 1, .int 0, .int 0, .int 0, .int (-1), .int 0, .int 0])), (e17, .inr (11, [.int 5, .ref e98, .ref e99, .ref e100, .ref e101, .ref e102, .ref e103, .ref e104, .ref e105, .int 0, .int 1, .int 1, .int 0, .int 0, .int 0, .int (-1), .int 0, .int 0]))]) hD hS hA [0, 1, 2, 3, 4, 5, 6, 7] rfl
        refine va_calli (va_runV (As := []) (rest := []) ⟨hx, hb, hml, hown, hts⟩ (c_Server_waiting l dC dI H.size h0 e1 e2 e3 e4 e5 e6 e7 e8 e9 e11 e12 e13 e14 e15 e16 e17 e18 e19 e20 e21 e22 e23 e24 e25 e34 e35 e36 e37 e38 e39 e40 e41 e50 e51 e52 e53 e54 e55 e56 e57 e66 e67 e68 e69 e70 e71 e72 e73 e82 e83 e84 e85 e86 e87 e88 e89 e98 e99 e100 e101 e102 e103 e104 e105) (cwV 0 hts (gG_goodV q_1969 q_1971 (sel_Server_waiting) q_1 q_1972) rfl rfl rfl (by decide +kernel) ⟨Nat.le_of_ble_eq_true rfl, Nat.le_of_ble_eq_true rfl⟩) ⟨fun a U g mk q => by obtain ⟨q0, q1, qP, qK, qD, qN⟩ := q; exact ⟨q0, q1, qP, va_K.moved (u := U) (U := U.calling g mk a) (Vm.Alike.refl U.vm) qK, qD, bx_N.same rfl qN⟩, va_recv hKc hPc (ci := 12) (q0 := 0) rfl rfl, fun U hU hW => ⟨rfl, by rw [hU], by rw [hU]; exact hPc, va_K.moved hW.alike hKc, hDc.weaken (fun _ _ _ _ => trivial), bx_N.warm hW hN⟩⟩ rfl rfl hl.1 rfl (lv_room (Nat.le_of_ble_eq_true rfl)) d_Server_count_127 ⟨Nat.le_of_ble_eq_true rfl, Nat.le_of_ble_eq_true rfl⟩) hS (fun q _ h => hFc q h) hFc (fun r5 u t H1 locs ht hvm hw hB hz1 hk1 hS => ?_)
        subst hw
        obtain ⟨hP1, hK1, hD1⟩ := hB
        rw [ht] at hP1
        have hK1 := va_K.moved hvm.symm hK1
        obtain ⟨hP, hD⟩ := va_join (wr := [(e3, .inr (1, [.ref e114, .ref e115, .ref e116, .ref e117, .ref e118, .ref e119, .ref e120, .ref e121, .ref e122, .ref e123, .ref e124, .ref e125, .ref e126, .int 0, .int 0, .int 0, .int 0])), (e114, .inl (e127, 8, .inr (.inr (.inr (.inr (va_up (va_up (va_up (va_up (va_up (va_up (va_up (va_up (fun _ => none) 0 (some e128)) 1 (some e129)) 2 (some e130)) 3 (some e131)) 4 (some e132)) 5 (some e133)) 6 (some e134)) 7 (some e135))))))), (e128, .inr (0, [.ref e136, .ref e137, .ref e138, .ref e139, .int 0, .int 0, .int 0, .int 0])), (e129, .inr (0, [.ref e140, .ref e141, .ref e142, .ref e143, .int 0, .int 0, .int 0, .int 0])), (e130, .inr (0, [.ref e144, .ref e145, .ref e146, .ref e147, .int 0, .int 0, .int 0, .int 0])), (e131, .inr (0, [.ref e148, .ref e149, .ref e150, .ref e151, .int 0, .int 0, .int 0, .int 0])), (e132, .inr (0, [.ref e152, .ref e153, .ref e154, .ref e155, .int 0, .int 0, .int 0, .int 0])), (e133, .inr (0, [.ref e156, .ref e157, .ref e158, .ref e159, .int 0, .int 0, .int 0, .int 0])), (e134, .inr (0, [.ref e160, .ref e161, .ref e162, .ref e163, .int 0, .int 0, .int 0, .int 0])), (e135, .inr (0, [.ref e164, .ref e165, .ref e166, .ref e167, .int 0, .int 0, .int 0, .int 0])), (e4, .inr (2, [.ref e168, .ref e169, .ref e170, .ref e171, .ref e172, .int 0, .int 0, .int 0, .int (-1), .int 0, .int 0, .int 0]))]) (w1 := []) hP hD [0, 1, 2, 3, 4, 5, 6, 7] [8, 9, 10, 11, 12, 13, 14, 15, 16, 17, 18] rfl rfl (by decide) (by decide) hk1 hFc hP1 hD1
        have hK := (hK.sub (tys' := [(e127, .object R_STable)]) [1] rfl).app hK1
        generalize H1 = H at hP hS ⊢
        have hP : va_P (dC, dI) classes [(e3, .inr (1, [.ref e114, .ref e115, .ref e116, .ref e117, .ref e118, .ref e119, .ref e120, .ref e121, .ref e122, .ref e123, .ref e124, .ref e125, .ref e126, .int 0, .int 0, .int 0, .int 0])), (e114, .inl (e127, 8, .inr (.inr (.inr (.inr (va_up (va_up (va_up (va_up (va_up (va_up (va_up (va_up (fun _ => none) 0 (some e128)) 1 (some e129)) 2 (some e130)) 3 (some e131)) 4 (some e132)) 5 (some e133)) 6 (some e134)) 7 (some e135))))))), (e128, .inr (0, [.ref e136, .ref e137, .ref e138, .ref e139, .int 0, .int 0, .int 0, .int 0])), (e129, .inr (0, [.ref e140, .ref e141, .ref e142, .ref e143, .int 0, .int 0, .int 0, .int 0])), (e130, .inr (0, [.ref e144, .ref e145, .ref e146, .ref e147, .int 0, .int 0, .int 0, .int 0])), (e131, .inr (0, [.ref e148, .ref e149, .ref e150, .ref e151, .int 0, .int 0, .int 0, .int 0])), (e132, .inr (0, [.ref e152, .ref e153, .ref e154, .ref e155, .int 0, .int 0, .int 0, .int 0])), (e133, .inr (0, [.ref e156, .ref e157, .ref e158, .ref e159, .int 0, .int 0, .int 0, .int 0])), (e134, .inr (0, [.ref e160, .ref e161, .ref e162, .ref e163, .int 0, .int 0, .int 0, .int 0])), (e135, .inr (0, [.ref e164, .ref e165, .ref e166, .ref e167, .int 0, .int 0, .int 0, .int 0])), (e4, .inr (2, [.ref e168, .ref e169, .ref e170, .ref e171, .ref e172, .int 0, .int 0, .int 0, .int (-1), .int 0, .int 0, .int 0]))] H := hP
        have hD : va_D A [(e3, .inr (1, [.ref e114, .ref e115, .ref e116, .ref e117, .ref e118, .ref e119, .ref e120, .ref e121, .ref e122, .ref e123, .ref e124, .ref e125, .ref e126, .int 0, .int 0, .int 0, .int 0])), (e114, .inl (e127, 8, .inr (.inr (.inr (.inr (va_up (va_up (va_up (va_up (va_up (va_up (va_up (va_up (fun _ => none) 0 (some e128)) 1 (some e129)) 2 (some e130)) 3 (some e131)) 4 (some e132)) 5 (some e133)) 6 (some e134)) 7 (some e135))))))), (e128, .inr (0, [.ref e136, .ref e137, .ref e138, .ref e139, .int 0, .int 0, .int 0, .int 0])), (e129, .inr (0, [.ref e140, .ref e141, .ref e142, .ref e143, .int 0, .int 0, .int 0, .int 0])), (e130, .inr (0, [.ref e144, .ref e145, .ref e146, .ref e147, .int 0, .int 0, .int 0, .int 0])), (e131, .inr (0, [.ref e148, .ref e149, .ref e150, .ref e151, .int 0, .int 0, .int 0, .int 0])), (e132, .inr (0, [.ref e152, .ref e153, .ref e154, .ref e155, .int 0, .int 0, .int 0, .int 0])), (e133, .inr (0, [.ref e156, .ref e157, .ref e158, .ref e159, .int 0, .int 0, .int 0, .int 0])), (e134, .inr (0, [.ref e160, .ref e161, .ref e162, .ref e163, .int 0, .int 0, .int 0, .int 0])), (e135, .inr (0, [.ref e164, .ref e165, .ref e166, .ref e167, .int 0, .int 0, .int 0, .int 0])), (e4, .inr (2, [.ref e168, .ref e169, .ref e170, .ref e171, .ref e172, .int 0, .int 0, .int 0, .int (-1), .int 0, .int 0, .int 0]))] := hD
        have hK : va_K (dC, dI) classes [(e127, .object R_STable)] s := hK
        refine W.widen (k := 0) (n := 0) (Nat.le_of_ble_eq_true rfl) (Nat.le_of_ble_eq_true rfl) ?_
        refine W.widen (k := 0) (n := 0) (Nat.le_of_ble_eq_true rfl) (Nat.le_of_ble_eq_true rfl) ?_
        exact W.iret (v := 0) hx hb hr (fun t ht hW => ⟨⟨0, (), rfl, (by decide), va_P.none, va_K.moved hW.alike (hK.sub (tys' := []) [] rfl), va_D.none⟩, hS.F ht⟩) hS.2.2 d_Server_count_130
    · skip
      refine lv_iconst (v := -1) hx hb d_Server_count_10 (by decide) ?_
      refine W.widen (k := 0) (n := 0) (Nat.le_of_ble_eq_true rfl) (Nat.le_of_ble_eq_true rfl) ?_
      exact W.iret (v := (-1)) hx hb hr (fun t ht hW => ⟨⟨(-1), (), rfl, (by simp [bx_cnt, c_1, c_2]), va_P.none, va_K.moved hW.alike (hK.sub (tys' := []) [] rfl), va_D.none⟩, hS.F ht⟩) hS.2.2 d_Server_count_11
set_option maxHeartbeats 4000000 in
set_option maxRecDepth 100000 in
theorem c_Server_tapeInt_0 (l : Launch) (dC : Nat → ClassId) (dI : Nat → Nat → Nat) (sz : Nat) (h0 : Nat) (e1 : Nat) (e2 : Nat) (e3 : Nat) (e4 : Nat) (e5 : Nat) (e6 : Nat) (e7 : Nat) (e8 : Nat) (e9 : Nat) (e10 : ClassId) (fT : Nat → Int32) (z1 : Int32) : Met l y_Server_tapeInt w_Server_tapeInt ({ frames := 0, cells := 0, slots := 0, locals := 0 }) (va_Pc [.ref h0, .int z1] (fun U => U.heap.size = sz ∧ va_P (dC, dI) classes [(h0, .inr (12, [.ref e1, .ref e2, .ref e3, .ref e4, .ref e5, .ref e6, .ref e7, .ref e8, .ref e9, .int 0, .int 0, .int 1])), (e1, .inl (e10, 2000, .inl fT))] U.heap ∧ va_K (dC, dI) classes [(e10, .byte)] U ∧ va_D (fun _ => True) [(h0, .inr (12, [.ref e1, .ref e2, .ref e3, .ref e4, .ref e5, .ref e6, .ref e7, .ref e8, .ref e9, .int 0, .int 0, .int 1])), (e1, .inl (e10, 2000, .inl fT))] ∧ bx_N U)) (va_Qv (fun _ : Unit => True) (fun (_ : Unit) t => ∃ e_1 : Nat → Int32, va_P (dC, dI) classes [(h0, .inr (12, [.ref e1, .ref e2, .ref e3, .ref e4, .ref e5, .ref e6, .ref e7, .ref e8, .ref e9, .int 4, .int 0, .int 1])), (e1, .inl (e10, 2000, .inl e_1))] t.heap ∧ va_K (dC, dI) classes [(e10, .byte)] t ∧ va_D (va_A [(h0, .inr (12, [.ref e1, .ref e2, .ref e3, .ref e4, .ref e5, .ref e6, .ref e7, .ref e8, .ref e9, .int 0, .int 0, .int 1])), (e1, .inl (e10, 2000, .inl fT))] sz) [(h0, .inr (12, [.ref e1, .ref e2, .ref e3, .ref e4, .ref e5, .ref e6, .ref e7, .ref e8, .ref e9, .int 4, .int 0, .int 1])), (e1, .inl (e10, 2000, .inl e_1))]) (va_A [(h0, .inr (12, [.ref e1, .ref e2, .ref e3, .ref e4, .ref e5, .ref e6, .ref e7, .ref e8, .ref e9, .int 0, .int 0, .int 1])), (e1, .inl (e10, 2000, .inl fT))] sz)) 0 0 (va_A [(h0, .inr (12, [.ref e1, .ref e2, .ref e3, .ref e4, .ref e5, .ref e6, .ref e7, .ref e8, .ref e9, .int 0, .int 0, .int 1])), (e1, .inl (e10, 2000, .inl fT))] sz) := by
  refine Met.ofW (cc := b_Server_tapeInt) (maxL := 3) (ret := none) (by decide) rfl ?_
  intro p e s m args below meth c s₁ B hml hv
  obtain ⟨rfl, hsz, hP, hK, hD0, hN⟩ := hv
  have hx := B.exec
  have hb := B.bytes
  have hr := B.returns
  have hts := atoms_spec (ws := w_Server_tapeInt) B.pre
  have hown : s.vm.findClass R_Server = some m.cls := findClass_of_methodNamed B.named
  have hlocks := B.notSynchronized
  subst hsz
  have hD := hD0.self (sz := s.heap.size)
  generalize hAe : va_A [(h0, .inr (12, [.ref e1, .ref e2, .ref e3, .ref e4, .ref e5, .ref e6, .ref e7, .ref e8, .ref e9, .int 0, .int 0, .int 1])), (e1, .inl (e10, 2000, .inl fT))] s.heap.size = A at hD ⊢
  have hA : ∀ q : Nat, s.heap.size ≤ q → A q := fun q h => by rw [← hAe]; exact Or.inr h
  have hS : va_S A s.heap s.heap [] := va_S.rf
  have hP : va_P (dC, dI) classes [(h0, .inr (12, [.ref e1, .ref e2, .ref e3, .ref e4, .ref e5, .ref e6, .ref e7, .ref e8, .ref e9, .int 0, .int 0, .int 1])), (e1, .inl (e10, 2000, .inl fT))] s.heap := hP
  have hl := lv_entry ([.ref h0, .int z1]) (n := 3) (Nat.le_of_ble_eq_true rfl)
  rw [lg_entry_eq]
  generalize (lg_sl ([.ref h0, .int z1]) ++ List.replicate (3 - (lg_sl ([.ref h0, .int z1])).length) Slot.unset).toArray = ls at hl ⊢
  have hl : lv_has ls 3 [(0, .ref h0), (1, .int z1)] := hl
  obtain ⟨H, hH⟩ : ∃ H : Heap, s.heap = H := ⟨_, rfl⟩
  have hP : va_P (dC, dI) classes [(h0, .inr (12, [.ref e1, .ref e2, .ref e3, .ref e4, .ref e5, .ref e6, .ref e7, .ref e8, .ref e9, .int 0, .int 0, .int 1])), (e1, .inl (e10, 2000, .inl fT))] H := by rw [← hH]; exact hP
  have hS : va_S A s.heap H [] := by rw [← hH]; exact va_S.rf
  refine bx_heap hH ?_
  refine lv_bipush (v := 24) hx hb d_Server_tapeInt_0 (by decide) ?_
  refine lv_istore_n (lv' := [(2, .int 24), (0, .ref h0), (1, .int z1)]) hx hb d_Server_tapeInt_2 rfl hl (by decide) rfl (fun ls hl => ?_)
  refine lv_iload_n hx hb d_Server_tapeInt_3 rfl (lv_at hl 0 rfl) ?_
  refine lv_if_lt (tgt := 36) hx hb d_Server_tapeInt_4 (by decide) (fun c_1 => absurd c_1 (by decide)) (fun c_1 => ?_)
  refine lv_aload_n hx hb d_Server_tapeInt_7 rfl (lv_at hl 1 rfl) ?_
  refine va_get (D := (dC, dI)) (ci := 12) (v := .ref e1) (C := R_Server) (T := F_Server) (N := 12) hx hb hts (i_Server _) hown hK hP 0 rfl rfl 0 (by decide) (hts _ (List.mem_cons_of_mem _ q_862)) (fun _ h9 => h9) rfl d_Server_tapeInt_8 ?_
  refine lv_aload_n hx hb d_Server_tapeInt_11 rfl (lv_at hl 1 rfl) ?_
  refine va_get (D := (dC, dI)) (ci := 12) (v := .int 0) (C := R_Server) (T := F_Server) (N := 12) hx hb hts (i_Server _) hown hK hP 0 rfl rfl 9 (by decide) (hts _ (List.mem_cons_of_mem _ q_871)) (fun _ h9 => h9) rfl d_Server_tapeInt_12 ?_
  refine lv_iload_n hx hb d_Server_tapeInt_15 rfl (lv_at hl 2 rfl) ?_
  refine lv_iload_n hx hb d_Server_tapeInt_16 rfl (lv_at hl 0 rfl) ?_
  refine lv_ishr hx hb d_Server_tapeInt_17 ?_
  refine lv_topi (fun v2 _ => ?_)
  refine lv_i2b hx hb d_Server_tapeInt_18 rfl ?_
  refine lv_topi (fun v3 _ => ?_)
  refine va_bast hx hb hK hP hD hS 1 0 (i := 0) (x := v3) rfl rfl (vp_in_nI (n := 0) (by decide) (by decide)) d_Server_tapeInt_19 (fun H locs hP hD hS => ?_)
  obtain ⟨f4, hP, hD⟩ : ∃ f4 : Nat → Int32, va_P (dC, dI) classes [(h0, .inr (12, [.ref e1, .ref e2, .ref e3, .ref e4, .ref e5, .ref e6, .ref e7, .ref e8, .ref e9, .int 0, .int 0, .int 1])), (e1, .inl (e10, 2000, .inl f4))] H ∧ va_D A [(h0, .inr (12, [.ref e1, .ref e2, .ref e3, .ref e4, .ref e5, .ref e6, .ref e7, .ref e8, .ref e9, .int 0, .int 0, .int 1])), (e1, .inl (e10, 2000, .inl f4))] := ⟨_, hP, hD⟩
  refine lv_aload_n hx hb d_Server_tapeInt_20 rfl (lv_at hl 1 rfl) ?_
  refine lv_dup hx hb d_Server_tapeInt_21 rfl ?_
  refine va_get (D := (dC, dI)) (ci := 12) (v := .int 0) (C := R_Server) (T := F_Server) (N := 12) hx hb hts (i_Server _) hown hK hP 0 rfl rfl 9 (by decide) (hts _ (List.mem_cons_of_mem _ q_871)) (fun _ h9 => h9) rfl d_Server_tapeInt_22 ?_
  refine lv_iconst (v := 1) hx hb d_Server_tapeInt_25 (by decide) ?_
  refine lv_iadd hx hb d_Server_tapeInt_26 ?_
  refine bx_top (y := 1) (by decide) ?_
  refine va_put (D := (dC, dI)) (ci := 12) (v := .int 1) (ty := .int) (C := R_Server) (T := F_Server) (N := 12) hx hb hts (i_Server _) t_Server t_Server_ok n_Server hown hK hP hD hS 0 rfl rfl 9 (by decide) (hts _ (List.mem_cons_of_mem _ q_871)) (fun _ h9 => h9) rfl (by decide +kernel) rfl rfl (Nat.le_of_ble_eq_true rfl) d_Server_tapeInt_27 (fun H locs hP hD hS => ?_)
  have hP : va_P (dC, dI) classes [(h0, .inr (12, [.ref e1, .ref e2, .ref e3, .ref e4, .ref e5, .ref e6, .ref e7, .ref e8, .ref e9, .int 1, .int 0, .int 1])), (e1, .inl (e10, 2000, .inl f4))] H := hP
  have hD : va_D A [(h0, .inr (12, [.ref e1, .ref e2, .ref e3, .ref e4, .ref e5, .ref e6, .ref e7, .ref e8, .ref e9, .int 1, .int 0, .int 1])), (e1, .inl (e10, 2000, .inl f4))] := hD
  refine lv_iinc (v := 16) (lv' := [(2, .int 16), (0, .ref h0), (1, .int z1)]) hx hb d_Server_tapeInt_30 hl (k := 0) rfl (by decide) (by decide) rfl (fun ls hl => ?_)
  refine lv_goto (tgt := 3) hx hb d_Server_tapeInt_33 (by decide) ?_
  refine lv_iload_n hx hb d_Server_tapeInt_3 rfl (lv_at hl 0 rfl) ?_
  refine lv_if_lt (tgt := 36) hx hb d_Server_tapeInt_4 (by decide) (fun c_5 => absurd c_5 (by decide)) (fun c_5 => ?_)
  refine lv_aload_n hx hb d_Server_tapeInt_7 rfl (lv_at hl 1 rfl) ?_
  refine va_get (D := (dC, dI)) (ci := 12) (v := .ref e1) (C := R_Server) (T := F_Server) (N := 12) hx hb hts (i_Server _) hown hK hP 0 rfl rfl 0 (by decide) (hts _ (List.mem_cons_of_mem _ q_862)) (fun _ h9 => h9) rfl d_Server_tapeInt_8 ?_
  refine lv_aload_n hx hb d_Server_tapeInt_11 rfl (lv_at hl 1 rfl) ?_
  refine va_get (D := (dC, dI)) (ci := 12) (v := .int 1) (C := R_Server) (T := F_Server) (N := 12) hx hb hts (i_Server _) hown hK hP 0 rfl rfl 9 (by decide) (hts _ (List.mem_cons_of_mem _ q_871)) (fun _ h9 => h9) rfl d_Server_tapeInt_12 ?_
  refine lv_iload_n hx hb d_Server_tapeInt_15 rfl (lv_at hl 2 rfl) ?_
  refine lv_iload_n hx hb d_Server_tapeInt_16 rfl (lv_at hl 0 rfl) ?_
  refine lv_ishr hx hb d_Server_tapeInt_17 ?_
  refine lv_topi (fun v6 _ => ?_)
  refine lv_i2b hx hb d_Server_tapeInt_18 rfl ?_
  refine lv_topi (fun v7 _ => ?_)
  refine va_bast hx hb hK hP hD hS 1 0 (i := 1) (x := v7) rfl rfl (vp_in_nI (n := 1) (by decide) (by decide)) d_Server_tapeInt_19 (fun H locs hP hD hS => ?_)
  obtain ⟨f8, hP, hD⟩ : ∃ f8 : Nat → Int32, va_P (dC, dI) classes [(h0, .inr (12, [.ref e1, .ref e2, .ref e3, .ref e4, .ref e5, .ref e6, .ref e7, .ref e8, .ref e9, .int 1, .int 0, .int 1])), (e1, .inl (e10, 2000, .inl f8))] H ∧ va_D A [(h0, .inr (12, [.ref e1, .ref e2, .ref e3, .ref e4, .ref e5, .ref e6, .ref e7, .ref e8, .ref e9, .int 1, .int 0, .int 1])), (e1, .inl (e10, 2000, .inl f8))] := ⟨_, hP, hD⟩
  refine lv_aload_n hx hb d_Server_tapeInt_20 rfl (lv_at hl 1 rfl) ?_
  refine lv_dup hx hb d_Server_tapeInt_21 rfl ?_
  refine va_get (D := (dC, dI)) (ci := 12) (v := .int 1) (C := R_Server) (T := F_Server) (N := 12) hx hb hts (i_Server _) hown hK hP 0 rfl rfl 9 (by decide) (hts _ (List.mem_cons_of_mem _ q_871)) (fun _ h9 => h9) rfl d_Server_tapeInt_22 ?_
  refine lv_iconst (v := 1) hx hb d_Server_tapeInt_25 (by decide) ?_
  refine lv_iadd hx hb d_Server_tapeInt_26 ?_
  refine bx_top (y := 2) (by decide) ?_
  refine va_put (D := (dC, dI)) (ci := 12) (v := .int 2) (ty := .int) (C := R_Server) (T := F_Server) (N := 12) hx hb hts (i_Server _) t_Server t_Server_ok n_Server hown hK hP hD hS 0 rfl rfl 9 (by decide) (hts _ (List.mem_cons_of_mem _ q_871)) (fun _ h9 => h9) rfl (by decide +kernel) rfl rfl (Nat.le_of_ble_eq_true rfl) d_Server_tapeInt_27 (fun H locs hP hD hS => ?_)
  have hP : va_P (dC, dI) classes [(h0, .inr (12, [.ref e1, .ref e2, .ref e3, .ref e4, .ref e5, .ref e6, .ref e7, .ref e8, .ref e9, .int 2, .int 0, .int 1])), (e1, .inl (e10, 2000, .inl f8))] H := hP
  have hD : va_D A [(h0, .inr (12, [.ref e1, .ref e2, .ref e3, .ref e4, .ref e5, .ref e6, .ref e7, .ref e8, .ref e9, .int 2, .int 0, .int 1])), (e1, .inl (e10, 2000, .inl f8))] := hD
  refine lv_iinc (v := 8) (lv' := [(2, .int 8), (0, .ref h0), (1, .int z1)]) hx hb d_Server_tapeInt_30 hl (k := 0) rfl (by decide) (by decide) rfl (fun ls hl => ?_)
  refine lv_goto (tgt := 3) hx hb d_Server_tapeInt_33 (by decide) ?_
  refine lv_iload_n hx hb d_Server_tapeInt_3 rfl (lv_at hl 0 rfl) ?_
  refine lv_if_lt (tgt := 36) hx hb d_Server_tapeInt_4 (by decide) (fun c_9 => absurd c_9 (by decide)) (fun c_9 => ?_)
  refine lv_aload_n hx hb d_Server_tapeInt_7 rfl (lv_at hl 1 rfl) ?_
  refine va_get (D := (dC, dI)) (ci := 12) (v := .ref e1) (C := R_Server) (T := F_Server) (N := 12) hx hb hts (i_Server _) hown hK hP 0 rfl rfl 0 (by decide) (hts _ (List.mem_cons_of_mem _ q_862)) (fun _ h9 => h9) rfl d_Server_tapeInt_8 ?_
  refine lv_aload_n hx hb d_Server_tapeInt_11 rfl (lv_at hl 1 rfl) ?_
  refine va_get (D := (dC, dI)) (ci := 12) (v := .int 2) (C := R_Server) (T := F_Server) (N := 12) hx hb hts (i_Server _) hown hK hP 0 rfl rfl 9 (by decide) (hts _ (List.mem_cons_of_mem _ q_871)) (fun _ h9 => h9) rfl d_Server_tapeInt_12 ?_
  refine lv_iload_n hx hb d_Server_tapeInt_15 rfl (lv_at hl 2 rfl) ?_
  refine lv_iload_n hx hb d_Server_tapeInt_16 rfl (lv_at hl 0 rfl) ?_
  refine lv_ishr hx hb d_Server_tapeInt_17 ?_
  refine lv_topi (fun v10 _ => ?_)
  refine lv_i2b hx hb d_Server_tapeInt_18 rfl ?_
  refine lv_topi (fun v11 _ => ?_)
  refine va_bast hx hb hK hP hD hS 1 0 (i := 2) (x := v11) rfl rfl (vp_in_nI (n := 2) (by decide) (by decide)) d_Server_tapeInt_19 (fun H locs hP hD hS => ?_)
  obtain ⟨f12, hP, hD⟩ : ∃ f12 : Nat → Int32, va_P (dC, dI) classes [(h0, .inr (12, [.ref e1, .ref e2, .ref e3, .ref e4, .ref e5, .ref e6, .ref e7, .ref e8, .ref e9, .int 2, .int 0, .int 1])), (e1, .inl (e10, 2000, .inl f12))] H ∧ va_D A [(h0, .inr (12, [.ref e1, .ref e2, .ref e3, .ref e4, .ref e5, .ref e6, .ref e7, .ref e8, .ref e9, .int 2, .int 0, .int 1])), (e1, .inl (e10, 2000, .inl f12))] := ⟨_, hP, hD⟩
  refine lv_aload_n hx hb d_Server_tapeInt_20 rfl (lv_at hl 1 rfl) ?_
  refine lv_dup hx hb d_Server_tapeInt_21 rfl ?_
  refine va_get (D := (dC, dI)) (ci := 12) (v := .int 2) (C := R_Server) (T := F_Server) (N := 12) hx hb hts (i_Server _) hown hK hP 0 rfl rfl 9 (by decide) (hts _ (List.mem_cons_of_mem _ q_871)) (fun _ h9 => h9) rfl d_Server_tapeInt_22 ?_
  refine lv_iconst (v := 1) hx hb d_Server_tapeInt_25 (by decide) ?_
  refine lv_iadd hx hb d_Server_tapeInt_26 ?_
  refine bx_top (y := 3) (by decide) ?_
  refine va_put (D := (dC, dI)) (ci := 12) (v := .int 3) (ty := .int) (C := R_Server) (T := F_Server) (N := 12) hx hb hts (i_Server _) t_Server t_Server_ok n_Server hown hK hP hD hS 0 rfl rfl 9 (by decide) (hts _ (List.mem_cons_of_mem _ q_871)) (fun _ h9 => h9) rfl (by decide +kernel) rfl rfl (Nat.le_of_ble_eq_true rfl) d_Server_tapeInt_27 (fun H locs hP hD hS => ?_)
  have hP : va_P (dC, dI) classes [(h0, .inr (12, [.ref e1, .ref e2, .ref e3, .ref e4, .ref e5, .ref e6, .ref e7, .ref e8, .ref e9, .int 3, .int 0, .int 1])), (e1, .inl (e10, 2000, .inl f12))] H := hP
  have hD : va_D A [(h0, .inr (12, [.ref e1, .ref e2, .ref e3, .ref e4, .ref e5, .ref e6, .ref e7, .ref e8, .ref e9, .int 3, .int 0, .int 1])), (e1, .inl (e10, 2000, .inl f12))] := hD
  refine lv_iinc (v := 0) (lv' := [(2, .int 0), (0, .ref h0), (1, .int z1)]) hx hb d_Server_tapeInt_30 hl (k := 0) rfl (by decide) (by decide) rfl (fun ls hl => ?_)
  refine lv_goto (tgt := 3) hx hb d_Server_tapeInt_33 (by decide) ?_
  refine lv_iload_n hx hb d_Server_tapeInt_3 rfl (lv_at hl 0 rfl) ?_
  refine lv_if_lt (tgt := 36) hx hb d_Server_tapeInt_4 (by decide) (fun c_13 => absurd c_13 (by decide)) (fun c_13 => ?_)
  refine lv_aload_n hx hb d_Server_tapeInt_7 rfl (lv_at hl 1 rfl) ?_
  refine va_get (D := (dC, dI)) (ci := 12) (v := .ref e1) (C := R_Server) (T := F_Server) (N := 12) hx hb hts (i_Server _) hown hK hP 0 rfl rfl 0 (by decide) (hts _ (List.mem_cons_of_mem _ q_862)) (fun _ h9 => h9) rfl d_Server_tapeInt_8 ?_
  refine lv_aload_n hx hb d_Server_tapeInt_11 rfl (lv_at hl 1 rfl) ?_
  refine va_get (D := (dC, dI)) (ci := 12) (v := .int 3) (C := R_Server) (T := F_Server) (N := 12) hx hb hts (i_Server _) hown hK hP 0 rfl rfl 9 (by decide) (hts _ (List.mem_cons_of_mem _ q_871)) (fun _ h9 => h9) rfl d_Server_tapeInt_12 ?_
  refine lv_iload_n hx hb d_Server_tapeInt_15 rfl (lv_at hl 2 rfl) ?_
  refine lv_iload_n hx hb d_Server_tapeInt_16 rfl (lv_at hl 0 rfl) ?_
  refine lv_ishr hx hb d_Server_tapeInt_17 ?_
  refine lv_topi (fun v14 _ => ?_)
  refine lv_i2b hx hb d_Server_tapeInt_18 rfl ?_
  refine lv_topi (fun v15 _ => ?_)
  refine va_bast hx hb hK hP hD hS 1 0 (i := 3) (x := v15) rfl rfl (vp_in_nI (n := 3) (by decide) (by decide)) d_Server_tapeInt_19 (fun H locs hP hD hS => ?_)
  obtain ⟨f16, hP, hD⟩ : ∃ f16 : Nat → Int32, va_P (dC, dI) classes [(h0, .inr (12, [.ref e1, .ref e2, .ref e3, .ref e4, .ref e5, .ref e6, .ref e7, .ref e8, .ref e9, .int 3, .int 0, .int 1])), (e1, .inl (e10, 2000, .inl f16))] H ∧ va_D A [(h0, .inr (12, [.ref e1, .ref e2, .ref e3, .ref e4, .ref e5, .ref e6, .ref e7, .ref e8, .ref e9, .int 3, .int 0, .int 1])), (e1, .inl (e10, 2000, .inl f16))] := ⟨_, hP, hD⟩
  refine lv_aload_n hx hb d_Server_tapeInt_20 rfl (lv_at hl 1 rfl) ?_
  refine lv_dup hx hb d_Server_tapeInt_21 rfl ?_
  refine va_get (D := (dC, dI)) (ci := 12) (v := .int 3) (C := R_Server) (T := F_Server) (N := 12) hx hb hts (i_Server _) hown hK hP 0 rfl rfl 9 (by decide) (hts _ (List.mem_cons_of_mem _ q_871)) (fun _ h9 => h9) rfl d_Server_tapeInt_22 ?_
  refine lv_iconst (v := 1) hx hb d_Server_tapeInt_25 (by decide) ?_
  refine lv_iadd hx hb d_Server_tapeInt_26 ?_
  refine bx_top (y := 4) (by decide) ?_
  refine va_put (D := (dC, dI)) (ci := 12) (v := .int 4) (ty := .int) (C := R_Server) (T := F_Server) (N := 12) hx hb hts (i_Server _) t_Server t_Server_ok n_Server hown hK hP hD hS 0 rfl rfl 9 (by decide) (hts _ (List.mem_cons_of_mem _ q_871)) (fun _ h9 => h9) rfl (by decide +kernel) rfl rfl (Nat.le_of_ble_eq_true rfl) d_Server_tapeInt_27 (fun H locs hP hD hS => ?_)
  have hP : va_P (dC, dI) classes [(h0, .inr (12, [.ref e1, .ref e2, .ref e3, .ref e4, .ref e5, .ref e6, .ref e7, .ref e8, .ref e9, .int 4, .int 0, .int 1])), (e1, .inl (e10, 2000, .inl f16))] H := hP
  have hD : va_D A [(h0, .inr (12, [.ref e1, .ref e2, .ref e3, .ref e4, .ref e5, .ref e6, .ref e7, .ref e8, .ref e9, .int 4, .int 0, .int 1])), (e1, .inl (e10, 2000, .inl f16))] := hD
  refine lv_iinc (v := (-8)) (lv' := [(2, .int (-8)), (0, .ref h0), (1, .int z1)]) hx hb d_Server_tapeInt_30 hl (k := 0) rfl (by decide) (by decide) rfl (fun ls hl => ?_)
  refine lv_goto (tgt := 3) hx hb d_Server_tapeInt_33 (by decide) ?_
  refine lv_iload_n hx hb d_Server_tapeInt_3 rfl (lv_at hl 0 rfl) ?_
  refine lv_if_lt (tgt := 36) hx hb d_Server_tapeInt_4 (by decide) (fun c_17 => ?_) (fun c_17 => absurd (by decide) c_17)
  have hP9 := hP.sub (ws' := [(h0, .inr (12, [.ref e1, .ref e2, .ref e3, .ref e4, .ref e5, .ref e6, .ref e7, .ref e8, .ref e9, .int 4, .int 0, .int 1])), (e1, .inl (e10, 2000, .inl f16))]) [0, 1] rfl
  have hD9 := hD.sub (ws' := [(h0, .inr (12, [.ref e1, .ref e2, .ref e3, .ref e4, .ref e5, .ref e6, .ref e7, .ref e8, .ref e9, .int 4, .int 0, .int 1])), (e1, .inl (e10, 2000, .inl f16))]) [0, 1] (by decide) rfl
  have hK9 := hK.sub (tys' := [(e10, .byte)]) [0] rfl
  refine W.widen (k := 0) (n := 0) (Nat.le_of_ble_eq_true rfl) (Nat.le_of_ble_eq_true rfl) ?_
  exact W.vret hx hb hr (fun t ht hW => ⟨⟨(), rfl, trivial, f16, by rw [ht]; exact hP9, va_K.moved hW.alike hK9, hD9⟩, hS.F ht⟩) hS.2.2 d_Server_tapeInt_36
set_option maxHeartbeats 4000000 in
set_option maxRecDepth 100000 in
theorem c_Server_tapeInt_4 (l : Launch) (dC : Nat → ClassId) (dI : Nat → Nat → Nat) (sz : Nat) (h0 : Nat) (e1 : Nat) (e2 : Nat) (e3 : Nat) (e4 : Nat) (e5 : Nat) (e6 : Nat) (e7 : Nat) (e8 : Nat) (e9 : Nat) (e10 : ClassId) (fT : Nat → Int32) (z1 : Int32) : Met l y_Server_tapeInt w_Server_tapeInt ({ frames := 0, cells := 0, slots := 0, locals := 0 }) (va_Pc [.ref h0, .int z1] (fun U => U.heap.size = sz ∧ va_P (dC, dI) classes [(h0, .inr (12, [.ref e1, .ref e2, .ref e3, .ref e4, .ref e5, .ref e6, .ref e7, .ref e8, .ref e9, .int 4, .int 0, .int 1])), (e1, .inl (e10, 2000, .inl fT))] U.heap ∧ va_K (dC, dI) classes [(e10, .byte)] U ∧ va_D (fun _ => True) [(h0, .inr (12, [.ref e1, .ref e2, .ref e3, .ref e4, .ref e5, .ref e6, .ref e7, .ref e8, .ref e9, .int 4, .int 0, .int 1])), (e1, .inl (e10, 2000, .inl fT))] ∧ bx_N U)) (va_Qv (fun _ : Unit => True) (fun (_ : Unit) t => ∃ e_1 : Nat → Int32, va_P (dC, dI) classes [(h0, .inr (12, [.ref e1, .ref e2, .ref e3, .ref e4, .ref e5, .ref e6, .ref e7, .ref e8, .ref e9, .int 8, .int 0, .int 1])), (e1, .inl (e10, 2000, .inl e_1))] t.heap ∧ va_K (dC, dI) classes [(e10, .byte)] t ∧ va_D (va_A [(h0, .inr (12, [.ref e1, .ref e2, .ref e3, .ref e4, .ref e5, .ref e6, .ref e7, .ref e8, .ref e9, .int 4, .int 0, .int 1])), (e1, .inl (e10, 2000, .inl fT))] sz) [(h0, .inr (12, [.ref e1, .ref e2, .ref e3, .ref e4, .ref e5, .ref e6, .ref e7, .ref e8, .ref e9, .int 8, .int 0, .int 1])), (e1, .inl (e10, 2000, .inl e_1))]) (va_A [(h0, .inr (12, [.ref e1, .ref e2, .ref e3, .ref e4, .ref e5, .ref e6, .ref e7, .ref e8, .ref e9, .int 4, .int 0, .int 1])), (e1, .inl (e10, 2000, .inl fT))] sz)) 0 0 (va_A [(h0, .inr (12, [.ref e1, .ref e2, .ref e3, .ref e4, .ref e5, .ref e6, .ref e7, .ref e8, .ref e9, .int 4, .int 0, .int 1])), (e1, .inl (e10, 2000, .inl fT))] sz) := by
  refine Met.ofW (cc := b_Server_tapeInt) (maxL := 3) (ret := none) (by decide) rfl ?_
  intro p e s m args below meth c s₁ B hml hv
  obtain ⟨rfl, hsz, hP, hK, hD0, hN⟩ := hv
  have hx := B.exec
  have hb := B.bytes
  have hr := B.returns
  have hts := atoms_spec (ws := w_Server_tapeInt) B.pre
  have hown : s.vm.findClass R_Server = some m.cls := findClass_of_methodNamed B.named
  have hlocks := B.notSynchronized
  subst hsz
  have hD := hD0.self (sz := s.heap.size)
  generalize hAe : va_A [(h0, .inr (12, [.ref e1, .ref e2, .ref e3, .ref e4, .ref e5, .ref e6, .ref e7, .ref e8, .ref e9, .int 4, .int 0, .int 1])), (e1, .inl (e10, 2000, .inl fT))] s.heap.size = A at hD ⊢
  have hA : ∀ q : Nat, s.heap.size ≤ q → A q := fun q h => by rw [← hAe]; exact Or.inr h
  have hS : va_S A s.heap s.heap [] := va_S.rf
  have hP : va_P (dC, dI) classes [(h0, .inr (12, [.ref e1, .ref e2, .ref e3, .ref e4, .ref e5, .ref e6, .ref e7, .ref e8, .ref e9, .int 4, .int 0, .int 1])), (e1, .inl (e10, 2000, .inl fT))] s.heap := hP
  have hl := lv_entry ([.ref h0, .int z1]) (n := 3) (Nat.le_of_ble_eq_true rfl)
  rw [lg_entry_eq]
  generalize (lg_sl ([.ref h0, .int z1]) ++ List.replicate (3 - (lg_sl ([.ref h0, .int z1])).length) Slot.unset).toArray = ls at hl ⊢
  have hl : lv_has ls 3 [(0, .ref h0), (1, .int z1)] := hl
  obtain ⟨H, hH⟩ : ∃ H : Heap, s.heap = H := ⟨_, rfl⟩
  have hP : va_P (dC, dI) classes [(h0, .inr (12, [.ref e1, .ref e2, .ref e3, .ref e4, .ref e5, .ref e6, .ref e7, .ref e8, .ref e9, .int 4, .int 0, .int 1])), (e1, .inl (e10, 2000, .inl fT))] H := by rw [← hH]; exact hP
  have hS : va_S A s.heap H [] := by rw [← hH]; exact va_S.rf
  refine bx_heap hH ?_
  refine lv_bipush (v := 24) hx hb d_Server_tapeInt_0 (by decide) ?_
  refine lv_istore_n (lv' := [(2, .int 24), (0, .ref h0), (1, .int z1)]) hx hb d_Server_tapeInt_2 rfl hl (by decide) rfl (fun ls hl => ?_)
  refine lv_iload_n hx hb d_Server_tapeInt_3 rfl (lv_at hl 0 rfl) ?_
  refine lv_if_lt (tgt := 36) hx hb d_Server_tapeInt_4 (by decide) (fun c_1 => absurd c_1 (by decide)) (fun c_1 => ?_)
  refine lv_aload_n hx hb d_Server_tapeInt_7 rfl (lv_at hl 1 rfl) ?_
  refine va_get (D := (dC, dI)) (ci := 12) (v := .ref e1) (C := R_Server) (T := F_Server) (N := 12) hx hb hts (i_Server _) hown hK hP 0 rfl rfl 0 (by decide) (hts _ (List.mem_cons_of_mem _ q_862)) (fun _ h9 => h9) rfl d_Server_tapeInt_8 ?_
  refine lv_aload_n hx hb d_Server_tapeInt_11 rfl (lv_at hl 1 rfl) ?_
  refine va_get (D := (dC, dI)) (ci := 12) (v := .int 4) (C := R_Server) (T := F_Server) (N := 12) hx hb hts (i_Server _) hown hK hP 0 rfl rfl 9 (by decide) (hts _ (List.mem_cons_of_mem _ q_871)) (fun _ h9 => h9) rfl d_Server_tapeInt_12 ?_
  refine lv_iload_n hx hb d_Server_tapeInt_15 rfl (lv_at hl 2 rfl) ?_
  refine lv_iload_n hx hb d_Server_tapeInt_16 rfl (lv_at hl 0 rfl) ?_
  refine lv_ishr hx hb d_Server_tapeInt_17 ?_
  refine lv_topi (fun v2 _ => ?_)
  refine lv_i2b hx hb d_Server_tapeInt_18 rfl ?_
  refine lv_topi (fun v3 _ => ?_)
  refine va_bast hx hb hK hP hD hS 1 0 (i := 4) (x := v3) rfl rfl (vp_in_nI (n := 4) (by decide) (by decide)) d_Server_tapeInt_19 (fun H locs hP hD hS => ?_)
  obtain ⟨f4, hP, hD⟩ : ∃ f4 : Nat → Int32, va_P (dC, dI) classes [(h0, .inr (12, [.ref e1, .ref e2, .ref e3, .ref e4, .ref e5, .ref e6, .ref e7, .ref e8, .ref e9, .int 4, .int 0, .int 1])), (e1, .inl (e10, 2000, .inl f4))] H ∧ va_D A [(h0, .inr (12, [.ref e1, .ref e2, .ref e3, .ref e4, .ref e5, .ref e6, .ref e7, .ref e8, .ref e9, .int 4, .int 0, .int 1])), (e1, .inl (e10, 2000, .inl f4))] := ⟨_, hP, hD⟩
  refine lv_aload_n hx hb d_Server_tapeInt_20 rfl (lv_at hl 1 rfl) ?_
  refine lv_dup hx hb d_Server_tapeInt_21 rfl ?_
  refine va_get (D := (dC, dI)) (ci := 12) (v := .int 4) (C := R_Server) (T := F_Server) (N := 12) hx hb hts (i_Server _) hown hK hP 0 rfl rfl 9 (by decide) (hts _ (List.mem_cons_of_mem _ q_871)) (fun _ h9 => h9) rfl d_Server_tapeInt_22 ?_
  refine lv_iconst (v := 1) hx hb d_Server_tapeInt_25 (by decide) ?_
  refine lv_iadd hx hb d_Server_tapeInt_26 ?_
  refine bx_top (y := 5) (by decide) ?_
  refine va_put (D := (dC, dI)) (ci := 12) (v := .int 5) (ty := .int) (C := R_Server) (T := F_Server) (N := 12) hx hb hts (i_Server _) t_Server t_Server_ok n_Server hown hK hP hD hS 0 rfl rfl 9 (by decide) (hts _ (List.mem_cons_of_mem _ q_871)) (fun _ h9 => h9) rfl (by decide +kernel) rfl rfl (Nat.le_of_ble_eq_true rfl) d_Server_tapeInt_27 (fun H locs hP hD hS => ?_)
  have hP : va_P (dC, dI) classes [(h0, .inr (12, [.ref e1, .ref e2, .ref e3, .ref e4, .ref e5, .ref e6, .ref e7, .ref e8, .ref e9, .int 5, .int 0, .int 1])), (e1, .inl (e10, 2000, .inl f4))] H := hP
  have hD : va_D A [(h0, .inr (12, [.ref e1, .ref e2, .ref e3, .ref e4, .ref e5, .ref e6, .ref e7, .ref e8, .ref e9, .int 5, .int 0, .int 1])), (e1, .inl (e10, 2000, .inl f4))] := hD
  refine lv_iinc (v := 16) (lv' := [(2, .int 16), (0, .ref h0), (1, .int z1)]) hx hb d_Server_tapeInt_30 hl (k := 0) rfl (by decide) (by decide) rfl (fun ls hl => ?_)
  refine lv_goto (tgt := 3) hx hb d_Server_tapeInt_33 (by decide) ?_
  refine lv_iload_n hx hb d_Server_tapeInt_3 rfl (lv_at hl 0 rfl) ?_
  refine lv_if_lt (tgt := 36) hx hb d_Server_tapeInt_4 (by decide) (fun c_5 => absurd c_5 (by decide)) (fun c_5 => ?_)
  refine lv_aload_n hx hb d_Server_tapeInt_7 rfl (lv_at hl 1 rfl) ?_
  refine va_get (D := (dC, dI)) (ci := 12) (v := .ref e1) (C := R_Server) (T := F_Server) (N := 12) hx hb hts (i_Server _) hown hK hP 0 rfl rfl 0 (by decide) (hts _ (List.mem_cons_of_mem _ q_862)) (fun _ h9 => h9) rfl d_Server_tapeInt_8 ?_
  refine lv_aload_n hx hb d_Server_tapeInt_11 rfl (lv_at hl 1 rfl) ?_
  refine va_get (D := (dC, dI)) (ci := 12) (v := .int 5) (C := R_Server) (T := F_Server) (N := 12) hx hb hts (i_Server _) hown hK hP 0 rfl rfl 9 (by decide) (hts _ (List.mem_cons_of_mem _ q_871)) (fun _ h9 => h9) rfl d_Server_tapeInt_12 ?_
  refine lv_iload_n hx hb d_Server_tapeInt_15 rfl (lv_at hl 2 rfl) ?_
  refine lv_iload_n hx hb d_Server_tapeInt_16 rfl (lv_at hl 0 rfl) ?_
  refine lv_ishr hx hb d_Server_tapeInt_17 ?_
  refine lv_topi (fun v6 _ => ?_)
  refine lv_i2b hx hb d_Server_tapeInt_18 rfl ?_
  refine lv_topi (fun v7 _ => ?_)
  refine va_bast hx hb hK hP hD hS 1 0 (i := 5) (x := v7) rfl rfl (vp_in_nI (n := 5) (by decide) (by decide)) d_Server_tapeInt_19 (fun H locs hP hD hS => ?_)
  obtain ⟨f8, hP, hD⟩ : ∃ f8 : Nat → Int32, va_P (dC, dI) classes [(h0, .inr (12, [.ref e1, .ref e2, .ref e3, .ref e4, .ref e5, .ref e6, .ref e7, .ref e8, .ref e9, .int 5, .int 0, .int 1])), (e1, .inl (e10, 2000, .inl f8))] H ∧ va_D A [(h0, .inr (12, [.ref e1, .ref e2, .ref e3, .ref e4, .ref e5, .ref e6, .ref e7, .ref e8, .ref e9, .int 5, .int 0, .int 1])), (e1, .inl (e10, 2000, .inl f8))] := ⟨_, hP, hD⟩
  refine lv_aload_n hx hb d_Server_tapeInt_20 rfl (lv_at hl 1 rfl) ?_
  refine lv_dup hx hb d_Server_tapeInt_21 rfl ?_
  refine va_get (D := (dC, dI)) (ci := 12) (v := .int 5) (C := R_Server) (T := F_Server) (N := 12) hx hb hts (i_Server _) hown hK hP 0 rfl rfl 9 (by decide) (hts _ (List.mem_cons_of_mem _ q_871)) (fun _ h9 => h9) rfl d_Server_tapeInt_22 ?_
  refine lv_iconst (v := 1) hx hb d_Server_tapeInt_25 (by decide) ?_
  refine lv_iadd hx hb d_Server_tapeInt_26 ?_
  refine bx_top (y := 6) (by decide) ?_
  refine va_put (D := (dC, dI)) (ci := 12) (v := .int 6) (ty := .int) (C := R_Server) (T := F_Server) (N := 12) hx hb hts (i_Server _) t_Server t_Server_ok n_Server hown hK hP hD hS 0 rfl rfl 9 (by decide) (hts _ (List.mem_cons_of_mem _ q_871)) (fun _ h9 => h9) rfl (by decide +kernel) rfl rfl (Nat.le_of_ble_eq_true rfl) d_Server_tapeInt_27 (fun H locs hP hD hS => ?_)
  have hP : va_P (dC, dI) classes [(h0, .inr (12, [.ref e1, .ref e2, .ref e3, .ref e4, .ref e5, .ref e6, .ref e7, .ref e8, .ref e9, .int 6, .int 0, .int 1])), (e1, .inl (e10, 2000, .inl f8))] H := hP
  have hD : va_D A [(h0, .inr (12, [.ref e1, .ref e2, .ref e3, .ref e4, .ref e5, .ref e6, .ref e7, .ref e8, .ref e9, .int 6, .int 0, .int 1])), (e1, .inl (e10, 2000, .inl f8))] := hD
  refine lv_iinc (v := 8) (lv' := [(2, .int 8), (0, .ref h0), (1, .int z1)]) hx hb d_Server_tapeInt_30 hl (k := 0) rfl (by decide) (by decide) rfl (fun ls hl => ?_)
  refine lv_goto (tgt := 3) hx hb d_Server_tapeInt_33 (by decide) ?_
  refine lv_iload_n hx hb d_Server_tapeInt_3 rfl (lv_at hl 0 rfl) ?_
  refine lv_if_lt (tgt := 36) hx hb d_Server_tapeInt_4 (by decide) (fun c_9 => absurd c_9 (by decide)) (fun c_9 => ?_)
  refine lv_aload_n hx hb d_Server_tapeInt_7 rfl (lv_at hl 1 rfl) ?_
  refine va_get (D := (dC, dI)) (ci := 12) (v := .ref e1) (C := R_Server) (T := F_Server) (N := 12) hx hb hts (i_Server _) hown hK hP 0 rfl rfl 0 (by decide) (hts _ (List.mem_cons_of_mem _ q_862)) (fun _ h9 => h9) rfl d_Server_tapeInt_8 ?_
  refine lv_aload_n hx hb d_Server_tapeInt_11 rfl (lv_at hl 1 rfl) ?_
  refine va_get (D := (dC, dI)) (ci := 12) (v := .int 6) (C := R_Server) (T := F_Server) (N := 12) hx hb hts (i_Server _) hown hK hP 0 rfl rfl 9 (by decide) (hts _ (List.mem_cons_of_mem _ q_871)) (fun _ h9 => h9) rfl d_Server_tapeInt_12 ?_
  refine lv_iload_n hx hb d_Server_tapeInt_15 rfl (lv_at hl 2 rfl) ?_
  refine lv_iload_n hx hb d_Server_tapeInt_16 rfl (lv_at hl 0 rfl) ?_
  refine lv_ishr hx hb d_Server_tapeInt_17 ?_
  refine lv_topi (fun v10 _ => ?_)
  refine lv_i2b hx hb d_Server_tapeInt_18 rfl ?_
  refine lv_topi (fun v11 _ => ?_)
  refine va_bast hx hb hK hP hD hS 1 0 (i := 6) (x := v11) rfl rfl (vp_in_nI (n := 6) (by decide) (by decide)) d_Server_tapeInt_19 (fun H locs hP hD hS => ?_)
  obtain ⟨f12, hP, hD⟩ : ∃ f12 : Nat → Int32, va_P (dC, dI) classes [(h0, .inr (12, [.ref e1, .ref e2, .ref e3, .ref e4, .ref e5, .ref e6, .ref e7, .ref e8, .ref e9, .int 6, .int 0, .int 1])), (e1, .inl (e10, 2000, .inl f12))] H ∧ va_D A [(h0, .inr (12, [.ref e1, .ref e2, .ref e3, .ref e4, .ref e5, .ref e6, .ref e7, .ref e8, .ref e9, .int 6, .int 0, .int 1])), (e1, .inl (e10, 2000, .inl f12))] := ⟨_, hP, hD⟩
  refine lv_aload_n hx hb d_Server_tapeInt_20 rfl (lv_at hl 1 rfl) ?_
  refine lv_dup hx hb d_Server_tapeInt_21 rfl ?_
  refine va_get (D := (dC, dI)) (ci := 12) (v := .int 6) (C := R_Server) (T := F_Server) (N := 12) hx hb hts (i_Server _) hown hK hP 0 rfl rfl 9 (by decide) (hts _ (List.mem_cons_of_mem _ q_871)) (fun _ h9 => h9) rfl d_Server_tapeInt_22 ?_
  refine lv_iconst (v := 1) hx hb d_Server_tapeInt_25 (by decide) ?_
  refine lv_iadd hx hb d_Server_tapeInt_26 ?_
  refine bx_top (y := 7) (by decide) ?_
  refine va_put (D := (dC, dI)) (ci := 12) (v := .int 7) (ty := .int) (C := R_Server) (T := F_Server) (N := 12) hx hb hts (i_Server _) t_Server t_Server_ok n_Server hown hK hP hD hS 0 rfl rfl 9 (by decide) (hts _ (List.mem_cons_of_mem _ q_871)) (fun _ h9 => h9) rfl (by decide +kernel) rfl rfl (Nat.le_of_ble_eq_true rfl) d_Server_tapeInt_27 (fun H locs hP hD hS => ?_)
  have hP : va_P (dC, dI) classes [(h0, .inr (12, [.ref e1, .ref e2, .ref e3, .ref e4, .ref e5, .ref e6, .ref e7, .ref e8, .ref e9, .int 7, .int 0, .int 1])), (e1, .inl (e10, 2000, .inl f12))] H := hP
  have hD : va_D A [(h0, .inr (12, [.ref e1, .ref e2, .ref e3, .ref e4, .ref e5, .ref e6, .ref e7, .ref e8, .ref e9, .int 7, .int 0, .int 1])), (e1, .inl (e10, 2000, .inl f12))] := hD
  refine lv_iinc (v := 0) (lv' := [(2, .int 0), (0, .ref h0), (1, .int z1)]) hx hb d_Server_tapeInt_30 hl (k := 0) rfl (by decide) (by decide) rfl (fun ls hl => ?_)
  refine lv_goto (tgt := 3) hx hb d_Server_tapeInt_33 (by decide) ?_
  refine lv_iload_n hx hb d_Server_tapeInt_3 rfl (lv_at hl 0 rfl) ?_
  refine lv_if_lt (tgt := 36) hx hb d_Server_tapeInt_4 (by decide) (fun c_13 => absurd c_13 (by decide)) (fun c_13 => ?_)
  refine lv_aload_n hx hb d_Server_tapeInt_7 rfl (lv_at hl 1 rfl) ?_
  refine va_get (D := (dC, dI)) (ci := 12) (v := .ref e1) (C := R_Server) (T := F_Server) (N := 12) hx hb hts (i_Server _) hown hK hP 0 rfl rfl 0 (by decide) (hts _ (List.mem_cons_of_mem _ q_862)) (fun _ h9 => h9) rfl d_Server_tapeInt_8 ?_
  refine lv_aload_n hx hb d_Server_tapeInt_11 rfl (lv_at hl 1 rfl) ?_
  refine va_get (D := (dC, dI)) (ci := 12) (v := .int 7) (C := R_Server) (T := F_Server) (N := 12) hx hb hts (i_Server _) hown hK hP 0 rfl rfl 9 (by decide) (hts _ (List.mem_cons_of_mem _ q_871)) (fun _ h9 => h9) rfl d_Server_tapeInt_12 ?_
  refine lv_iload_n hx hb d_Server_tapeInt_15 rfl (lv_at hl 2 rfl) ?_
  refine lv_iload_n hx hb d_Server_tapeInt_16 rfl (lv_at hl 0 rfl) ?_
  refine lv_ishr hx hb d_Server_tapeInt_17 ?_
  refine lv_topi (fun v14 _ => ?_)
  refine lv_i2b hx hb d_Server_tapeInt_18 rfl ?_
  refine lv_topi (fun v15 _ => ?_)
  refine va_bast hx hb hK hP hD hS 1 0 (i := 7) (x := v15) rfl rfl (vp_in_nI (n := 7) (by decide) (by decide)) d_Server_tapeInt_19 (fun H locs hP hD hS => ?_)
  obtain ⟨f16, hP, hD⟩ : ∃ f16 : Nat → Int32, va_P (dC, dI) classes [(h0, .inr (12, [.ref e1, .ref e2, .ref e3, .ref e4, .ref e5, .ref e6, .ref e7, .ref e8, .ref e9, .int 7, .int 0, .int 1])), (e1, .inl (e10, 2000, .inl f16))] H ∧ va_D A [(h0, .inr (12, [.ref e1, .ref e2, .ref e3, .ref e4, .ref e5, .ref e6, .ref e7, .ref e8, .ref e9, .int 7, .int 0, .int 1])), (e1, .inl (e10, 2000, .inl f16))] := ⟨_, hP, hD⟩
  refine lv_aload_n hx hb d_Server_tapeInt_20 rfl (lv_at hl 1 rfl) ?_
  refine lv_dup hx hb d_Server_tapeInt_21 rfl ?_
  refine va_get (D := (dC, dI)) (ci := 12) (v := .int 7) (C := R_Server) (T := F_Server) (N := 12) hx hb hts (i_Server _) hown hK hP 0 rfl rfl 9 (by decide) (hts _ (List.mem_cons_of_mem _ q_871)) (fun _ h9 => h9) rfl d_Server_tapeInt_22 ?_
  refine lv_iconst (v := 1) hx hb d_Server_tapeInt_25 (by decide) ?_
  refine lv_iadd hx hb d_Server_tapeInt_26 ?_
  refine bx_top (y := 8) (by decide) ?_
  refine va_put (D := (dC, dI)) (ci := 12) (v := .int 8) (ty := .int) (C := R_Server) (T := F_Server) (N := 12) hx hb hts (i_Server _) t_Server t_Server_ok n_Server hown hK hP hD hS 0 rfl rfl 9 (by decide) (hts _ (List.mem_cons_of_mem _ q_871)) (fun _ h9 => h9) rfl (by decide +kernel) rfl rfl (Nat.le_of_ble_eq_true rfl) d_Server_tapeInt_27 (fun H locs hP hD hS => ?_)
  have hP : va_P (dC, dI) classes [(h0, .inr (12, [.ref e1, .ref e2, .ref e3, .ref e4, .ref e5, .ref e6, .ref e7, .ref e8, .ref e9, .int 8, .int 0, .int 1])), (e1, .inl (e10, 2000, .inl f16))] H := hP
  have hD : va_D A [(h0, .inr (12, [.ref e1, .ref e2, .ref e3, .ref e4, .ref e5, .ref e6, .ref e7, .ref e8, .ref e9, .int 8, .int 0, .int 1])), (e1, .inl (e10, 2000, .inl f16))] := hD
  refine lv_iinc (v := (-8)) (lv' := [(2, .int (-8)), (0, .ref h0), (1, .int z1)]) hx hb d_Server_tapeInt_30 hl (k := 0) rfl (by decide) (by decide) rfl (fun ls hl => ?_)
  refine lv_goto (tgt := 3) hx hb d_Server_tapeInt_33 (by decide) ?_
  refine lv_iload_n hx hb d_Server_tapeInt_3 rfl (lv_at hl 0 rfl) ?_
  refine lv_if_lt (tgt := 36) hx hb d_Server_tapeInt_4 (by decide) (fun c_17 => ?_) (fun c_17 => absurd (by decide) c_17)
  have hP9 := hP.sub (ws' := [(h0, .inr (12, [.ref e1, .ref e2, .ref e3, .ref e4, .ref e5, .ref e6, .ref e7, .ref e8, .ref e9, .int 8, .int 0, .int 1])), (e1, .inl (e10, 2000, .inl f16))]) [0, 1] rfl
  have hD9 := hD.sub (ws' := [(h0, .inr (12, [.ref e1, .ref e2, .ref e3, .ref e4, .ref e5, .ref e6, .ref e7, .ref e8, .ref e9, .int 8, .int 0, .int 1])), (e1, .inl (e10, 2000, .inl f16))]) [0, 1] (by decide) rfl
  have hK9 := hK.sub (tys' := [(e10, .byte)]) [0] rfl
  refine W.widen (k := 0) (n := 0) (Nat.le_of_ble_eq_true rfl) (Nat.le_of_ble_eq_true rfl) ?_
  exact W.vret hx hb hr (fun t ht hW => ⟨⟨(), rfl, trivial, f16, by rw [ht]; exact hP9, va_K.moved hW.alike hK9, hD9⟩, hS.F ht⟩) hS.2.2 d_Server_tapeInt_36
set_option maxHeartbeats 4000000 in
set_option maxRecDepth 100000 in
theorem c_Server_tapeInt_8 (l : Launch) (dC : Nat → ClassId) (dI : Nat → Nat → Nat) (sz : Nat) (h0 : Nat) (e1 : Nat) (e2 : Nat) (e3 : Nat) (e4 : Nat) (e5 : Nat) (e6 : Nat) (e7 : Nat) (e8 : Nat) (e9 : Nat) (e10 : ClassId) (fT : Nat → Int32) (z1 : Int32) : Met l y_Server_tapeInt w_Server_tapeInt ({ frames := 0, cells := 0, slots := 0, locals := 0 }) (va_Pc [.ref h0, .int z1] (fun U => U.heap.size = sz ∧ va_P (dC, dI) classes [(h0, .inr (12, [.ref e1, .ref e2, .ref e3, .ref e4, .ref e5, .ref e6, .ref e7, .ref e8, .ref e9, .int 8, .int 0, .int 1])), (e1, .inl (e10, 2000, .inl fT))] U.heap ∧ va_K (dC, dI) classes [(e10, .byte)] U ∧ va_D (fun _ => True) [(h0, .inr (12, [.ref e1, .ref e2, .ref e3, .ref e4, .ref e5, .ref e6, .ref e7, .ref e8, .ref e9, .int 8, .int 0, .int 1])), (e1, .inl (e10, 2000, .inl fT))] ∧ bx_N U)) (va_Qv (fun _ : Unit => True) (fun (_ : Unit) t => ∃ e_1 : Nat → Int32, va_P (dC, dI) classes [(h0, .inr (12, [.ref e1, .ref e2, .ref e3, .ref e4, .ref e5, .ref e6, .ref e7, .ref e8, .ref e9, .int 12, .int 0, .int 1])), (e1, .inl (e10, 2000, .inl e_1))] t.heap ∧ va_K (dC, dI) classes [(e10, .byte)] t ∧ va_D (va_A [(h0, .inr (12, [.ref e1, .ref e2, .ref e3, .ref e4, .ref e5, .ref e6, .ref e7, .ref e8, .ref e9, .int 8, .int 0, .int 1])), (e1, .inl (e10, 2000, .inl fT))] sz) [(h0, .inr (12, [.ref e1, .ref e2, .ref e3, .ref e4, .ref e5, .ref e6, .ref e7, .ref e8, .ref e9, .int 12, .int 0, .int 1])), (e1, .inl (e10, 2000, .inl e_1))]) (va_A [(h0, .inr (12, [.ref e1, .ref e2, .ref e3, .ref e4, .ref e5, .ref e6, .ref e7, .ref e8, .ref e9, .int 8, .int 0, .int 1])), (e1, .inl (e10, 2000, .inl fT))] sz)) 0 0 (va_A [(h0, .inr (12, [.ref e1, .ref e2, .ref e3, .ref e4, .ref e5, .ref e6, .ref e7, .ref e8, .ref e9, .int 8, .int 0, .int 1])), (e1, .inl (e10, 2000, .inl fT))] sz) := by
  refine Met.ofW (cc := b_Server_tapeInt) (maxL := 3) (ret := none) (by decide) rfl ?_
  intro p e s m args below meth c s₁ B hml hv
  obtain ⟨rfl, hsz, hP, hK, hD0, hN⟩ := hv
  have hx := B.exec
  have hb := B.bytes
  have hr := B.returns
  have hts := atoms_spec (ws := w_Server_tapeInt) B.pre
  have hown : s.vm.findClass R_Server = some m.cls := findClass_of_methodNamed B.named
  have hlocks := B.notSynchronized
  subst hsz
  have hD := hD0.self (sz := s.heap.size)
  generalize hAe : va_A [(h0, .inr (12, [.ref e1, .ref e2, .ref e3, .ref e4, .ref e5, .ref e6, .ref e7, .ref e8, .ref e9, .int 8, .int 0, .int 1])), (e1, .inl (e10, 2000, .inl fT))] s.heap.size = A at hD ⊢
  have hA : ∀ q : Nat, s.heap.size ≤ q → A q := fun q h => by rw [← hAe]; exact Or.inr h
  have hS : va_S A s.heap s.heap [] := va_S.rf
  have hP : va_P (dC, dI) classes [(h0, .inr (12, [.ref e1, .ref e2, .ref e3, .ref e4, .ref e5, .ref e6, .ref e7, .ref e8, .ref e9, .int 8, .int 0, .int 1])), (e1, .inl (e10, 2000, .inl fT))] s.heap := hP
  have hl := lv_entry ([.ref h0, .int z1]) (n := 3) (Nat.le_of_ble_eq_true rfl)
  rw [lg_entry_eq]
  generalize (lg_sl ([.ref h0, .int z1]) ++ List.replicate (3 - (lg_sl ([.ref h0, .int z1])).length) Slot.unset).toArray = ls at hl ⊢
  have hl : lv_has ls 3 [(0, .ref h0), (1, .int z1)] := hl
  obtain ⟨H, hH⟩ : ∃ H : Heap, s.heap = H := ⟨_, rfl⟩
  have hP : va_P (dC, dI) classes [(h0, .inr (12, [.ref e1, .ref e2, .ref e3, .ref e4, .ref e5, .ref e6, .ref e7, .ref e8, .ref e9, .int 8, .int 0, .int 1])), (e1, .inl (e10, 2000, .inl fT))] H := by rw [← hH]; exact hP
  have hS : va_S A s.heap H [] := by rw [← hH]; exact va_S.rf
  refine bx_heap hH ?_
  refine lv_bipush (v := 24) hx hb d_Server_tapeInt_0 (by decide) ?_
  refine lv_istore_n (lv' := [(2, .int 24), (0, .ref h0), (1, .int z1)]) hx hb d_Server_tapeInt_2 rfl hl (by decide) rfl (fun ls hl => ?_)
  refine lv_iload_n hx hb d_Server_tapeInt_3 rfl (lv_at hl 0 rfl) ?_
  refine lv_if_lt (tgt := 36) hx hb d_Server_tapeInt_4 (by decide) (fun c_1 => absurd c_1 (by decide)) (fun c_1 => ?_)
  refine lv_aload_n hx hb d_Server_tapeInt_7 rfl (lv_at hl 1 rfl) ?_
  refine va_get (D := (dC, dI)) (ci := 12) (v := .ref e1) (C := R_Server) (T := F_Server) (N := 12) hx hb hts (i_Server _) hown hK hP 0 rfl rfl 0 (by decide) (hts _ (List.mem_cons_of_mem _ q_862)) (fun _ h9 => h9) rfl d_Server_tapeInt_8 ?_
  refine lv_aload_n hx hb d_Server_tapeInt_11 rfl (lv_at hl 1 rfl) ?_
  refine va_get (D := (dC, dI)) (ci := 12) (v := .int 8) (C := R_Server) (T := F_Server) (N := 12) hx hb hts (i_Server _) hown hK hP 0 rfl rfl 9 (by decide) (hts _ (List.mem_cons_of_mem _ q_871)) (fun _ h9 => h9) rfl d_Server_tapeInt_12 ?_
  refine lv_iload_n hx hb d_Server_tapeInt_15 rfl (lv_at hl 2 rfl) ?_
  refine lv_iload_n hx hb d_Server_tapeInt_16 rfl (lv_at hl 0 rfl) ?_
  refine lv_ishr hx hb d_Server_tapeInt_17 ?_
  refine lv_topi (fun v2 _ => ?_)
  refine lv_i2b hx hb d_Server_tapeInt_18 rfl ?_
  refine lv_topi (fun v3 _ => ?_)
  refine va_bast hx hb hK hP hD hS 1 0 (i := 8) (x := v3) rfl rfl (vp_in_nI (n := 8) (by decide) (by decide)) d_Server_tapeInt_19 (fun H locs hP hD hS => ?_)
  obtain ⟨f4, hP, hD⟩ : ∃ f4 : Nat → Int32, va_P (dC, dI) classes [(h0, .inr (12, [.ref e1, .ref e2, .ref e3, .ref e4, .ref e5, .ref e6, .ref e7, .ref e8, .ref e9, .int 8, .int 0, .int 1])), (e1, .inl (e10, 2000, .inl f4))] H ∧ va_D A [(h0, .inr (12, [.ref e1, .ref e2, .ref e3, .ref e4, .ref e5, .ref e6, .ref e7, .ref e8, .ref e9, .int 8, .int 0, .int 1])), (e1, .inl (e10, 2000, .inl f4))] := ⟨_, hP, hD⟩
  refine lv_aload_n hx hb d_Server_tapeInt_20 rfl (lv_at hl 1 rfl) ?_
  refine lv_dup hx hb d_Server_tapeInt_21 rfl ?_
  refine va_get (D := (dC, dI)) (ci := 12) (v := .int 8) (C := R_Server) (T := F_Server) (N := 12) hx hb hts (i_Server _) hown hK hP 0 rfl rfl 9 (by decide) (hts _ (List.mem_cons_of_mem _ q_871)) (fun _ h9 => h9) rfl d_Server_tapeInt_22 ?_
  refine lv_iconst (v := 1) hx hb d_Server_tapeInt_25 (by decide) ?_
  refine lv_iadd hx hb d_Server_tapeInt_26 ?_
  refine bx_top (y := 9) (by decide) ?_
  refine va_put (D := (dC, dI)) (ci := 12) (v := .int 9) (ty := .int) (C := R_Server) (T := F_Server) (N := 12) hx hb hts (i_Server _) t_Server t_Server_ok n_Server hown hK hP hD hS 0 rfl rfl 9 (by decide) (hts _ (List.mem_cons_of_mem _ q_871)) (fun _ h9 => h9) rfl (by decide +kernel) rfl rfl (Nat.le_of_ble_eq_true rfl) d_Server_tapeInt_27 (fun H locs hP hD hS => ?_)
  have hP : va_P (dC, dI) classes [(h0, .inr (12, [.ref e1, .ref e2, .ref e3, .ref e4, .ref e5, .ref e6, .ref e7, .ref e8, .ref e9, .int 9, .int 0, .int 1])), (e1, .inl (e10, 2000, .inl f4))] H := hP
  have hD : va_D A [(h0, .inr (12, [.ref e1, .ref e2, .ref e3, .ref e4, .ref e5, .ref e6, .ref e7, .ref e8, .ref e9, .int 9, .int 0, .int 1])), (e1, .inl (e10, 2000, .inl f4))] := hD
  refine lv_iinc (v := 16) (lv' := [(2, .int 16), (0, .ref h0), (1, .int z1)]) hx hb d_Server_tapeInt_30 hl (k := 0) rfl (by decide) (by decide) rfl (fun ls hl => ?_)
  refine lv_goto (tgt := 3) hx hb d_Server_tapeInt_33 (by decide) ?_
  refine lv_iload_n hx hb d_Server_tapeInt_3 rfl (lv_at hl 0 rfl) ?_
  refine lv_if_lt (tgt := 36) hx hb d_Server_tapeInt_4 (by decide) (fun c_5 => absurd c_5 (by decide)) (fun c_5 => ?_)
  refine lv_aload_n hx hb d_Server_tapeInt_7 rfl (lv_at hl 1 rfl) ?_
  refine va_get (D := (dC, dI)) (ci := 12) (v := .ref e1) (C := R_Server) (T := F_Server) (N := 12) hx hb hts (i_Server _) hown hK hP 0 rfl rfl 0 (by decide) (hts _ (List.mem_cons_of_mem _ q_862)) (fun _ h9 => h9) rfl d_Server_tapeInt_8 ?_
  refine lv_aload_n hx hb d_Server_tapeInt_11 rfl (lv_at hl 1 rfl) ?_
  refine va_get (D := (dC, dI)) (ci := 12) (v := .int 9) (C := R_Server) (T := F_Server) (N := 12) hx hb hts (i_Server _) hown hK hP 0 rfl rfl 9 (by decide) (hts _ (List.mem_cons_of_mem _ q_871)) (fun _ h9 => h9) rfl d_Server_tapeInt_12 ?_
  refine lv_iload_n hx hb d_Server_tapeInt_15 rfl (lv_at hl 2 rfl) ?_
  refine lv_iload_n hx hb d_Server_tapeInt_16 rfl (lv_at hl 0 rfl) ?_
  refine lv_ishr hx hb d_Server_tapeInt_17 ?_
  refine lv_topi (fun v6 _ => ?_)
  refine lv_i2b hx hb d_Server_tapeInt_18 rfl ?_
  refine lv_topi (fun v7 _ => ?_)
  refine va_bast hx hb hK hP hD hS 1 0 (i := 9) (x := v7) rfl rfl (vp_in_nI (n := 9) (by decide) (by decide)) d_Server_tapeInt_19 (fun H locs hP hD hS => ?_)
  obtain ⟨f8, hP, hD⟩ : ∃ f8 : Nat → Int32, va_P (dC, dI) classes [(h0, .inr (12, [.ref e1, .ref e2, .ref e3, .ref e4, .ref e5, .ref e6, .ref e7, .ref e8, .ref e9, .int 9, .int 0, .int 1])), (e1, .inl (e10, 2000, .inl f8))] H ∧ va_D A [(h0, .inr (12, [.ref e1, .ref e2, .ref e3, .ref e4, .ref e5, .ref e6, .ref e7, .ref e8, .ref e9, .int 9, .int 0, .int 1])), (e1, .inl (e10, 2000, .inl f8))] := ⟨_, hP, hD⟩
  refine lv_aload_n hx hb d_Server_tapeInt_20 rfl (lv_at hl 1 rfl) ?_
  refine lv_dup hx hb d_Server_tapeInt_21 rfl ?_
  refine va_get (D := (dC, dI)) (ci := 12) (v := .int 9) (C := R_Server) (T := F_Server) (N := 12) hx hb hts (i_Server _) hown hK hP 0 rfl rfl 9 (by decide) (hts _ (List.mem_cons_of_mem _ q_871)) (fun _ h9 => h9) rfl d_Server_tapeInt_22 ?_
  refine lv_iconst (v := 1) hx hb d_Server_tapeInt_25 (by decide) ?_
  refine lv_iadd hx hb d_Server_tapeInt_26 ?_
  refine bx_top (y := 10) (by decide) ?_
  refine va_put (D := (dC, dI)) (ci := 12) (v := .int 10) (ty := .int) (C := R_Server) (T := F_Server) (N := 12) hx hb hts (i_Server _) t_Server t_Server_ok n_Server hown hK hP hD hS 0 rfl rfl 9 (by decide) (hts _ (List.mem_cons_of_mem _ q_871)) (fun _ h9 => h9) rfl (by decide +kernel) rfl rfl (Nat.le_of_ble_eq_true rfl) d_Server_tapeInt_27 (fun H locs hP hD hS => ?_)
  have hP : va_P (dC, dI) classes [(h0, .inr (12, [.ref e1, .ref e2, .ref e3, .ref e4, .ref e5, .ref e6, .ref e7, .ref e8, .ref e9, .int 10, .int 0, .int 1])), (e1, .inl (e10, 2000, .inl f8))] H := hP
  have hD : va_D A [(h0, .inr (12, [.ref e1, .ref e2, .ref e3, .ref e4, .ref e5, .ref e6, .ref e7, .ref e8, .ref e9, .int 10, .int 0, .int 1])), (e1, .inl (e10, 2000, .inl f8))] := hD
  refine lv_iinc (v := 8) (lv' := [(2, .int 8), (0, .ref h0), (1, .int z1)]) hx hb d_Server_tapeInt_30 hl (k := 0) rfl (by decide) (by decide) rfl (fun ls hl => ?_)
  refine lv_goto (tgt := 3) hx hb d_Server_tapeInt_33 (by decide) ?_
  refine lv_iload_n hx hb d_Server_tapeInt_3 rfl (lv_at hl 0 rfl) ?_
  refine lv_if_lt (tgt := 36) hx hb d_Server_tapeInt_4 (by decide) (fun c_9 => absurd c_9 (by decide)) (fun c_9 => ?_)
  refine lv_aload_n hx hb d_Server_tapeInt_7 rfl (lv_at hl 1 rfl) ?_
  refine va_get (D := (dC, dI)) (ci := 12) (v := .ref e1) (C := R_Server) (T := F_Server) (N := 12) hx hb hts (i_Server _) hown hK hP 0 rfl rfl 0 (by decide) (hts _ (List.mem_cons_of_mem _ q_862)) (fun _ h9 => h9) rfl d_Server_tapeInt_8 ?_
  refine lv_aload_n hx hb d_Server_tapeInt_11 rfl (lv_at hl 1 rfl) ?_
  refine va_get (D := (dC, dI)) (ci := 12) (v := .int 10) (C := R_Server) (T := F_Server) (N := 12) hx hb hts (i_Server _) hown hK hP 0 rfl rfl 9 (by decide) (hts _ (List.mem_cons_of_mem _ q_871)) (fun _ h9 => h9) rfl d_Server_tapeInt_12 ?_
  refine lv_iload_n hx hb d_Server_tapeInt_15 rfl (lv_at hl 2 rfl) ?_
  refine lv_iload_n hx hb d_Server_tapeInt_16 rfl (lv_at hl 0 rfl) ?_
  refine lv_ishr hx hb d_Server_tapeInt_17 ?_
  refine lv_topi (fun v10 _ => ?_)
  refine lv_i2b hx hb d_Server_tapeInt_18 rfl ?_
  refine lv_topi (fun v11 _ => ?_)
  refine va_bast hx hb hK hP hD hS 1 0 (i := 10) (x := v11) rfl rfl (vp_in_nI (n := 10) (by decide) (by decide)) d_Server_tapeInt_19 (fun H locs hP hD hS => ?_)
  obtain ⟨f12, hP, hD⟩ : ∃ f12 : Nat → Int32, va_P (dC, dI) classes [(h0, .inr (12, [.ref e1, .ref e2, .ref e3, .ref e4, .ref e5, .ref e6, .ref e7, .ref e8, .ref e9, .int 10, .int 0, .int 1])), (e1, .inl (e10, 2000, .inl f12))] H ∧ va_D A [(h0, .inr (12, [.ref e1, .ref e2, .ref e3, .ref e4, .ref e5, .ref e6, .ref e7, .ref e8, .ref e9, .int 10, .int 0, .int 1])), (e1, .inl (e10, 2000, .inl f12))] := ⟨_, hP, hD⟩
  refine lv_aload_n hx hb d_Server_tapeInt_20 rfl (lv_at hl 1 rfl) ?_
  refine lv_dup hx hb d_Server_tapeInt_21 rfl ?_
  refine va_get (D := (dC, dI)) (ci := 12) (v := .int 10) (C := R_Server) (T := F_Server) (N := 12) hx hb hts (i_Server _) hown hK hP 0 rfl rfl 9 (by decide) (hts _ (List.mem_cons_of_mem _ q_871)) (fun _ h9 => h9) rfl d_Server_tapeInt_22 ?_
  refine lv_iconst (v := 1) hx hb d_Server_tapeInt_25 (by decide) ?_
  refine lv_iadd hx hb d_Server_tapeInt_26 ?_
  refine bx_top (y := 11) (by decide) ?_
  refine va_put (D := (dC, dI)) (ci := 12) (v := .int 11) (ty := .int) (C := R_Server) (T := F_Server) (N := 12) hx hb hts (i_Server _) t_Server t_Server_ok n_Server hown hK hP hD hS 0 rfl rfl 9 (by decide) (hts _ (List.mem_cons_of_mem _ q_871)) (fun _ h9 => h9) rfl (by decide +kernel) rfl rfl (Nat.le_of_ble_eq_true rfl) d_Server_tapeInt_27 (fun H locs hP hD hS => ?_)
  have hP : va_P (dC, dI) classes [(h0, .inr (12, [.ref e1, .ref e2, .ref e3, .ref e4, .ref e5, .ref e6, .ref e7, .ref e8, .ref e9, .int 11, .int 0, .int 1])), (e1, .inl (e10, 2000, .inl f12))] H := hP
  have hD : va_D A [(h0, .inr (12, [.ref e1, .ref e2, .ref e3, .ref e4, .ref e5, .ref e6, .ref e7, .ref e8, .ref e9, .int 11, .int 0, .int 1])), (e1, .inl (e10, 2000, .inl f12))] := hD
  refine lv_iinc (v := 0) (lv' := [(2, .int 0), (0, .ref h0), (1, .int z1)]) hx hb d_Server_tapeInt_30 hl (k := 0) rfl (by decide) (by decide) rfl (fun ls hl => ?_)
  refine lv_goto (tgt := 3) hx hb d_Server_tapeInt_33 (by decide) ?_
  refine lv_iload_n hx hb d_Server_tapeInt_3 rfl (lv_at hl 0 rfl) ?_
  refine lv_if_lt (tgt := 36) hx hb d_Server_tapeInt_4 (by decide) (fun c_13 => absurd c_13 (by decide)) (fun c_13 => ?_)
  refine lv_aload_n hx hb d_Server_tapeInt_7 rfl (lv_at hl 1 rfl) ?_
  refine va_get (D := (dC, dI)) (ci := 12) (v := .ref e1) (C := R_Server) (T := F_Server) (N := 12) hx hb hts (i_Server _) hown hK hP 0 rfl rfl 0 (by decide) (hts _ (List.mem_cons_of_mem _ q_862)) (fun _ h9 => h9) rfl d_Server_tapeInt_8 ?_
  refine lv_aload_n hx hb d_Server_tapeInt_11 rfl (lv_at hl 1 rfl) ?_
  refine va_get (D := (dC, dI)) (ci := 12) (v := .int 11) (C := R_Server) (T := F_Server) (N := 12) hx hb hts (i_Server _) hown hK hP 0 rfl rfl 9 (by decide) (hts _ (List.mem_cons_of_mem _ q_871)) (fun _ h9 => h9) rfl d_Server_tapeInt_12 ?_
  refine lv_iload_n hx hb d_Server_tapeInt_15 rfl (lv_at hl 2 rfl) ?_
  refine lv_iload_n hx hb d_Server_tapeInt_16 rfl (lv_at hl 0 rfl) ?_
  refine lv_ishr hx hb d_Server_tapeInt_17 ?_
  refine lv_topi (fun v14 _ => ?_)
  refine lv_i2b hx hb d_Server_tapeInt_18 rfl ?_
  refine lv_topi (fun v15 _ => ?_)
  refine va_bast hx hb hK hP hD hS 1 0 (i := 11) (x := v15) rfl rfl (vp_in_nI (n := 11) (by decide) (by decide)) d_Server_tapeInt_19 (fun H locs hP hD hS => ?_)
  obtain ⟨f16, hP, hD⟩ : ∃ f16 : Nat → Int32, va_P (dC, dI) classes [(h0, .inr (12, [.ref e1, .ref e2, .ref e3, .ref e4, .ref e5, .ref e6, .ref e7, .ref e8, .ref e9, .int 11, .int 0, .int 1])), (e1, .inl (e10, 2000, .inl f16))] H ∧ va_D A [(h0, .inr (12, [.ref e1, .ref e2, .ref e3, .ref e4, .ref e5, .ref e6, .ref e7, .ref e8, .ref e9, .int 11, .int 0, .int 1])), (e1, .inl (e10, 2000, .inl f16))] := ⟨_, hP, hD⟩
  refine lv_aload_n hx hb d_Server_tapeInt_20 rfl (lv_at hl 1 rfl) ?_
  refine lv_dup hx hb d_Server_tapeInt_21 rfl ?_
  refine va_get (D := (dC, dI)) (ci := 12) (v := .int 11) (C := R_Server) (T := F_Server) (N := 12) hx hb hts (i_Server _) hown hK hP 0 rfl rfl 9 (by decide) (hts _ (List.mem_cons_of_mem _ q_871)) (fun _ h9 => h9) rfl d_Server_tapeInt_22 ?_
  refine lv_iconst (v := 1) hx hb d_Server_tapeInt_25 (by decide) ?_
  refine lv_iadd hx hb d_Server_tapeInt_26 ?_
  refine bx_top (y := 12) (by decide) ?_
  refine va_put (D := (dC, dI)) (ci := 12) (v := .int 12) (ty := .int) (C := R_Server) (T := F_Server) (N := 12) hx hb hts (i_Server _) t_Server t_Server_ok n_Server hown hK hP hD hS 0 rfl rfl 9 (by decide) (hts _ (List.mem_cons_of_mem _ q_871)) (fun _ h9 => h9) rfl (by decide +kernel) rfl rfl (Nat.le_of_ble_eq_true rfl) d_Server_tapeInt_27 (fun H locs hP hD hS => ?_)
  have hP : va_P (dC, dI) classes [(h0, .inr (12, [.ref e1, .ref e2, .ref e3, .ref e4, .ref e5, .ref e6, .ref e7, .ref e8, .ref e9, .int 12, .int 0, .int 1])), (e1, .inl (e10, 2000, .inl f16))] H := hP
  have hD : va_D A [(h0, .inr (12, [.ref e1, .ref e2, .ref e3, .ref e4, .ref e5, .ref e6, .ref e7, .ref e8, .ref e9, .int 12, .int 0, .int 1])), (e1, .inl (e10, 2000, .inl f16))] := hD
  refine lv_iinc (v := (-8)) (lv' := [(2, .int (-8)), (0, .ref h0), (1, .int z1)]) hx hb d_Server_tapeInt_30 hl (k := 0) rfl (by decide) (by decide) rfl (fun ls hl => ?_)
  refine lv_goto (tgt := 3) hx hb d_Server_tapeInt_33 (by decide) ?_
  refine lv_iload_n hx hb d_Server_tapeInt_3 rfl (lv_at hl 0 rfl) ?_
  refine lv_if_lt (tgt := 36) hx hb d_Server_tapeInt_4 (by decide) (fun c_17 => ?_) (fun c_17 => absurd (by decide) c_17)
  have hP9 := hP.sub (ws' := [(h0, .inr (12, [.ref e1, .ref e2, .ref e3, .ref e4, .ref e5, .ref e6, .ref e7, .ref e8, .ref e9, .int 12, .int 0, .int 1])), (e1, .inl (e10, 2000, .inl f16))]) [0, 1] rfl
  have hD9 := hD.sub (ws' := [(h0, .inr (12, [.ref e1, .ref e2, .ref e3, .ref e4, .ref e5, .ref e6, .ref e7, .ref e8, .ref e9, .int 12, .int 0, .int 1])), (e1, .inl (e10, 2000, .inl f16))]) [0, 1] (by decide) rfl
  have hK9 := hK.sub (tys' := [(e10, .byte)]) [0] rfl
  refine W.widen (k := 0) (n := 0) (Nat.le_of_ble_eq_true rfl) (Nat.le_of_ble_eq_true rfl) ?_
  exact W.vret hx hb hr (fun t ht hW => ⟨⟨(), rfl, trivial, f16, by rw [ht]; exact hP9, va_K.moved hW.alike hK9, hD9⟩, hS.F ht⟩) hS.2.2 d_Server_tapeInt_36
set_option maxHeartbeats 4000000 in
set_option maxRecDepth 100000 in
theorem c_Server_tapeInt_12 (l : Launch) (dC : Nat → ClassId) (dI : Nat → Nat → Nat) (sz : Nat) (h0 : Nat) (e1 : Nat) (e2 : Nat) (e3 : Nat) (e4 : Nat) (e5 : Nat) (e6 : Nat) (e7 : Nat) (e8 : Nat) (e9 : Nat) (e10 : ClassId) (fT : Nat → Int32) (z1 : Int32) : Met l y_Server_tapeInt w_Server_tapeInt ({ frames := 0, cells := 0, slots := 0, locals := 0 }) (va_Pc [.ref h0, .int z1] (fun U => U.heap.size = sz ∧ va_P (dC, dI) classes [(h0, .inr (12, [.ref e1, .ref e2, .ref e3, .ref e4, .ref e5, .ref e6, .ref e7, .ref e8, .ref e9, .int 12, .int 0, .int 1])), (e1, .inl (e10, 2000, .inl fT))] U.heap ∧ va_K (dC, dI) classes [(e10, .byte)] U ∧ va_D (fun _ => True) [(h0, .inr (12, [.ref e1, .ref e2, .ref e3, .ref e4, .ref e5, .ref e6, .ref e7, .ref e8, .ref e9, .int 12, .int 0, .int 1])), (e1, .inl (e10, 2000, .inl fT))] ∧ bx_N U)) (va_Qv (fun _ : Unit => True) (fun (_ : Unit) t => ∃ e_1 : Nat → Int32, va_P (dC, dI) classes [(h0, .inr (12, [.ref e1, .ref e2, .ref e3, .ref e4, .ref e5, .ref e6, .ref e7, .ref e8, .ref e9, .int 16, .int 0, .int 1])), (e1, .inl (e10, 2000, .inl e_1))] t.heap ∧ va_K (dC, dI) classes [(e10, .byte)] t ∧ va_D (va_A [(h0, .inr (12, [.ref e1, .ref e2, .ref e3, .ref e4, .ref e5, .ref e6, .ref e7, .ref e8, .ref e9, .int 12, .int 0, .int 1])), (e1, .inl (e10, 2000, .inl fT))] sz) [(h0, .inr (12, [.ref e1, .ref e2, .ref e3, .ref e4, .ref e5, .ref e6, .ref e7, .ref e8, .ref e9, .int 16, .int 0, .int 1])), (e1, .inl (e10, 2000, .inl e_1))]) (va_A [(h0, .inr (12, [.ref e1, .ref e2, .ref e3, .ref e4, .ref e5, .ref e6, .ref e7, .ref e8, .ref e9, .int 12, .int 0, .int 1])), (e1, .inl (e10, 2000, .inl fT))] sz)) 0 0 (va_A [(h0, .inr (12, [.ref e1, .ref e2, .ref e3, .ref e4, .ref e5, .ref e6, .ref e7, .ref e8, .ref e9, .int 12, .int 0, .int 1])), (e1, .inl (e10, 2000, .inl fT))] sz) := by
  refine Met.ofW (cc := b_Server_tapeInt) (maxL := 3) (ret := none) (by decide) rfl ?_
  intro p e s m args below meth c s₁ B hml hv
  obtain ⟨rfl, hsz, hP, hK, hD0, hN⟩ := hv
  have hx := B.exec
  have hb := B.bytes
  have hr := B.returns
  have hts := atoms_spec (ws := w_Server_tapeInt) B.pre
  have hown : s.vm.findClass R_Server = some m.cls := findClass_of_methodNamed B.named
  have hlocks := B.notSynchronized
  subst hsz
  have hD := hD0.self (sz := s.heap.size)
  generalize hAe : va_A [(h0, .inr (12, [.ref e1, .ref e2, .ref e3, .ref e4, .ref e5, .ref e6, .ref e7, .ref e8, .ref e9, .int 12, .int 0, .int 1])), (e1, .inl (e10, 2000, .inl fT))] s.heap.size = A at hD ⊢
  have hA : ∀ q : Nat, s.heap.size ≤ q → A q := fun q h => by rw [← hAe]; exact Or.inr h
  have hS : va_S A s.heap s.heap [] := va_S.rf
  have hP : va_P (dC, dI) classes [(h0, .inr (12, [.ref e1, .ref e2, .ref e3, .ref e4, .ref e5, .ref e6, .ref e7, .ref e8, .ref e9, .int 12, .int 0, .int 1])), (e1, .inl (e10, 2000, .inl fT))] s.heap := hP
  have hl := lv_entry ([.ref h0, .int z1]) (n := 3) (Nat.le_of_ble_eq_true rfl)
  rw [lg_entry_eq]
  generalize (lg_sl ([.ref h0, .int z1]) ++ List.replicate (3 - (lg_sl ([.ref h0, .int z1])).length) Slot.unset).toArray = ls at hl ⊢
  have hl : lv_has ls 3 [(0, .ref h0), (1, .int z1)] := hl
  obtain ⟨H, hH⟩ : ∃ H : Heap, s.heap = H := ⟨_, rfl⟩
  have hP : va_P (dC, dI) classes [(h0, .inr (12, [.ref e1, .ref e2, .ref e3, .ref e4, .ref e5, .ref e6, .ref e7, .ref e8, .ref e9, .int 12, .int 0, .int 1])), (e1, .inl (e10, 2000, .inl fT))] H := by rw [← hH]; exact hP
  have hS : va_S A s.heap H [] := by rw [← hH]; exact va_S.rf
  refine bx_heap hH ?_
  refine lv_bipush (v := 24) hx hb d_Server_tapeInt_0 (by decide) ?_
  refine lv_istore_n (lv' := [(2, .int 24), (0, .ref h0), (1, .int z1)]) hx hb d_Server_tapeInt_2 rfl hl (by decide) rfl (fun ls hl => ?_)
  refine lv_iload_n hx hb d_Server_tapeInt_3 rfl (lv_at hl 0 rfl) ?_
  refine lv_if_lt (tgt := 36) hx hb d_Server_tapeInt_4 (by decide) (fun c_1 => absurd c_1 (by decide)) (fun c_1 => ?_)
  refine lv_aload_n hx hb d_Server_tapeInt_7 rfl (lv_at hl 1 rfl) ?_
  refine va_get (D := (dC, dI)) (ci := 12) (v := .ref e1) (C := R_Server) (T := F_Server) (N := 12) hx hb hts (i_Server _) hown hK hP 0 rfl rfl 0 (by decide) (hts _ (List.mem_cons_of_mem _ q_862)) (fun _ h9 => h9) rfl d_Server_tapeInt_8 ?_
  refine lv_aload_n hx hb d_Server_tapeInt_11 rfl (lv_at hl 1 rfl) ?_
  refine va_get (D := (dC, dI)) (ci := 12) (v := .int 12) (C := R_Server) (T := F_Server) (N := 12) hx hb hts (i_Server _) hown hK hP 0 rfl rfl 9 (by decide) (hts _ (List.mem_cons_of_mem _ q_871)) (fun _ h9 => h9) rfl d_Server_tapeInt_12 ?_
  refine lv_iload_n hx hb d_Server_tapeInt_15 rfl (lv_at hl 2 rfl) ?_
  refine lv_iload_n hx hb d_Server_tapeInt_16 rfl (lv_at hl 0 rfl) ?_
  refine lv_ishr hx hb d_Server_tapeInt_17 ?_
  refine lv_topi (fun v2 _ => ?_)
  refine lv_i2b hx hb d_Server_tapeInt_18 rfl ?_
  refine lv_topi (fun v3 _ => ?_)
  refine va_bast hx hb hK hP hD hS 1 0 (i := 12) (x := v3) rfl rfl (vp_in_nI (n := 12) (by decide) (by decide)) d_Server_tapeInt_19 (fun H locs hP hD hS => ?_)
  obtain ⟨f4, hP, hD⟩ : ∃ f4 : Nat → Int32, va_P (dC, dI) classes [(h0, .inr (12, [.ref e1, .ref e2, .ref e3, .ref e4, .ref e5, .ref e6, .ref e7, .ref e8, .ref e9, .int 12, .int 0, .int 1])), (e1, .inl (e10, 2000, .inl f4))] H ∧ va_D A [(h0, .inr (12, [.ref e1, .ref e2, .ref e3, .ref e4, .ref e5, .ref e6, .ref e7, .ref e8, .ref e9, .int 12, .int 0, .int 1])), (e1, .inl (e10, 2000, .inl f4))] := ⟨_, hP, hD⟩
  refine lv_aload_n hx hb d_Server_tapeInt_20 rfl (lv_at hl 1 rfl) ?_
  refine lv_dup hx hb d_Server_tapeInt_21 rfl ?_
  refine va_get (D := (dC, dI)) (ci := 12) (v := .int 12) (C := R_Server) (T := F_Server) (N := 12) hx hb hts (i_Server _) hown hK hP 0 rfl rfl 9 (by decide) (hts _ (List.mem_cons_of_mem _ q_871)) (fun _ h9 => h9) rfl d_Server_tapeInt_22 ?_
  refine lv_iconst (v := 1) hx hb d_Server_tapeInt_25 (by decide) ?_
  refine lv_iadd hx hb d_Server_tapeInt_26 ?_
  refine bx_top (y := 13) (by decide) ?_
  refine va_put (D := (dC, dI)) (ci := 12) (v := .int 13) (ty := .int) (C := R_Server) (T := F_Server) (N := 12) hx hb hts (i_Server _) t_Server t_Server_ok n_Server hown hK hP hD hS 0 rfl rfl 9 (by decide) (hts _ (List.mem_cons_of_mem _ q_871)) (fun _ h9 => h9) rfl (by decide +kernel) rfl rfl (Nat.le_of_ble_eq_true rfl) d_Server_tapeInt_27 (fun H locs hP hD hS => ?_)
  have hP : va_P (dC, dI) classes [(h0, .inr (12, [.ref e1, .ref e2, .ref e3, .ref e4, .ref e5, .ref e6, .ref e7, .ref e8, .ref e9, .int 13, .int 0, .int 1])), (e1, .inl (e10, 2000, .inl f4))] H := hP
  have hD : va_D A [(h0, .inr (12, [.ref e1, .ref e2, .ref e3, .ref e4, .ref e5, .ref e6, .ref e7, .ref e8, .ref e9, .int 13, .int 0, .int 1])), (e1, .inl (e10, 2000, .inl f4))] := hD
  refine lv_iinc (v := 16) (lv' := [(2, .int 16), (0, .ref h0), (1, .int z1)]) hx hb d_Server_tapeInt_30 hl (k := 0) rfl (by decide) (by decide) rfl (fun ls hl => ?_)
  refine lv_goto (tgt := 3) hx hb d_Server_tapeInt_33 (by decide) ?_
  refine lv_iload_n hx hb d_Server_tapeInt_3 rfl (lv_at hl 0 rfl) ?_
  refine lv_if_lt (tgt := 36) hx hb d_Server_tapeInt_4 (by decide) (fun c_5 => absurd c_5 (by decide)) (fun c_5 => ?_)
  refine lv_aload_n hx hb d_Server_tapeInt_7 rfl (lv_at hl 1 rfl) ?_
  refine va_get (D := (dC, dI)) (ci := 12) (v := .ref e1) (C := R_Server) (T := F_Server) (N := 12) hx hb hts (i_Server _) hown hK hP 0 rfl rfl 0 (by decide) (hts _ (List.mem_cons_of_mem _ q_862)) (fun _ h9 => h9) rfl d_Server_tapeInt_8 ?_
  refine lv_aload_n hx hb d_Server_tapeInt_11 rfl (lv_at hl 1 rfl) ?_
  refine va_get (D := (dC, dI)) (ci := 12) (v := .int 13) (C := R_Server) (T := F_Server) (N := 12) hx hb hts (i_Server _) hown hK hP 0 rfl rfl 9 (by decide) (hts _ (List.mem_cons_of_mem _ q_871)) (fun _ h9 => h9) rfl d_Server_tapeInt_12 ?_
  refine lv_iload_n hx hb d_Server_tapeInt_15 rfl (lv_at hl 2 rfl) ?_
  refine lv_iload_n hx hb d_Server_tapeInt_16 rfl (lv_at hl 0 rfl) ?_
  refine lv_ishr hx hb d_Server_tapeInt_17 ?_
  refine lv_topi (fun v6 _ => ?_)
  refine lv_i2b hx hb d_Server_tapeInt_18 rfl ?_
  refine lv_topi (fun v7 _ => ?_)
  refine va_bast hx hb hK hP hD hS 1 0 (i := 13) (x := v7) rfl rfl (vp_in_nI (n := 13) (by decide) (by decide)) d_Server_tapeInt_19 (fun H locs hP hD hS => ?_)
  obtain ⟨f8, hP, hD⟩ : ∃ f8 : Nat → Int32, va_P (dC, dI) classes [(h0, .inr (12, [.ref e1, .ref e2, .ref e3, .ref e4, .ref e5, .ref e6, .ref e7, .ref e8, .ref e9, .int 13, .int 0, .int 1])), (e1, .inl (e10, 2000, .inl f8))] H ∧ va_D A [(h0, .inr (12, [.ref e1, .ref e2, .ref e3, .ref e4, .ref e5, .ref e6, .ref e7, .ref e8, .ref e9, .int 13, .int 0, .int 1])), (e1, .inl (e10, 2000, .inl f8))] := ⟨_, hP, hD⟩
  refine lv_aload_n hx hb d_Server_tapeInt_20 rfl (lv_at hl 1 rfl) ?_
  refine lv_dup hx hb d_Server_tapeInt_21 rfl ?_
  refine va_get (D := (dC, dI)) (ci := 12) (v := .int 13) (C := R_Server) (T := F_Server) (N := 12) hx hb hts (i_Server _) hown hK hP 0 rfl rfl 9 (by decide) (hts _ (List.mem_cons_of_mem _ q_871)) (fun _ h9 => h9) rfl d_Server_tapeInt_22 ?_
  refine lv_iconst (v := 1) hx hb d_Server_tapeInt_25 (by decide) ?_
  refine lv_iadd hx hb d_Server_tapeInt_26 ?_
  refine bx_top (y := 14) (by decide) ?_
  refine va_put (D := (dC, dI)) (ci := 12) (v := .int 14) (ty := .int) (C := R_Server) (T := F_Server) (N := 12) hx hb hts (i_Server _) t_Server t_Server_ok n_Server hown hK hP hD hS 0 rfl rfl 9 (by decide) (hts _ (List.mem_cons_of_mem _ q_871)) (fun _ h9 => h9) rfl (by decide +kernel) rfl rfl (Nat.le_of_ble_eq_true rfl) d_Server_tapeInt_27 (fun H locs hP hD hS => ?_)
  have hP : va_P (dC, dI) classes [(h0, .inr (12, [.ref e1, .ref e2, .ref e3, .ref e4, .ref e5, .ref e6, .ref e7, .ref e8, .ref e9, .int 14, .int 0, .int 1])), (e1, .inl (e10, 2000, .inl f8))] H := hP
  have hD : va_D A [(h0, .inr (12, [.ref e1, .ref e2, .ref e3, .ref e4, .ref e5, .ref e6, .ref e7, .ref e8, .ref e9, .int 14, .int 0, .int 1])), (e1, .inl (e10, 2000, .inl f8))] := hD
  refine lv_iinc (v := 8) (lv' := [(2, .int 8), (0, .ref h0), (1, .int z1)]) hx hb d_Server_tapeInt_30 hl (k := 0) rfl (by decide) (by decide) rfl (fun ls hl => ?_)
  refine lv_goto (tgt := 3) hx hb d_Server_tapeInt_33 (by decide) ?_
  refine lv_iload_n hx hb d_Server_tapeInt_3 rfl (lv_at hl 0 rfl) ?_
  refine lv_if_lt (tgt := 36) hx hb d_Server_tapeInt_4 (by decide) (fun c_9 => absurd c_9 (by decide)) (fun c_9 => ?_)
  refine lv_aload_n hx hb d_Server_tapeInt_7 rfl (lv_at hl 1 rfl) ?_
  refine va_get (D := (dC, dI)) (ci := 12) (v := .ref e1) (C := R_Server) (T := F_Server) (N := 12) hx hb hts (i_Server _) hown hK hP 0 rfl rfl 0 (by decide) (hts _ (List.mem_cons_of_mem _ q_862)) (fun _ h9 => h9) rfl d_Server_tapeInt_8 ?_
  refine lv_aload_n hx hb d_Server_tapeInt_11 rfl (lv_at hl 1 rfl) ?_
  refine va_get (D := (dC, dI)) (ci := 12) (v := .int 14) (C := R_Server) (T := F_Server) (N := 12) hx hb hts (i_Server _) hown hK hP 0 rfl rfl 9 (by decide) (hts _ (List.mem_cons_of_mem _ q_871)) (fun _ h9 => h9) rfl d_Server_tapeInt_12 ?_
  refine lv_iload_n hx hb d_Server_tapeInt_15 rfl (lv_at hl 2 rfl) ?_
  refine lv_iload_n hx hb d_Server_tapeInt_16 rfl (lv_at hl 0 rfl) ?_
  refine lv_ishr hx hb d_Server_tapeInt_17 ?_
  refine lv_topi (fun v10 _ => ?_)
  refine lv_i2b hx hb d_Server_tapeInt_18 rfl ?_
  refine lv_topi (fun v11 _ => ?_)
  refine va_bast hx hb hK hP hD hS 1 0 (i := 14) (x := v11) rfl rfl (vp_in_nI (n := 14) (by decide) (by decide)) d_Server_tapeInt_19 (fun H locs hP hD hS => ?_)
  obtain ⟨f12, hP, hD⟩ : ∃ f12 : Nat → Int32, va_P (dC, dI) classes [(h0, .inr (12, [.ref e1, .ref e2, .ref e3, .ref e4, .ref e5, .ref e6, .ref e7, .ref e8, .ref e9, .int 14, .int 0, .int 1])), (e1, .inl (e10, 2000, .inl f12))] H ∧ va_D A [(h0, .inr (12, [.ref e1, .ref e2, .ref e3, .ref e4, .ref e5, .ref e6, .ref e7, .ref e8, .ref e9, .int 14, .int 0, .int 1])), (e1, .inl (e10, 2000, .inl f12))] := ⟨_, hP, hD⟩
  refine lv_aload_n hx hb d_Server_tapeInt_20 rfl (lv_at hl 1 rfl) ?_
  refine lv_dup hx hb d_Server_tapeInt_21 rfl ?_
  refine va_get (D := (dC, dI)) (ci := 12) (v := .int 14) (C := R_Server) (T := F_Server) (N := 12) hx hb hts (i_Server _) hown hK hP 0 rfl rfl 9 (by decide) (hts _ (List.mem_cons_of_mem _ q_871)) (fun _ h9 => h9) rfl d_Server_tapeInt_22 ?_
  refine lv_iconst (v := 1) hx hb d_Server_tapeInt_25 (by decide) ?_
  refine lv_iadd hx hb d_Server_tapeInt_26 ?_
  refine bx_top (y := 15) (by decide) ?_
  refine va_put (D := (dC, dI)) (ci := 12) (v := .int 15) (ty := .int) (C := R_Server) (T := F_Server) (N := 12) hx hb hts (i_Server _) t_Server t_Server_ok n_Server hown hK hP hD hS 0 rfl rfl 9 (by decide) (hts _ (List.mem_cons_of_mem _ q_871)) (fun _ h9 => h9) rfl (by decide +kernel) rfl rfl (Nat.le_of_ble_eq_true rfl) d_Server_tapeInt_27 (fun H locs hP hD hS => ?_)
  have hP : va_P (dC, dI) classes [(h0, .inr (12, [.ref e1, .ref e2, .ref e3, .ref e4, .ref e5, .ref e6, .ref e7, .ref e8, .ref e9, .int 15, .int 0, .int 1])), (e1, .inl (e10, 2000, .inl f12))] H := hP
  have hD : va_D A [(h0, .inr (12, [.ref e1, .ref e2, .ref e3, .ref e4, .ref e5, .ref e6, .ref e7, .ref e8, .ref e9, .int 15, .int 0, .int 1])), (e1, .inl (e10, 2000, .inl f12))] := hD
  refine lv_iinc (v := 0) (lv' := [(2, .int 0), (0, .ref h0), (1, .int z1)]) hx hb d_Server_tapeInt_30 hl (k := 0) rfl (by decide) (by decide) rfl (fun ls hl => ?_)
  refine lv_goto (tgt := 3) hx hb d_Server_tapeInt_33 (by decide) ?_
  refine lv_iload_n hx hb d_Server_tapeInt_3 rfl (lv_at hl 0 rfl) ?_
  refine lv_if_lt (tgt := 36) hx hb d_Server_tapeInt_4 (by decide) (fun c_13 => absurd c_13 (by decide)) (fun c_13 => ?_)
  refine lv_aload_n hx hb d_Server_tapeInt_7 rfl (lv_at hl 1 rfl) ?_
  refine va_get (D := (dC, dI)) (ci := 12) (v := .ref e1) (C := R_Server) (T := F_Server) (N := 12) hx hb hts (i_Server _) hown hK hP 0 rfl rfl 0 (by decide) (hts _ (List.mem_cons_of_mem _ q_862)) (fun _ h9 => h9) rfl d_Server_tapeInt_8 ?_
  refine lv_aload_n hx hb d_Server_tapeInt_11 rfl (lv_at hl 1 rfl) ?_
  refine va_get (D := (dC, dI)) (ci := 12) (v := .int 15) (C := R_Server) (T := F_Server) (N := 12) hx hb hts (i_Server _) hown hK hP 0 rfl rfl 9 (by decide) (hts _ (List.mem_cons_of_mem _ q_871)) (fun _ h9 => h9) rfl d_Server_tapeInt_12 ?_
  refine lv_iload_n hx hb d_Server_tapeInt_15 rfl (lv_at hl 2 rfl) ?_
  refine lv_iload_n hx hb d_Server_tapeInt_16 rfl (lv_at hl 0 rfl) ?_
  refine lv_ishr hx hb d_Server_tapeInt_17 ?_
  refine lv_topi (fun v14 _ => ?_)
  refine lv_i2b hx hb d_Server_tapeInt_18 rfl ?_
  refine lv_topi (fun v15 _ => ?_)
  refine va_bast hx hb hK hP hD hS 1 0 (i := 15) (x := v15) rfl rfl (vp_in_nI (n := 15) (by decide) (by decide)) d_Server_tapeInt_19 (fun H locs hP hD hS => ?_)
  obtain ⟨f16, hP, hD⟩ : ∃ f16 : Nat → Int32, va_P (dC, dI) classes [(h0, .inr (12, [.ref e1, .ref e2, .ref e3, .ref e4, .ref e5, .ref e6, .ref e7, .ref e8, .ref e9, .int 15, .int 0, .int 1])), (e1, .inl (e10, 2000, .inl f16))] H ∧ va_D A [(h0, .inr (12, [.ref e1, .ref e2, .ref e3, .ref e4, .ref e5, .ref e6, .ref e7, .ref e8, .ref e9, .int 15, .int 0, .int 1])), (e1, .inl (e10, 2000, .inl f16))] := ⟨_, hP, hD⟩
  refine lv_aload_n hx hb d_Server_tapeInt_20 rfl (lv_at hl 1 rfl) ?_
  refine lv_dup hx hb d_Server_tapeInt_21 rfl ?_
  refine va_get (D := (dC, dI)) (ci := 12) (v := .int 15) (C := R_Server) (T := F_Server) (N := 12) hx hb hts (i_Server _) hown hK hP 0 rfl rfl 9 (by decide) (hts _ (List.mem_cons_of_mem _ q_871)) (fun _ h9 => h9) rfl d_Server_tapeInt_22 ?_
  refine lv_iconst (v := 1) hx hb d_Server_tapeInt_25 (by decide) ?_
  refine lv_iadd hx hb d_Server_tapeInt_26 ?_
  refine bx_top (y := 16) (by decide) ?_
  refine va_put (D := (dC, dI)) (ci := 12) (v := .int 16) (ty := .int) (C := R_Server) (T := F_Server) (N := 12) hx hb hts (i_Server _) t_Server t_Server_ok n_Server hown hK hP hD hS 0 rfl rfl 9 (by decide) (hts _ (List.mem_cons_of_mem _ q_871)) (fun _ h9 => h9) rfl (by decide +kernel) rfl rfl (Nat.le_of_ble_eq_true rfl) d_Server_tapeInt_27 (fun H locs hP hD hS => ?_)
  have hP : va_P (dC, dI) classes [(h0, .inr (12, [.ref e1, .ref e2, .ref e3, .ref e4, .ref e5, .ref e6, .ref e7, .ref e8, .ref e9, .int 16, .int 0, .int 1])), (e1, .inl (e10, 2000, .inl f16))] H := hP
  have hD : va_D A [(h0, .inr (12, [.ref e1, .ref e2, .ref e3, .ref e4, .ref e5, .ref e6, .ref e7, .ref e8, .ref e9, .int 16, .int 0, .int 1])), (e1, .inl (e10, 2000, .inl f16))] := hD
  refine lv_iinc (v := (-8)) (lv' := [(2, .int (-8)), (0, .ref h0), (1, .int z1)]) hx hb d_Server_tapeInt_30 hl (k := 0) rfl (by decide) (by decide) rfl (fun ls hl => ?_)
  refine lv_goto (tgt := 3) hx hb d_Server_tapeInt_33 (by decide) ?_
  refine lv_iload_n hx hb d_Server_tapeInt_3 rfl (lv_at hl 0 rfl) ?_
  refine lv_if_lt (tgt := 36) hx hb d_Server_tapeInt_4 (by decide) (fun c_17 => ?_) (fun c_17 => absurd (by decide) c_17)
  have hP9 := hP.sub (ws' := [(h0, .inr (12, [.ref e1, .ref e2, .ref e3, .ref e4, .ref e5, .ref e6, .ref e7, .ref e8, .ref e9, .int 16, .int 0, .int 1])), (e1, .inl (e10, 2000, .inl f16))]) [0, 1] rfl
  have hD9 := hD.sub (ws' := [(h0, .inr (12, [.ref e1, .ref e2, .ref e3, .ref e4, .ref e5, .ref e6, .ref e7, .ref e8, .ref e9, .int 16, .int 0, .int 1])), (e1, .inl (e10, 2000, .inl f16))]) [0, 1] (by decide) rfl
  have hK9 := hK.sub (tys' := [(e10, .byte)]) [0] rfl
  refine W.widen (k := 0) (n := 0) (Nat.le_of_ble_eq_true rfl) (Nat.le_of_ble_eq_true rfl) ?_
  exact W.vret hx hb hr (fun t ht hW => ⟨⟨(), rfl, trivial, f16, by rw [ht]; exact hP9, va_K.moved hW.alike hK9, hD9⟩, hS.F ht⟩) hS.2.2 d_Server_tapeInt_36
