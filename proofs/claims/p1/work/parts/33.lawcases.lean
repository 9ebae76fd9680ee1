set_option maxHeartbeats 4000000 in
set_option maxRecDepth 100000 in
theorem lwc_0 {p : Program} {e : Env} {s : State} {m : MethodId} {below : List Frame} {meth : Method} {c : Code} (l : Launch) {b : Nat} {xs : Nat → Int32} {dC : Nat → ClassId} {dI : Nat → Nat → Nat} (q1 : Nat) (e2 : Nat) (e3 : Nat) (e4 : Nat) (e5 : Nat) (e6 : Nat) (e7 : Nat) (e8 : Nat) (e9 : Nat) (e10 : Nat) (e11 : ClassId) (q174 : Nat) (e175 : Nat) (e176 : Nat) (e177 : Nat) (e178 : Nat) (e179 : Nat) (e180 : Nat) (e181 : Nat) (e182 : Nat) (e183 : Nat) (e184 : Nat) (e185 : Nat) (e186 : Nat) (e187 : Nat) (e188 : Nat) (e189 : Nat) (e190 : Nat) (e191 : Nat) (e192 : Nat) (e193 : Nat) (e194 : Nat) (e195 : Nat) (e196 : Nat) (e197 : Nat) (e198 : Nat) (e199 : Nat) (e200 : Nat) (e201 : Nat) (e202 : Nat) (e203 : Nat) (e204 : ClassId) {H : Heap} {locs : List Loc} {ls : Array Slot} (hx : p.tables.exec = Jvm.exec) (hb : c.code = code) (hr : meth.sig.returnType = ret) (hml : c.maxLocals = 4) (hown : s.vm.findClass "SessionServerLaw" = some m.cls) (hts : ∀ w ∈ lw_tbl, w.before #[Value.ref b] s = true) (hX : va_X b 6 xs s s.heap) (hbl : b < s.heap.size) (hlocks : meth.locks = false) (hN : bx_N s) (hK : va_K (dC, dI) classes [(e11, .byte), (e204, .byte)] s) (hP : va_P (dC, dI) classes [(q1, .inr (12, [.ref e2, .ref e3, .ref e4, .ref e5, .ref e6, .ref e7, .ref e8, .ref e9, .ref e10, .int 0, .int 0, .int 1])), (e2, .inl (e11, 2000, .inl (fun _ => 0))), (q174, .inr (20, [.int 1, .int (-1), .ref e175, .int 0, .ref e176, .ref e177, .ref e178, .int 0, .int 0, .ref e179, .ref e180, .ref e181, .ref e182, .ref e183, .ref e184, .ref e185, .ref e186, .ref e187, .int 0, .int 0, .ref e188, .ref e189, .ref e190, .ref e191, .int 0, .int 0, .int 0, .ref e192, .int 0, .ref e193, .ref e194, .ref e195, .int 0, .ref e196, .ref e197, .ref e198, .ref e199, .ref e200, .int 0, .ref e201, .ref e202, .ref e203])), (e175, .inl (e204, 2000, .inl (fun _ => 0)))] H) (hD : va_D (fun q : Nat => s.heap.size ≤ q) [(q1, .inr (12, [.ref e2, .ref e3, .ref e4, .ref e5, .ref e6, .ref e7, .ref e8, .ref e9, .ref e10, .int 0, .int 0, .int 1])), (e2, .inl (e11, 2000, .inl (fun _ => 0))), (q174, .inr (20, [.int 1, .int (-1), .ref e175, .int 0, .ref e176, .ref e177, .ref e178, .int 0, .int 0, .ref e179, .ref e180, .ref e181, .ref e182, .ref e183, .ref e184, .ref e185, .ref e186, .ref e187, .int 0, .int 0, .ref e188, .ref e189, .ref e190, .ref e191, .int 0, .int 0, .int 0, .ref e192, .int 0, .ref e193, .ref e194, .ref e195, .int 0, .ref e196, .ref e197, .ref e198, .ref e199, .ref e200, .int 0, .ref e201, .ref e202, .ref e203])), (e175, .inl (e204, 2000, .inl (fun _ => 0)))]) (hS : va_S (fun q : Nat => s.heap.size ≤ q) s.heap H locs) (hl : lv_has ls 4 [(3, .int 0), (2, .ref q174), (1, .ref q1), (0, .ref b)]) : W p l e room_1 s m #[Value.ref b] below meth c H locs 25515 1231676 (lw_Z below #[Value.ref b] s) (F0 m 33 ls [.int (nI 0)]) := by
  have hA : ∀ q : Nat, s.heap.size ≤ q → (fun q : Nat => s.heap.size ≤ q) q := fun _ h => h
  have hbA : ¬ (fun q : Nat => s.heap.size ≤ q) b := Nat.not_le.mpr hbl
  refine lv_tableIn (tgt := 92) hx hb d_law_33 (by decide) (by decide) rfl (by decide) ?_
  refine lv_aload_n hx hb d_law_92 rfl (lv_at hl 2 rfl) ?_
  refine lv_aload_n hx hb d_law_93 rfl (lv_at hl 3 rfl) ?_
  refine lv_iload_n hx hb d_law_94 rfl (lv_at hl 0 rfl) ?_
  refine lv_iconst (v := 1) hx hb d_law_95 (by decide) ?_
  refine lv_iadd hx hb d_law_96 ?_
  refine bx_top (y := 1) (by decide) ?_
  refine va_sld hx hb hX hbl hbA hS (vp_in_nI (n := 1) (by decide) (by decide)) d_law_97 ?_
  refine W.eq (g2 := F0 m 98 ls [.int (xs 1), .ref q1]) rfl ?_
  refine lv_aload_n hx hb d_law_98 rfl (lv_at hl 3 rfl) ?_
  refine lv_iload_n hx hb d_law_99 rfl (lv_at hl 0 rfl) ?_
  refine lv_iconst (v := 2) hx hb d_law_100 (by decide) ?_
  refine lv_iadd hx hb d_law_101 ?_
  refine bx_top (y := 2) (by decide) ?_
  refine va_sld hx hb hX hbl hbA hS (vp_in_nI (n := 2) (by decide) (by decide)) d_law_102 ?_
  refine W.eq (g2 := F0 m 103 ls [.int (xs 2), .int (xs 1), .ref q1]) rfl ?_
  refine lv_aload_n hx hb d_law_103 rfl (lv_at hl 3 rfl) ?_
  refine lv_iload_n hx hb d_law_104 rfl (lv_at hl 0 rfl) ?_
  refine lv_iconst (v := 3) hx hb d_law_105 (by decide) ?_
  refine lv_iadd hx hb d_law_106 ?_
  refine bx_top (y := 3) (by decide) ?_
  refine va_sld hx hb hX hbl hbA hS (vp_in_nI (n := 3) (by decide) (by decide)) d_law_107 ?_
  refine W.eq (g2 := F0 m 108 ls [.int (xs 3), .int (xs 2), .int (xs 1), .ref q1]) rfl ?_
  refine lv_aload_n hx hb d_law_108 rfl (lv_at hl 3 rfl) ?_
  refine lv_iload_n hx hb d_law_109 rfl (lv_at hl 0 rfl) ?_
  refine lv_iconst (v := 4) hx hb d_law_110 (by decide) ?_
  refine lv_iadd hx hb d_law_111 ?_
  refine bx_top (y := 4) (by decide) ?_
  refine va_sld hx hb hX hbl hbA hS (vp_in_nI (n := 4) (by decide) (by decide)) d_law_112 ?_
  refine W.eq (g2 := F0 m 113 ls [.int (xs 4), .int (xs 3), .int (xs 2), .int (xs 1), .ref q1]) rfl ?_
  refine lv_aload_n hx hb d_law_113 rfl (lv_at hl 3 rfl) ?_
  refine lv_iload_n hx hb d_law_114 rfl (lv_at hl 0 rfl) ?_
  refine lv_iconst (v := 5) hx hb d_law_115 (by decide) ?_
  refine lv_iadd hx hb d_law_116 ?_
  refine bx_top (y := 5) (by decide) ?_
  refine va_sld hx hb hX hbl hbA hS (vp_in_nI (n := 5) (by decide) (by decide)) d_law_117 ?_
  refine W.eq (g2 := F0 m 118 ls [.int (xs 5), .int (xs 4), .int (xs 3), .int (xs 2), .int (xs 1), .ref q1]) rfl ?_
  have hPc := hP.sub (ws' := [(q1, .inr (12, [.ref e2, .ref e3, .ref e4, .ref e5, .ref e6, .ref e7, .ref e8, .ref e9, .ref e10, .int 0, .int 0, .int 1])), (e2, .inl (e11, 2000, .inl (fun _ => 0)))]) [0, 1] rfl
  have hDc := hD.sub (ws' := [(q1, .inr (12, [.ref e2, .ref e3, .ref e4, .ref e5, .ref e6, .ref e7, .ref e8, .ref e9, .ref e10, .int 0, .int 0, .int 1])), (e2, .inl (e11, 2000, .inl (fun _ => 0)))]) [0, 1] (by decide) rfl
  have hKc := hK.sub (tys' := [(e11, .byte)]) [0] rfl
  have hFc := va_free (wc := [(q1, .inr (12, [.ref e2, .ref e3, .ref e4, .ref e5, .ref e6, .ref e7, .ref e8, .ref e9, .ref e10, .int 0, .int 0, .int 1])), (e2, .inl (e11, 2000, .inl (fun _ => 0)))]) hD hS hA [0, 1] rfl
  refine va_calli (va_runV (As := [.int (xs 1), .int (xs 2), .int (xs 3), .int (xs 4), .int (xs 5)]) (rest := []) ⟨hx, hb, hml, hown, hts⟩ (c_Server_feed l dC dI H.size q1 e2 e3 e4 e5 e6 e7 e8 e9 e10 e11 (xs 1) (xs 2) (xs 3) (xs 4) (xs 5)) (cwV 5 hts (gG_goodVL q_899 q_900 (sel_Server_feed) q_1 q_902) rfl rfl rfl (by decide +kernel) ⟨Nat.le_of_ble_eq_true rfl, Nat.le_of_ble_eq_true rfl⟩) ⟨fun a U g mk q => by obtain ⟨q0, q1, qP, qK, qD, qN⟩ := q; exact ⟨q0, q1, qP, va_K.moved (u := U) (U := U.calling g mk a) (Vm.Alike.refl U.vm) qK, qD, bx_N.same rfl qN⟩, va_recv hKc hPc (ci := 12) (q0 := 0) rfl rfl, fun U hU hW => ⟨rfl, by rw [hU], by rw [hU]; exact hPc, va_K.moved hW.alike hKc, hDc.weaken (fun _ _ _ _ => trivial), bx_N.warm hW hN⟩⟩ rfl rfl hl.1 rfl (lv_room (Nat.le_of_ble_eq_true rfl)) d_law_118 ⟨Nat.le_of_ble_eq_true rfl, Nat.le_of_ble_eq_true rfl⟩) hS (fun q _ h => hFc q h) hFc (fun r352 u t H1 locs ht hvm hw hB hz1 hk1 hS => ?_)
  subst hw
  obtain ⟨hP1, hK1, hD1⟩ := hB
  rw [ht] at hP1
  have hK1 := va_K.moved hvm.symm hK1
  obtain ⟨hP, hD⟩ := va_join (wr := [(q174, .inr (20, [.int 1, .int (-1), .ref e175, .int 0, .ref e176, .ref e177, .ref e178, .int 0, .int 0, .ref e179, .ref e180, .ref e181, .ref e182, .ref e183, .ref e184, .ref e185, .ref e186, .ref e187, .int 0, .int 0, .ref e188, .ref e189, .ref e190, .ref e191, .int 0, .int 0, .int 0, .ref e192, .int 0, .ref e193, .ref e194, .ref e195, .int 0, .ref e196, .ref e197, .ref e198, .ref e199, .ref e200, .int 0, .ref e201, .ref e202, .ref e203])), (e175, .inl (e204, 2000, .inl (fun _ => 0)))]) (w1 := []) hP hD [0, 1] [2, 3] rfl rfl (by decide) (by decide) hk1 hFc hP1 hD1
  have hK := (hK.sub (tys' := [(e204, .byte)]) [1] rfl).app hK1
  generalize H1 = H at hP hS ⊢
  have hP : va_P (dC, dI) classes [(q174, .inr (20, [.int 1, .int (-1), .ref e175, .int 0, .ref e176, .ref e177, .ref e178, .int 0, .int 0, .ref e179, .ref e180, .ref e181, .ref e182, .ref e183, .ref e184, .ref e185, .ref e186, .ref e187, .int 0, .int 0, .ref e188, .ref e189, .ref e190, .ref e191, .int 0, .int 0, .int 0, .ref e192, .int 0, .ref e193, .ref e194, .ref e195, .int 0, .ref e196, .ref e197, .ref e198, .ref e199, .ref e200, .int 0, .ref e201, .ref e202, .ref e203])), (e175, .inl (e204, 2000, .inl (fun _ => 0)))] H := hP
  have hD : va_D (fun q : Nat => s.heap.size ≤ q) [(q174, .inr (20, [.int 1, .int (-1), .ref e175, .int 0, .ref e176, .ref e177, .ref e178, .int 0, .int 0, .ref e179, .ref e180, .ref e181, .ref e182, .ref e183, .ref e184, .ref e185, .ref e186, .ref e187, .int 0, .int 0, .ref e188, .ref e189, .ref e190, .ref e191, .int 0, .int 0, .int 0, .ref e192, .int 0, .ref e193, .ref e194, .ref e195, .int 0, .ref e196, .ref e197, .ref e198, .ref e199, .ref e200, .int 0, .ref e201, .ref e202, .ref e203])), (e175, .inl (e204, 2000, .inl (fun _ => 0)))] := hD
  have hK : va_K (dC, dI) classes [(e204, .byte)] s := hK
  refine W.widen (k := 25515) (n := 1231676) (Nat.le_of_ble_eq_true rfl) (Nat.le_of_ble_eq_true rfl) ?_
  refine lv_aload_n hx hb d_law_121 rfl (lv_at hl 1 rfl) ?_
  refine lv_aload_n hx hb d_law_122 rfl (lv_at hl 3 rfl) ?_
  refine lv_iload_n hx hb d_law_123 rfl (lv_at hl 0 rfl) ?_
  refine lv_iconst (v := 1) hx hb d_law_124 (by decide) ?_
  refine lv_iadd hx hb d_law_125 ?_
  refine bx_top (y := 1) (by decide) ?_
  refine va_sld hx hb hX hbl hbA hS (vp_in_nI (n := 1) (by decide) (by decide)) d_law_126 ?_
  refine W.eq (g2 := F0 m 127 ls [.int (xs 1), .ref q174, .int 1]) rfl ?_
  refine lv_aload_n hx hb d_law_127 rfl (lv_at hl 3 rfl) ?_
  refine lv_iload_n hx hb d_law_128 rfl (lv_at hl 0 rfl) ?_
  refine lv_iconst (v := 2) hx hb d_law_129 (by decide) ?_
  refine lv_iadd hx hb d_law_130 ?_
  refine bx_top (y := 2) (by decide) ?_
  refine va_sld hx hb hX hbl hbA hS (vp_in_nI (n := 2) (by decide) (by decide)) d_law_131 ?_
  refine W.eq (g2 := F0 m 132 ls [.int (xs 2), .int (xs 1), .ref q174, .int 1]) rfl ?_
  refine lv_aload_n hx hb d_law_132 rfl (lv_at hl 3 rfl) ?_
  refine lv_iload_n hx hb d_law_133 rfl (lv_at hl 0 rfl) ?_
  refine lv_iconst (v := 3) hx hb d_law_134 (by decide) ?_
  refine lv_iadd hx hb d_law_135 ?_
  refine bx_top (y := 3) (by decide) ?_
  refine va_sld hx hb hX hbl hbA hS (vp_in_nI (n := 3) (by decide) (by decide)) d_law_136 ?_
  refine W.eq (g2 := F0 m 137 ls [.int (xs 3), .int (xs 2), .int (xs 1), .ref q174, .int 1]) rfl ?_
  refine lv_aload_n hx hb d_law_137 rfl (lv_at hl 3 rfl) ?_
  refine lv_iload_n hx hb d_law_138 rfl (lv_at hl 0 rfl) ?_
  refine lv_iconst (v := 4) hx hb d_law_139 (by decide) ?_
  refine lv_iadd hx hb d_law_140 ?_
  refine bx_top (y := 4) (by decide) ?_
  refine va_sld hx hb hX hbl hbA hS (vp_in_nI (n := 4) (by decide) (by decide)) d_law_141 ?_
  refine W.eq (g2 := F0 m 142 ls [.int (xs 4), .int (xs 3), .int (xs 2), .int (xs 1), .ref q174, .int 1]) rfl ?_
  refine lv_aload_n hx hb d_law_142 rfl (lv_at hl 3 rfl) ?_
  refine lv_iload_n hx hb d_law_143 rfl (lv_at hl 0 rfl) ?_
  refine lv_iconst (v := 5) hx hb d_law_144 (by decide) ?_
  refine lv_iadd hx hb d_law_145 ?_
  refine bx_top (y := 5) (by decide) ?_
  refine va_sld hx hb hX hbl hbA hS (vp_in_nI (n := 5) (by decide) (by decide)) d_law_146 ?_
  refine W.eq (g2 := F0 m 147 ls [.int (xs 5), .int (xs 4), .int (xs 3), .int (xs 2), .int (xs 1), .ref q174, .int 1]) rfl ?_
  have hPc := hP.sub (ws' := [(q174, .inr (20, [.int 1, .int (-1), .ref e175, .int 0, .ref e176, .ref e177, .ref e178, .int 0, .int 0, .ref e179, .ref e180, .ref e181, .ref e182, .ref e183, .ref e184, .ref e185, .ref e186, .ref e187, .int 0, .int 0, .ref e188, .ref e189, .ref e190, .ref e191, .int 0, .int 0, .int 0, .ref e192, .int 0, .ref e193, .ref e194, .ref e195, .int 0, .ref e196, .ref e197, .ref e198, .ref e199, .ref e200, .int 0, .ref e201, .ref e202, .ref e203])), (e175, .inl (e204, 2000, .inl (fun _ => 0)))]) [0, 1] rfl
  have hDc := hD.sub (ws' := [(q174, .inr (20, [.int 1, .int (-1), .ref e175, .int 0, .ref e176, .ref e177, .ref e178, .int 0, .int 0, .ref e179, .ref e180, .ref e181, .ref e182, .ref e183, .ref e184, .ref e185, .ref e186, .ref e187, .int 0, .int 0, .ref e188, .ref e189, .ref e190, .ref e191, .int 0, .int 0, .int 0, .ref e192, .int 0, .ref e193, .ref e194, .ref e195, .int 0, .ref e196, .ref e197, .ref e198, .ref e199, .ref e200, .int 0, .ref e201, .ref e202, .ref e203])), (e175, .inl (e204, 2000, .inl (fun _ => 0)))]) [0, 1] (by decide) rfl
  have hKc := hK.sub (tys' := [(e204, .byte)]) [0] rfl
  have hFc := va_free (wc := [(q174, .inr (20, [.int 1, .int (-1), .ref e175, .int 0, .ref e176, .ref e177, .ref e178, .int 0, .int 0, .ref e179, .ref e180, .ref e181, .ref e182, .ref e183, .ref e184, .ref e185, .ref e186, .ref e187, .int 0, .int 0, .ref e188, .ref e189, .ref e190, .ref e191, .int 0, .int 0, .int 0, .ref e192, .int 0, .ref e193, .ref e194, .ref e195, .int 0, .ref e196, .ref e197, .ref e198, .ref e199, .ref e200, .int 0, .ref e201, .ref e202, .ref e203])), (e175, .inl (e204, 2000, .inl (fun _ => 0)))]) hD hS hA [0, 1] rfl
  refine va_calli (va_runV (As := [.int (xs 1), .int (xs 2), .int (xs 3), .int (xs 4), .int (xs 5)]) (rest := [.int 1]) ⟨hx, hb, hml, hown, hts⟩ (c_Model_feed l dC dI H.size q174 e175 e176 e177 e178 e179 e180 e181 e182 e183 e184 e185 e186 e187 e188 e189 e190 e191 e192 e193 e194 e195 e196 e197 e198 e199 e200 e201 e202 e203 e204 (xs 1) (xs 2) (xs 3) (xs 4) (xs 5)) (cwV 5 hts (gG_goodVL q_2755 q_2756 (sel_Model_feed) q_14 q_2758) rfl rfl rfl (by decide +kernel) ⟨Nat.le_of_ble_eq_true rfl, Nat.le_of_ble_eq_true rfl⟩) ⟨fun a U g mk q => by obtain ⟨q0, q1, qP, qK, qD, qN⟩ := q; exact ⟨q0, q1, qP, va_K.moved (u := U) (U := U.calling g mk a) (Vm.Alike.refl U.vm) qK, qD, bx_N.same rfl qN⟩, va_recv hKc hPc (ci := 20) (q0 := 0) rfl rfl, fun U hU hW => ⟨rfl, by rw [hU], by rw [hU]; exact hPc, va_K.moved hW.alike hKc, hDc.weaken (fun _ _ _ _ => trivial), bx_N.warm hW hN⟩⟩ rfl rfl hl.1 rfl (lv_room (Nat.le_of_ble_eq_true rfl)) d_law_147 ⟨Nat.le_of_ble_eq_true rfl, Nat.le_of_ble_eq_true rfl⟩) hS (fun q _ h => hFc q h) hFc (fun r353 u t H1 locs ht hvm hw hB hz1 hk1 hS => ?_)
  subst hw
  obtain ⟨hP1, hK1, hD1⟩ := hB
  rw [ht] at hP1
  have hK1 := va_K.moved hvm.symm hK1
  obtain ⟨hP, hD⟩ := va_join (wr := []) (w1 := []) hP hD [0, 1] [] rfl rfl (by decide) (by decide) hk1 hFc hP1 hD1
  have hK := (hK.sub (tys' := []) [] rfl).app hK1
  generalize H1 = H at hP hS ⊢
  have hP : va_P (dC, dI) classes [] H := hP
  have hD : va_D (fun q : Nat => s.heap.size ≤ q) [] := hD
  have hK : va_K (dC, dI) classes [] s := hK
  refine W.widen (k := 25515) (n := 1231676) (Nat.le_of_ble_eq_true rfl) (Nat.le_of_ble_eq_true rfl) ?_
  refine lv_icmp_eq (tgt := 376) hx hb d_law_150 (by decide) (fun c_354 => ?_) (fun c_354 => absurd (by decide) c_354)
  refine lv_iinc (v := 6) (lv' := [(3, .int 6), (2, .ref q174), (1, .ref q1), (0, .ref b)]) hx hb d_law_376 hl (k := 0) rfl (by decide) (by decide) rfl (fun ls hl => ?_)
  refine lv_goto (tgt := 18) hx hb d_law_379 (by decide) ?_
  refine lv_iload_n hx hb d_law_18 rfl (lv_at hl 0 rfl) ?_
  refine lv_aload_n hx hb d_law_19 rfl (lv_at hl 3 rfl) ?_
  refine va_slen hx hb hX hbl hbA hS d_law_20 ?_
  refine bx_top (y := 6) (by decide) ?_
  refine lv_bipush (v := 6) hx hb d_law_21 (by decide) ?_
  refine lv_isub hx hb d_law_23 ?_
  refine bx_top (y := 0) (by decide) ?_
  refine lv_icmp_gt (tgt := 382) hx hb d_law_24 (by decide) (fun c_355 => ?_) (fun c_355 => absurd (by decide) c_355)
  refine lv_iconst (v := 1) hx hb d_law_382 (by decide) ?_
  refine va_forget (fun q hq => hS.2.2 q hq) ?_
  refine W.widen (k := 600000) (n := 7302249) (Nat.le_of_ble_eq_true rfl) (Nat.le_of_ble_eq_true rfl) ?_
  exact lw_ret hx hb hr hlocks d_law_383
set_option maxHeartbeats 4000000 in
set_option maxRecDepth 100000 in
theorem lwc_6 {p : Program} {e : Env} {s : State} {m : MethodId} {below : List Frame} {meth : Method} {c : Code} (l : Launch) {b : Nat} {xs : Nat → Int32} {dC : Nat → ClassId} {dI : Nat → Nat → Nat} (q1 : Nat) (e2 : Nat) (e3 : Nat) (e4 : Nat) (e5 : Nat) (e6 : Nat) (e7 : Nat) (e8 : Nat) (e9 : Nat) (e10 : Nat) (e169 : Nat) (e170 : Nat) (e171 : Nat) (e172 : Nat) (e173 : Nat) (q174 : Nat) (e175 : Nat) (e176 : Nat) (e177 : Nat) (e178 : Nat) (e179 : Nat) (e180 : Nat) (e181 : Nat) (e182 : Nat) (e183 : Nat) (e184 : Nat) (e185 : Nat) (e186 : Nat) (e187 : Nat) (e188 : Nat) (e189 : Nat) (e190 : Nat) (e191 : Nat) (e192 : Nat) (e193 : Nat) (e194 : Nat) (e195 : Nat) (e196 : Nat) (e197 : Nat) (e198 : Nat) (e199 : Nat) (e200 : Nat) (e201 : Nat) (e202 : Nat) (e203 : Nat) {H : Heap} {locs : List Loc} {ls : Array Slot} (hx : p.tables.exec = Jvm.exec) (hb : c.code = code) (hr : meth.sig.returnType = ret) (hml : c.maxLocals = 4) (hown : s.vm.findClass "SessionServerLaw" = some m.cls) (hts : ∀ w ∈ lw_tbl, w.before #[Value.ref b] s = true) (hX : va_X b 6 xs s s.heap) (hbl : b < s.heap.size) (hlocks : meth.locks = false) (hN : bx_N s) (hK : va_K (dC, dI) classes [] s) (hP : va_P (dC, dI) classes [(q1, .inr (12, [.ref e2, .ref e3, .ref e4, .ref e5, .ref e6, .ref e7, .ref e8, .ref e9, .ref e10, .int 0, .int 0, .int 1])), (e5, .inr (2, [.ref e169, .ref e170, .ref e171, .ref e172, .ref e173, .int 0, .int 0, .int 0, .int (-1), .int 0, .int 0, .int 0])), (q174, .inr (20, [.int 1, .int (-1), .ref e175, .int 0, .ref e176, .ref e177, .ref e178, .int 0, .int 0, .ref e179, .ref e180, .ref e181, .ref e182, .ref e183, .ref e184, .ref e185, .ref e186, .ref e187, .int 0, .int 0, .ref e188, .ref e189, .ref e190, .ref e191, .int 0, .int 0, .int 0, .ref e192, .int 0, .ref e193, .ref e194, .ref e195, .int 0, .ref e196, .ref e197, .ref e198, .ref e199, .ref e200, .int 0, .ref e201, .ref e202, .ref e203]))] H) (hD : va_D (fun q : Nat => s.heap.size ≤ q) [(q1, .inr (12, [.ref e2, .ref e3, .ref e4, .ref e5, .ref e6, .ref e7, .ref e8, .ref e9, .ref e10, .int 0, .int 0, .int 1])), (e5, .inr (2, [.ref e169, .ref e170, .ref e171, .ref e172, .ref e173, .int 0, .int 0, .int 0, .int (-1), .int 0, .int 0, .int 0])), (q174, .inr (20, [.int 1, .int (-1), .ref e175, .int 0, .ref e176, .ref e177, .ref e178, .int 0, .int 0, .ref e179, .ref e180, .ref e181, .ref e182, .ref e183, .ref e184, .ref e185, .ref e186, .ref e187, .int 0, .int 0, .ref e188, .ref e189, .ref e190, .ref e191, .int 0, .int 0, .int 0, .ref e192, .int 0, .ref e193, .ref e194, .ref e195, .int 0, .ref e196, .ref e197, .ref e198, .ref e199, .ref e200, .int 0, .ref e201, .ref e202, .ref e203]))]) (hS : va_S (fun q : Nat => s.heap.size ≤ q) s.heap H locs) (hl : lv_has ls 4 [(3, .int 0), (2, .ref q174), (1, .ref q1), (0, .ref b)]) : W p l e room_1 s m #[Value.ref b] below meth c H locs 25515 1231676 (lw_Z below #[Value.ref b] s) (F0 m 33 ls [.int (nI 6)]) := by
  have hA : ∀ q : Nat, s.heap.size ≤ q → (fun q : Nat => s.heap.size ≤ q) q := fun _ h => h
  have hbA : ¬ (fun q : Nat => s.heap.size ≤ q) b := Nat.not_le.mpr hbl
  refine lv_tableIn (tgt := 281) hx hb d_law_33 (by decide) (by decide) rfl (by decide) ?_
  refine lv_aload_n hx hb d_law_281 rfl (lv_at hl 2 rfl) ?_
  refine lv_aload_n hx hb d_law_282 rfl (lv_at hl 3 rfl) ?_
  refine lv_iload_n hx hb d_law_283 rfl (lv_at hl 0 rfl) ?_
  refine lv_iconst (v := 1) hx hb d_law_284 (by decide) ?_
  refine lv_iadd hx hb d_law_285 ?_
  refine bx_top (y := 1) (by decide) ?_
  refine va_sld hx hb hX hbl hbA hS (vp_in_nI (n := 1) (by decide) (by decide)) d_law_286 ?_
  refine W.eq (g2 := F0 m 287 ls [.int (xs 1), .ref q1]) rfl ?_
  have hPc := hP.sub (ws' := [(q1, .inr (12, [.ref e2, .ref e3, .ref e4, .ref e5, .ref e6, .ref e7, .ref e8, .ref e9, .ref e10, .int 0, .int 0, .int 1])), (e5, .inr (2, [.ref e169, .ref e170, .ref e171, .ref e172, .ref e173, .int 0, .int 0, .int 0, .int (-1), .int 0, .int 0, .int 0]))]) [0, 1] rfl
  have hDc := hD.sub (ws' := [(q1, .inr (12, [.ref e2, .ref e3, .ref e4, .ref e5, .ref e6, .ref e7, .ref e8, .ref e9, .ref e10, .int 0, .int 0, .int 1])), (e5, .inr (2, [.ref e169, .ref e170, .ref e171, .ref e172, .ref e173, .int 0, .int 0, .int 0, .int (-1), .int 0, .int 0, .int 0]))]) [0, 1] (by decide) rfl
  have hKc := hK.sub (tys' := []) [] rfl
  have hFc := va_free (wc := [(q1, .inr (12, [.ref e2, .ref e3, .ref e4, .ref e5, .ref e6, .ref e7, .ref e8, .ref e9, .ref e10, .int 0, .int 0, .int 1])), (e5, .inr (2, [.ref e169, .ref e170, .ref e171, .ref e172, .ref e173, .int 0, .int 0, .int 0, .int (-1), .int 0, .int 0, .int 0]))]) hD hS hA [0, 1] rfl
  refine va_calli (va_runV (As := [.int (xs 1)]) (rest := []) ⟨hx, hb, hml, hown, hts⟩ (c_Server_charge l dC dI H.size q1 e2 e3 e4 e5 e6 e7 e8 e9 e10 e169 e170 e171 e172 e173 (xs 1)) (cwV 1 hts (gG_goodVL q_1928 q_1929 (sel_Server_charge) q_1 q_1931) rfl rfl rfl (by decide +kernel) ⟨Nat.le_of_ble_eq_true rfl, Nat.le_of_ble_eq_true rfl⟩) ⟨fun a U g mk q => by obtain ⟨q0, q1, qP, qK, qD, qN⟩ := q; exact ⟨q0, q1, qP, va_K.moved (u := U) (U := U.calling g mk a) (Vm.Alike.refl U.vm) qK, qD, bx_N.same rfl qN⟩, va_recv hKc hPc (ci := 12) (q0 := 0) rfl rfl, fun U hU hW => ⟨rfl, by rw [hU], by rw [hU]; exact hPc, va_K.moved hW.alike hKc, hDc.weaken (fun _ _ _ _ => trivial), bx_N.warm hW hN⟩⟩ rfl rfl hl.1 rfl (lv_room (Nat.le_of_ble_eq_true rfl)) d_law_287 ⟨Nat.le_of_ble_eq_true rfl, Nat.le_of_ble_eq_true rfl⟩) hS (fun q _ h => hFc q h) hFc (fun r352 u t H1 locs ht hvm hw hB hz1 hk1 hS => ?_)
  subst hw
  obtain ⟨hP1, hK1, hD1⟩ := hB
  rw [ht] at hP1
  have hK1 := va_K.moved hvm.symm hK1
  obtain ⟨hP, hD⟩ := va_join (wr := [(q174, .inr (20, [.int 1, .int (-1), .ref e175, .int 0, .ref e176, .ref e177, .ref e178, .int 0, .int 0, .ref e179, .ref e180, .ref e181, .ref e182, .ref e183, .ref e184, .ref e185, .ref e186, .ref e187, .int 0, .int 0, .ref e188, .ref e189, .ref e190, .ref e191, .int 0, .int 0, .int 0, .ref e192, .int 0, .ref e193, .ref e194, .ref e195, .int 0, .ref e196, .ref e197, .ref e198, .ref e199, .ref e200, .int 0, .ref e201, .ref e202, .ref e203]))]) (w1 := []) hP hD [0, 1] [2] rfl rfl (by decide) (by decide) hk1 hFc hP1 hD1
  have hK := (hK.sub (tys' := []) [] rfl).app hK1
  generalize H1 = H at hP hS ⊢
  have hP : va_P (dC, dI) classes [(q174, .inr (20, [.int 1, .int (-1), .ref e175, .int 0, .ref e176, .ref e177, .ref e178, .int 0, .int 0, .ref e179, .ref e180, .ref e181, .ref e182, .ref e183, .ref e184, .ref e185, .ref e186, .ref e187, .int 0, .int 0, .ref e188, .ref e189, .ref e190, .ref e191, .int 0, .int 0, .int 0, .ref e192, .int 0, .ref e193, .ref e194, .ref e195, .int 0, .ref e196, .ref e197, .ref e198, .ref e199, .ref e200, .int 0, .ref e201, .ref e202, .ref e203]))] H := hP
  have hD : va_D (fun q : Nat => s.heap.size ≤ q) [(q174, .inr (20, [.int 1, .int (-1), .ref e175, .int 0, .ref e176, .ref e177, .ref e178, .int 0, .int 0, .ref e179, .ref e180, .ref e181, .ref e182, .ref e183, .ref e184, .ref e185, .ref e186, .ref e187, .int 0, .int 0, .ref e188, .ref e189, .ref e190, .ref e191, .int 0, .int 0, .int 0, .ref e192, .int 0, .ref e193, .ref e194, .ref e195, .int 0, .ref e196, .ref e197, .ref e198, .ref e199, .ref e200, .int 0, .ref e201, .ref e202, .ref e203]))] := hD
  have hK : va_K (dC, dI) classes [] s := hK
  refine W.widen (k := 25515) (n := 1231676) (Nat.le_of_ble_eq_true rfl) (Nat.le_of_ble_eq_true rfl) ?_
  refine lv_aload_n hx hb d_law_290 rfl (lv_at hl 1 rfl) ?_
  refine lv_aload_n hx hb d_law_291 rfl (lv_at hl 3 rfl) ?_
  refine lv_iload_n hx hb d_law_292 rfl (lv_at hl 0 rfl) ?_
  refine lv_iconst (v := 1) hx hb d_law_293 (by decide) ?_
  refine lv_iadd hx hb d_law_294 ?_
  refine bx_top (y := 1) (by decide) ?_
  refine va_sld hx hb hX hbl hbA hS (vp_in_nI (n := 1) (by decide) (by decide)) d_law_295 ?_
  refine W.eq (g2 := F0 m 296 ls [.int (xs 1), .ref q174, .int (bx_chg (xs 1))]) rfl ?_
  have hPc := hP.sub (ws' := [(q174, .inr (20, [.int 1, .int (-1), .ref e175, .int 0, .ref e176, .ref e177, .ref e178, .int 0, .int 0, .ref e179, .ref e180, .ref e181, .ref e182, .ref e183, .ref e184, .ref e185, .ref e186, .ref e187, .int 0, .int 0, .ref e188, .ref e189, .ref e190, .ref e191, .int 0, .int 0, .int 0, .ref e192, .int 0, .ref e193, .ref e194, .ref e195, .int 0, .ref e196, .ref e197, .ref e198, .ref e199, .ref e200, .int 0, .ref e201, .ref e202, .ref e203]))]) [0] rfl
  have hDc := hD.sub (ws' := [(q174, .inr (20, [.int 1, .int (-1), .ref e175, .int 0, .ref e176, .ref e177, .ref e178, .int 0, .int 0, .ref e179, .ref e180, .ref e181, .ref e182, .ref e183, .ref e184, .ref e185, .ref e186, .ref e187, .int 0, .int 0, .ref e188, .ref e189, .ref e190, .ref e191, .int 0, .int 0, .int 0, .ref e192, .int 0, .ref e193, .ref e194, .ref e195, .int 0, .ref e196, .ref e197, .ref e198, .ref e199, .ref e200, .int 0, .ref e201, .ref e202, .ref e203]))]) [0] (by decide) rfl
  have hKc := hK.sub (tys' := []) [] rfl
  have hFc := va_free (wc := [(q174, .inr (20, [.int 1, .int (-1), .ref e175, .int 0, .ref e176, .ref e177, .ref e178, .int 0, .int 0, .ref e179, .ref e180, .ref e181, .ref e182, .ref e183, .ref e184, .ref e185, .ref e186, .ref e187, .int 0, .int 0, .ref e188, .ref e189, .ref e190, .ref e191, .int 0, .int 0, .int 0, .ref e192, .int 0, .ref e193, .ref e194, .ref e195, .int 0, .ref e196, .ref e197, .ref e198, .ref e199, .ref e200, .int 0, .ref e201, .ref e202, .ref e203]))]) hD hS hA [0] rfl
  refine va_calli (va_runV (As := [.int (xs 1)]) (rest := [.int (bx_chg (xs 1))]) ⟨hx, hb, hml, hown, hts⟩ (c_Model_charge l dC dI H.size q174 e175 e176 e177 e178 e179 e180 e181 e182 e183 e184 e185 e186 e187 e188 e189 e190 e191 e192 e193 e194 e195 e196 e197 e198 e199 e200 e201 e202 e203 (xs 1)) (cwV 1 hts (gG_goodVL q_3871 q_3872 (sel_Model_charge) q_14 q_3874) rfl rfl rfl (by decide +kernel) ⟨Nat.le_of_ble_eq_true rfl, Nat.le_of_ble_eq_true rfl⟩) ⟨fun a U g mk q => by obtain ⟨q0, q1, qP, qK, qD, qN⟩ := q; exact ⟨q0, q1, qP, va_K.moved (u := U) (U := U.calling g mk a) (Vm.Alike.refl U.vm) qK, qD, bx_N.same rfl qN⟩, va_recv hKc hPc (ci := 20) (q0 := 0) rfl rfl, fun U hU hW => ⟨rfl, by rw [hU], by rw [hU]; exact hPc, va_K.moved hW.alike hKc, hDc.weaken (fun _ _ _ _ => trivial), bx_N.warm hW hN⟩⟩ rfl rfl hl.1 rfl (lv_room (Nat.le_of_ble_eq_true rfl)) d_law_296 ⟨Nat.le_of_ble_eq_true rfl, Nat.le_of_ble_eq_true rfl⟩) hS (fun q _ h => hFc q h) hFc (fun r353 u t H1 locs ht hvm hw hB hz1 hk1 hS => ?_)
  subst hw
  obtain ⟨hP1, hK1, hD1⟩ := hB
  rw [ht] at hP1
  have hK1 := va_K.moved hvm.symm hK1
  obtain ⟨hP, hD⟩ := va_join (wr := []) (w1 := []) hP hD [0] [] rfl rfl (by decide) (by decide) hk1 hFc hP1 hD1
  have hK := (hK.sub (tys' := []) [] rfl).app hK1
  generalize H1 = H at hP hS ⊢
  have hP : va_P (dC, dI) classes [] H := hP
  have hD : va_D (fun q : Nat => s.heap.size ≤ q) [] := hD
  have hK : va_K (dC, dI) classes [] s := hK
  refine W.widen (k := 25515) (n := 1231676) (Nat.le_of_ble_eq_true rfl) (Nat.le_of_ble_eq_true rfl) ?_
  refine lv_icmp_eq (tgt := 376) hx hb d_law_299 (by decide) (fun c_354 => ?_) (fun c_354 => absurd rfl c_354)
  refine lv_iinc (v := 6) (lv' := [(3, .int 6), (2, .ref q174), (1, .ref q1), (0, .ref b)]) hx hb d_law_376 hl (k := 0) rfl (by decide) (by decide) rfl (fun ls hl => ?_)
  refine lv_goto (tgt := 18) hx hb d_law_379 (by decide) ?_
  refine lv_iload_n hx hb d_law_18 rfl (lv_at hl 0 rfl) ?_
  refine lv_aload_n hx hb d_law_19 rfl (lv_at hl 3 rfl) ?_
  refine va_slen hx hb hX hbl hbA hS d_law_20 ?_
  refine bx_top (y := 6) (by decide) ?_
  refine lv_bipush (v := 6) hx hb d_law_21 (by decide) ?_
  refine lv_isub hx hb d_law_23 ?_
  refine bx_top (y := 0) (by decide) ?_
  refine lv_icmp_gt (tgt := 382) hx hb d_law_24 (by decide) (fun c_355 => ?_) (fun c_355 => absurd (by decide) c_355)
  refine lv_iconst (v := 1) hx hb d_law_382 (by decide) ?_
  refine va_forget (fun q hq => hS.2.2 q hq) ?_
  refine W.widen (k := 600000) (n := 7302249) (Nat.le_of_ble_eq_true rfl) (Nat.le_of_ble_eq_true rfl) ?_
  exact lw_ret hx hb hr hlocks d_law_383
set_option maxHeartbeats 4000000 in
set_option maxRecDepth 100000 in
theorem lwc_7 {p : Program} {e : Env} {s : State} {m : MethodId} {below : List Frame} {meth : Method} {c : Code} (l : Launch) {b : Nat} {xs : Nat → Int32} {dC : Nat → ClassId} {dI : Nat → Nat → Nat} (q1 : Nat) (e2 : Nat) (e3 : Nat) (e4 : Nat) (e5 : Nat) (e6 : Nat) (e7 : Nat) (e8 : Nat) (e9 : Nat) (e10 : Nat) (q174 : Nat) (e175 : Nat) (e176 : Nat) (e177 : Nat) (e178 : Nat) (e179 : Nat) (e180 : Nat) (e181 : Nat) (e182 : Nat) (e183 : Nat) (e184 : Nat) (e185 : Nat) (e186 : Nat) (e187 : Nat) (e188 : Nat) (e189 : Nat) (e190 : Nat) (e191 : Nat) (e192 : Nat) (e193 : Nat) (e194 : Nat) (e195 : Nat) (e196 : Nat) (e197 : Nat) (e198 : Nat) (e199 : Nat) (e200 : Nat) (e201 : Nat) (e202 : Nat) (e203 : Nat) {H : Heap} {locs : List Loc} {ls : Array Slot} (hx : p.tables.exec = Jvm.exec) (hb : c.code = code) (hr : meth.sig.returnType = ret) (hml : c.maxLocals = 4) (hown : s.vm.findClass "SessionServerLaw" = some m.cls) (hts : ∀ w ∈ lw_tbl, w.before #[Value.ref b] s = true) (hX : va_X b 6 xs s s.heap) (hbl : b < s.heap.size) (hlocks : meth.locks = false) (hN : bx_N s) (hK : va_K (dC, dI) classes [] s) (hP : va_P (dC, dI) classes [(q1, .inr (12, [.ref e2, .ref e3, .ref e4, .ref e5, .ref e6, .ref e7, .ref e8, .ref e9, .ref e10, .int 0, .int 0, .int 1])), (q174, .inr (20, [.int 1, .int (-1), .ref e175, .int 0, .ref e176, .ref e177, .ref e178, .int 0, .int 0, .ref e179, .ref e180, .ref e181, .ref e182, .ref e183, .ref e184, .ref e185, .ref e186, .ref e187, .int 0, .int 0, .ref e188, .ref e189, .ref e190, .ref e191, .int 0, .int 0, .int 0, .ref e192, .int 0, .ref e193, .ref e194, .ref e195, .int 0, .ref e196, .ref e197, .ref e198, .ref e199, .ref e200, .int 0, .ref e201, .ref e202, .ref e203]))] H) (hD : va_D (fun q : Nat => s.heap.size ≤ q) [(q1, .inr (12, [.ref e2, .ref e3, .ref e4, .ref e5, .ref e6, .ref e7, .ref e8, .ref e9, .ref e10, .int 0, .int 0, .int 1])), (q174, .inr (20, [.int 1, .int (-1), .ref e175, .int 0, .ref e176, .ref e177, .ref e178, .int 0, .int 0, .ref e179, .ref e180, .ref e181, .ref e182, .ref e183, .ref e184, .ref e185, .ref e186, .ref e187, .int 0, .int 0, .ref e188, .ref e189, .ref e190, .ref e191, .int 0, .int 0, .int 0, .ref e192, .int 0, .ref e193, .ref e194, .ref e195, .int 0, .ref e196, .ref e197, .ref e198, .ref e199, .ref e200, .int 0, .ref e201, .ref e202, .ref e203]))]) (hS : va_S (fun q : Nat => s.heap.size ≤ q) s.heap H locs) (hl : lv_has ls 4 [(3, .int 0), (2, .ref q174), (1, .ref q1), (0, .ref b)]) : W p l e room_1 s m #[Value.ref b] below meth c H locs 25515 1231676 (lw_Z below #[Value.ref b] s) (F0 m 33 ls [.int (nI 7)]) := by
  have hA : ∀ q : Nat, s.heap.size ≤ q → (fun q : Nat => s.heap.size ≤ q) q := fun _ h => h
  have hbA : ¬ (fun q : Nat => s.heap.size ≤ q) b := Nat.not_le.mpr hbl
  refine lv_tableIn (tgt := 304) hx hb d_law_33 (by decide) (by decide) rfl (by decide) ?_
  refine lv_aload_n hx hb d_law_304 rfl (lv_at hl 2 rfl) ?_
  have hPc := hP.sub (ws' := [(q1, .inr (12, [.ref e2, .ref e3, .ref e4, .ref e5, .ref e6, .ref e7, .ref e8, .ref e9, .ref e10, .int 0, .int 0, .int 1]))]) [0] rfl
  have hDc := hD.sub (ws' := [(q1, .inr (12, [.ref e2, .ref e3, .ref e4, .ref e5, .ref e6, .ref e7, .ref e8, .ref e9, .ref e10, .int 0, .int 0, .int 1]))]) [0] (by decide) rfl
  have hKc := hK.sub (tys' := []) [] rfl
  have hFc := va_free (wc := [(q1, .inr (12, [.ref e2, .ref e3, .ref e4, .ref e5, .ref e6, .ref e7, .ref e8, .ref e9, .ref e10, .int 0, .int 0, .int 1]))]) hD hS hA [0] rfl
  refine va_calli (va_runV (As := []) (rest := []) ⟨hx, hb, hml, hown, hts⟩ (c_Server_start l dC dI H.size q1 e2 e3 e4 e5 e6 e7 e8 e9 e10) (cwV 0 hts (gG_goodVL q_1932 q_1933 (sel_Server_start) q_1 q_1935) rfl rfl rfl (by decide +kernel) ⟨Nat.le_of_ble_eq_true rfl, Nat.le_of_ble_eq_true rfl⟩) ⟨fun a U g mk q => by obtain ⟨q0, q1, qP, qK, qD, qN⟩ := q; exact ⟨q0, q1, qP, va_K.moved (u := U) (U := U.calling g mk a) (Vm.Alike.refl U.vm) qK, qD, bx_N.same rfl qN⟩, va_recv hKc hPc (ci := 12) (q0 := 0) rfl rfl, fun U hU hW => ⟨rfl, by rw [hU], by rw [hU]; exact hPc, va_K.moved hW.alike hKc, hDc.weaken (fun _ _ _ _ => trivial), bx_N.warm hW hN⟩⟩ rfl rfl hl.1 rfl (lv_room (Nat.le_of_ble_eq_true rfl)) d_law_305 ⟨Nat.le_of_ble_eq_true rfl, Nat.le_of_ble_eq_true rfl⟩) hS (fun q _ h => hFc q h) hFc (fun r352 u t H1 locs ht hvm hw hB hz1 hk1 hS => ?_)
  subst hw
  obtain ⟨hP1, hK1, hD1⟩ := hB
  rw [ht] at hP1
  have hK1 := va_K.moved hvm.symm hK1
  obtain ⟨hP, hD⟩ := va_join (wr := [(q174, .inr (20, [.int 1, .int (-1), .ref e175, .int 0, .ref e176, .ref e177, .ref e178, .int 0, .int 0, .ref e179, .ref e180, .ref e181, .ref e182, .ref e183, .ref e184, .ref e185, .ref e186, .ref e187, .int 0, .int 0, .ref e188, .ref e189, .ref e190, .ref e191, .int 0, .int 0, .int 0, .ref e192, .int 0, .ref e193, .ref e194, .ref e195, .int 0, .ref e196, .ref e197, .ref e198, .ref e199, .ref e200, .int 0, .ref e201, .ref e202, .ref e203]))]) (w1 := []) hP hD [0] [1] rfl rfl (by decide) (by decide) hk1 hFc hP1 hD1
  have hK := (hK.sub (tys' := []) [] rfl).app hK1
  generalize H1 = H at hP hS ⊢
  have hP : va_P (dC, dI) classes [(q174, .inr (20, [.int 1, .int (-1), .ref e175, .int 0, .ref e176, .ref e177, .ref e178, .int 0, .int 0, .ref e179, .ref e180, .ref e181, .ref e182, .ref e183, .ref e184, .ref e185, .ref e186, .ref e187, .int 0, .int 0, .ref e188, .ref e189, .ref e190, .ref e191, .int 0, .int 0, .int 0, .ref e192, .int 0, .ref e193, .ref e194, .ref e195, .int 0, .ref e196, .ref e197, .ref e198, .ref e199, .ref e200, .int 0, .ref e201, .ref e202, .ref e203]))] H := hP
  have hD : va_D (fun q : Nat => s.heap.size ≤ q) [(q174, .inr (20, [.int 1, .int (-1), .ref e175, .int 0, .ref e176, .ref e177, .ref e178, .int 0, .int 0, .ref e179, .ref e180, .ref e181, .ref e182, .ref e183, .ref e184, .ref e185, .ref e186, .ref e187, .int 0, .int 0, .ref e188, .ref e189, .ref e190, .ref e191, .int 0, .int 0, .int 0, .ref e192, .int 0, .ref e193, .ref e194, .ref e195, .int 0, .ref e196, .ref e197, .ref e198, .ref e199, .ref e200, .int 0, .ref e201, .ref e202, .ref e203]))] := hD
  have hK : va_K (dC, dI) classes [] s := hK
  refine W.widen (k := 25515) (n := 1231676) (Nat.le_of_ble_eq_true rfl) (Nat.le_of_ble_eq_true rfl) ?_
  refine lv_aload_n hx hb d_law_308 rfl (lv_at hl 1 rfl) ?_
  have hPc := hP.sub (ws' := [(q174, .inr (20, [.int 1, .int (-1), .ref e175, .int 0, .ref e176, .ref e177, .ref e178, .int 0, .int 0, .ref e179, .ref e180, .ref e181, .ref e182, .ref e183, .ref e184, .ref e185, .ref e186, .ref e187, .int 0, .int 0, .ref e188, .ref e189, .ref e190, .ref e191, .int 0, .int 0, .int 0, .ref e192, .int 0, .ref e193, .ref e194, .ref e195, .int 0, .ref e196, .ref e197, .ref e198, .ref e199, .ref e200, .int 0, .ref e201, .ref e202, .ref e203]))]) [0] rfl
  have hDc := hD.sub (ws' := [(q174, .inr (20, [.int 1, .int (-1), .ref e175, .int 0, .ref e176, .ref e177, .ref e178, .int 0, .int 0, .ref e179, .ref e180, .ref e181, .ref e182, .ref e183, .ref e184, .ref e185, .ref e186, .ref e187, .int 0, .int 0, .ref e188, .ref e189, .ref e190, .ref e191, .int 0, .int 0, .int 0, .ref e192, .int 0, .ref e193, .ref e194, .ref e195, .int 0, .ref e196, .ref e197, .ref e198, .ref e199, .ref e200, .int 0, .ref e201, .ref e202, .ref e203]))]) [0] (by decide) rfl
  have hKc := hK.sub (tys' := []) [] rfl
  have hFc := va_free (wc := [(q174, .inr (20, [.int 1, .int (-1), .ref e175, .int 0, .ref e176, .ref e177, .ref e178, .int 0, .int 0, .ref e179, .ref e180, .ref e181, .ref e182, .ref e183, .ref e184, .ref e185, .ref e186, .ref e187, .int 0, .int 0, .ref e188, .ref e189, .ref e190, .ref e191, .int 0, .int 0, .int 0, .ref e192, .int 0, .ref e193, .ref e194, .ref e195, .int 0, .ref e196, .ref e197, .ref e198, .ref e199, .ref e200, .int 0, .ref e201, .ref e202, .ref e203]))]) hD hS hA [0] rfl
  refine va_calli (va_runV (As := []) (rest := [.int 0]) ⟨hx, hb, hml, hown, hts⟩ (c_Model_start l dC dI H.size q174 e175 e176 e177 e178 e179 e180 e181 e182 e183 e184 e185 e186 e187 e188 e189 e190 e191 e192 e193 e194 e195 e196 e197 e198 e199 e200 e201 e202 e203) (cwV 0 hts (gG_goodVL q_3875 q_3876 (sel_Model_start) q_14 q_3878) rfl rfl rfl (by decide +kernel) ⟨Nat.le_of_ble_eq_true rfl, Nat.le_of_ble_eq_true rfl⟩) ⟨fun a U g mk q => by obtain ⟨q0, q1, qP, qK, qD, qN⟩ := q; exact ⟨q0, q1, qP, va_K.moved (u := U) (U := U.calling g mk a) (Vm.Alike.refl U.vm) qK, qD, bx_N.same rfl qN⟩, va_recv hKc hPc (ci := 20) (q0 := 0) rfl rfl, fun U hU hW => ⟨rfl, by rw [hU], by rw [hU]; exact hPc, va_K.moved hW.alike hKc, hDc.weaken (fun _ _ _ _ => trivial), bx_N.warm hW hN⟩⟩ rfl rfl hl.1 rfl (lv_room (Nat.le_of_ble_eq_true rfl)) d_law_309 ⟨Nat.le_of_ble_eq_true rfl, Nat.le_of_ble_eq_true rfl⟩) hS (fun q _ h => hFc q h) hFc (fun r353 u t H1 locs ht hvm hw hB hz1 hk1 hS => ?_)
  subst hw
  obtain ⟨hP1, hK1, hD1⟩ := hB
  rw [ht] at hP1
  have hK1 := va_K.moved hvm.symm hK1
  obtain ⟨hP, hD⟩ := va_join (wr := []) (w1 := []) hP hD [0] [] rfl rfl (by decide) (by decide) hk1 hFc hP1 hD1
  have hK := (hK.sub (tys' := []) [] rfl).app hK1
  generalize H1 = H at hP hS ⊢
  have hP : va_P (dC, dI) classes [] H := hP
  have hD : va_D (fun q : Nat => s.heap.size ≤ q) [] := hD
  have hK : va_K (dC, dI) classes [] s := hK
  refine W.widen (k := 25515) (n := 1231676) (Nat.le_of_ble_eq_true rfl) (Nat.le_of_ble_eq_true rfl) ?_
  refine lv_icmp_eq (tgt := 376) hx hb d_law_312 (by decide) (fun c_354 => ?_) (fun c_354 => absurd (by decide) c_354)
  refine lv_iinc (v := 6) (lv' := [(3, .int 6), (2, .ref q174), (1, .ref q1), (0, .ref b)]) hx hb d_law_376 hl (k := 0) rfl (by decide) (by decide) rfl (fun ls hl => ?_)
  refine lv_goto (tgt := 18) hx hb d_law_379 (by decide) ?_
  refine lv_iload_n hx hb d_law_18 rfl (lv_at hl 0 rfl) ?_
  refine lv_aload_n hx hb d_law_19 rfl (lv_at hl 3 rfl) ?_
  refine va_slen hx hb hX hbl hbA hS d_law_20 ?_
  refine bx_top (y := 6) (by decide) ?_
  refine lv_bipush (v := 6) hx hb d_law_21 (by decide) ?_
  refine lv_isub hx hb d_law_23 ?_
  refine bx_top (y := 0) (by decide) ?_
  refine lv_icmp_gt (tgt := 382) hx hb d_law_24 (by decide) (fun c_355 => ?_) (fun c_355 => absurd (by decide) c_355)
  refine lv_iconst (v := 1) hx hb d_law_382 (by decide) ?_
  refine va_forget (fun q hq => hS.2.2 q hq) ?_
  refine W.widen (k := 600000) (n := 7302249) (Nat.le_of_ble_eq_true rfl) (Nat.le_of_ble_eq_true rfl) ?_
  exact lw_ret hx hb hr hlocks d_law_383
set_option maxHeartbeats 4000000 in
set_option maxRecDepth 100000 in
theorem lwc_9 {p : Program} {e : Env} {s : State} {m : MethodId} {below : List Frame} {meth : Method} {c : Code} (l : Launch) {b : Nat} {xs : Nat → Int32} {dC : Nat → ClassId} {dI : Nat → Nat → Nat} (q1 : Nat) (e2 : Nat) (e3 : Nat) (e4 : Nat) (e5 : Nat) (e6 : Nat) (e7 : Nat) (e8 : Nat) (e9 : Nat) (e10 : Nat) (q174 : Nat) (e175 : Nat) (e176 : Nat) (e177 : Nat) (e178 : Nat) (e179 : Nat) (e180 : Nat) (e181 : Nat) (e182 : Nat) (e183 : Nat) (e184 : Nat) (e185 : Nat) (e186 : Nat) (e187 : Nat) (e188 : Nat) (e189 : Nat) (e190 : Nat) (e191 : Nat) (e192 : Nat) (e193 : Nat) (e194 : Nat) (e195 : Nat) (e196 : Nat) (e197 : Nat) (e198 : Nat) (e199 : Nat) (e200 : Nat) (e201 : Nat) (e202 : Nat) (e203 : Nat) (e338 : Nat) (e339 : Nat) (e340 : Nat) (e341 : Nat) (e342 : Nat) (e343 : Nat) (e344 : Nat) (e345 : Nat) (e346 : Nat) (e347 : Nat) (e348 : Nat) (e349 : Nat) (e350 : Nat) {H : Heap} {locs : List Loc} {ls : Array Slot} (hx : p.tables.exec = Jvm.exec) (hb : c.code = code) (hr : meth.sig.returnType = ret) (hml : c.maxLocals = 4) (hown : s.vm.findClass "SessionServerLaw" = some m.cls) (hts : ∀ w ∈ lw_tbl, w.before #[Value.ref b] s = true) (hX : va_X b 6 xs s s.heap) (hbl : b < s.heap.size) (hlocks : meth.locks = false) (hN : bx_N s) (hK : va_K (dC, dI) classes [] s) (hP : va_P (dC, dI) classes [(q1, .inr (12, [.ref e2, .ref e3, .ref e4, .ref e5, .ref e6, .ref e7, .ref e8, .ref e9, .ref e10, .int 0, .int 0, .int 1])), (q174, .inr (20, [.int 1, .int (-1), .ref e175, .int 0, .ref e176, .ref e177, .ref e178, .int 0, .int 0, .ref e179, .ref e180, .ref e181, .ref e182, .ref e183, .ref e184, .ref e185, .ref e186, .ref e187, .int 0, .int 0, .ref e188, .ref e189, .ref e190, .ref e191, .int 0, .int 0, .int 0, .ref e192, .int 0, .ref e193, .ref e194, .ref e195, .int 0, .ref e196, .ref e197, .ref e198, .ref e199, .ref e200, .int 0, .ref e201, .ref e202, .ref e203])), (e178, .inr (16, [.int 0, .int 0, .int 0, .ref e338, .ref e339, .ref e340, .ref e341, .ref e342, .ref e343, .ref e344, .ref e345, .ref e346, .ref e347, .ref e348, .ref e349, .ref e350]))] H) (hD : va_D (fun q : Nat => s.heap.size ≤ q) [(q1, .inr (12, [.ref e2, .ref e3, .ref e4, .ref e5, .ref e6, .ref e7, .ref e8, .ref e9, .ref e10, .int 0, .int 0, .int 1])), (q174, .inr (20, [.int 1, .int (-1), .ref e175, .int 0, .ref e176, .ref e177, .ref e178, .int 0, .int 0, .ref e179, .ref e180, .ref e181, .ref e182, .ref e183, .ref e184, .ref e185, .ref e186, .ref e187, .int 0, .int 0, .ref e188, .ref e189, .ref e190, .ref e191, .int 0, .int 0, .int 0, .ref e192, .int 0, .ref e193, .ref e194, .ref e195, .int 0, .ref e196, .ref e197, .ref e198, .ref e199, .ref e200, .int 0, .ref e201, .ref e202, .ref e203])), (e178, .inr (16, [.int 0, .int 0, .int 0, .ref e338, .ref e339, .ref e340, .ref e341, .ref e342, .ref e343, .ref e344, .ref e345, .ref e346, .ref e347, .ref e348, .ref e349, .ref e350]))]) (hS : va_S (fun q : Nat => s.heap.size ≤ q) s.heap H locs) (hl : lv_has ls 4 [(3, .int 0), (2, .ref q174), (1, .ref q1), (0, .ref b)]) : W p l e room_1 s m #[Value.ref b] below meth c H locs 25515 1231676 (lw_Z below #[Value.ref b] s) (F0 m 33 ls [.int (nI 9)]) := by
  have hA : ∀ q : Nat, s.heap.size ≤ q → (fun q : Nat => s.heap.size ≤ q) q := fun _ h => h
  have hbA : ¬ (fun q : Nat => s.heap.size ≤ q) b := Nat.not_le.mpr hbl
  refine lv_tableIn (tgt := 340) hx hb d_law_33 (by decide) (by decide) rfl (by decide) ?_
  refine lv_aload_n hx hb d_law_340 rfl (lv_at hl 2 rfl) ?_
  have hPc := hP.sub (ws' := [(q1, .inr (12, [.ref e2, .ref e3, .ref e4, .ref e5, .ref e6, .ref e7, .ref e8, .ref e9, .ref e10, .int 0, .int 0, .int 1]))]) [0] rfl
  have hDc := hD.sub (ws' := [(q1, .inr (12, [.ref e2, .ref e3, .ref e4, .ref e5, .ref e6, .ref e7, .ref e8, .ref e9, .ref e10, .int 0, .int 0, .int 1]))]) [0] (by decide) rfl
  have hKc := hK.sub (tys' := []) [] rfl
  have hFc := va_free (wc := [(q1, .inr (12, [.ref e2, .ref e3, .ref e4, .ref e5, .ref e6, .ref e7, .ref e8, .ref e9, .ref e10, .int 0, .int 0, .int 1]))]) hD hS hA [0] rfl
  refine va_calli (va_runV (As := []) (rest := []) ⟨hx, hb, hml, hown, hts⟩ (c_Server_rings l dC dI H.size q1 e2 e3 e4 e5 e6 e7 e8 e9 e10) (cwV 0 hts (gG_goodVL q_1960 q_1961 (sel_Server_rings) q_1 q_1963) rfl rfl rfl (by decide +kernel) ⟨Nat.le_of_ble_eq_true rfl, Nat.le_of_ble_eq_true rfl⟩) ⟨fun a U g mk q => by obtain ⟨q0, q1, qP, qK, qD, qN⟩ := q; exact ⟨q0, q1, qP, va_K.moved (u := U) (U := U.calling g mk a) (Vm.Alike.refl U.vm) qK, qD, bx_N.same rfl qN⟩, va_recv hKc hPc (ci := 12) (q0 := 0) rfl rfl, fun U hU hW => ⟨rfl, by rw [hU], by rw [hU]; exact hPc, va_K.moved hW.alike hKc, hDc.weaken (fun _ _ _ _ => trivial), bx_N.warm hW hN⟩⟩ rfl rfl hl.1 rfl (lv_room (Nat.le_of_ble_eq_true rfl)) d_law_341 ⟨Nat.le_of_ble_eq_true rfl, Nat.le_of_ble_eq_true rfl⟩) hS (fun q _ h => hFc q h) hFc (fun r352 u t H1 locs ht hvm hw hB hz1 hk1 hS => ?_)
  subst hw
  obtain ⟨hP1, hK1, hD1⟩ := hB
  rw [ht] at hP1
  have hK1 := va_K.moved hvm.symm hK1
  obtain ⟨hP, hD⟩ := va_join (wr := [(q174, .inr (20, [.int 1, .int (-1), .ref e175, .int 0, .ref e176, .ref e177, .ref e178, .int 0, .int 0, .ref e179, .ref e180, .ref e181, .ref e182, .ref e183, .ref e184, .ref e185, .ref e186, .ref e187, .int 0, .int 0, .ref e188, .ref e189, .ref e190, .ref e191, .int 0, .int 0, .int 0, .ref e192, .int 0, .ref e193, .ref e194, .ref e195, .int 0, .ref e196, .ref e197, .ref e198, .ref e199, .ref e200, .int 0, .ref e201, .ref e202, .ref e203])), (e178, .inr (16, [.int 0, .int 0, .int 0, .ref e338, .ref e339, .ref e340, .ref e341, .ref e342, .ref e343, .ref e344, .ref e345, .ref e346, .ref e347, .ref e348, .ref e349, .ref e350]))]) (w1 := []) hP hD [0] [1, 2] rfl rfl (by decide) (by decide) hk1 hFc hP1 hD1
  have hK := (hK.sub (tys' := []) [] rfl).app hK1
  generalize H1 = H at hP hS ⊢
  have hP : va_P (dC, dI) classes [(q174, .inr (20, [.int 1, .int (-1), .ref e175, .int 0, .ref e176, .ref e177, .ref e178, .int 0, .int 0, .ref e179, .ref e180, .ref e181, .ref e182, .ref e183, .ref e184, .ref e185, .ref e186, .ref e187, .int 0, .int 0, .ref e188, .ref e189, .ref e190, .ref e191, .int 0, .int 0, .int 0, .ref e192, .int 0, .ref e193, .ref e194, .ref e195, .int 0, .ref e196, .ref e197, .ref e198, .ref e199, .ref e200, .int 0, .ref e201, .ref e202, .ref e203])), (e178, .inr (16, [.int 0, .int 0, .int 0, .ref e338, .ref e339, .ref e340, .ref e341, .ref e342, .ref e343, .ref e344, .ref e345, .ref e346, .ref e347, .ref e348, .ref e349, .ref e350]))] H := hP
  have hD : va_D (fun q : Nat => s.heap.size ≤ q) [(q174, .inr (20, [.int 1, .int (-1), .ref e175, .int 0, .ref e176, .ref e177, .ref e178, .int 0, .int 0, .ref e179, .ref e180, .ref e181, .ref e182, .ref e183, .ref e184, .ref e185, .ref e186, .ref e187, .int 0, .int 0, .ref e188, .ref e189, .ref e190, .ref e191, .int 0, .int 0, .int 0, .ref e192, .int 0, .ref e193, .ref e194, .ref e195, .int 0, .ref e196, .ref e197, .ref e198, .ref e199, .ref e200, .int 0, .ref e201, .ref e202, .ref e203])), (e178, .inr (16, [.int 0, .int 0, .int 0, .ref e338, .ref e339, .ref e340, .ref e341, .ref e342, .ref e343, .ref e344, .ref e345, .ref e346, .ref e347, .ref e348, .ref e349, .ref e350]))] := hD
  have hK : va_K (dC, dI) classes [] s := hK
  refine W.widen (k := 25515) (n := 1231676) (Nat.le_of_ble_eq_true rfl) (Nat.le_of_ble_eq_true rfl) ?_
  refine lv_aload_n hx hb d_law_344 rfl (lv_at hl 1 rfl) ?_
  have hPc := hP.sub (ws' := [(q174, .inr (20, [.int 1, .int (-1), .ref e175, .int 0, .ref e176, .ref e177, .ref e178, .int 0, .int 0, .ref e179, .ref e180, .ref e181, .ref e182, .ref e183, .ref e184, .ref e185, .ref e186, .ref e187, .int 0, .int 0, .ref e188, .ref e189, .ref e190, .ref e191, .int 0, .int 0, .int 0, .ref e192, .int 0, .ref e193, .ref e194, .ref e195, .int 0, .ref e196, .ref e197, .ref e198, .ref e199, .ref e200, .int 0, .ref e201, .ref e202, .ref e203])), (e178, .inr (16, [.int 0, .int 0, .int 0, .ref e338, .ref e339, .ref e340, .ref e341, .ref e342, .ref e343, .ref e344, .ref e345, .ref e346, .ref e347, .ref e348, .ref e349, .ref e350]))]) [0, 1] rfl
  have hDc := hD.sub (ws' := [(q174, .inr (20, [.int 1, .int (-1), .ref e175, .int 0, .ref e176, .ref e177, .ref e178, .int 0, .int 0, .ref e179, .ref e180, .ref e181, .ref e182, .ref e183, .ref e184, .ref e185, .ref e186, .ref e187, .int 0, .int 0, .ref e188, .ref e189, .ref e190, .ref e191, .int 0, .int 0, .int 0, .ref e192, .int 0, .ref e193, .ref e194, .ref e195, .int 0, .ref e196, .ref e197, .ref e198, .ref e199, .ref e200, .int 0, .ref e201, .ref e202, .ref e203])), (e178, .inr (16, [.int 0, .int 0, .int 0, .ref e338, .ref e339, .ref e340, .ref e341, .ref e342, .ref e343, .ref e344, .ref e345, .ref e346, .ref e347, .ref e348, .ref e349, .ref e350]))]) [0, 1] (by decide) rfl
  have hKc := hK.sub (tys' := []) [] rfl
  have hFc := va_free (wc := [(q174, .inr (20, [.int 1, .int (-1), .ref e175, .int 0, .ref e176, .ref e177, .ref e178, .int 0, .int 0, .ref e179, .ref e180, .ref e181, .ref e182, .ref e183, .ref e184, .ref e185, .ref e186, .ref e187, .int 0, .int 0, .ref e188, .ref e189, .ref e190, .ref e191, .int 0, .int 0, .int 0, .ref e192, .int 0, .ref e193, .ref e194, .ref e195, .int 0, .ref e196, .ref e197, .ref e198, .ref e199, .ref e200, .int 0, .ref e201, .ref e202, .ref e203])), (e178, .inr (16, [.int 0, .int 0, .int 0, .ref e338, .ref e339, .ref e340, .ref e341, .ref e342, .ref e343, .ref e344, .ref e345, .ref e346, .ref e347, .ref e348, .ref e349, .ref e350]))]) hD hS hA [0, 1] rfl
  refine va_calli (va_runV (As := []) (rest := [.int 0]) ⟨hx, hb, hml, hown, hts⟩ (c_Model_rings l dC dI H.size q174 e175 e176 e177 e178 e179 e180 e181 e182 e183 e184 e185 e186 e187 e188 e189 e190 e191 e192 e193 e194 e195 e196 e197 e198 e199 e200 e201 e202 e203 e338 e339 e340 e341 e342 e343 e344 e345 e346 e347 e348 e349 e350) (cwV 0 hts (gG_goodVL q_3883 q_3884 (sel_Model_rings) q_14 q_3886) rfl rfl rfl (by decide +kernel) ⟨Nat.le_of_ble_eq_true rfl, Nat.le_of_ble_eq_true rfl⟩) ⟨fun a U g mk q => by obtain ⟨q0, q1, qP, qK, qD, qN⟩ := q; exact ⟨q0, q1, qP, va_K.moved (u := U) (U := U.calling g mk a) (Vm.Alike.refl U.vm) qK, qD, bx_N.same rfl qN⟩, va_recv hKc hPc (ci := 20) (q0 := 0) rfl rfl, fun U hU hW => ⟨rfl, by rw [hU], by rw [hU]; exact hPc, va_K.moved hW.alike hKc, hDc.weaken (fun _ _ _ _ => trivial), bx_N.warm hW hN⟩⟩ rfl rfl hl.1 rfl (lv_room (Nat.le_of_ble_eq_true rfl)) d_law_345 ⟨Nat.le_of_ble_eq_true rfl, Nat.le_of_ble_eq_true rfl⟩) hS (fun q _ h => hFc q h) hFc (fun r353 u t H1 locs ht hvm hw hB hz1 hk1 hS => ?_)
  subst hw
  obtain ⟨hP1, hK1, hD1⟩ := hB
  rw [ht] at hP1
  have hK1 := va_K.moved hvm.symm hK1
  obtain ⟨hP, hD⟩ := va_join (wr := []) (w1 := []) hP hD [0, 1] [] rfl rfl (by decide) (by decide) hk1 hFc hP1 hD1
  have hK := (hK.sub (tys' := []) [] rfl).app hK1
  generalize H1 = H at hP hS ⊢
  have hP : va_P (dC, dI) classes [] H := hP
  have hD : va_D (fun q : Nat => s.heap.size ≤ q) [] := hD
  have hK : va_K (dC, dI) classes [] s := hK
  refine W.widen (k := 25515) (n := 1231676) (Nat.le_of_ble_eq_true rfl) (Nat.le_of_ble_eq_true rfl) ?_
  refine lv_icmp_eq (tgt := 376) hx hb d_law_348 (by decide) (fun c_354 => ?_) (fun c_354 => absurd (by decide) c_354)
  refine lv_iinc (v := 6) (lv' := [(3, .int 6), (2, .ref q174), (1, .ref q1), (0, .ref b)]) hx hb d_law_376 hl (k := 0) rfl (by decide) (by decide) rfl (fun ls hl => ?_)
  refine lv_goto (tgt := 18) hx hb d_law_379 (by decide) ?_
  refine lv_iload_n hx hb d_law_18 rfl (lv_at hl 0 rfl) ?_
  refine lv_aload_n hx hb d_law_19 rfl (lv_at hl 3 rfl) ?_
  refine va_slen hx hb hX hbl hbA hS d_law_20 ?_
  refine bx_top (y := 6) (by decide) ?_
  refine lv_bipush (v := 6) hx hb d_law_21 (by decide) ?_
  refine lv_isub hx hb d_law_23 ?_
  refine bx_top (y := 0) (by decide) ?_
  refine lv_icmp_gt (tgt := 382) hx hb d_law_24 (by decide) (fun c_355 => ?_) (fun c_355 => absurd (by decide) c_355)
  refine lv_iconst (v := 1) hx hb d_law_382 (by decide) ?_
  refine va_forget (fun q hq => hS.2.2 q hq) ?_
  refine W.widen (k := 600000) (n := 7302249) (Nat.le_of_ble_eq_true rfl) (Nat.le_of_ble_eq_true rfl) ?_
  exact lw_ret hx hb hr hlocks d_law_383
set_option maxHeartbeats 4000000 in
set_option maxRecDepth 100000 in
theorem lwc_11 {p : Program} {e : Env} {s : State} {m : MethodId} {below : List Frame} {meth : Method} {c : Code} (l : Launch) {b : Nat} {xs : Nat → Int32} {dC : Nat → ClassId} {dI : Nat → Nat → Nat} (q174 : Nat) (q1 : Nat) {H : Heap} {locs : List Loc} {ls : Array Slot} (hx : p.tables.exec = Jvm.exec) (hb : c.code = code) (hr : meth.sig.returnType = ret) (hml : c.maxLocals = 4) (hown : s.vm.findClass "SessionServerLaw" = some m.cls) (hts : ∀ w ∈ lw_tbl, w.before #[Value.ref b] s = true) (hX : va_X b 6 xs s s.heap) (hbl : b < s.heap.size) (hlocks : meth.locks = false) (hN : bx_N s) (hK : va_K (dC, dI) classes [] s) (hP : va_P (dC, dI) classes [] H) (hD : va_D (fun q : Nat => s.heap.size ≤ q) []) (hS : va_S (fun q : Nat => s.heap.size ≤ q) s.heap H locs) (hl : lv_has ls 4 [(3, .int 0), (2, .ref q174), (1, .ref q1), (0, .ref b)]) : W p l e room_1 s m #[Value.ref b] below meth c H locs 25515 1231676 (lw_Z below #[Value.ref b] s) (F0 m 33 ls [.int (nI 11)]) := by
  have hA : ∀ q : Nat, s.heap.size ≤ q → (fun q : Nat => s.heap.size ≤ q) q := fun _ h => h
  have hbA : ¬ (fun q : Nat => s.heap.size ≤ q) b := Nat.not_le.mpr hbl
  refine lv_tableOut (tgt := 376) hx hb d_law_33 (by decide) (by decide) ?_
  refine lv_iinc (v := 6) (lv' := [(3, .int 6), (2, .ref q174), (1, .ref q1), (0, .ref b)]) hx hb d_law_376 hl (k := 0) rfl (by decide) (by decide) rfl (fun ls hl => ?_)
  refine lv_goto (tgt := 18) hx hb d_law_379 (by decide) ?_
  refine lv_iload_n hx hb d_law_18 rfl (lv_at hl 0 rfl) ?_
  refine lv_aload_n hx hb d_law_19 rfl (lv_at hl 3 rfl) ?_
  refine va_slen hx hb hX hbl hbA hS d_law_20 ?_
  refine bx_top (y := 6) (by decide) ?_
  refine lv_bipush (v := 6) hx hb d_law_21 (by decide) ?_
  refine lv_isub hx hb d_law_23 ?_
  refine bx_top (y := 0) (by decide) ?_
  refine lv_icmp_gt (tgt := 382) hx hb d_law_24 (by decide) (fun c_352 => ?_) (fun c_352 => absurd (by decide) c_352)
  refine lv_iconst (v := 1) hx hb d_law_382 (by decide) ?_
  refine va_forget (fun q hq => hS.2.2 q hq) ?_
  refine W.widen (k := 600000) (n := 7302249) (Nat.le_of_ble_eq_true rfl) (Nat.le_of_ble_eq_true rfl) ?_
  exact lw_ret hx hb hr hlocks d_law_383
set_option maxHeartbeats 4000000 in
set_option maxRecDepth 100000 in
theorem lwc_12 {p : Program} {e : Env} {s : State} {m : MethodId} {below : List Frame} {meth : Method} {c : Code} (l : Launch) {b : Nat} {xs : Nat → Int32} {dC : Nat → ClassId} {dI : Nat → Nat → Nat} (q174 : Nat) (q1 : Nat) {H : Heap} {locs : List Loc} {ls : Array Slot} (hx : p.tables.exec = Jvm.exec) (hb : c.code = code) (hr : meth.sig.returnType = ret) (hml : c.maxLocals = 4) (hown : s.vm.findClass "SessionServerLaw" = some m.cls) (hts : ∀ w ∈ lw_tbl, w.before #[Value.ref b] s = true) (hX : va_X b 6 xs s s.heap) (hbl : b < s.heap.size) (hlocks : meth.locks = false) (hN : bx_N s) (hK : va_K (dC, dI) classes [] s) (hP : va_P (dC, dI) classes [] H) (hD : va_D (fun q : Nat => s.heap.size ≤ q) []) (hS : va_S (fun q : Nat => s.heap.size ≤ q) s.heap H locs) (hl : lv_has ls 4 [(3, .int 0), (2, .ref q174), (1, .ref q1), (0, .ref b)]) : W p l e room_1 s m #[Value.ref b] below meth c H locs 25515 1231676 (lw_Z below #[Value.ref b] s) (F0 m 33 ls [.int (nI 12)]) := by
  have hA : ∀ q : Nat, s.heap.size ≤ q → (fun q : Nat => s.heap.size ≤ q) q := fun _ h => h
  have hbA : ¬ (fun q : Nat => s.heap.size ≤ q) b := Nat.not_le.mpr hbl
  refine lv_tableOut (tgt := 376) hx hb d_law_33 (by decide) (by decide) ?_
  refine lv_iinc (v := 6) (lv' := [(3, .int 6), (2, .ref q174), (1, .ref q1), (0, .ref b)]) hx hb d_law_376 hl (k := 0) rfl (by decide) (by decide) rfl (fun ls hl => ?_)
  refine lv_goto (tgt := 18) hx hb d_law_379 (by decide) ?_
  refine lv_iload_n hx hb d_law_18 rfl (lv_at hl 0 rfl) ?_
  refine lv_aload_n hx hb d_law_19 rfl (lv_at hl 3 rfl) ?_
  refine va_slen hx hb hX hbl hbA hS d_law_20 ?_
  refine bx_top (y := 6) (by decide) ?_
  refine lv_bipush (v := 6) hx hb d_law_21 (by decide) ?_
  refine lv_isub hx hb d_law_23 ?_
  refine bx_top (y := 0) (by decide) ?_
  refine lv_icmp_gt (tgt := 382) hx hb d_law_24 (by decide) (fun c_352 => ?_) (fun c_352 => absurd (by decide) c_352)
  refine lv_iconst (v := 1) hx hb d_law_382 (by decide) ?_
  refine va_forget (fun q hq => hS.2.2 q hq) ?_
  refine W.widen (k := 600000) (n := 7302249) (Nat.le_of_ble_eq_true rfl) (Nat.le_of_ble_eq_true rfl) ?_
  exact lw_ret hx hb hr hlocks d_law_383
set_option maxHeartbeats 4000000 in
set_option maxRecDepth 100000 in
theorem lwc_13 {p : Program} {e : Env} {s : State} {m : MethodId} {below : List Frame} {meth : Method} {c : Code} (l : Launch) {b : Nat} {xs : Nat → Int32} {dC : Nat → ClassId} {dI : Nat → Nat → Nat} (q174 : Nat) (q1 : Nat) {H : Heap} {locs : List Loc} {ls : Array Slot} (hx : p.tables.exec = Jvm.exec) (hb : c.code = code) (hr : meth.sig.returnType = ret) (hml : c.maxLocals = 4) (hown : s.vm.findClass "SessionServerLaw" = some m.cls) (hts : ∀ w ∈ lw_tbl, w.before #[Value.ref b] s = true) (hX : va_X b 6 xs s s.heap) (hbl : b < s.heap.size) (hlocks : meth.locks = false) (hN : bx_N s) (hK : va_K (dC, dI) classes [] s) (hP : va_P (dC, dI) classes [] H) (hD : va_D (fun q : Nat => s.heap.size ≤ q) []) (hS : va_S (fun q : Nat => s.heap.size ≤ q) s.heap H locs) (hl : lv_has ls 4 [(3, .int 0), (2, .ref q174), (1, .ref q1), (0, .ref b)]) : W p l e room_1 s m #[Value.ref b] below meth c H locs 25515 1231676 (lw_Z below #[Value.ref b] s) (F0 m 33 ls [.int (nI 13)]) := by
  have hA : ∀ q : Nat, s.heap.size ≤ q → (fun q : Nat => s.heap.size ≤ q) q := fun _ h => h
  have hbA : ¬ (fun q : Nat => s.heap.size ≤ q) b := Nat.not_le.mpr hbl
  refine lv_tableOut (tgt := 376) hx hb d_law_33 (by decide) (by decide) ?_
  refine lv_iinc (v := 6) (lv' := [(3, .int 6), (2, .ref q174), (1, .ref q1), (0, .ref b)]) hx hb d_law_376 hl (k := 0) rfl (by decide) (by decide) rfl (fun ls hl => ?_)
  refine lv_goto (tgt := 18) hx hb d_law_379 (by decide) ?_
  refine lv_iload_n hx hb d_law_18 rfl (lv_at hl 0 rfl) ?_
  refine lv_aload_n hx hb d_law_19 rfl (lv_at hl 3 rfl) ?_
  refine va_slen hx hb hX hbl hbA hS d_law_20 ?_
  refine bx_top (y := 6) (by decide) ?_
  refine lv_bipush (v := 6) hx hb d_law_21 (by decide) ?_
  refine lv_isub hx hb d_law_23 ?_
  refine bx_top (y := 0) (by decide) ?_
  refine lv_icmp_gt (tgt := 382) hx hb d_law_24 (by decide) (fun c_352 => ?_) (fun c_352 => absurd (by decide) c_352)
  refine lv_iconst (v := 1) hx hb d_law_382 (by decide) ?_
  refine va_forget (fun q hq => hS.2.2 q hq) ?_
  refine W.widen (k := 600000) (n := 7302249) (Nat.le_of_ble_eq_true rfl) (Nat.le_of_ble_eq_true rfl) ?_
  exact lw_ret hx hb hr hlocks d_law_383
set_option maxHeartbeats 4000000 in
set_option maxRecDepth 100000 in
theorem lwc_14 {p : Program} {e : Env} {s : State} {m : MethodId} {below : List Frame} {meth : Method} {c : Code} (l : Launch) {b : Nat} {xs : Nat → Int32} {dC : Nat → ClassId} {dI : Nat → Nat → Nat} (q174 : Nat) (q1 : Nat) {H : Heap} {locs : List Loc} {ls : Array Slot} (hx : p.tables.exec = Jvm.exec) (hb : c.code = code) (hr : meth.sig.returnType = ret) (hml : c.maxLocals = 4) (hown : s.vm.findClass "SessionServerLaw" = some m.cls) (hts : ∀ w ∈ lw_tbl, w.before #[Value.ref b] s = true) (hX : va_X b 6 xs s s.heap) (hbl : b < s.heap.size) (hlocks : meth.locks = false) (hN : bx_N s) (hK : va_K (dC, dI) classes [] s) (hP : va_P (dC, dI) classes [] H) (hD : va_D (fun q : Nat => s.heap.size ≤ q) []) (hS : va_S (fun q : Nat => s.heap.size ≤ q) s.heap H locs) (hl : lv_has ls 4 [(3, .int 0), (2, .ref q174), (1, .ref q1), (0, .ref b)]) : W p l e room_1 s m #[Value.ref b] below meth c H locs 25515 1231676 (lw_Z below #[Value.ref b] s) (F0 m 33 ls [.int (nI 14)]) := by
  have hA : ∀ q : Nat, s.heap.size ≤ q → (fun q : Nat => s.heap.size ≤ q) q := fun _ h => h
  have hbA : ¬ (fun q : Nat => s.heap.size ≤ q) b := Nat.not_le.mpr hbl
  refine lv_tableOut (tgt := 376) hx hb d_law_33 (by decide) (by decide) ?_
  refine lv_iinc (v := 6) (lv' := [(3, .int 6), (2, .ref q174), (1, .ref q1), (0, .ref b)]) hx hb d_law_376 hl (k := 0) rfl (by decide) (by decide) rfl (fun ls hl => ?_)
  refine lv_goto (tgt := 18) hx hb d_law_379 (by decide) ?_
  refine lv_iload_n hx hb d_law_18 rfl (lv_at hl 0 rfl) ?_
  refine lv_aload_n hx hb d_law_19 rfl (lv_at hl 3 rfl) ?_
  refine va_slen hx hb hX hbl hbA hS d_law_20 ?_
  refine bx_top (y := 6) (by decide) ?_
  refine lv_bipush (v := 6) hx hb d_law_21 (by decide) ?_
  refine lv_isub hx hb d_law_23 ?_
  refine bx_top (y := 0) (by decide) ?_
  refine lv_icmp_gt (tgt := 382) hx hb d_law_24 (by decide) (fun c_352 => ?_) (fun c_352 => absurd (by decide) c_352)
  refine lv_iconst (v := 1) hx hb d_law_382 (by decide) ?_
  refine va_forget (fun q hq => hS.2.2 q hq) ?_
  refine W.widen (k := 600000) (n := 7302249) (Nat.le_of_ble_eq_true rfl) (Nat.le_of_ble_eq_true rfl) ?_
  exact lw_ret hx hb hr hlocks d_law_383
set_option maxHeartbeats 4000000 in
set_option maxRecDepth 100000 in
theorem lwc_15 {p : Program} {e : Env} {s : State} {m : MethodId} {below : List Frame} {meth : Method} {c : Code} (l : Launch) {b : Nat} {xs : Nat → Int32} {dC : Nat → ClassId} {dI : Nat → Nat → Nat} (q174 : Nat) (q1 : Nat) {H : Heap} {locs : List Loc} {ls : Array Slot} (hx : p.tables.exec = Jvm.exec) (hb : c.code = code) (hr : meth.sig.returnType = ret) (hml : c.maxLocals = 4) (hown : s.vm.findClass "SessionServerLaw" = some m.cls) (hts : ∀ w ∈ lw_tbl, w.before #[Value.ref b] s = true) (hX : va_X b 6 xs s s.heap) (hbl : b < s.heap.size) (hlocks : meth.locks = false) (hN : bx_N s) (hK : va_K (dC, dI) classes [] s) (hP : va_P (dC, dI) classes [] H) (hD : va_D (fun q : Nat => s.heap.size ≤ q) []) (hS : va_S (fun q : Nat => s.heap.size ≤ q) s.heap H locs) (hl : lv_has ls 4 [(3, .int 0), (2, .ref q174), (1, .ref q1), (0, .ref b)]) : W p l e room_1 s m #[Value.ref b] below meth c H locs 25515 1231676 (lw_Z below #[Value.ref b] s) (F0 m 33 ls [.int (nI 15)]) := by
  have hA : ∀ q : Nat, s.heap.size ≤ q → (fun q : Nat => s.heap.size ≤ q) q := fun _ h => h
  have hbA : ¬ (fun q : Nat => s.heap.size ≤ q) b := Nat.not_le.mpr hbl
  refine lv_tableOut (tgt := 376) hx hb d_law_33 (by decide) (by decide) ?_
  refine lv_iinc (v := 6) (lv' := [(3, .int 6), (2, .ref q174), (1, .ref q1), (0, .ref b)]) hx hb d_law_376 hl (k := 0) rfl (by decide) (by decide) rfl (fun ls hl => ?_)
  refine lv_goto (tgt := 18) hx hb d_law_379 (by decide) ?_
  refine lv_iload_n hx hb d_law_18 rfl (lv_at hl 0 rfl) ?_
  refine lv_aload_n hx hb d_law_19 rfl (lv_at hl 3 rfl) ?_
  refine va_slen hx hb hX hbl hbA hS d_law_20 ?_
  refine bx_top (y := 6) (by decide) ?_
  refine lv_bipush (v := 6) hx hb d_law_21 (by decide) ?_
  refine lv_isub hx hb d_law_23 ?_
  refine bx_top (y := 0) (by decide) ?_
  refine lv_icmp_gt (tgt := 382) hx hb d_law_24 (by decide) (fun c_352 => ?_) (fun c_352 => absurd (by decide) c_352)
  refine lv_iconst (v := 1) hx hb d_law_382 (by decide) ?_
  refine va_forget (fun q hq => hS.2.2 q hq) ?_
  refine W.widen (k := 600000) (n := 7302249) (Nat.le_of_ble_eq_true rfl) (Nat.le_of_ble_eq_true rfl) ?_
  exact lw_ret hx hb hr hlocks d_law_383
