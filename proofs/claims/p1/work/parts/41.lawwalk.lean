set_option maxHeartbeats 40000000 in
set_option maxRecDepth 100000 in
theorem whole_start {p : Program} {e : Env} {s : State} {m : MethodId} {below : List Frame} {meth : Method} {c : Code} (l : Launch) {b L : Nat} {xs : Nat → Int32} (hL : L ≤ 6) (C0 : lw_At p s m meth c b L xs) : W p l e room_1 s m #[Value.ref b] below meth c s.heap [] 0 0 (lw_Z below #[Value.ref b] s) (entryFrame m ([Value.ref b] : List Value).toArray 4) := by
  obtain ⟨hx, hb, hr, hml, hown, hts, hX, hbl, hlocks, hgv⟩ := id C0
  have hown : s.vm.findClass "SessionServerLaw" = some m.cls := hown
  have hA : ∀ q : Nat, s.heap.size ≤ q → (fun q : Nat => s.heap.size ≤ q) q := fun _ h => h
  have hbA : ¬ (fun q : Nat => s.heap.size ≤ q) b := Nat.not_le.mpr hbl
  have hN : bx_N s := bx_N_at hts
  obtain ⟨c0, iS0, hKn0⟩ := u_known (C := R_STable) (T := F_STable) (N := 8) (n := 8) hts il_STable (hts _ (gG_l q_47))
  obtain ⟨c1, iS1, hKn1⟩ := u_known (C := R_SStore) (T := F_SStore) (N := 17) (n := 17) hts il_SStore (hts _ (gG_l q_40))
  obtain ⟨c2, iS2, hKn2⟩ := u_known (C := R_SLedger) (T := F_SLedger) (N := 12) (n := 12) hts il_SLedger (hts _ (gG_l q_179))
  obtain ⟨c3, iS3, hKn3⟩ := u_known (C := R_SSerial) (T := F_SSerial) (N := 14) (n := 14) hts il_SSerial (hts _ (gG_l q_235))
  obtain ⟨c4, iS4, hKn4⟩ := u_known (C := R_SMachine) (T := F_SMachine) (N := 6) (n := 6) hts il_SMachine (hts _ (gG_l q_286))
  obtain ⟨c5, iS5, hKn5⟩ := u_known (C := R_SFinder) (T := F_SFinder) (N := 20) (n := 20) hts il_SFinder (hts _ (gG_l q_318))
  obtain ⟨c6, iS6, hKn6⟩ := u_known (C := R_SParser) (T := F_SParser) (N := 14) (n := 14) hts il_SParser (hts _ (gG_l q_388))
  obtain ⟨c7, iS7, hKn7⟩ := u_known (C := R_SChecker) (T := F_SChecker) (N := 8) (n := 8) hts il_SChecker (hts _ (gG_l q_439))
  obtain ⟨c8, iS8, hKn8⟩ := u_known (C := R_SCode) (T := F_SCode) (N := 18) (n := 18) hts il_SCode (hts _ (gG_l q_481))
  obtain ⟨c9, iS9, hKn9⟩ := u_known (C := R_SStatement) (T := F_SStatement) (N := 20) (n := 20) hts il_SStatement (hts _ (gG_l q_475))
  obtain ⟨c10, iS10, hKn10⟩ := u_known (C := R_SWork) (T := F_SWork) (N := 14) (n := 14) hts il_SWork (hts _ (gG_l q_711))
  obtain ⟨c11, iS11, hKn11⟩ := u_known (C := R_SSession) (T := F_SSession) (N := 18) (n := 18) hts il_SSession (hts _ (gG_l q_469))
  obtain ⟨c12, iS12, hKn12⟩ := u_known (C := R_Server) (T := F_Server) (N := 12) (n := 12) hts il_Server (hts _ (gG_l q_30))
  obtain ⟨c13, iS13, hKn13⟩ := u_known (C := R_MCatalog) (T := F_MCatalog) (N := 13) (n := 13) hts il_MCatalog (hts _ (gG_l q_1980))
  obtain ⟨c14, iS14, hKn14⟩ := u_known (C := R_MCells) (T := F_MCells) (N := 4) (n := 4) hts il_MCells (hts _ (gG_l q_2051))
  obtain ⟨c15, iS15, hKn15⟩ := u_known (C := R_MSpan) (T := F_MSpan) (N := 8) (n := 8) hts il_MSpan (hts _ (gG_l q_2045))
  obtain ⟨c16, iS16, hKn16⟩ := u_known (C := R_MSerial) (T := F_MSerial) (N := 16) (n := 16) hts il_MSerial (hts _ (gG_l q_2034))
  obtain ⟨c17, iS17, hKn17⟩ := u_known (C := R_MWork) (T := F_MWork) (N := 15) (n := 15) hts il_MWork (hts _ (gG_l q_2159))
  obtain ⟨c18, iS18, hKn18⟩ := u_known (C := R_MReader) (T := F_MReader) (N := 62) (n := 62) hts il_MReader (hts _ (gG_l q_2227))
  obtain ⟨c19, iS19, hKn19⟩ := u_known (C := R_MSession) (T := F_MSession) (N := 44) (n := 44) hts il_MSession (hts _ (gG_l q_2219))
  obtain ⟨c20, iS20, hKn20⟩ := u_known (C := R_Model) (T := F_Model) (N := 42) (n := 42) hts il_Model (hts _ (gG_l q_1974))
  obtain ⟨dC, dI, hKc⟩ : ∃ (dC : Nat → ClassId) (dI : Nat → Nat → Nat), ∀ (k : Nat) (q : vw_C), classes[k]? = some q → u_Kn s q.1 q.2.1 q.2.2 (dC k) (dI k) := by
    refine ⟨fun k => match k with | 0 => c0 | 1 => c1 | 2 => c2 | 3 => c3 | 4 => c4 | 5 => c5 | 6 => c6 | 7 => c7 | 8 => c8 | 9 => c9 | 10 => c10 | 11 => c11 | 12 => c12 | 13 => c13 | 14 => c14 | 15 => c15 | 16 => c16 | 17 => c17 | 18 => c18 | 19 => c19 | _ => c20, fun k => match k with | 0 => iS0 | 1 => iS1 | 2 => iS2 | 3 => iS3 | 4 => iS4 | 5 => iS5 | 6 => iS6 | 7 => iS7 | 8 => iS8 | 9 => iS9 | 10 => iS10 | 11 => iS11 | 12 => iS12 | 13 => iS13 | 14 => iS14 | 15 => iS15 | 16 => iS16 | 17 => iS17 | 18 => iS18 | 19 => iS19 | _ => iS20, ?_⟩
    intro k q hq
    match k, hq with
    | 0, hq => cases hq; exact hKn0
    | 1, hq => cases hq; exact hKn1
    | 2, hq => cases hq; exact hKn2
    | 3, hq => cases hq; exact hKn3
    | 4, hq => cases hq; exact hKn4
    | 5, hq => cases hq; exact hKn5
    | 6, hq => cases hq; exact hKn6
    | 7, hq => cases hq; exact hKn7
    | 8, hq => cases hq; exact hKn8
    | 9, hq => cases hq; exact hKn9
    | 10, hq => cases hq; exact hKn10
    | 11, hq => cases hq; exact hKn11
    | 12, hq => cases hq; exact hKn12
    | 13, hq => cases hq; exact hKn13
    | 14, hq => cases hq; exact hKn14
    | 15, hq => cases hq; exact hKn15
    | 16, hq => cases hq; exact hKn16
    | 17, hq => cases hq; exact hKn17
    | 18, hq => cases hq; exact hKn18
    | 19, hq => cases hq; exact hKn19
    | 20, hq => cases hq; exact hKn20
    | k + 21, hq => simp [classes] at hq
  have hS : va_S (fun q : Nat => s.heap.size ≤ q) s.heap s.heap [] := va_S.rf
  have hK : va_K (dC, dI) classes [] s := ⟨hKc, fun k q h => by simp at h⟩
  have hP : va_P (dC, dI) classes [] s.heap := fun k q h => by simp at h
  have hD : va_D (fun q : Nat => s.heap.size ≤ q) [] := ⟨fun i j p q h => by simp at h, fun k q h => by simp at h⟩
  have hl := lv_entry ([.ref b]) (n := 4) (Nat.le_of_ble_eq_true rfl)
  rw [lg_entry_eq]
  generalize (lg_sl ([.ref b]) ++ List.replicate (4 - (lg_sl ([.ref b])).length) Slot.unset).toArray = ls at hl ⊢
  have hl : lv_has ls 4 [(0, .ref b)] := hl
  refine va_new (ci := 12) (fs := [.null, .null, .null, .null, .null, .null, .null, .null, .null, .int 0, .int 0, .int 0]) (C := R_Server) (T := F_Server) (N := 12) hx hb hts il_Server t_Server t_Server_ok hown (hts _ (gG_l q_29)) (hts _ (gG_l q_30)) (hts _ (gG_l q_1)) hK hP hD hS hA rfl (fs_Server) (Nat.le_of_ble_eq_true rfl) (Nat.le_of_ble_eq_true rfl) d_law_0 (fun q1 H hP hD hS => ?_)
  have hP : va_P (dC, dI) classes [(q1, .inr (12, [.null, .null, .null, .null, .null, .null, .null, .null, .null, .int 0, .int 0, .int 0]))] H := hP
  have hD : va_D (fun q : Nat => s.heap.size ≤ q) [(q1, .inr (12, [.null, .null, .null, .null, .null, .null, .null, .null, .null, .int 0, .int 0, .int 0]))] := hD
  refine W.widen (k := 1) (n := 12) (Nat.le_of_ble_eq_true rfl) (Nat.le_of_ble_eq_true rfl) ?_
  refine lv_dup hx hb d_law_3 rfl ?_
  have hPc := hP.sub (ws' := [(q1, .inr (12, [.null, .null, .null, .null, .null, .null, .null, .null, .null, .int 0, .int 0, .int 0]))]) [0] rfl
  have hDc := hD.sub (ws' := [(q1, .inr (12, [.null, .null, .null, .null, .null, .null, .null, .null, .null, .int 0, .int 0, .int 0]))]) [0] (by decide) rfl
  have hKc := hK.sub (tys' := []) [] rfl
  have hFc := va_free (wc := [(q1, .inr (12, [.null, .null, .null, .null, .null, .null, .null, .null, .null, .int 0, .int 0, .int 0]))]) hD hS hA [0] rfl
  refine va_callv (va_runI (As := []) (rest := [.ref q1]) ⟨hx, hb, hml, hown, hts⟩ (c_Server_init l dC dI H.size q1) (cwI 0 hts (gG_goodL q_33) rfl rfl rfl (hts _ (gG_l q_1)) (hts _ (gG_l q_31)) (hts _ (gG_l q_32)) rfl (by decide +kernel) ⟨Nat.le_of_ble_eq_true rfl, Nat.le_of_ble_eq_true rfl⟩) ⟨fun a U g mk q => by obtain ⟨q0, q1, qP, qK, qD, qN⟩ := q; exact ⟨q0, q1, qP, va_K.moved (u := U) (U := U.calling g mk a) (Vm.Alike.refl U.vm) qK, qD, bx_N.same rfl qN⟩, fun U hU hW => ⟨rfl, by rw [hU], by rw [hU]; exact hPc, va_K.moved hW.alike hKc, hDc.weaken (fun _ _ _ _ => trivial), bx_N.warm hW hN⟩⟩ rfl rfl hl.1 rfl (lv_room (Nat.le_of_ble_eq_true rfl)) d_law_4 ⟨Nat.le_of_ble_eq_true rfl, Nat.le_of_ble_eq_true rfl⟩) hS (fun q _ h => hFc q h) hFc (fun u t H1 locs ht hvm hw hB hz1 hk1 hS => ?_)
  refine hB.elim (fun e2 hB => ?_)
  refine hB.elim (fun e3 hB => ?_)
  refine hB.elim (fun e4 hB => ?_)
  refine hB.elim (fun e5 hB => ?_)
  refine hB.elim (fun e6 hB => ?_)
  refine hB.elim (fun e7 hB => ?_)
  refine hB.elim (fun e8 hB => ?_)
  refine hB.elim (fun e9 hB => ?_)
  refine hB.elim (fun e10 hB => ?_)
  refine hB.elim (fun e11 hB => ?_)
  refine hB.elim (fun e12 hB => ?_)
  refine hB.elim (fun e13 hB => ?_)
  refine hB.elim (fun e14 hB => ?_)
  refine hB.elim (fun e15 hB => ?_)
  refine hB.elim (fun e16 hB => ?_)
  refine hB.elim (fun e17 hB => ?_)
  refine hB.elim (fun e18 hB => ?_)
  refine hB.elim (fun e19 hB => ?_)
  refine hB.elim (fun e20 hB => ?_)
  refine hB.elim (fun e21 hB => ?_)
  refine hB.elim (fun e22 hB => ?_)
  refine hB.elim (fun e23 hB => ?_)
  refine hB.elim (fun e24 hB => ?_)
  refine hB.elim (fun e25 hB => ?_)
  refine hB.elim (fun e26 hB => ?_)
  refine hB.elim (fun e27 hB => ?_)
  refine hB.elim (fun e28 hB => ?_)
  refine hB.elim (fun e29 hB => ?_)
  refine hB.elim (fun e30 hB => ?_)
  refine hB.elim (fun e31 hB => ?_)
  refine hB.elim (fun e32 hB => ?_)
  refine hB.elim (fun e33 hB => ?_)
  refine hB.elim (fun e34 hB => ?_)
  refine hB.elim (fun e35 hB => ?_)
  refine hB.elim (fun e36 hB => ?_)
  refine hB.elim (fun e37 hB => ?_)
  refine hB.elim (fun e38 hB => ?_)
  refine hB.elim (fun e39 hB => ?_)
  refine hB.elim (fun e40 hB => ?_)
  refine hB.elim (fun e41 hB => ?_)
  refine hB.elim (fun e42 hB => ?_)
  refine hB.elim (fun e43 hB => ?_)
  refine hB.elim (fun e44 hB => ?_)
  refine hB.elim (fun e45 hB => ?_)
  refine hB.elim (fun e46 hB => ?_)
  refine hB.elim (fun e47 hB => ?_)
  refine hB.elim (fun e48 hB => ?_)
  refine hB.elim (fun e49 hB => ?_)
  refine hB.elim (fun e50 hB => ?_)
  refine hB.elim (fun e51 hB => ?_)
  refine hB.elim (fun e52 hB => ?_)
  refine hB.elim (fun e53 hB => ?_)
  refine hB.elim (fun e54 hB => ?_)
  refine hB.elim (fun e55 hB => ?_)
  refine hB.elim (fun e56 hB => ?_)
  refine hB.elim (fun e57 hB => ?_)
  refine hB.elim (fun e58 hB => ?_)
  refine hB.elim (fun e59 hB => ?_)
  refine hB.elim (fun e60 hB => ?_)
  refine hB.elim (fun e61 hB => ?_)
  refine hB.elim (fun e62 hB => ?_)
  refine hB.elim (fun e63 hB => ?_)
  refine hB.elim (fun e64 hB => ?_)
  refine hB.elim (fun e65 hB => ?_)
  refine hB.elim (fun e66 hB => ?_)
  refine hB.elim (fun e67 hB => ?_)
  refine hB.elim (fun e68 hB => ?_)
  refine hB.elim (fun e69 hB => ?_)
  refine hB.elim (fun e70 hB => ?_)
  refine hB.elim (fun e71 hB => ?_)
  refine hB.elim (fun e72 hB => ?_)
  refine hB.elim (fun e73 hB => ?_)
  refine hB.elim (fun e74 hB => ?_)
  refine hB.elim (fun e75 hB => ?_)
  refine hB.elim (fun e76 hB => ?_)
  refine hB.elim (fun e77 hB => ?_)
  refine hB.elim (fun e78 hB => ?_)
  refine hB.elim (fun e79 hB => ?_)
  refine hB.elim (fun e80 hB => ?_)
  refine hB.elim (fun e81 hB => ?_)
  refine hB.elim (fun e82 hB => ?_)
  refine hB.elim (fun e83 hB => ?_)
  refine hB.elim (fun e84 hB => ?_)
  refine hB.elim (fun e85 hB => ?_)
  refine hB.elim (fun e86 hB => ?_)
  refine hB.elim (fun e87 hB => ?_)
  refine hB.elim (fun e88 hB => ?_)
  refine hB.elim (fun e89 hB => ?_)
  refine hB.elim (fun e90 hB => ?_)
  refine hB.elim (fun e91 hB => ?_)
  refine hB.elim (fun e92 hB => ?_)
  refine hB.elim (fun e93 hB => ?_)
  refine hB.elim (fun e94 hB => ?_)
  refine hB.elim (fun e95 hB => ?_)
  refine hB.elim (fun e96 hB => ?_)
  refine hB.elim (fun e97 hB => ?_)
  refine hB.elim (fun e98 hB => ?_)
  refine hB.elim (fun e99 hB => ?_)
  refine hB.elim (fun e100 hB => ?_)
  refine hB.elim (fun e101 hB => ?_)
  refine hB.elim (fun e102 hB => ?_)
  refine hB.elim (fun e103 hB => ?_)
  refine hB.elim (fun e104 hB => ?_)
  refine hB.elim (fun e105 hB => ?_)
  refine hB.elim (fun e106 hB => ?_)
  refine hB.elim (fun e107 hB => ?_)
  refine hB.elim (fun e108 hB => ?_)
  refine hB.elim (fun e109 hB => ?_)
  refine hB.elim (fun e110 hB => ?_)
  refine hB.elim (fun e111 hB => ?_)
  refine hB.elim (fun e112 hB => ?_)
  refine hB.elim (fun e113 hB => ?_)
  refine hB.elim (fun e114 hB => ?_)
  refine hB.elim (fun e115 hB => ?_)
  refine hB.elim (fun e116 hB => ?_)
  refine hB.elim (fun e117 hB => ?_)
  refine hB.elim (fun e118 hB => ?_)
  refine hB.elim (fun e119 hB => ?_)
  refine hB.elim (fun e120 hB => ?_)
  refine hB.elim (fun e121 hB => ?_)
  refine hB.elim (fun e122 hB => ?_)
  refine hB.elim (fun e123 hB => ?_)
  refine hB.elim (fun e124 hB => ?_)
  refine hB.elim (fun e125 hB => ?_)
  refine hB.elim (fun e126 hB => ?_)
  refine hB.elim (fun e127 hB => ?_)
  refine hB.elim (fun e128 hB => ?_)
  refine hB.elim (fun e129 hB => ?_)
  refine hB.elim (fun e130 hB => ?_)
  refine hB.elim (fun e131 hB => ?_)
  refine hB.elim (fun e132 hB => ?_)
  refine hB.elim (fun e133 hB => ?_)
  refine hB.elim (fun e134 hB => ?_)
  refine hB.elim (fun e135 hB => ?_)
  refine hB.elim (fun e136 hB => ?_)
  refine hB.elim (fun e137 hB => ?_)
  refine hB.elim (fun e138 hB => ?_)
  refine hB.elim (fun e139 hB => ?_)
  refine hB.elim (fun e140 hB => ?_)
  refine hB.elim (fun e141 hB => ?_)
  refine hB.elim (fun e142 hB => ?_)
  refine hB.elim (fun e143 hB => ?_)
  refine hB.elim (fun e144 hB => ?_)
  refine hB.elim (fun e145 hB => ?_)
  refine hB.elim (fun e146 hB => ?_)
  refine hB.elim (fun e147 hB => ?_)
  refine hB.elim (fun e148 hB => ?_)
  refine hB.elim (fun e149 hB => ?_)
  refine hB.elim (fun e150 hB => ?_)
  refine hB.elim (fun e151 hB => ?_)
  refine hB.elim (fun e152 hB => ?_)
  refine hB.elim (fun e153 hB => ?_)
  refine hB.elim (fun e154 hB => ?_)
  refine hB.elim (fun e155 hB => ?_)
  refine hB.elim (fun e156 hB => ?_)
  refine hB.elim (fun e157 hB => ?_)
  refine hB.elim (fun e158 hB => ?_)
  refine hB.elim (fun e159 hB => ?_)
  refine hB.elim (fun e160 hB => ?_)
  refine hB.elim (fun e161 hB => ?_)
  refine hB.elim (fun e162 hB => ?_)
  refine hB.elim (fun e163 hB => ?_)
  refine hB.elim (fun e164 hB => ?_)
  refine hB.elim (fun e165 hB => ?_)
  refine hB.elim (fun e166 hB => ?_)
  refine hB.elim (fun e167 hB => ?_)
  refine hB.elim (fun e168 hB => ?_)
  refine hB.elim (fun e169 hB => ?_)
  refine hB.elim (fun e170 hB => ?_)
  refine hB.elim (fun e171 hB => ?_)
  refine hB.elim (fun e172 hB => ?_)
  refine hB.elim (fun e173 hB => ?_)
  obtain ⟨hP1, hK1, hD1⟩ := hB
  rw [ht] at hP1
  have hK1 := va_K.moved hvm.symm hK1
  obtain ⟨hP, hD⟩ := va_join (wr := []) (w1 := [(q1, .inr (12, [.ref e2, .ref e3, .ref e4, .ref e5, .ref e6, .ref e7, .ref e8, .ref e9, .ref e10, .int 0, .int 0, .int 1])), (e2, .inl (e11, 2000, .inl (fun _ => 0))), (e3, .inl (e12, 6, .inr (.inr (.inr (.inr (va_up (va_up (va_up (va_up (va_up (va_up (fun _ => none) 0 (some e13)) 1 (some e14)) 2 (some e15)) 3 (some e16)) 4 (some e17)) 5 (some e18))))))), (e13, .inr (11, [.int 0, .ref e19, .ref e20, .ref e21, .ref e22, .ref e23, .ref e24, .ref e25, .ref e26, .int 0, .int 1, .int 1, .int 0, .int 0, .int 0, .int (-1), .int 0, .int 0])), (e22, .inl (e27, 8, .inl (fun _ => 0))), (e23, .inl (e28, 64, .inl (fun _ => 0))), (e24, .inl (e29, 8, .inl (fun _ => 0))), (e20, .inr (10, [.ref e30, .ref e31, .ref e32, .ref e33, .ref e34, .null, .int 0, .int 0, .int 0, .int 0, .int 0, .int 0, .int 0, .int 0])), (e14, .inr (11, [.int 1, .ref e35, .ref e36, .ref e37, .ref e38, .ref e39, .ref e40, .ref e41, .ref e42, .int 0, .int 1, .int 1, .int 0, .int 0, .int 0, .int (-1), .int 0, .int 0])), (e38, .inl (e43, 8, .inl (fun _ => 0))), (e39, .inl (e44, 64, .inl (fun _ => 0))), (e40, .inl (e45, 8, .inl (fun _ => 0))), (e36, .inr (10, [.ref e46, .ref e47, .ref e48, .ref e49, .ref e50, .null, .int 0, .int 0, .int 0, .int 0, .int 0, .int 0, .int 0, .int 0])), (e15, .inr (11, [.int 2, .ref e51, .ref e52, .ref e53, .ref e54, .ref e55, .ref e56, .ref e57, .ref e58, .int 0, .int 1, .int 1, .int 0, .int 0, .int 0, .int (-1), .int 0, .int 0])), (e54, .inl (e59, 8, .inl (fun _ => 0))), (e55, .inl (e60, 64, .inl (fun _ => 0))), (e56, .inl (e61, 8, .inl (fun _ => 0))), (e52, .inr (10, [.ref e62, .ref e63, .ref e64, .ref e65, .ref e66, .null, .int 0, .int 0, .int 0, .int 0, .int 0, .int 0, .int 0, .int 0])), (e16, .inr (11, [.int 3, .ref e67, .ref e68, .ref e69, .ref e70, .ref e71, .ref e72, .ref e73, .ref e74, .int 0, .int 1, .int 1, .int 0, .int 0, .int 0, .int (-1), .int 0, .int 0])), (e70, .inl (e75, 8, .inl (fun _ => 0))), (e71, .inl (e76, 64, .inl (fun _ => 0))), (e72, .inl (e77, 8, .inl (fun _ => 0))), (e68, .inr (10, [.ref e78, .ref e79, .ref e80, .ref e81, .ref e82, .null, .int 0, .int 0, .int 0, .int 0, .int 0, .int 0, .int 0, .int 0])), (e17, .inr (11, [.int 4, .ref e83, .ref e84, .ref e85, .ref e86, .ref e87, .ref e88, .ref e89, .ref e90, .int 0, .int 1, .int 1, .int 0, .int 0, .int 0, .int (-1), .int 0, .int 0])), (e86, .inl (e91, 8, .inl (fun _ => 0))), (e87, .inl (e92, 64, .inl (fun _ => 0))), (e88, .inl (e93, 8, .inl (fun _ => 0))), (e84, .inr (10, [.ref e94, .ref e95, .ref e96, .ref e97, .ref e98, .null, .int 0, .int 0, .int 0, .int 0, .int 0, .int 0, .int 0, .int 0])), (e18, .inr (11, [.int 5, .ref e99, .ref e100, .ref e101, .ref e102, .ref e103, .ref e104, .ref e105, .ref e106, .int 0, .int 1, .int 1, .int 0, .int 0, .int 0, .int (-1), .int 0, .int 0])), (e102, .inl (e107, 8, .inl (fun _ => 0))), (e103, .inl (e108, 64, .inl (fun _ => 0))), (e104, .inl (e109, 8, .inl (fun _ => 0))), (e100, .inr (10, [.ref e110, .ref e111, .ref e112, .ref e113, .ref e114, .null, .int 0, .int 0, .int 0, .int 0, .int 0, .int 0, .int 0, .int 0])), (e4, .inr (1, [.ref e115, .ref e116, .ref e117, .ref e118, .ref e119, .ref e120, .ref e121, .ref e122, .ref e123, .ref e124, .ref e125, .ref e126, .ref e127, .int 0, .int 0, .int 0, .int 0])), (e115, .inl (e128, 8, .inr (.inr (.inr (.inr (va_up (va_up (va_up (va_up (va_up (va_up (va_up (va_up (fun _ => none) 0 (some e129)) 1 (some e130)) 2 (some e131)) 3 (some e132)) 4 (some e133)) 5 (some e134)) 6 (some e135)) 7 (some e136))))))), (e129, .inr (0, [.ref e137, .ref e138, .ref e139, .ref e140, .int 0, .int 0, .int 0, .int 0])), (e130, .inr (0, [.ref e141, .ref e142, .ref e143, .ref e144, .int 0, .int 0, .int 0, .int 0])), (e131, .inr (0, [.ref e145, .ref e146, .ref e147, .ref e148, .int 0, .int 0, .int 0, .int 0])), (e132, .inr (0, [.ref e149, .ref e150, .ref e151, .ref e152, .int 0, .int 0, .int 0, .int 0])), (e133, .inr (0, [.ref e153, .ref e154, .ref e155, .ref e156, .int 0, .int 0, .int 0, .int 0])), (e134, .inr (0, [.ref e157, .ref e158, .ref e159, .ref e160, .int 0, .int 0, .int 0, .int 0])), (e135, .inr (0, [.ref e161, .ref e162, .ref e163, .ref e164, .int 0, .int 0, .int 0, .int 0])), (e136, .inr (0, [.ref e165, .ref e166, .ref e167, .ref e168, .int 0, .int 0, .int 0, .int 0])), (e5, .inr (2, [.ref e169, .ref e170, .ref e171, .ref e172, .ref e173, .int 0, .int 0, .int 0, .int (-1), .int 0, .int 0, .int 0]))]) hP hD [0] [] rfl rfl (by decide) (by decide) hk1 hFc hP1 hD1
  have hK := (hK.sub (tys' := []) [] rfl).app hK1
  generalize H1 = H at hP hS ⊢
  have hP : va_P (dC, dI) classes [(q1, .inr (12, [.ref e2, .ref e3, .ref e4, .ref e5, .ref e6, .ref e7, .ref e8, .ref e9, .ref e10, .int 0, .int 0, .int 1])), (e2, .inl (e11, 2000, .inl (fun _ => 0))), (e3, .inl (e12, 6, .inr (.inr (.inr (.inr (va_up (va_up (va_up (va_up (va_up (va_up (fun _ => none) 0 (some e13)) 1 (some e14)) 2 (some e15)) 3 (some e16)) 4 (some e17)) 5 (some e18))))))), (e13, .inr (11, [.int 0, .ref e19, .ref e20, .ref e21, .ref e22, .ref e23, .ref e24, .ref e25, .ref e26, .int 0, .int 1, .int 1, .int 0, .int 0, .int 0, .int (-1), .int 0, .int 0])), (e22, .inl (e27, 8, .inl (fun _ => 0))), (e23, .inl (e28, 64, .inl (fun _ => 0))), (e24, .inl (e29, 8, .inl (fun _ => 0))), (e20, .inr (10, [.ref e30, .ref e31, .ref e32, .ref e33, .ref e34, .null, .int 0, .int 0, .int 0, .int 0, .int 0, .int 0, .int 0, .int 0])), (e14, .inr (11, [.int 1, .ref e35, .ref e36, .ref e37, .ref e38, .ref e39, .ref e40, .ref e41, .ref e42, .int 0, .int 1, .int 1, .int 0, .int 0, .int 0, .int (-1), .int 0, .int 0])), (e38, .inl (e43, 8, .inl (fun _ => 0))), (e39, .inl (e44, 64, .inl (fun _ => 0))), (e40, .inl (e45, 8, .inl (fun _ => 0))), (e36, .inr (10, [.ref e46, .ref e47, .ref e48, .ref e49, .ref e50, .null, .int 0, .int 0, .int 0, .int 0, .int 0, .int 0, .int 0, .int 0])), (e15, .inr (11, [.int 2, .ref e51, .ref e52, .ref e53, .ref e54, .ref e55, .ref e56, .ref e57, .ref e58, .int 0, .int 1, .int 1, .int 0, .int 0, .int 0, .int (-1), .int 0, .int 0])), (e54, .inl (e59, 8, .inl (fun _ => 0))), (e55, .inl (e60, 64, .inl (fun _ => 0))), (e56, .inl (e61, 8, .inl (fun _ => 0))), (e52, .inr (10, [.ref e62, .ref e63, .ref e64, .ref e65, .ref e66, .null, .int 0, .int 0, .int 0, .int 0, .int 0, .int 0, .int 0, .int 0])), (e16, .inr (11, [.int 3, .ref e67, .ref e68, .ref e69, .ref e70, .ref e71, .ref e72, .ref e73, .ref e74, .int 0, .int 1, .int 1, .int 0, .int 0, .int 0, .int (-1), .int 0, .int 0])), (e70, .inl (e75, 8, .inl (fun _ => 0))), (e71, .inl (e76, 64, .inl (fun _ => 0))), (e72, .inl (e77, 8, .inl (fun _ => 0))), (e68, .inr (10, [.ref e78, .ref e79, .ref e80, .ref e81, .ref e82, .null, .int 0, .int 0, .int 0, .int 0, .int 0, .int 0, .int 0, .int 0])), (e17, .inr (11, [.int 4, .ref e83, .ref e84, .ref e85, .ref e86, .ref e87, .ref e88, .ref e89, .ref e90, .int 0, .int 1, .int 1, .int 0, .int 0, .int 0, .int (-1), .int 0, .int 0])), (e86, .inl (e91, 8, .inl (fun _ => 0))), (e87, .inl (e92, 64, .inl (fun _ => 0))), (e88, .inl (e93, 8, .inl (fun _ => 0))), (e84, .inr (10, [.ref e94, .ref e95, .ref e96, .ref e97, .ref e98, .null, .int 0, .int 0, .int 0, .int 0, .int 0, .int 0, .int 0, .int 0])), (e18, .inr (11, [.int 5, .ref e99, .ref e100, .ref e101, .ref e102, .ref e103, .ref e104, .ref e105, .ref e106, .int 0, .int 1, .int 1, .int 0, .int 0, .int 0, .int (-1), .int 0, .int 0])), (e102, .inl (e107, 8, .inl (fun _ => 0))), (e103, .inl (e108, 64, .inl (fun _ => 0))), (e104, .inl (e109, 8, .inl (fun _ => 0))), (e100, .inr (10, [.ref e110, .ref e111, .ref e112, .ref e113, .ref e114, .null, .int 0, .int 0, .int 0, .int 0, .int 0, .int 0, .int 0, .int 0])), (e4, .inr (1, [.ref e115, .ref e116, .ref e117, .ref e118, .ref e119, .ref e120, .ref e121, .ref e122, .ref e123, .ref e124, .ref e125, .ref e126, .ref e127, .int 0, .int 0, .int 0, .int 0])), (e115, .inl (e128, 8, .inr (.inr (.inr (.inr (va_up (va_up (va_up (va_up (va_up (va_up (va_up (va_up (fun _ => none) 0 (some e129)) 1 (some e130)) 2 (some e131)) 3 (some e132)) 4 (some e133)) 5 (some e134)) 6 (some e135)) 7 (some e136))))))), (e129, .inr (0, [.ref e137, .ref e138, .ref e139, .ref e140, .int 0, .int 0, .int 0, .int 0])), (e130, .inr (0, [.ref e141, .ref e142, .ref e143, .ref e144, .int 0, .int 0, .int 0, .int 0])), (e131, .inr (0, [.ref e145, .ref e146, .ref e147, .ref e148, .int 0, .int 0, .int 0, .int 0])), (e132, .inr (0, [.ref e149, .ref e150, .ref e151, .ref e152, .int 0, .int 0, .int 0, .int 0])), (e133, .inr (0, [.ref e153, .ref e154, .ref e155, .ref e156, .int 0, .int 0, .int 0, .int 0])), (e134, .inr (0, [.ref e157, .ref e158, .ref e159, .ref e160, .int 0, .int 0, .int 0, .int 0])), (e135, .inr (0, [.ref e161, .ref e162, .ref e163, .ref e164, .int 0, .int 0, .int 0, .int 0])), (e136, .inr (0, [.ref e165, .ref e166, .ref e167, .ref e168, .int 0, .int 0, .int 0, .int 0])), (e5, .inr (2, [.ref e169, .ref e170, .ref e171, .ref e172, .ref e173, .int 0, .int 0, .int 0, .int (-1), .int 0, .int 0, .int 0]))] H := hP
  have hD : va_D (fun q : Nat => s.heap.size ≤ q) [(q1, .inr (12, [.ref e2, .ref e3, .ref e4, .ref e5, .ref e6, .ref e7, .ref e8, .ref e9, .ref e10, .int 0, .int 0, .int 1])), (e2, .inl (e11, 2000, .inl (fun _ => 0))), (e3, .inl (e12, 6, .inr (.inr (.inr (.inr (va_up (va_up (va_up (va_up (va_up (va_up (fun _ => none) 0 (some e13)) 1 (some e14)) 2 (some e15)) 3 (some e16)) 4 (some e17)) 5 (some e18))))))), (e13, .inr (11, [.int 0, .ref e19, .ref e20, .ref e21, .ref e22, .ref e23, .ref e24, .ref e25, .ref e26, .int 0, .int 1, .int 1, .int 0, .int 0, .int 0, .int (-1), .int 0, .int 0])), (e22, .inl (e27, 8, .inl (fun _ => 0))), (e23, .inl (e28, 64, .inl (fun _ => 0))), (e24, .inl (e29, 8, .inl (fun _ => 0))), (e20, .inr (10, [.ref e30, .ref e31, .ref e32, .ref e33, .ref e34, .null, .int 0, .int 0, .int 0, .int 0, .int 0, .int 0, .int 0, .int 0])), (e14, .inr (11, [.int 1, .ref e35, .ref e36, .ref e37, .ref e38, .ref e39, .ref e40, .ref e41, .ref e42, .int 0, .int 1, .int 1, .int 0, .int 0, .int 0, .int (-1), .int 0, .int 0])), (e38, .inl (e43, 8, .inl (fun _ => 0))), (e39, .inl (e44, 64, .inl (fun _ => 0))), (e40, .inl (e45, 8, .inl (fun _ => 0))), (e36, .inr (10, [.ref e46, .ref e47, .ref e48, .ref e49, .ref e50, .null, .int 0, .int 0, .int 0, .int 0, .int 0, .int 0, .int 0, .int 0])), (e15, .inr (11, [.int 2, .ref e51, .ref e52, .ref e53, .ref e54, .ref e55, .ref e56, .ref e57, .ref e58, .int 0, .int 1, .int 1, .int 0, .int 0, .int 0, .int (-1), .int 0, .int 0])), (e54, .inl (e59, 8, .inl (fun _ => 0))), (e55, .inl (e60, 64, .inl (fun _ => 0))), (e56, .inl (e61, 8, .inl (fun _ => 0))), (e52, .inr (10, [.ref e62, .ref e63, .ref e64, .ref e65, .ref e66, .null, .int 0, .int 0, .int 0, .int 0, .int 0, .int 0, .int 0, .int 0])), (e16, .inr (11, [.int 3, .ref e67, .ref e68, .ref e69, .ref e70, .ref e71, .ref e72, .ref e73, .ref e74, .int 0, .int 1, .int 1, .int 0, .int 0, .int 0, .int (-1), .int 0, .int 0])), (e70, .inl (e75, 8, .inl (fun _ => 0))), (e71, .inl (e76, 64, .inl (fun _ => 0))), (e72, .inl (e77, 8, .inl (fun _ => 0))), (e68, .inr (10, [.ref e78, .ref e79, .ref e80, .ref e81, .ref e82, .null, .int 0, .int 0, .int 0, .int 0, .int 0, .int 0, .int 0, .int 0])), (e17, .inr (11, [.int 4, .ref e83, .ref e84, .ref e85, .ref e86, .ref e87, .ref e88, .ref e89, .ref e90, .int 0, .int 1, .int 1, .int 0, .int 0, .int 0, .int (-1), .int 0, .int 0])), (e86, .inl (e91, 8, .inl (fun _ => 0))), (e87, .inl (e92, 64, .inl (fun _ => 0))), (e88, .inl (e93, 8, .inl (fun _ => 0))), (e84, .inr (10, [.ref e94, .ref e95, .ref e96, .ref e97, .ref e98, .null, .int 0, .int 0, .int 0, .int 0, .int 0, .int 0, .int 0, .int 0])), (e18, .inr (11, [.int 5, .ref e99, .ref e100, .ref e101, .ref e102, .ref e103, .ref e104, .ref e105, .ref e106, .int 0, .int 1, .int 1, .int 0, .int 0, .int 0, .int (-1), .int 0, .int 0])), (e102, .inl (e107, 8, .inl (fun _ => 0))), (e103, .inl (e108, 64, .inl (fun _ => 0))), (e104, .inl (e109, 8, .inl (fun _ => 0))), (e100, .inr (10, [.ref e110, .ref e111, .ref e112, .ref e113, .ref e114, .null, .int 0, .int 0, .int 0, .int 0, .int 0, .int 0, .int 0, .int 0])), (e4, .inr (1, [.ref e115, .ref e116, .ref e117, .ref e118, .ref e119, .ref e120, .ref e121, .ref e122, .ref e123, .ref e124, .ref e125, .ref e126, .ref e127, .int 0, .int 0, .int 0, .int 0])), (e115, .inl (e128, 8, .inr (.inr (.inr (.inr (va_up (va_up (va_up (va_up (va_up (va_up (va_up (va_up (fun _ => none) 0 (some e129)) 1 (some e130)) 2 (some e131)) 3 (some e132)) 4 (some e133)) 5 (some e134)) 6 (some e135)) 7 (some e136))))))), (e129, .inr (0, [.ref e137, .ref e138, .ref e139, .ref e140, .int 0, .int 0, .int 0, .int 0])), (e130, .inr (0, [.ref e141, .ref e142, .ref e143, .ref e144, .int 0, .int 0, .int 0, .int 0])), (e131, .inr (0, [.ref e145, .ref e146, .ref e147, .ref e148, .int 0, .int 0, .int 0, .int 0])), (e132, .inr (0, [.ref e149, .ref e150, .ref e151, .ref e152, .int 0, .int 0, .int 0, .int 0])), (e133, .inr (0, [.ref e153, .ref e154, .ref e155, .ref e156, .int 0, .int 0, .int 0, .int 0])), (e134, .inr (0, [.ref e157, .ref e158, .ref e159, .ref e160, .int 0, .int 0, .int 0, .int 0])), (e135, .inr (0, [.ref e161, .ref e162, .ref e163, .ref e164, .int 0, .int 0, .int 0, .int 0])), (e136, .inr (0, [.ref e165, .ref e166, .ref e167, .ref e168, .int 0, .int 0, .int 0, .int 0])), (e5, .inr (2, [.ref e169, .ref e170, .ref e171, .ref e172, .ref e173, .int 0, .int 0, .int 0, .int (-1), .int 0, .int 0, .int 0]))] := hD
  have hK : va_K (dC, dI) classes [(e11, .byte), (e12, .object R_SSession), (e27, .int), (e28, .int), (e29, .int), (e43, .int), (e44, .int), (e45, .int), (e59, .int), (e60, .int), (e61, .int), (e75, .int), (e76, .int), (e77, .int), (e91, .int), (e92, .int), (e93, .int), (e107, .int), (e108, .int), (e109, .int), (e128, .object R_STable)] s := hK
  refine W.widen (k := 349) (n := 361757) (Nat.le_of_ble_eq_true rfl) (Nat.le_of_ble_eq_true rfl) ?_
  refine lv_astore_n (lv' := [(1, .ref q1), (0, .ref b)]) hx hb d_law_7 rfl hl (by decide) rfl (fun ls hl => ?_)
  refine va_new (ci := 20) (fs := [.int 0, .int 0, .null, .int 0, .null, .null, .null, .int 0, .int 0, .null, .null, .null, .null, .null, .null, .null, .null, .null, .int 0, .int 0, .null, .null, .null, .null, .int 0, .int 0, .int 0, .null, .int 0, .null, .null, .null, .int 0, .null, .null, .null, .null, .null, .int 0, .null, .null, .null]) (C := R_Model) (T := F_Model) (N := 42) hx hb hts il_Model t_Model t_Model_ok hown (hts _ (gG_l q_1973)) (hts _ (gG_l q_1974)) (hts _ (gG_l q_14)) hK hP hD hS hA rfl (fs_Model) (Nat.le_of_ble_eq_true rfl) (Nat.le_of_ble_eq_true rfl) d_law_8 (fun q174 H hP hD hS => ?_)
  have hP : va_P (dC, dI) classes [(q1, .inr (12, [.ref e2, .ref e3, .ref e4, .ref e5, .ref e6, .ref e7, .ref e8, .ref e9, .ref e10, .int 0, .int 0, .int 1])), (e2, .inl (e11, 2000, .inl (fun _ => 0))), (e3, .inl (e12, 6, .inr (.inr (.inr (.inr (va_up (va_up (va_up (va_up (va_up (va_up (fun _ => none) 0 (some e13)) 1 (some e14)) 2 (some e15)) 3 (some e16)) 4 (some e17)) 5 (some e18))))))), (e13, .inr (11, [.int 0, .ref e19, .ref e20, .ref e21, .ref e22, .ref e23, .ref e24, .ref e25, .ref e26, .int 0, .int 1, .int 1, .int 0, .int 0, .int 0, .int (-1), .int 0, .int 0])), (e22, .inl (e27, 8, .inl (fun _ => 0))), (e23, .inl (e28, 64, .inl (fun _ => 0))), (e24, .inl (e29, 8, .inl (fun _ => 0))), (e20, .inr (10, [.ref e30, .ref e31, .ref e32, .ref e33, .ref e34, .null, .int 0, .int 0, .int 0, .int 0, .int 0, .int 0, .int 0, .int 0])), (e14, .inr (11, [.int 1, .ref e35, .ref e36, .ref e37, .ref e38, .ref e39, .ref e40, .ref e41, .ref e42, .int 0, .int 1, .int 1, .int 0, .int 0, .int 0, .int (-1), .int 0, .int 0])), (e38, .inl (e43, 8, .inl (fun _ => 0))), (e39, .inl (e44, 64, .inl (fun _ => 0))), (e40, .inl (e45, 8, .inl (fun _ => 0))), (e36, .inr (10, [.ref e46, .ref e47, .ref e48, .ref e49, .ref e50, .null, .int 0, .int 0, .int 0, .int 0, .int 0, .int 0, .int 0, .int 0])), (e15, .inr (11, [.int 2, .ref e51, .ref e52, .ref e53, .ref e54, .ref e55, .ref e56, .ref e57, .ref e58, .int 0, .int 1, .int 1, .int 0, .int 0, .int 0, .int (-1), .int 0, .int 0])), (e54, .inl (e59, 8, .inl (fun _ => 0))), (e55, .inl (e60, 64, .inl (fun _ => 0))), (e56, .inl (e61, 8, .inl (fun _ => 0))), (e52, .inr (10, [.ref e62, .ref e63, .ref e64, .ref e65, .ref e66, .null, .int 0, .int 0, .int 0, .int 0, .int 0, .int 0, .int 0, .int 0])), (e16, .inr (11, [.int 3, .ref e67, .ref e68, .ref e69, .ref e70, .ref e71, .ref e72, .ref e73, .ref e74, .int 0, .int 1, .int 1, .int 0, .int 0, .int 0, .int (-1), .int 0, .int 0])), (e70, .inl (e75, 8, .inl (fun _ => 0))), (e71, .inl (e76, 64, .inl (fun _ => 0))), (e72, .inl (e77, 8, .inl (fun _ => 0))), (e68, .inr (10, [.ref e78, .ref e79, .ref e80, .ref e81, .ref e82, .null, .int 0, .int 0, .int 0, .int 0, .int 0, .int 0, .int 0, .int 0])), (e17, .inr (11, [.int 4, .ref e83, .ref e84, .ref e85, .ref e86, .ref e87, .ref e88, .ref e89, .ref e90, .int 0, .int 1, .int 1, .int 0, .int 0, .int 0, .int (-1), .int 0, .int 0])), (e86, .inl (e91, 8, .inl (fun _ => 0))), (e87, .inl (e92, 64, .inl (fun _ => 0))), (e88, .inl (e93, 8, .inl (fun _ => 0))), (e84, .inr (10, [.ref e94, .ref e95, .ref e96, .ref e97, .ref e98, .null, .int 0, .int 0, .int 0, .int 0, .int 0, .int 0, .int 0, .int 0])), (e18, .inr (11, [.int 5, .ref e99, .ref e100, .ref e101, .ref e102, .ref e103, .ref e104, .ref e105, .ref e106, .int 0, .int 1, .int 1, .int 0, .int 0, .int 0, .int (-1), .int 0, .int 0])), (e102, .inl (e107, 8, .inl (fun _ => 0))), (e103, .inl (e108, 64, .inl (fun _ => 0))), (e104, .inl (e109, 8, .inl (fun _ => 0))), (e100, .inr (10, [.ref e110, .ref e111, .ref e112, .ref e113, .ref e114, .null, .int 0, .int 0, .int 0, .int 0, .int 0, .int 0, .int 0, .int 0])), (e4, .inr (1, [.ref e115, .ref e116, .ref e117, .ref e118, .ref e119, .ref e120, .ref e121, .ref e122, .ref e123, .ref e124, .ref e125, .ref e126, .ref e127, .int 0, .int 0, .int 0, .int 0])), (e115, .inl (e128, 8, .inr (.inr (.inr (.inr (va_up (va_up (va_up (va_up (va_up (va_up (va_up (va_up (fun _ => none) 0 (some e129)) 1 (some e130)) 2 (some e131)) 3 (some e132)) 4 (some e133)) 5 (some e134)) 6 (some e135)) 7 (some e136))))))), (e129, .inr (0, [.ref e137, .ref e138, .ref e139, .ref e140, .int 0, .int 0, .int 0, .int 0])), (e130, .inr (0, [.ref e141, .ref e142, .ref e143, .ref e144, .int 0, .int 0, .int 0, .int 0])), (e131, .inr (0, [.ref e145, .ref e146, .ref e147, .ref e148, .int 0, .int 0, .int 0, .int 0])), (e132, .inr (0, [.ref e149, .ref e150, .ref e151, .ref e152, .int 0, .int 0, .int 0, .int 0])), (e133, .inr (0, [.ref e153, .ref e154, .ref e155, .ref e156, .int 0, .int 0, .int 0, .int 0])), (e134, .inr (0, [.ref e157, .ref e158, .ref e159, .ref e160, .int 0, .int 0, .int 0, .int 0])), (e135, .inr (0, [.ref e161, .ref e162, .ref e163, .ref e164, .int 0, .int 0, .int 0, .int 0])), (e136, .inr (0, [.ref e165, .ref e166, .ref e167, .ref e168, .int 0, .int 0, .int 0, .int 0])), (e5, .inr (2, [.ref e169, .ref e170, .ref e171, .ref e172, .ref e173, .int 0, .int 0, .int 0, .int (-1), .int 0, .int 0, .int 0])), (q174, .inr (20, [.int 0, .int 0, .null, .int 0, .null, .null, .null, .int 0, .int 0, .null, .null, .null, .null, .null, .null, .null, .null, .null, .int 0, .int 0, .null, .null, .null, .null, .int 0, .int 0, .int 0, .null, .int 0, .null, .null, .null, .int 0, .null, .null, .null, .null, .null, .int 0, .null, .null, .null]))] H := hP
  have hD : va_D (fun q : Nat => s.heap.size ≤ q) [(q1, .inr (12, [.ref e2, .ref e3, .ref e4, .ref e5, .ref e6, .ref e7, .ref e8, .ref e9, .ref e10, .int 0, .int 0, .int 1])), (e2, .inl (e11, 2000, .inl (fun _ => 0))), (e3, .inl (e12, 6, .inr (.inr (.inr (.inr (va_up (va_up (va_up (va_up (va_up (va_up (fun _ => none) 0 (some e13)) 1 (some e14)) 2 (some e15)) 3 (some e16)) 4 (some e17)) 5 (some e18))))))), (e13, .inr (11, [.int 0, .ref e19, .ref e20, .ref e21, .ref e22, .ref e23, .ref e24, .ref e25, .ref e26, .int 0, .int 1, .int 1, .int 0, .int 0, .int 0, .int (-1), .int 0, .int 0])), (e22, .inl (e27, 8, .inl (fun _ => 0))), (e23, .inl (e28, 64, .inl (fun _ => 0))), (e24, .inl (e29, 8, .inl (fun _ => 0))), (e20, .inr (10, [.ref e30, .ref e31, .ref e32, .ref e33, .ref e34, .null, .int 0, .int 0, .int 0, .int 0, .int 0, .int 0, .int 0, .int 0])), (e14, .inr (11, [.int 1, .ref e35, .ref e36, .ref e37, .ref e38, .ref e39, .ref e40, .ref e41, .ref e42, .int 0, .int 1, .int 1, .int 0, .int 0, .int 0, .int (-1), .int 0, .int 0])), (e38, .inl (e43, 8, .inl (fun _ => 0))), (e39, .inl (e44, 64, .inl (fun _ => 0))), (e40, .inl (e45, 8, .inl (fun _ => 0))), (e36, .inr (10, [.ref e46, .ref e47, .ref e48, .ref e49, .ref e50, .null, .int 0, .int 0, .int 0, .int 0, .int 0, .int 0, .int 0, .int 0])), (e15, .inr (11, [.int 2, .ref e51, .ref e52, .ref e53, .ref e54, .ref e55, .ref e56, .ref e57, .ref e58, .int 0, .int 1, .int 1, .int 0, .int 0, .int 0, .int (-1), .int 0, .int 0])), (e54, .inl (e59, 8, .inl (fun _ => 0))), (e55, .inl (e60, 64, .inl (fun _ => 0))), (e56, .inl (e61, 8, .inl (fun _ => 0))), (e52, .inr (10, [.ref e62, .ref e63, .ref e64, .ref e65, .ref e66, .null, .int 0, .int 0, .int 0, .int 0, .int 0, .int 0, .int 0, .int 0])), (e16, .inr (11, [.int 3, .ref e67, .ref e68, .ref e69, .ref e70, .ref e71, .ref e72, .ref e73, .ref e74, .int 0, .int 1, .int 1, .int 0, .int 0, .int 0, .int (-1), .int 0, .int 0])), (e70, .inl (e75, 8, .inl (fun _ => 0))), (e71, .inl (e76, 64, .inl (fun _ => 0))), (e72, .inl (e77, 8, .inl (fun _ => 0))), (e68, .inr (10, [.ref e78, .ref e79, .ref e80, .ref e81, .ref e82, .null, .int 0, .int 0, .int 0, .int 0, .int 0, .int 0, .int 0, .int 0])), (e17, .inr (11, [.int 4, .ref e83, .ref e84, .ref e85, .ref e86, .ref e87, .ref e88, .ref e89, .ref e90, .int 0, .int 1, .int 1, .int 0, .int 0, .int 0, .int (-1), .int 0, .int 0])), (e86, .inl (e91, 8, .inl (fun _ => 0))), (e87, .inl (e92, 64, .inl (fun _ => 0))), (e88, .inl (e93, 8, .inl (fun _ => 0))), (e84, .inr (10, [.ref e94, .ref e95, .ref e96, .ref e97, .ref e98, .null, .int 0, .int 0, .int 0, .int 0, .int 0, .int 0, .int 0, .int 0])), (e18, .inr (11, [.int 5, .ref e99, .ref e100, .ref e101, .ref e102, .ref e103, .ref e104, .ref e105, .ref e106, .int 0, .int 1, .int 1, .int 0, .int 0, .int 0, .int (-1), .int 0, .int 0])), (e102, .inl (e107, 8, .inl (fun _ => 0))), (e103, .inl (e108, 64, .inl (fun _ => 0))), (e104, .inl (e109, 8, .inl (fun _ => 0))), (e100, .inr (10, [.ref e110, .ref e111, .ref e112, .ref e113, .ref e114, .null, .int 0, .int 0, .int 0, .int 0, .int 0, .int 0, .int 0, .int 0])), (e4, .inr (1, [.ref e115, .ref e116, .ref e117, .ref e118, .ref e119, .ref e120, .ref e121, .ref e122, .ref e123, .ref e124, .ref e125, .ref e126, .ref e127, .int 0, .int 0, .int 0, .int 0])), (e115, .inl (e128, 8, .inr (.inr (.inr (.inr (va_up (va_up (va_up (va_up (va_up (va_up (va_up (va_up (fun _ => none) 0 (some e129)) 1 (some e130)) 2 (some e131)) 3 (some e132)) 4 (some e133)) 5 (some e134)) 6 (some e135)) 7 (some e136))))))), (e129, .inr (0, [.ref e137, .ref e138, .ref e139, .ref e140, .int 0, .int 0, .int 0, .int 0])), (e130, .inr (0, [.ref e141, .ref e142, .ref e143, .ref e144, .int 0, .int 0, .int 0, .int 0])), (e131, .inr (0, [.ref e145, .ref e146, .ref e147, .ref e148, .int 0, .int 0, .int 0, .int 0])), (e132, .inr (0, [.ref e149, .ref e150, .ref e151, .ref e152, .int 0, .int 0, .int 0, .int 0])), (e133, .inr (0, [.ref e153, .ref e154, .ref e155, .ref e156, .int 0, .int 0, .int 0, .int 0])), (e134, .inr (0, [.ref e157, .ref e158, .ref e159, .ref e160, .int 0, .int 0, .int 0, .int 0])), (e135, .inr (0, [.ref e161, .ref e162, .ref e163, .ref e164, .int 0, .int 0, .int 0, .int 0])), (e136, .inr (0, [.ref e165, .ref e166, .ref e167, .ref e168, .int 0, .int 0, .int 0, .int 0])), (e5, .inr (2, [.ref e169, .ref e170, .ref e171, .ref e172, .ref e173, .int 0, .int 0, .int 0, .int (-1), .int 0, .int 0, .int 0])), (q174, .inr (20, [.int 0, .int 0, .null, .int 0, .null, .null, .null, .int 0, .int 0, .null, .null, .null, .null, .null, .null, .null, .null, .null, .int 0, .int 0, .null, .null, .null, .null, .int 0, .int 0, .int 0, .null, .int 0, .null, .null, .null, .int 0, .null, .null, .null, .null, .null, .int 0, .null, .null, .null]))] := hD
  refine W.widen (k := 350) (n := 361799) (Nat.le_of_ble_eq_true rfl) (Nat.le_of_ble_eq_true rfl) ?_
  refine lv_dup hx hb d_law_11 rfl ?_
  have hPc := hP.sub (ws' := [(q174, .inr (20, [.int 0, .int 0, .null, .int 0, .null, .null, .null, .int 0, .int 0, .null, .null, .null, .null, .null, .null, .null, .null, .null, .int 0, .int 0, .null, .null, .null, .null, .int 0, .int 0, .int 0, .null, .int 0, .null, .null, .null, .int 0, .null, .null, .null, .null, .null, .int 0, .null, .null, .null]))]) [44] rfl
  have hDc := hD.sub (ws' := [(q174, .inr (20, [.int 0, .int 0, .null, .int 0, .null, .null, .null, .int 0, .int 0, .null, .null, .null, .null, .null, .null, .null, .null, .null, .int 0, .int 0, .null, .null, .null, .null, .int 0, .int 0, .int 0, .null, .int 0, .null, .null, .null, .int 0, .null, .null, .null, .null, .null, .int 0, .null, .null, .null]))]) [44] (by decide) rfl
  have hKc := hK.sub (tys' := []) [] rfl
  have hFc := va_free (wc := [(q174, .inr (20, [.int 0, .int 0, .null, .int 0, .null, .null, .null, .int 0, .int 0, .null, .null, .null, .null, .null, .null, .null, .null, .null, .int 0, .int 0, .null, .null, .null, .null, .int 0, .int 0, .int 0, .null, .int 0, .null, .null, .null, .int 0, .null, .null, .null, .null, .null, .int 0, .null, .null, .null]))]) hD hS hA [44] rfl
  refine va_callv (va_runI (As := []) (rest := [.ref q174]) ⟨hx, hb, hml, hown, hts⟩ (c_Model_init l dC dI H.size q174) (cwI 0 hts (gG_goodL q_1977) rfl rfl rfl (hts _ (gG_l q_14)) (hts _ (gG_l q_1975)) (hts _ (gG_l q_1976)) rfl (by decide +kernel) ⟨Nat.le_of_ble_eq_true rfl, Nat.le_of_ble_eq_true rfl⟩) ⟨fun a U g mk q => by obtain ⟨q0, q1, qP, qK, qD, qN⟩ := q; exact ⟨q0, q1, qP, va_K.moved (u := U) (U := U.calling g mk a) (Vm.Alike.refl U.vm) qK, qD, bx_N.same rfl qN⟩, fun U hU hW => ⟨rfl, by rw [hU], by rw [hU]; exact hPc, va_K.moved hW.alike hKc, hDc.weaken (fun _ _ _ _ => trivial), bx_N.warm hW hN⟩⟩ rfl rfl hl.1 rfl (lv_room (Nat.le_of_ble_eq_true rfl)) d_law_12 ⟨Nat.le_of_ble_eq_true rfl, Nat.le_of_ble_eq_true rfl⟩) hS (fun q _ h => hFc q h) hFc (fun u t H1 locs ht hvm hw hB hz1 hk1 hS => ?_)
  refine hB.elim (fun e175 hB => ?_)
  refine hB.elim (fun e176 hB => ?_)
  refine hB.elim (fun e177 hB => ?_)
  refine hB.elim (fun e178 hB => ?_)
  refine hB.elim (fun e179 hB => ?_)
  refine hB.elim (fun e180 hB => ?_)
  refine hB.elim (fun e181 hB => ?_)
  refine hB.elim (fun e182 hB => ?_)
  refine hB.elim (fun e183 hB => ?_)
  refine hB.elim (fun e184 hB => ?_)
  refine hB.elim (fun e185 hB => ?_)
  refine hB.elim (fun e186 hB => ?_)
  refine hB.elim (fun e187 hB => ?_)
  refine hB.elim (fun e188 hB => ?_)
  refine hB.elim (fun e189 hB => ?_)
  refine hB.elim (fun e190 hB => ?_)
  refine hB.elim (fun e191 hB => ?_)
  refine hB.elim (fun e192 hB => ?_)
  refine hB.elim (fun e193 hB => ?_)
  refine hB.elim (fun e194 hB => ?_)
  refine hB.elim (fun e195 hB => ?_)
  refine hB.elim (fun e196 hB => ?_)
  refine hB.elim (fun e197 hB => ?_)
  refine hB.elim (fun e198 hB => ?_)
  refine hB.elim (fun e199 hB => ?_)
  refine hB.elim (fun e200 hB => ?_)
  refine hB.elim (fun e201 hB => ?_)
  refine hB.elim (fun e202 hB => ?_)
  refine hB.elim (fun e203 hB => ?_)
  refine hB.elim (fun e204 hB => ?_)
  refine hB.elim (fun e205 hB => ?_)
  refine hB.elim (fun e206 hB => ?_)
  refine hB.elim (fun e207 hB => ?_)
  refine hB.elim (fun e208 hB => ?_)
  refine hB.elim (fun e209 hB => ?_)
  refine hB.elim (fun e210 hB => ?_)
  refine hB.elim (fun e211 hB => ?_)
  refine hB.elim (fun e212 hB => ?_)
  refine hB.elim (fun e213 hB => ?_)
  refine hB.elim (fun e214 hB => ?_)
  refine hB.elim (fun e215 hB => ?_)
  refine hB.elim (fun e216 hB => ?_)
  refine hB.elim (fun e217 hB => ?_)
  refine hB.elim (fun e218 hB => ?_)
  refine hB.elim (fun e219 hB => ?_)
  refine hB.elim (fun e220 hB => ?_)
  refine hB.elim (fun e221 hB => ?_)
  refine hB.elim (fun e222 hB => ?_)
  refine hB.elim (fun e223 hB => ?_)
  refine hB.elim (fun e224 hB => ?_)
  refine hB.elim (fun e225 hB => ?_)
  refine hB.elim (fun e226 hB => ?_)
  refine hB.elim (fun e227 hB => ?_)
  refine hB.elim (fun e228 hB => ?_)
  refine hB.elim (fun e229 hB => ?_)
  refine hB.elim (fun e230 hB => ?_)
  refine hB.elim (fun e231 hB => ?_)
  refine hB.elim (fun e232 hB => ?_)
  refine hB.elim (fun e233 hB => ?_)
  refine hB.elim (fun e234 hB => ?_)
  refine hB.elim (fun e235 hB => ?_)
  refine hB.elim (fun e236 hB => ?_)
  refine hB.elim (fun e237 hB => ?_)
  refine hB.elim (fun e238 hB => ?_)
  refine hB.elim (fun e239 hB => ?_)
  refine hB.elim (fun e240 hB => ?_)
  refine hB.elim (fun e241 hB => ?_)
  refine hB.elim (fun e242 hB => ?_)
  refine hB.elim (fun e243 hB => ?_)
  refine hB.elim (fun e244 hB => ?_)
  refine hB.elim (fun e245 hB => ?_)
  refine hB.elim (fun e246 hB => ?_)
  refine hB.elim (fun e247 hB => ?_)
  refine hB.elim (fun e248 hB => ?_)
  refine hB.elim (fun e249 hB => ?_)
  refine hB.elim (fun e250 hB => ?_)
  refine hB.elim (fun e251 hB => ?_)
  refine hB.elim (fun e252 hB => ?_)
  refine hB.elim (fun e253 hB => ?_)
  refine hB.elim (fun e254 hB => ?_)
  refine hB.elim (fun e255 hB => ?_)
  refine hB.elim (fun e256 hB => ?_)
  refine hB.elim (fun e257 hB => ?_)
  refine hB.elim (fun e258 hB => ?_)
  refine hB.elim (fun e259 hB => ?_)
  refine hB.elim (fun e260 hB => ?_)
  refine hB.elim (fun e261 hB => ?_)
  refine hB.elim (fun e262 hB => ?_)
  refine hB.elim (fun e263 hB => ?_)
  refine hB.elim (fun e264 hB => ?_)
  refine hB.elim (fun e265 hB => ?_)
  refine hB.elim (fun e266 hB => ?_)
  refine hB.elim (fun e267 hB => ?_)
  refine hB.elim (fun e268 hB => ?_)
  refine hB.elim (fun e269 hB => ?_)
  refine hB.elim (fun e270 hB => ?_)
  refine hB.elim (fun e271 hB => ?_)
  refine hB.elim (fun e272 hB => ?_)
  refine hB.elim (fun e273 hB => ?_)
  refine hB.elim (fun e274 hB => ?_)
  refine hB.elim (fun e275 hB => ?_)
  refine hB.elim (fun e276 hB => ?_)
  refine hB.elim (fun e277 hB => ?_)
  refine hB.elim (fun e278 hB => ?_)
  refine hB.elim (fun e279 hB => ?_)
  refine hB.elim (fun e280 hB => ?_)
  refine hB.elim (fun e281 hB => ?_)
  refine hB.elim (fun e282 hB => ?_)
  refine hB.elim (fun e283 hB => ?_)
  refine hB.elim (fun e284 hB => ?_)
  refine hB.elim (fun e285 hB => ?_)
  refine hB.elim (fun e286 hB => ?_)
  refine hB.elim (fun e287 hB => ?_)
  refine hB.elim (fun e288 hB => ?_)
  refine hB.elim (fun e289 hB => ?_)
  refine hB.elim (fun e290 hB => ?_)
  refine hB.elim (fun e291 hB => ?_)
  refine hB.elim (fun e292 hB => ?_)
  refine hB.elim (fun e293 hB => ?_)
  refine hB.elim (fun e294 hB => ?_)
  refine hB.elim (fun e295 hB => ?_)
  refine hB.elim (fun e296 hB => ?_)
  refine hB.elim (fun e297 hB => ?_)
  refine hB.elim (fun e298 hB => ?_)
  refine hB.elim (fun e299 hB => ?_)
  refine hB.elim (fun e300 hB => ?_)
  refine hB.elim (fun e301 hB => ?_)
  refine hB.elim (fun e302 hB => ?_)
  refine hB.elim (fun e303 hB => ?_)
  refine hB.elim (fun e304 hB => ?_)
  refine hB.elim (fun e305 hB => ?_)
  refine hB.elim (fun e306 hB => ?_)
  refine hB.elim (fun e307 hB => ?_)
  refine hB.elim (fun e308 hB => ?_)
  refine hB.elim (fun e309 hB => ?_)
  refine hB.elim (fun e310 hB => ?_)
  refine hB.elim (fun e311 hB => ?_)
  refine hB.elim (fun e312 hB => ?_)
  refine hB.elim (fun e313 hB => ?_)
  refine hB.elim (fun e314 hB => ?_)
  refine hB.elim (fun e315 hB => ?_)
  refine hB.elim (fun e316 hB => ?_)
  refine hB.elim (fun e317 hB => ?_)
  refine hB.elim (fun e318 hB => ?_)
  refine hB.elim (fun e319 hB => ?_)
  refine hB.elim (fun e320 hB => ?_)
  refine hB.elim (fun e321 hB => ?_)
  refine hB.elim (fun e322 hB => ?_)
  refine hB.elim (fun e323 hB => ?_)
  refine hB.elim (fun e324 hB => ?_)
  refine hB.elim (fun e325 hB => ?_)
  refine hB.elim (fun e326 hB => ?_)
  refine hB.elim (fun e327 hB => ?_)
  refine hB.elim (fun e328 hB => ?_)
  refine hB.elim (fun e329 hB => ?_)
  refine hB.elim (fun e330 hB => ?_)
  refine hB.elim (fun e331 hB => ?_)
  refine hB.elim (fun e332 hB => ?_)
  refine hB.elim (fun e333 hB => ?_)
  refine hB.elim (fun e334 hB => ?_)
  refine hB.elim (fun e335 hB => ?_)
  refine hB.elim (fun e336 hB => ?_)
  refine hB.elim (fun e337 hB => ?_)
  refine hB.elim (fun e338 hB => ?_)
  refine hB.elim (fun e339 hB => ?_)
  refine hB.elim (fun e340 hB => ?_)
  refine hB.elim (fun e341 hB => ?_)
  refine hB.elim (fun e342 hB => ?_)
  refine hB.elim (fun e343 hB => ?_)
  refine hB.elim (fun e344 hB => ?_)
  refine hB.elim (fun e345 hB => ?_)
  refine hB.elim (fun e346 hB => ?_)
  refine hB.elim (fun e347 hB => ?_)
  refine hB.elim (fun e348 hB => ?_)
  refine hB.elim (fun e349 hB => ?_)
  refine hB.elim (fun e350 hB => ?_)
  obtain ⟨hP1, hK1, hD1⟩ := hB
  rw [ht] at hP1
  have hK1 := va_K.moved hvm.symm hK1
  obtain ⟨hP, hD⟩ := va_join (wr := [(q1, .inr (12, [.ref e2, .ref e3, .ref e4, .ref e5, .ref e6, .ref e7, .ref e8, .ref e9, .ref e10, .int 0, .int 0, .int 1])), (e2, .inl (e11, 2000, .inl (fun _ => 0))), (e3, .inl (e12, 6, .inr (.inr (.inr (.inr (va_up (va_up (va_up (va_up (va_up (va_up (fun _ => none) 0 (some e13)) 1 (some e14)) 2 (some e15)) 3 (some e16)) 4 (some e17)) 5 (some e18))))))), (e13, .inr (11, [.int 0, .ref e19, .ref e20, .ref e21, .ref e22, .ref e23, .ref e24, .ref e25, .ref e26, .int 0, .int 1, .int 1, .int 0, .int 0, .int 0, .int (-1), .int 0, .int 0])), (e22, .inl (e27, 8, .inl (fun _ => 0))), (e23, .inl (e28, 64, .inl (fun _ => 0))), (e24, .inl (e29, 8, .inl (fun _ => 0))), (e20, .inr (10, [.ref e30, .ref e31, .ref e32, .ref e33, .ref e34, .null, .int 0, .int 0, .int 0, .int 0, .int 0, .int 0, .int 0, .int 0])), (e14, .inr (11, [.int 1, .ref e35, .ref e36, .ref e37, .ref e38, .ref e39, .ref e40, .ref e41, .ref e42, .int 0, .int 1, .int 1, .int 0, .int 0, .int 0, .int (-1), .int 0, .int 0])), (e38, .inl (e43, 8, .inl (fun _ => 0))), (e39, .inl (e44, 64, .inl (fun _ => 0))), (e40, .inl (e45, 8, .inl (fun _ => 0))), (e36, .inr (10, [.ref e46, .ref e47, .ref e48, .ref e49, .ref e50, .null, .int 0, .int 0, .int 0, .int 0, .int 0, .int 0, .int 0, .int 0])), (e15, .inr (11, [.int 2, .ref e51, .ref e52, .ref e53, .ref e54, .ref e55, .ref e56, .ref e57, .ref e58, .int 0, .int 1, .int 1, .int 0, .int 0, .int 0, .int (-1), .int 0, .int 0])), (e54, .inl (e59, 8, .inl (fun _ => 0))), (e55, .inl (e60, 64, .inl (fun _ => 0))), (e56, .inl (e61, 8, .inl (fun _ => 0))), (e52, .inr (10, [.ref e62, .ref e63, .ref e64, .ref e65, .ref e66, .null, .int 0, .int 0, .int 0, .int 0, .int 0, .int 0, .int 0, .int 0])), (e16, .inr (11, [.int 3, .ref e67, .ref e68, .ref e69, .ref e70, .ref e71, .ref e72, .ref e73, .ref e74, .int 0, .int 1, .int 1, .int 0, .int 0, .int 0, .int (-1), .int 0, .int 0])), (e70, .inl (e75, 8, .inl (fun _ => 0))), (e71, .inl (e76, 64, .inl (fun _ => 0))), (e72, .inl (e77, 8, .inl (fun _ => 0))), (e68, .inr (10, [.ref e78, .ref e79, .ref e80, .ref e81, .ref e82, .null, .int 0, .int 0, .int 0, .int 0, .int 0, .int 0, .int 0, .int 0])), (e17, .inr (11, [.int 4, .ref e83, .ref e84, .ref e85, .ref e86, .ref e87, .ref e88, .ref e89, .ref e90, .int 0, .int 1, .int 1, .int 0, .int 0, .int 0, .int (-1), .int 0, .int 0])), (e86, .inl (e91, 8, .inl (fun _ => 0))), (e87, .inl (e92, 64, .inl (fun _ => 0))), (e88, .inl (e93, 8, .inl (fun _ => 0))), (e84, .inr (10, [.ref e94, .ref e95, .ref e96, .ref e97, .ref e98, .null, .int 0, .int 0, .int 0, .int 0, .int 0, .int 0, .int 0, .int 0])), (e18, .inr (11, [.int 5, .ref e99, .ref e100, .ref e101, .ref e102, .ref e103, .ref e104, .ref e105, .ref e106, .int 0, .int 1, .int 1, .int 0, .int 0, .int 0, .int (-1), .int 0, .int 0])), (e102, .inl (e107, 8, .inl (fun _ => 0))), (e103, .inl (e108, 64, .inl (fun _ => 0))), (e104, .inl (e109, 8, .inl (fun _ => 0))), (e100, .inr (10, [.ref e110, .ref e111, .ref e112, .ref e113, .ref e114, .null, .int 0, .int 0, .int 0, .int 0, .int 0, .int 0, .int 0, .int 0])), (e4, .inr (1, [.ref e115, .ref e116, .ref e117, .ref e118, .ref e119, .ref e120, .ref e121, .ref e122, .ref e123, .ref e124, .ref e125, .ref e126, .ref e127, .int 0, .int 0, .int 0, .int 0])), (e115, .inl (e128, 8, .inr (.inr (.inr (.inr (va_up (va_up (va_up (va_up (va_up (va_up (va_up (va_up (fun _ => none) 0 (some e129)) 1 (some e130)) 2 (some e131)) 3 (some e132)) 4 (some e133)) 5 (some e134)) 6 (some e135)) 7 (some e136))))))), (e129, .inr (0, [.ref e137, .ref e138, .ref e139, .ref e140, .int 0, .int 0, .int 0, .int 0])), (e130, .inr (0, [.ref e141, .ref e142, .ref e143, .ref e144, .int 0, .int 0, .int 0, .int 0])), (e131, .inr (0, [.ref e145, .ref e146, .ref e147, .ref e148, .int 0, .int 0, .int 0, .int 0])), (e132, .inr (0, [.ref e149, .ref e150, .ref e151, .ref e152, .int 0, .int 0, .int 0, .int 0])), (e133, .inr (0, [.ref e153, .ref e154, .ref e155, .ref e156, .int 0, .int 0, .int 0, .int 0])), (e134, .inr (0, [.ref e157, .ref e158, .ref e159, .ref e160, .int 0, .int 0, .int 0, .int 0])), (e135, .inr (0, [.ref e161, .ref e162, .ref e163, .ref e164, .int 0, .int 0, .int 0, .int 0])), (e136, .inr (0, [.ref e165, .ref e166, .ref e167, .ref e168, .int 0, .int 0, .int 0, .int 0])), (e5, .inr (2, [.ref e169, .ref e170, .ref e171, .ref e172, .ref e173, .int 0, .int 0, .int 0, .int (-1), .int 0, .int 0, .int 0]))]) (w1 := [(q174, .inr (20, [.int 1, .int (-1), .ref e175, .int 0, .ref e176, .ref e177, .ref e178, .int 0, .int 0, .ref e179, .ref e180, .ref e181, .ref e182, .ref e183, .ref e184, .ref e185, .ref e186, .ref e187, .int 0, .int 0, .ref e188, .ref e189, .ref e190, .ref e191, .int 0, .int 0, .int 0, .ref e192, .int 0, .ref e193, .ref e194, .ref e195, .int 0, .ref e196, .ref e197, .ref e198, .ref e199, .ref e200, .int 0, .ref e201, .ref e202, .ref e203])), (e175, .inl (e204, 2000, .inl (fun _ => 0))), (e176, .inr (13, [.int 0, .ref e205, .ref e206, .ref e207, .ref e208, .ref e209, .ref e210, .ref e211, .ref e212, .int 0, .ref e213, .ref e214, .ref e215])), (e205, .inl (e216, 8, .inl (fun _ => 0))), (e177, .inl (e217, 6, .inr (.inr (.inr (.inr (va_up (va_up (va_up (va_up (va_up (va_up (fun _ => none) 0 (some e218)) 1 (some e219)) 2 (some e220)) 3 (some e221)) 4 (some e222)) 5 (some e223))))))), (e218, .inr (19, [.int 0, .int 0, .int 0, .int 0, .int 0, .int (-1), .int 0, .int 0, .ref e224, .ref e225, .ref e226, .int 0, .ref e227, .ref e228, .ref e229, .ref e230, .ref e231, .ref e232, .ref e233, .int 0, .ref e234, .ref e235, .int 0, .int 0, .ref e236, .ref e237, .ref e238, .int 0, .int 0, .int 0, .int 0, .int 0, .ref e239, .ref e240, .int 0, .int 0, .int 0, .int 0, .int 0, .int 0, .int 0, .ref e241, .int 0, .int 0])), (e224, .inl (e242, 8, .inl (fun _ => 0))), (e219, .inr (19, [.int 0, .int 0, .int 0, .int 0, .int 0, .int (-1), .int 0, .int 0, .ref e243, .ref e244, .ref e245, .int 0, .ref e246, .ref e247, .ref e248, .ref e249, .ref e250, .ref e251, .ref e252, .int 0, .ref e253, .ref e254, .int 0, .int 0, .ref e255, .ref e256, .ref e257, .int 0, .int 0, .int 0, .int 0, .int 0, .ref e258, .ref e259, .int 0, .int 0, .int 0, .int 0, .int 0, .int 0, .int 0, .ref e260, .int 0, .int 0])), (e243, .inl (e261, 8, .inl (fun _ => 0))), (e220, .inr (19, [.int 0, .int 0, .int 0, .int 0, .int 0, .int (-1), .int 0, .int 0, .ref e262, .ref e263, .ref e264, .int 0, .ref e265, .ref e266, .ref e267, .ref e268, .ref e269, .ref e270, .ref e271, .int 0, .ref e272, .ref e273, .int 0, .int 0, .ref e274, .ref e275, .ref e276, .int 0, .int 0, .int 0, .int 0, .int 0, .ref e277, .ref e278, .int 0, .int 0, .int 0, .int 0, .int 0, .int 0, .int 0, .ref e279, .int 0, .int 0])), (e262, .inl (e280, 8, .inl (fun _ => 0))), (e221, .inr (19, [.int 0, .int 0, .int 0, .int 0, .int 0, .int (-1), .int 0, .int 0, .ref e281, .ref e282, .ref e283, .int 0, .ref e284, .ref e285, .ref e286, .ref e287, .ref e288, .ref e289, .ref e290, .int 0, .ref e291, .ref e292, .int 0, .int 0, .ref e293, .ref e294, .ref e295, .int 0, .int 0, .int 0, .int 0, .int 0, .ref e296, .ref e297, .int 0, .int 0, .int 0, .int 0, .int 0, .int 0, .int 0, .ref e298, .int 0, .int 0])), (e281, .inl (e299, 8, .inl (fun _ => 0))), (e222, .inr (19, [.int 0, .int 0, .int 0, .int 0, .int 0, .int (-1), .int 0, .int 0, .ref e300, .ref e301, .ref e302, .int 0, .ref e303, .ref e304, .ref e305, .ref e306, .ref e307, .ref e308, .ref e309, .int 0, .ref e310, .ref e311, .int 0, .int 0, .ref e312, .ref e313, .ref e314, .int 0, .int 0, .int 0, .int 0, .int 0, .ref e315, .ref e316, .int 0, .int 0, .int 0, .int 0, .int 0, .int 0, .int 0, .ref e317, .int 0, .int 0])), (e300, .inl (e318, 8, .inl (fun _ => 0))), (e223, .inr (19, [.int 0, .int 0, .int 0, .int 0, .int 0, .int (-1), .int 0, .int 0, .ref e319, .ref e320, .ref e321, .int 0, .ref e322, .ref e323, .ref e324, .ref e325, .ref e326, .ref e327, .ref e328, .int 0, .ref e329, .ref e330, .int 0, .int 0, .ref e331, .ref e332, .ref e333, .int 0, .int 0, .int 0, .int 0, .int 0, .ref e334, .ref e335, .int 0, .int 0, .int 0, .int 0, .int 0, .int 0, .int 0, .ref e336, .int 0, .int 0])), (e319, .inl (e337, 8, .inl (fun _ => 0))), (e178, .inr (16, [.int 0, .int 0, .int 0, .ref e338, .ref e339, .ref e340, .ref e341, .ref e342, .ref e343, .ref e344, .ref e345, .ref e346, .ref e347, .ref e348, .ref e349, .ref e350]))]) hP hD [44] [0, 1, 2, 3, 4, 5, 6, 7, 8, 9, 10, 11, 12, 13, 14, 15, 16, 17, 18, 19, 20, 21, 22, 23, 24, 25, 26, 27, 28, 29, 30, 31, 32, 33, 34, 35, 36, 37, 38, 39, 40, 41, 42, 43] rfl rfl (by decide) (by decide) hk1 hFc hP1 hD1
  have hK := (hK.sub (tys' := [(e11, .byte), (e12, .object R_SSession), (e27, .int), (e28, .int), (e29, .int), (e43, .int), (e44, .int), (e45, .int), (e59, .int), (e60, .int), (e61, .int), (e75, .int), (e76, .int), (e77, .int), (e91, .int), (e92, .int), (e93, .int), (e107, .int), (e108, .int), (e109, .int), (e128, .object R_STable)]) [0, 1, 2, 3, 4, 5, 6, 7, 8, 9, 10, 11, 12, 13, 14, 15, 16, 17, 18, 19, 20] rfl).app hK1
  generalize H1 = H at hP hS ⊢
  have hP : va_P (dC, dI) classes [(q1, .inr (12, [.ref e2, .ref e3, .ref e4, .ref e5, .ref e6, .ref e7, .ref e8, .ref e9, .ref e10, .int 0, .int 0, .int 1])), (e2, .inl (e11, 2000, .inl (fun _ => 0))), (e3, .inl (e12, 6, .inr (.inr (.inr (.inr (va_up (va_up (va_up (va_up (va_up (va_up (fun _ => none) 0 (some e13)) 1 (some e14)) 2 (some e15)) 3 (some e16)) 4 (some e17)) 5 (some e18))))))), (e13, .inr (11, [.int 0, .ref e19, .ref e20, .ref e21, .ref e22, .ref e23, .ref e24, .ref e25, .ref e26, .int 0, .int 1, .int 1, .int 0, .int 0, .int 0, .int (-1), .int 0, .int 0])), (e22, .inl (e27, 8, .inl (fun _ => 0))), (e23, .inl (e28, 64, .inl (fun _ => 0))), (e24, .inl (e29, 8, .inl (fun _ => 0))), (e20, .inr (10, [.ref e30, .ref e31, .ref e32, .ref e33, .ref e34, .null, .int 0, .int 0, .int 0, .int 0, .int 0, .int 0, .int 0, .int 0])), (e14, .inr (11, [.int 1, .ref e35, .ref e36, .ref e37, .ref e38, .ref e39, .ref e40, .ref e41, .ref e42, .int 0, .int 1, .int 1, .int 0, .int 0, .int 0, .int (-1), .int 0, .int 0])), (e38, .inl (e43, 8, .inl (fun _ => 0))), (e39, .inl (e44, 64, .inl (fun _ => 0))), (e40, .inl (e45, 8, .inl (fun _ => 0))), (e36, .inr (10, [.ref e46, .ref e47, .ref e48, .ref e49, .ref e50, .null, .int 0, .int 0, .int 0, .int 0, .int 0, .int 0, .int 0, .int 0])), (e15, .inr (11, [.int 2, .ref e51, .ref e52, .ref e53, .ref e54, .ref e55, .ref e56, .ref e57, .ref e58, .int 0, .int 1, .int 1, .int 0, .int 0, .int 0, .int (-1), .int 0, .int 0])), (e54, .inl (e59, 8, .inl (fun _ => 0))), (e55, .inl (e60, 64, .inl (fun _ => 0))), (e56, .inl (e61, 8, .inl (fun _ => 0))), (e52, .inr (10, [.ref e62, .ref e63, .ref e64, .ref e65, .ref e66, .null, .int 0, .int 0, .int 0, .int 0, .int 0, .int 0, .int 0, .int 0])), (e16, .inr (11, [.int 3, .ref e67, .ref e68, .ref e69, .ref e70, .ref e71, .ref e72, .ref e73, .ref e74, .int 0, .int 1, .int 1, .int 0, .int 0, .int 0, .int (-1), .int 0, .int 0])), (e70, .inl (e75, 8, .inl (fun _ => 0))), (e71, .inl (e76, 64, .inl (fun _ => 0))), (e72, .inl (e77, 8, .inl (fun _ => 0))), (e68, .inr (10, [.ref e78, .ref e79, .ref e80, .ref e81, .ref e82, .null, .int 0, .int 0, .int 0, .int 0, .int 0, .int 0, .int 0, .int 0])), (e17, .inr (11, [.int 4, .ref e83, .ref e84, .ref e85, .ref e86, .ref e87, .ref e88, .ref e89, .ref e90, .int 0, .int 1, .int 1, .int 0, .int 0, .int 0, .int (-1), .int 0, .int 0])), (e86, .inl (e91, 8, .inl (fun _ => 0))), (e87, .inl (e92, 64, .inl (fun _ => 0))), (e88, .inl (e93, 8, .inl (fun _ => 0))), (e84, .inr (10, [.ref e94, .ref e95, .ref e96, .ref e97, .ref e98, .null, .int 0, .int 0, .int 0, .int 0, .int 0, .int 0, .int 0, .int 0])), (e18, .inr (11, [.int 5, .ref e99, .ref e100, .ref e101, .ref e102, .ref e103, .ref e104, .ref e105, .ref e106, .int 0, .int 1, .int 1, .int 0, .int 0, .int 0, .int (-1), .int 0, .int 0])), (e102, .inl (e107, 8, .inl (fun _ => 0))), (e103, .inl (e108, 64, .inl (fun _ => 0))), (e104, .inl (e109, 8, .inl (fun _ => 0))), (e100, .inr (10, [.ref e110, .ref e111, .ref e112, .ref e113, .ref e114, .null, .int 0, .int 0, .int 0, .int 0, .int 0, .int 0, .int 0, .int 0])), (e4, .inr (1, [.ref e115, .ref e116, .ref e117, .ref e118, .ref e119, .ref e120, .ref e121, .ref e122, .ref e123, .ref e124, .ref e125, .ref e126, .ref e127, .int 0, .int 0, .int 0, .int 0])), (e115, .inl (e128, 8, .inr (.inr (.inr (.inr (va_up (va_up (va_up (va_up (va_up (va_up (va_up (va_up (fun _ => none) 0 (some e129)) 1 (some e130)) 2 (some e131)) 3 (some e132)) 4 (some e133)) 5 (some e134)) 6 (some e135)) 7 (some e136))))))), (e129, .inr (0, [.ref e137, .ref e138, .ref e139, .ref e140, .int 0, .int 0, .int 0, .int 0])), (e130, .inr (0, [.ref e141, .ref e142, .ref e143, .ref e144, .int 0, .int 0, .int 0, .int 0])), (e131, .inr (0, [.ref e145, .ref e146, .ref e147, .ref e148, .int 0, .int 0, .int 0, .int 0])), (e132, .inr (0, [.ref e149, .ref e150, .ref e151, .ref e152, .int 0, .int 0, .int 0, .int 0])), (e133, .inr (0, [.ref e153, .ref e154, .ref e155, .ref e156, .int 0, .int 0, .int 0, .int 0])), (e134, .inr (0, [.ref e157, .ref e158, .ref e159, .ref e160, .int 0, .int 0, .int 0, .int 0])), (e135, .inr (0, [.ref e161, .ref e162, .ref e163, .ref e164, .int 0, .int 0, .int 0, .int 0])), (e136, .inr (0, [.ref e165, .ref e166, .ref e167, .ref e168, .int 0, .int 0, .int 0, .int 0])), (e5, .inr (2, [.ref e169, .ref e170, .ref e171, .ref e172, .ref e173, .int 0, .int 0, .int 0, .int (-1), .int 0, .int 0, .int 0])), (q174, .inr (20, [.int 1, .int (-1), .ref e175, .int 0, .ref e176, .ref e177, .ref e178, .int 0, .int 0, .ref e179, .ref e180, .ref e181, .ref e182, .ref e183, .ref e184, .ref e185, .ref e186, .ref e187, .int 0, .int 0, .ref e188, .ref e189, .ref e190, .ref e191, .int 0, .int 0, .int 0, .ref e192, .int 0, .ref e193, .ref e194, .ref e195, .int 0, .ref e196, .ref e197, .ref e198, .ref e199, .ref e200, .int 0, .ref e201, .ref e202, .ref e203])), (e175, .inl (e204, 2000, .inl (fun _ => 0))), (e176, .inr (13, [.int 0, .ref e205, .ref e206, .ref e207, .ref e208, .ref e209, .ref e210, .ref e211, .ref e212, .int 0, .ref e213, .ref e214, .ref e215])), (e205, .inl (e216, 8, .inl (fun _ => 0))), (e177, .inl (e217, 6, .inr (.inr (.inr (.inr (va_up (va_up (va_up (va_up (va_up (va_up (fun _ => none) 0 (some e218)) 1 (some e219)) 2 (some e220)) 3 (some e221)) 4 (some e222)) 5 (some e223))))))), (e218, .inr (19, [.int 0, .int 0, .int 0, .int 0, .int 0, .int (-1), .int 0, .int 0, .ref e224, .ref e225, .ref e226, .int 0, .ref e227, .ref e228, .ref e229, .ref e230, .ref e231, .ref e232, .ref e233, .int 0, .ref e234, .ref e235, .int 0, .int 0, .ref e236, .ref e237, .ref e238, .int 0, .int 0, .int 0, .int 0, .int 0, .ref e239, .ref e240, .int 0, .int 0, .int 0, .int 0, .int 0, .int 0, .int 0, .ref e241, .int 0, .int 0])), (e224, .inl (e242, 8, .inl (fun _ => 0))), (e219, .inr (19, [.int 0, .int 0, .int 0, .int 0, .int 0, .int (-1), .int 0, .int 0, .ref e243, .ref e244, .ref e245, .int 0, .ref e246, .ref e247, .ref e248, .ref e249, .ref e250, .ref e251, .ref e252, .int 0, .ref e253, .ref e254, .int 0, .int 0, .ref e255, .ref e256, .ref e257, .int 0, .int 0, .int 0, .int 0, .int 0, .ref e258, .ref e259, .int 0, .int 0, .int 0, .int 0, .int 0, .int 0, .int 0, .ref e260, .int 0, .int 0])), (e243, .inl (e261, 8, .inl (fun _ => 0))), (e220, .inr (19, [.int 0, .int 0, .int 0, .int 0, .int 0, .int (-1), .int 0, .int 0, .ref e262, .ref e263, .ref e264, .int 0, .ref e265, .ref e266, .ref e267, .ref e268, .ref e269, .ref e270, .ref e271, .int 0, .ref e272, .ref e273, .int 0, .int 0, .ref e274, .ref e275, .ref e276, .int 0, .int 0, .int 0, .int 0, .int 0, .ref e277, .ref e278, .int 0, .int 0, .int 0, .int 0, .int 0, .int 0, .int 0, .ref e279, .int 0, .int 0])), (e262, .inl (e280, 8, .inl (fun _ => 0))), (e221, .inr (19, [.int 0, .int 0, .int 0, .int 0, .int 0, .int (-1), .int 0, .int 0, .ref e281, .ref e282, .ref e283, .int 0, .ref e284, .ref e285, .ref e286, .ref e287, .ref e288, .ref e289, .ref e290, .int 0, .ref e291, .ref e292, .int 0, .int 0, .ref e293, .ref e294, .ref e295, .int 0, .int 0, .int 0, .int 0, .int 0, .ref e296, .ref e297, .int 0, .int 0, .int 0, .int 0, .int 0, .int 0, .int 0, .ref e298, .int 0, .int 0])), (e281, .inl (e299, 8, .inl (fun _ => 0))), (e222, .inr (19, [.int 0, .int 0, .int 0, .int 0, .int 0, .int (-1), .int 0, .int 0, .ref e300, .ref e301, .ref e302, .int 0, .ref e303, .ref e304, .ref e305, .ref e306, .ref e307, .ref e308, .ref e309, .int 0, .ref e310, .ref e311, .int 0, .int 0, .ref e312, .ref e313, .ref e314, .int 0, .int 0, .int 0, .int 0, .int 0, .ref e315, .ref e316, .int 0, .int 0, .int 0, .int 0, .int 0, .int 0, .int 0, .ref e317, .int 0, .int 0])), (e300, .inl (e318, 8, .inl (fun _ => 0))), (e223, .inr (19, [.int 0, .int 0, .int 0, .int 0, .int 0, .int (-1), .int 0, .int 0, .ref e319, .ref e320, .ref e321, .int 0, .ref e322, .ref e323, .ref e324, .ref e325, .ref e326, .ref e327, .ref e328, .int 0, .ref e329, .ref e330, .int 0, .int 0, .ref e331, .ref e332, .ref e333, .int 0, .int 0, .int 0, .int 0, .int 0, .ref e334, .ref e335, .int 0, .int 0, .int 0, .int 0, .int 0, .int 0, .int 0, .ref e336, .int 0, .int 0])), (e319, .inl (e337, 8, .inl (fun _ => 0))), (e178, .inr (16, [.int 0, .int 0, .int 0, .ref e338, .ref e339, .ref e340, .ref e341, .ref e342, .ref e343, .ref e344, .ref e345, .ref e346, .ref e347, .ref e348, .ref e349, .ref e350]))] H := hP
  have hD : va_D (fun q : Nat => s.heap.size ≤ q) [(q1, .inr (12, [.ref e2, .ref e3, .ref e4, .ref e5, .ref e6, .ref e7, .ref e8, .ref e9, .ref e10, .int 0, .int 0, .int 1])), (e2, .inl (e11, 2000, .inl (fun _ => 0))), (e3, .inl (e12, 6, .inr (.inr (.inr (.inr (va_up (va_up (va_up (va_up (va_up (va_up (fun _ => none) 0 (some e13)) 1 (some e14)) 2 (some e15)) 3 (some e16)) 4 (some e17)) 5 (some e18))))))), (e13, .inr (11, [.int 0, .ref e19, .ref e20, .ref e21, .ref e22, .ref e23, .ref e24, .ref e25, .ref e26, .int 0, .int 1, .int 1, .int 0, .int 0, .int 0, .int (-1), .int 0, .int 0])), (e22, .inl (e27, 8, .inl (fun _ => 0))), (e23, .inl (e28, 64, .inl (fun _ => 0))), (e24, .inl (e29, 8, .inl (fun _ => 0))), (e20, .inr (10, [.ref e30, .ref e31, .ref e32, .ref e33, .ref e34, .null, .int 0, .int 0, .int 0, .int 0, .int 0, .int 0, .int 0, .int 0])), (e14, .inr (11, [.int 1, .ref e35, .ref e36, .ref e37, .ref e38, .ref e39, .ref e40, .ref e41, .ref e42, .int 0, .int 1, .int 1, .int 0, .int 0, .int 0, .int (-1), .int 0, .int 0])), (e38, .inl (e43, 8, .inl (fun _ => 0))), (e39, .inl (e44, 64, .inl (fun _ => 0))), (e40, .inl (e45, 8, .inl (fun _ => 0))), (e36, .inr (10, [.ref e46, .ref e47, .ref e48, .ref e49, .ref e50, .null, .int 0, .int 0, .int 0, .int 0, .int 0, .int 0, .int 0, .int 0])), (e15, .inr (11, [.int 2, .ref e51, .ref e52, .ref e53, .ref e54, .ref e55, .ref e56, .ref e57, .ref e58, .int 0, .int 1, .int 1, .int 0, .int 0, .int 0, .int (-1), .int 0, .int 0])), (e54, .inl (e59, 8, .inl (fun _ => 0))), (e55, .inl (e60, 64, .inl (fun _ => 0))), (e56, .inl (e61, 8, .inl (fun _ => 0))), (e52, .inr (10, [.ref e62, .ref e63, .ref e64, .ref e65, .ref e66, .null, .int 0, .int 0, .int 0, .int 0, .int 0, .int 0, .int 0, .int 0])), (e16, .inr (11, [.int 3, .ref e67, .ref e68, .ref e69, .ref e70, .ref e71, .ref e72, .ref e73, .ref e74, .int 0, .int 1, .int 1, .int 0, .int 0, .int 0, .int (-1), .int 0, .int 0])), (e70, .inl (e75, 8, .inl (fun _ => 0))), (e71, .inl (e76, 64, .inl (fun _ => 0))), (e72, .inl (e77, 8, .inl (fun _ => 0))), (e68, .inr (10, [.ref e78, .ref e79, .ref e80, .ref e81, .ref e82, .null, .int 0, .int 0, .int 0, .int 0, .int 0, .int 0, .int 0, .int 0])), (e17, .inr (11, [.int 4, .ref e83, .ref e84, .ref e85, .ref e86, .ref e87, .ref e88, .ref e89, .ref e90, .int 0, .int 1, .int 1, .int 0, .int 0, .int 0, .int (-1), .int 0, .int 0])), (e86, .inl (e91, 8, .inl (fun _ => 0))), (e87, .inl (e92, 64, .inl (fun _ => 0))), (e88, .inl (e93, 8, .inl (fun _ => 0))), (e84, .inr (10, [.ref e94, .ref e95, .ref e96, .ref e97, .ref e98, .null, .int 0, .int 0, .int 0, .int 0, .int 0, .int 0, .int 0, .int 0])), (e18, .inr (11, [.int 5, .ref e99, .ref e100, .ref e101, .ref e102, .ref e103, .ref e104, .ref e105, .ref e106, .int 0, .int 1, .int 1, .int 0, .int 0, .int 0, .int (-1), .int 0, .int 0])), (e102, .inl (e107, 8, .inl (fun _ => 0))), (e103, .inl (e108, 64, .inl (fun _ => 0))), (e104, .inl (e109, 8, .inl (fun _ => 0))), (e100, .inr (10, [.ref e110, .ref e111, .ref e112, .ref e113, .ref e114, .null, .int 0, .int 0, .int 0, .int 0, .int 0, .int 0, .int 0, .int 0])), (e4, .inr (1, [.ref e115, .ref e116, .ref e117, .ref e118, .ref e119, .ref e120, .ref e121, .ref e122, .ref e123, .ref e124, .ref e125, .ref e126, .ref e127, .int 0, .int 0, .int 0, .int 0])), (e115, .inl (e128, 8, .inr (.inr (.inr (.inr (va_up (va_up (va_up (va_up (va_up (va_up (va_up (va_up (fun _ => none) 0 (some e129)) 1 (some e130)) 2 (some e131)) 3 (some e132)) 4 (some e133)) 5 (some e134)) 6 (some e135)) 7 (some e136))))))), (e129, .inr (0, [.ref e137, .ref e138, .ref e139, .ref e140, .int 0, .int 0, .int 0, .int 0])), (e130, .inr (0, [.ref e141, .ref e142, .ref e143, .ref e144, .int 0, .int 0, .int 0, .int 0])), (e131, .inr (0, [.ref e145, .ref e146, .ref e147, .ref e148, .int 0, .int 0, .int 0, .int 0])), (e132, .inr (0, [.ref e149, .ref e150, .ref e151, .ref e152, .int 0, .int 0, .int 0, .int 0])), (e133, .inr (0, [.ref e153, .ref e154, .ref e155, .ref e156, .int 0, .int 0, .int 0, .int 0])), (e134, .inr (0, [.ref e157, .ref e158, .ref e159, .ref e160, .int 0, .int 0, .int 0, .int 0])), (e135, .inr (0, [.ref e161, .ref e162, .ref e163, .ref e164, .int 0, .int 0, .int 0, .int 0])), (e136, .inr (0, [.ref e165, .ref e166, .ref e167, .ref e168, .int 0, .int 0, .int 0, .int 0])), (e5, .inr (2, [.ref e169, .ref e170, .ref e171, .ref e172, .ref e173, .int 0, .int 0, .int 0, .int (-1), .int 0, .int 0, .int 0])), (q174, .inr (20, [.int 1, .int (-1), .ref e175, .int 0, .ref e176, .ref e177, .ref e178, .int 0, .int 0, .ref e179, .ref e180, .ref e181, .ref e182, .ref e183, .ref e184, .ref e185, .ref e186, .ref e187, .int 0, .int 0, .ref e188, .ref e189, .ref e190, .ref e191, .int 0, .int 0, .int 0, .ref e192, .int 0, .ref e193, .ref e194, .ref e195, .int 0, .ref e196, .ref e197, .ref e198, .ref e199, .ref e200, .int 0, .ref e201, .ref e202, .ref e203])), (e175, .inl (e204, 2000, .inl (fun _ => 0))), (e176, .inr (13, [.int 0, .ref e205, .ref e206, .ref e207, .ref e208, .ref e209, .ref e210, .ref e211, .ref e212, .int 0, .ref e213, .ref e214, .ref e215])), (e205, .inl (e216, 8, .inl (fun _ => 0))), (e177, .inl (e217, 6, .inr (.inr (.inr (.inr (va_up (va_up (va_up (va_up (va_up (va_up (fun _ => none) 0 (some e218)) 1 (some e219)) 2 (some e220)) 3 (some e221)) 4 (some e222)) 5 (some e223))))))), (e218, .inr (19, [.int 0, .int 0, .int 0, .int 0, .int 0, .int (-1), .int 0, .int 0, .ref e224, .ref e225, .ref e226, .int 0, .ref e227, .ref e228, .ref e229, .ref e230, .ref e231, .ref e232, .ref e233, .int 0, .ref e234, .ref e235, .int 0, .int 0, .ref e236, .ref e237, .ref e238, .int 0, .int 0, .int 0, .int 0, .int 0, .ref e239, .ref e240, .int 0, .int 0, .int 0, .int 0, .int 0, .int 0, .int 0, .ref e241, .int 0, .int 0])), (e224, .inl (e242, 8, .inl (fun _ => 0))), (e219, .inr (19, [.int 0, .int 0, .int 0, .int 0, .int 0, .int (-1), .int 0, .int 0, .ref e243, .ref e244, .ref e245, .int 0, .ref e246, .ref e247, .ref e248, .ref e249, .ref e250, .ref e251, .ref e252, .int 0, .ref e253, .ref e254, .int 0, .int 0, .ref e255, .ref e256, .ref e257, .int 0, .int 0, .int 0, .int 0, .int 0, .ref e258, .ref e259, .int 0, .int 0, .int 0, .int 0, .int 0, .int 0, .int 0, .ref e260, .int 0, .int 0])), (e243, .inl (e261, 8, .inl (fun _ => 0))), (e220, .inr (19, [.int 0, .int 0, .int 0, .int 0, .int 0, .int (-1), .int 0, .int 0, .ref e262, .ref e263, .ref e264, .int 0, .ref e265, .ref e266, .ref e267, .ref e268, .ref e269, .ref e270, .ref e271, .int 0, .ref e272, .ref e273, .int 0, .int 0, .ref e274, .ref e275, .ref e276, .int 0, .int 0, .int 0, .int 0, .int 0, .ref e277, .ref e278, .int 0, .int 0, .int 0, .int 0, .int 0, .int 0, .int 0, .ref e279, .int 0, .int 0])), (e262, .inl (e280, 8, .inl (fun _ => 0))), (e221, .inr (19, [.int 0, .int 0, .int 0, .int 0, .int 0, .int (-1), .int 0, .int 0, .ref e281, .ref e282, .ref e283, .int 0, .ref e284, .ref e285, .ref e286, .ref e287, .ref e288, .ref e289, .ref e290, .int 0, .ref e291, .ref e292, .int 0, .int 0, .ref e293, .ref e294, .ref e295, .int 0, .int 0, .int 0, .int 0, .int 0, .ref e296, .ref e297, .int 0, .int 0, .int 0, .int 0, .int 0, .int 0, .int 0, .ref e298, .int 0, .int 0])), (e281, .inl (e299, 8, .inl (fun _ => 0))), (e222, .inr (19, [.int 0, .int 0, .int 0, .int 0, .int 0, .int (-1), .int 0, .int 0, .ref e300, .ref e301, .ref e302, .int 0, .ref e303, .ref e304, .ref e305, .ref e306, .ref e307, .ref e308, .ref e309, .int 0, .ref e310, .ref e311, .int 0, .int 0, .ref e312, .ref e313, .ref e314, .int 0, .int 0, .int 0, .int 0, .int 0, .ref e315, .ref e316, .int 0, .int 0, .int 0, .int 0, .int 0, .int 0, .int 0, .ref e317, .int 0, .int 0])), (e300, .inl (e318, 8, .inl (fun _ => 0))), (e223, .inr (19, [.int 0, .int 0, .int 0, .int 0, .int 0, .int (-1), .int 0, .int 0, .ref e319, .ref e320, .ref e321, .int 0, .ref e322, .ref e323, .ref e324, .ref e325, .ref e326, .ref e327, .ref e328, .int 0, .ref e329, .ref e330, .int 0, .int 0, .ref e331, .ref e332, .ref e333, .int 0, .int 0, .int 0, .int 0, .int 0, .ref e334, .ref e335, .int 0, .int 0, .int 0, .int 0, .int 0, .int 0, .int 0, .ref e336, .int 0, .int 0])), (e319, .inl (e337, 8, .inl (fun _ => 0))), (e178, .inr (16, [.int 0, .int 0, .int 0, .ref e338, .ref e339, .ref e340, .ref e341, .ref e342, .ref e343, .ref e344, .ref e345, .ref e346, .ref e347, .ref e348, .ref e349, .ref e350]))] := hD
  have hK : va_K (dC, dI) classes [(e11, .byte), (e12, .object R_SSession), (e27, .int), (e28, .int), (e29, .int), (e43, .int), (e44, .int), (e45, .int), (e59, .int), (e60, .int), (e61, .int), (e75, .int), (e76, .int), (e77, .int), (e91, .int), (e92, .int), (e93, .int), (e107, .int), (e108, .int), (e109, .int), (e128, .object R_STable), (e204, .byte), (e216, .int), (e217, .object R_MSession), (e242, .int), (e261, .int), (e280, .int), (e299, .int), (e318, .int), (e337, .int)] s := hK
  refine W.widen (k := 25515) (n := 1231676) (Nat.le_of_ble_eq_true rfl) (Nat.le_of_ble_eq_true rfl) ?_
  refine lv_astore_n (lv' := [(2, .ref q174), (1, .ref q1), (0, .ref b)]) hx hb d_law_15 rfl hl (by decide) rfl (fun ls hl => ?_)
  refine lv_iconst (v := 0) hx hb d_law_16 (by decide) ?_
  refine lv_istore_n (lv' := [(3, .int 0), (2, .ref q174), (1, .ref q1), (0, .ref b)]) hx hb d_law_17 rfl hl (by decide) rfl (fun ls hl => ?_)
  rcases (show L = 0 ∨ L = 1 ∨ L = 2 ∨ L = 3 ∨ L = 4 ∨ L = 5 ∨ L = 6 by omega) with rfl | rfl | rfl | rfl | rfl | rfl | rfl
  · skip
    refine lv_iload_n hx hb d_law_18 rfl (lv_at hl 0 rfl) ?_
    refine lv_aload_n hx hb d_law_19 rfl (lv_at hl 3 rfl) ?_
    refine va_slen hx hb hX hbl hbA hS d_law_20 ?_
    refine bx_top (y := 0) (by decide) ?_
    refine lv_bipush (v := 6) hx hb d_law_21 (by decide) ?_
    refine lv_isub hx hb d_law_23 ?_
    refine bx_top (y := -6) (by decide) ?_
    refine lv_icmp_gt (tgt := 382) hx hb d_law_24 (by decide) (fun c_351 => ?_) (fun c_351 => absurd (by decide) c_351)
    refine lv_iconst (v := 1) hx hb d_law_382 (by decide) ?_
    refine va_forget (fun q hq => hS.2.2 q hq) ?_
    refine W.widen (k := 600000) (n := 7302249) (Nat.le_of_ble_eq_true rfl) (Nat.le_of_ble_eq_true rfl) ?_
    exact lw_ret hx hb hr hlocks d_law_383
  · skip
    refine lv_iload_n hx hb d_law_18 rfl (lv_at hl 0 rfl) ?_
    refine lv_aload_n hx hb d_law_19 rfl (lv_at hl 3 rfl) ?_
    refine va_slen hx hb hX hbl hbA hS d_law_20 ?_
    refine bx_top (y := 1) (by decide) ?_
    refine lv_bipush (v := 6) hx hb d_law_21 (by decide) ?_
    refine lv_isub hx hb d_law_23 ?_
    refine bx_top (y := -5) (by decide) ?_
    refine lv_icmp_gt (tgt := 382) hx hb d_law_24 (by decide) (fun c_351 => ?_) (fun c_351 => absurd (by decide) c_351)
    refine lv_iconst (v := 1) hx hb d_law_382 (by decide) ?_
    refine va_forget (fun q hq => hS.2.2 q hq) ?_
    refine W.widen (k := 600000) (n := 7302249) (Nat.le_of_ble_eq_true rfl) (Nat.le_of_ble_eq_true rfl) ?_
    exact lw_ret hx hb hr hlocks d_law_383
  · skip
    refine lv_iload_n hx hb d_law_18 rfl (lv_at hl 0 rfl) ?_
    refine lv_aload_n hx hb d_law_19 rfl (lv_at hl 3 rfl) ?_
    refine va_slen hx hb hX hbl hbA hS d_law_20 ?_
    refine bx_top (y := 2) (by decide) ?_
    refine lv_bipush (v := 6) hx hb d_law_21 (by decide) ?_
    refine lv_isub hx hb d_law_23 ?_
    refine bx_top (y := -4) (by decide) ?_
    refine lv_icmp_gt (tgt := 382) hx hb d_law_24 (by decide) (fun c_351 => ?_) (fun c_351 => absurd (by decide) c_351)
    refine lv_iconst (v := 1) hx hb d_law_382 (by decide) ?_
    refine va_forget (fun q hq => hS.2.2 q hq) ?_
    refine W.widen (k := 600000) (n := 7302249) (Nat.le_of_ble_eq_true rfl) (Nat.le_of_ble_eq_true rfl) ?_
    exact lw_ret hx hb hr hlocks d_law_383
  · skip
    refine lv_iload_n hx hb d_law_18 rfl (lv_at hl 0 rfl) ?_
    refine lv_aload_n hx hb d_law_19 rfl (lv_at hl 3 rfl) ?_
    refine va_slen hx hb hX hbl hbA hS d_law_20 ?_
    refine bx_top (y := 3) (by decide) ?_
    refine lv_bipush (v := 6) hx hb d_law_21 (by decide) ?_
    refine lv_isub hx hb d_law_23 ?_
    refine bx_top (y := -3) (by decide) ?_
    refine lv_icmp_gt (tgt := 382) hx hb d_law_24 (by decide) (fun c_351 => ?_) (fun c_351 => absurd (by decide) c_351)
    refine lv_iconst (v := 1) hx hb d_law_382 (by decide) ?_
    refine va_forget (fun q hq => hS.2.2 q hq) ?_
    refine W.widen (k := 600000) (n := 7302249) (Nat.le_of_ble_eq_true rfl) (Nat.le_of_ble_eq_true rfl) ?_
    exact lw_ret hx hb hr hlocks d_law_383
  · skip
    refine lv_iload_n hx hb d_law_18 rfl (lv_at hl 0 rfl) ?_
    refine lv_aload_n hx hb d_law_19 rfl (lv_at hl 3 rfl) ?_
    refine va_slen hx hb hX hbl hbA hS d_law_20 ?_
    refine bx_top (y := 4) (by decide) ?_
    refine lv_bipush (v := 6) hx hb d_law_21 (by decide) ?_
    refine lv_isub hx hb d_law_23 ?_
    refine bx_top (y := -2) (by decide) ?_
    refine lv_icmp_gt (tgt := 382) hx hb d_law_24 (by decide) (fun c_351 => ?_) (fun c_351 => absurd (by decide) c_351)
    refine lv_iconst (v := 1) hx hb d_law_382 (by decide) ?_
    refine va_forget (fun q hq => hS.2.2 q hq) ?_
    refine W.widen (k := 600000) (n := 7302249) (Nat.le_of_ble_eq_true rfl) (Nat.le_of_ble_eq_true rfl) ?_
    exact lw_ret hx hb hr hlocks d_law_383
  · skip
    refine lv_iload_n hx hb d_law_18 rfl (lv_at hl 0 rfl) ?_
    refine lv_aload_n hx hb d_law_19 rfl (lv_at hl 3 rfl) ?_
    refine va_slen hx hb hX hbl hbA hS d_law_20 ?_
    refine bx_top (y := 5) (by decide) ?_
    refine lv_bipush (v := 6) hx hb d_law_21 (by decide) ?_
    refine lv_isub hx hb d_law_23 ?_
    refine bx_top (y := -1) (by decide) ?_
    refine lv_icmp_gt (tgt := 382) hx hb d_law_24 (by decide) (fun c_351 => ?_) (fun c_351 => absurd (by decide) c_351)
    refine lv_iconst (v := 1) hx hb d_law_382 (by decide) ?_
    refine va_forget (fun q hq => hS.2.2 q hq) ?_
    refine W.widen (k := 600000) (n := 7302249) (Nat.le_of_ble_eq_true rfl) (Nat.le_of_ble_eq_true rfl) ?_
    exact lw_ret hx hb hr hlocks d_law_383
  · skip
    refine lv_iload_n hx hb d_law_18 rfl (lv_at hl 0 rfl) ?_
    refine lv_aload_n hx hb d_law_19 rfl (lv_at hl 3 rfl) ?_
    refine va_slen hx hb hX hbl hbA hS d_law_20 ?_
    refine bx_top (y := 6) (by decide) ?_
    refine lv_bipush (v := 6) hx hb d_law_21 (by decide) ?_
    refine lv_isub hx hb d_law_23 ?_
    refine bx_top (y := 0) (by decide) ?_
    refine lv_icmp_gt (tgt := 382) hx hb d_law_24 (by decide) (fun c_351 => absurd c_351 (by decide)) (fun c_351 => ?_)
    refine lv_aload_n hx hb d_law_27 rfl (lv_at hl 3 rfl) ?_
    refine lv_iload_n hx hb d_law_28 rfl (lv_at hl 0 rfl) ?_
    refine va_sld hx hb hX hbl hbA hS (vp_in_nI (n := 0) (by decide) (by decide)) d_law_29 ?_
    refine W.eq (g2 := F0 m 30 ls [.int (xs 0)]) rfl ?_
    refine lv_bipush (v := 15) hx hb d_law_30 (by decide) ?_
    refine lv_iand hx hb d_law_32 ?_
    obtain ⟨j, hj, ej⟩ := pk_andE (xs 0) (m := 15) 4 (by decide)
    refine bx_top ej ?_
    rcases (show j = 0 ∨ j = 1 ∨ j = 2 ∨ j = 3 ∨ j = 4 ∨ j = 5 ∨ j = 6 ∨ j = 7 ∨ j = 8 ∨ j = 9 ∨ j = 10 ∨ j = 11 ∨ j = 12 ∨ j = 13 ∨ j = 14 ∨ j = 15 by omega) with rfl | rfl | rfl | rfl | rfl | rfl | rfl | rfl | rfl | rfl | rfl | rfl | rfl | rfl | rfl | rfl
    · exact lwc_0 l q1 e2 e3 e4 e5 e6 e7 e8 e9 e10 e11 q174 e175 e176 e177 e178 e179 e180 e181 e182 e183 e184 e185 e186 e187 e188 e189 e190 e191 e192 e193 e194 e195 e196 e197 e198 e199 e200 e201 e202 e203 e204 hx hb hr hml hown hts hX hbl hlocks hN (hK.sub [0, 21] rfl) (hP.sub [0, 1, 44, 45] rfl) (hD.sub [0, 1, 44, 45] (by decide) rfl) hS hl
    · exact lwc_1 l q1 e2 e3 e4 e5 e6 e7 e8 e9 e10 e12 e13 e14 e15 e16 e17 e18 e19 e20 e21 e22 e23 e24 e25 e26 e27 e28 e29 e30 e31 e32 e33 e34 e35 e36 e37 e38 e39 e40 e41 e42 e43 e44 e45 e46 e47 e48 e49 e50 e51 e52 e53 e54 e55 e56 e57 e58 e59 e60 e61 e62 e63 e64 e65 e66 e67 e68 e69 e70 e71 e72 e73 e74 e75 e76 e77 e78 e79 e80 e81 e82 e83 e84 e85 e86 e87 e88 e89 e90 e91 e92 e93 e94 e95 e96 e97 e98 e99 e100 e101 e102 e103 e104 e105 e106 e107 e108 e109 e110 e111 e112 e113 e114 q174 e175 e176 e177 e178 e179 e180 e181 e182 e183 e184 e185 e186 e187 e188 e189 e190 e191 e192 e193 e194 e195 e196 e197 e198 e199 e200 e201 e202 e203 e217 e218 e219 e220 e221 e222 e223 e224 e225 e226 e227 e228 e229 e230 e231 e232 e233 e234 e235 e236 e237 e238 e239 e240 e241 e242 e243 e244 e245 e246 e247 e248 e249 e250 e251 e252 e253 e254 e255 e256 e257 e258 e259 e260 e261 e262 e263 e264 e265 e266 e267 e268 e269 e270 e271 e272 e273 e274 e275 e276 e277 e278 e279 e280 e281 e282 e283 e284 e285 e286 e287 e288 e289 e290 e291 e292 e293 e294 e295 e296 e297 e298 e299 e300 e301 e302 e303 e304 e305 e306 e307 e308 e309 e310 e311 e312 e313 e314 e315 e316 e317 e318 e319 e320 e321 e322 e323 e324 e325 e326 e327 e328 e329 e330 e331 e332 e333 e334 e335 e336 e337 hx hb hr hml hown hts hX hbl hlocks hN (hK.sub [1, 2, 3, 4, 5, 6, 7, 8, 9, 10, 11, 12, 13, 14, 15, 16, 17, 18, 19, 23, 24, 25, 26, 27, 28, 29] rfl) (hP.sub [0, 2, 3, 4, 5, 6, 7, 8, 9, 10, 11, 12, 13, 14, 15, 16, 17, 18, 19, 20, 21, 22, 23, 24, 25, 26, 27, 28, 29, 30, 31, 32, 44, 48, 49, 50, 51, 52, 53, 54, 55, 56, 57, 58, 59, 60] rfl) (hD.sub [0, 2, 3, 4, 5, 6, 7, 8, 9, 10, 11, 12, 13, 14, 15, 16, 17, 18, 19, 20, 21, 22, 23, 24, 25, 26, 27, 28, 29, 30, 31, 32, 44, 48, 49, 50, 51, 52, 53, 54, 55, 56, 57, 58, 59, 60] (by decide) rfl) hS hl
    · exact lwc_2 l q1 e2 e3 e4 e5 e6 e7 e8 e9 e10 e12 e13 e14 e15 e16 e17 e18 e19 e20 e21 e22 e23 e24 e25 e26 e35 e36 e37 e38 e39 e40 e41 e42 e51 e52 e53 e54 e55 e56 e57 e58 e67 e68 e69 e70 e71 e72 e73 e74 e83 e84 e85 e86 e87 e88 e89 e90 e99 e100 e101 e102 e103 e104 e105 e106 q174 e175 e176 e177 e178 e179 e180 e181 e182 e183 e184 e185 e186 e187 e188 e189 e190 e191 e192 e193 e194 e195 e196 e197 e198 e199 e200 e201 e202 e203 e217 e218 e219 e220 e221 e222 e223 e224 e225 e226 e227 e228 e229 e230 e231 e232 e233 e234 e235 e236 e237 e238 e239 e240 e241 e243 e244 e245 e246 e247 e248 e249 e250 e251 e252 e253 e254 e255 e256 e257 e258 e259 e260 e262 e263 e264 e265 e266 e267 e268 e269 e270 e271 e272 e273 e274 e275 e276 e277 e278 e279 e281 e282 e283 e284 e285 e286 e287 e288 e289 e290 e291 e292 e293 e294 e295 e296 e297 e298 e300 e301 e302 e303 e304 e305 e306 e307 e308 e309 e310 e311 e312 e313 e314 e315 e316 e317 e319 e320 e321 e322 e323 e324 e325 e326 e327 e328 e329 e330 e331 e332 e333 e334 e335 e336 hx hb hr hml hown hts hX hbl hlocks hN (hK.sub [1, 23] rfl) (hP.sub [0, 2, 3, 8, 13, 18, 23, 28, 44, 48, 49, 51, 53, 55, 57, 59] rfl) (hD.sub [0, 2, 3, 8, 13, 18, 23, 28, 44, 48, 49, 51, 53, 55, 57, 59] (by decide) rfl) hS hl
    · exact lwc_3 l q1 e2 e3 e4 e5 e6 e7 e8 e9 e10 e12 e13 e14 e15 e16 e17 e18 e19 e20 e21 e22 e23 e24 e25 e26 e35 e36 e37 e38 e39 e40 e41 e42 e51 e52 e53 e54 e55 e56 e57 e58 e67 e68 e69 e70 e71 e72 e73 e74 e83 e84 e85 e86 e87 e88 e89 e90 e99 e100 e101 e102 e103 e104 e105 e106 q174 e175 e176 e177 e178 e179 e180 e181 e182 e183 e184 e185 e186 e187 e188 e189 e190 e191 e192 e193 e194 e195 e196 e197 e198 e199 e200 e201 e202 e203 e217 e218 e219 e220 e221 e222 e223 e224 e225 e226 e227 e228 e229 e230 e231 e232 e233 e234 e235 e236 e237 e238 e239 e240 e241 e243 e244 e245 e246 e247 e248 e249 e250 e251 e252 e253 e254 e255 e256 e257 e258 e259 e260 e262 e263 e264 e265 e266 e267 e268 e269 e270 e271 e272 e273 e274 e275 e276 e277 e278 e279 e281 e282 e283 e284 e285 e286 e287 e288 e289 e290 e291 e292 e293 e294 e295 e296 e297 e298 e300 e301 e302 e303 e304 e305 e306 e307 e308 e309 e310 e311 e312 e313 e314 e315 e316 e317 e319 e320 e321 e322 e323 e324 e325 e326 e327 e328 e329 e330 e331 e332 e333 e334 e335 e336 hx hb hr hml hown hts hX hbl hlocks hN (hK.sub [1, 23] rfl) (hP.sub [0, 2, 3, 8, 13, 18, 23, 28, 44, 48, 49, 51, 53, 55, 57, 59] rfl) (hD.sub [0, 2, 3, 8, 13, 18, 23, 28, 44, 48, 49, 51, 53, 55, 57, 59] (by decide) rfl) hS hl
    · exact lwc_4 l q1 e2 e3 e4 e5 e6 e7 e8 e9 e10 e12 e13 e14 e15 e16 e17 e18 e19 e20 e21 e22 e23 e24 e25 e26 e35 e36 e37 e38 e39 e40 e41 e42 e51 e52 e53 e54 e55 e56 e57 e58 e67 e68 e69 e70 e71 e72 e73 e74 e83 e84 e85 e86 e87 e88 e89 e90 e99 e100 e101 e102 e103 e104 e105 e106 q174 e175 e176 e177 e178 e179 e180 e181 e182 e183 e184 e185 e186 e187 e188 e189 e190 e191 e192 e193 e194 e195 e196 e197 e198 e199 e200 e201 e202 e203 e217 e218 e219 e220 e221 e222 e223 e224 e225 e226 e227 e228 e229 e230 e231 e232 e233 e234 e235 e236 e237 e238 e239 e240 e241 e243 e244 e245 e246 e247 e248 e249 e250 e251 e252 e253 e254 e255 e256 e257 e258 e259 e260 e262 e263 e264 e265 e266 e267 e268 e269 e270 e271 e272 e273 e274 e275 e276 e277 e278 e279 e281 e282 e283 e284 e285 e286 e287 e288 e289 e290 e291 e292 e293 e294 e295 e296 e297 e298 e300 e301 e302 e303 e304 e305 e306 e307 e308 e309 e310 e311 e312 e313 e314 e315 e316 e317 e319 e320 e321 e322 e323 e324 e325 e326 e327 e328 e329 e330 e331 e332 e333 e334 e335 e336 hx hb hr hml hown hts hX hbl hlocks hN (hK.sub [1, 23] rfl) (hP.sub [0, 2, 3, 8, 13, 18, 23, 28, 44, 48, 49, 51, 53, 55, 57, 59] rfl) (hD.sub [0, 2, 3, 8, 13, 18, 23, 28, 44, 48, 49, 51, 53, 55, 57, 59] (by decide) rfl) hS hl
    · exact lwc_5 l q1 e2 e3 e4 e5 e6 e7 e8 e9 e10 e12 e13 e14 e15 e16 e17 e18 e19 e20 e21 e22 e23 e24 e25 e26 e35 e36 e37 e38 e39 e40 e41 e42 e51 e52 e53 e54 e55 e56 e57 e58 e67 e68 e69 e70 e71 e72 e73 e74 e83 e84 e85 e86 e87 e88 e89 e90 e99 e100 e101 e102 e103 e104 e105 e106 q174 e175 e176 e177 e178 e179 e180 e181 e182 e183 e184 e185 e186 e187 e188 e189 e190 e191 e192 e193 e194 e195 e196 e197 e198 e199 e200 e201 e202 e203 e217 e218 e219 e220 e221 e222 e223 e224 e225 e226 e227 e228 e229 e230 e231 e232 e233 e234 e235 e236 e237 e238 e239 e240 e241 e243 e244 e245 e246 e247 e248 e249 e250 e251 e252 e253 e254 e255 e256 e257 e258 e259 e260 e262 e263 e264 e265 e266 e267 e268 e269 e270 e271 e272 e273 e274 e275 e276 e277 e278 e279 e281 e282 e283 e284 e285 e286 e287 e288 e289 e290 e291 e292 e293 e294 e295 e296 e297 e298 e300 e301 e302 e303 e304 e305 e306 e307 e308 e309 e310 e311 e312 e313 e314 e315 e316 e317 e319 e320 e321 e322 e323 e324 e325 e326 e327 e328 e329 e330 e331 e332 e333 e334 e335 e336 hx hb hr hml hown hts hX hbl hlocks hN (hK.sub [1, 23] rfl) (hP.sub [0, 2, 3, 8, 13, 18, 23, 28, 44, 48, 49, 51, 53, 55, 57, 59] rfl) (hD.sub [0, 2, 3, 8, 13, 18, 23, 28, 44, 48, 49, 51, 53, 55, 57, 59] (by decide) rfl) hS hl
    · exact lwc_6 l q1 e2 e3 e4 e5 e6 e7 e8 e9 e10 e169 e170 e171 e172 e173 q174 e175 e176 e177 e178 e179 e180 e181 e182 e183 e184 e185 e186 e187 e188 e189 e190 e191 e192 e193 e194 e195 e196 e197 e198 e199 e200 e201 e202 e203 hx hb hr hml hown hts hX hbl hlocks hN (hK.sub [] rfl) (hP.sub [0, 43, 44] rfl) (hD.sub [0, 43, 44] (by decide) rfl) hS hl
    · exact lwc_7 l q1 e2 e3 e4 e5 e6 e7 e8 e9 e10 q174 e175 e176 e177 e178 e179 e180 e181 e182 e183 e184 e185 e186 e187 e188 e189 e190 e191 e192 e193 e194 e195 e196 e197 e198 e199 e200 e201 e202 e203 hx hb hr hml hown hts hX hbl hlocks hN (hK.sub [] rfl) (hP.sub [0, 44] rfl) (hD.sub [0, 44] (by decide) rfl) hS hl
    · exact lwc_8 l q1 e2 e3 e4 e5 e6 e7 e8 e9 e10 e12 e13 e14 e15 e16 e17 e18 e19 e20 e21 e22 e23 e24 e25 e26 e35 e36 e37 e38 e39 e40 e41 e42 e51 e52 e53 e54 e55 e56 e57 e58 e67 e68 e69 e70 e71 e72 e73 e74 e83 e84 e85 e86 e87 e88 e89 e90 e99 e100 e101 e102 e103 e104 e105 e106 q174 e175 e176 e177 e178 e179 e180 e181 e182 e183 e184 e185 e186 e187 e188 e189 e190 e191 e192 e193 e194 e195 e196 e197 e198 e199 e200 e201 e202 e203 e217 e218 e219 e220 e221 e222 e223 e224 e225 e226 e227 e228 e229 e230 e231 e232 e233 e234 e235 e236 e237 e238 e239 e240 e241 e243 e244 e245 e246 e247 e248 e249 e250 e251 e252 e253 e254 e255 e256 e257 e258 e259 e260 e262 e263 e264 e265 e266 e267 e268 e269 e270 e271 e272 e273 e274 e275 e276 e277 e278 e279 e281 e282 e283 e284 e285 e286 e287 e288 e289 e290 e291 e292 e293 e294 e295 e296 e297 e298 e300 e301 e302 e303 e304 e305 e306 e307 e308 e309 e310 e311 e312 e313 e314 e315 e316 e317 e319 e320 e321 e322 e323 e324 e325 e326 e327 e328 e329 e330 e331 e332 e333 e334 e335 e336 hx hb hr hml hown hts hX hbl hlocks hN (hK.sub [1, 23] rfl) (hP.sub [0, 2, 3, 8, 13, 18, 23, 28, 44, 48, 49, 51, 53, 55, 57, 59] rfl) (hD.sub [0, 2, 3, 8, 13, 18, 23, 28, 44, 48, 49, 51, 53, 55, 57, 59] (by decide) rfl) hS hl
    · exact lwc_9 l q1 e2 e3 e4 e5 e6 e7 e8 e9 e10 q174 e175 e176 e177 e178 e179 e180 e181 e182 e183 e184 e185 e186 e187 e188 e189 e190 e191 e192 e193 e194 e195 e196 e197 e198 e199 e200 e201 e202 e203 e338 e339 e340 e341 e342 e343 e344 e345 e346 e347 e348 e349 e350 hx hb hr hml hown hts hX hbl hlocks hN (hK.sub [] rfl) (hP.sub [0, 44, 61] rfl) (hD.sub [0, 44, 61] (by decide) rfl) hS hl
    · exact lwc_10 l q1 e2 e3 e4 e5 e6 e7 e8 e9 e10 e12 e13 e14 e15 e16 e17 e18 e19 e20 e21 e22 e23 e24 e25 e26 e35 e36 e37 e38 e39 e40 e41 e42 e51 e52 e53 e54 e55 e56 e57 e58 e67 e68 e69 e70 e71 e72 e73 e74 e83 e84 e85 e86 e87 e88 e89 e90 e99 e100 e101 e102 e103 e104 e105 e106 e115 e116 e117 e118 e119 e120 e121 e122 e123 e124 e125 e126 e127 e128 e129 e130 e131 e132 e133 e134 e135 e136 e137 e138 e139 e140 e141 e142 e143 e144 e145 e146 e147 e148 e149 e150 e151 e152 e153 e154 e155 e156 e157 e158 e159 e160 e161 e162 e163 e164 e165 e166 e167 e168 e169 e170 e171 e172 e173 q174 e175 e176 e177 e178 e179 e180 e181 e182 e183 e184 e185 e186 e187 e188 e189 e190 e191 e192 e193 e194 e195 e196 e197 e198 e199 e200 e201 e202 e203 e205 e206 e207 e208 e209 e210 e211 e212 e213 e214 e215 e216 e217 e218 e219 e220 e221 e222 e223 e224 e225 e226 e227 e228 e229 e230 e231 e232 e233 e234 e235 e236 e237 e238 e239 e240 e241 e243 e244 e245 e246 e247 e248 e249 e250 e251 e252 e253 e254 e255 e256 e257 e258 e259 e260 e262 e263 e264 e265 e266 e267 e268 e269 e270 e271 e272 e273 e274 e275 e276 e277 e278 e279 e281 e282 e283 e284 e285 e286 e287 e288 e289 e290 e291 e292 e293 e294 e295 e296 e297 e298 e300 e301 e302 e303 e304 e305 e306 e307 e308 e309 e310 e311 e312 e313 e314 e315 e316 e317 e319 e320 e321 e322 e323 e324 e325 e326 e327 e328 e329 e330 e331 e332 e333 e334 e335 e336 hx hb hr hml hown hts hX hbl hlocks hN (hK.sub [1, 20, 22, 23] rfl) (hP.sub [0, 2, 3, 8, 13, 18, 23, 28, 33, 34, 35, 36, 37, 38, 39, 40, 41, 42, 43, 44, 46, 47, 48, 49, 51, 53, 55, 57, 59] rfl) (hD.sub [0, 2, 3, 8, 13, 18, 23, 28, 33, 34, 35, 36, 37, 38, 39, 40, 41, 42, 43, 44, 46, 47, 48, 49, 51, 53, 55, 57, 59] (by decide) rfl) hS hl
    · exact lwc_11 l q174 q1 hx hb hr hml hown hts hX hbl hlocks hN (hK.sub [] rfl) (hP.sub [] rfl) (hD.sub [] (by decide) rfl) hS hl
    · exact lwc_12 l q174 q1 hx hb hr hml hown hts hX hbl hlocks hN (hK.sub [] rfl) (hP.sub [] rfl) (hD.sub [] (by decide) rfl) hS hl
    · exact lwc_13 l q174 q1 hx hb hr hml hown hts hX hbl hlocks hN (hK.sub [] rfl) (hP.sub [] rfl) (hD.sub [] (by decide) rfl) hS hl
    · exact lwc_14 l q174 q1 hx hb hr hml hown hts hX hbl hlocks hN (hK.sub [] rfl) (hP.sub [] rfl) (hD.sub [] (by decide) rfl) hS hl
    · exact lwc_15 l q174 q1 hx hb hr hml hown hts hX hbl hlocks hN (hK.sub [] rfl) (hP.sub [] rfl) (hD.sub [] (by decide) rfl) hS hl
