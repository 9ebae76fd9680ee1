set_option maxHeartbeats 4000000 in
set_option maxRecDepth 100000 in
theorem c_Model_state (l : Launch) (dC : Nat → ClassId) (dI : Nat → Nat → Nat) (sz : Nat) (h0 : Nat) (e1 : Nat) (e2 : Nat) (e3 : Nat) (e4 : Nat) (e5 : Nat) (e6 : Nat) (e7 : Nat) (e8 : Nat) (e9 : Nat) (e10 : Nat) (e11 : Nat) (e12 : Nat) (e13 : Nat) (e14 : Nat) (e15 : Nat) (e16 : Nat) (e17 : Nat) (e18 : Nat) (e19 : Nat) (e20 : Nat) (e21 : Nat) (e22 : Nat) (e23 : Nat) (e24 : Nat) (e25 : Nat) (e26 : Nat) (e27 : Nat) (e28 : Nat) (e29 : Nat) (e43 : ClassId) (e44 : Nat) (e45 : Nat) (e46 : Nat) (e47 : Nat) (e48 : Nat) (e49 : Nat) (e50 : Nat) (e51 : Nat) (e52 : Nat) (e53 : Nat) (e54 : Nat) (e55 : Nat) (e56 : Nat) (e57 : Nat) (e58 : Nat) (e59 : Nat) (e60 : Nat) (e61 : Nat) (e62 : Nat) (e63 : Nat) (e64 : Nat) (e65 : Nat) (e66 : Nat) (e67 : Nat) (e69 : Nat) (e70 : Nat) (e71 : Nat) (e72 : Nat) (e73 : Nat) (e74 : Nat) (e75 : Nat) (e76 : Nat) (e77 : Nat) (e78 : Nat) (e79 : Nat) (e80 : Nat) (e81 : Nat) (e82 : Nat) (e83 : Nat) (e84 : Nat) (e85 : Nat) (e86 : Nat) (e88 : Nat) (e89 : Nat) (e90 : Nat) (e91 : Nat) (e92 : Nat) (e93 : Nat) (e94 : Nat) (e95 : Nat) (e96 : Nat) (e97 : Nat) (e98 : Nat) (e99 : Nat) (e100 : Nat) (e101 : Nat) (e102 : Nat) (e103 : Nat) (e104 : Nat) (e105 : Nat) (e107 : Nat) (e108 : Nat) (e109 : Nat) (e110 : Nat) (e111 : Nat) (e112 : Nat) (e113 : Nat) (e114 : Nat) (e115 : Nat) (e116 : Nat) (e117 : Nat) (e118 : Nat) (e119 : Nat) (e120 : Nat) (e121 : Nat) (e122 : Nat) (e123 : Nat) (e124 : Nat) (e126 : Nat) (e127 : Nat) (e128 : Nat) (e129 : Nat) (e130 : Nat) (e131 : Nat) (e132 : Nat) (e133 : Nat) (e134 : Nat) (e135 : Nat) (e136 : Nat) (e137 : Nat) (e138 : Nat) (e139 : Nat) (e140 : Nat) (e141 : Nat) (e142 : Nat) (e143 : Nat) (e145 : Nat) (e146 : Nat) (e147 : Nat) (e148 : Nat) (e149 : Nat) (e150 : Nat) (e151 : Nat) (e152 : Nat) (e153 : Nat) (e154 : Nat) (e155 : Nat) (e156 : Nat) (e157 : Nat) (e158 : Nat) (e159 : Nat) (e160 : Nat) (e161 : Nat) (e162 : Nat) (z1 : Int32) : Met l y_Model_state w_Model_state ({ frames := 0, cells := 0, slots := 0, locals := 0 }) (va_Pc [.ref h0, .int z1] (fun U => U.heap.size = sz ∧ va_P (dC, dI) classes [(h0, .inr (20, [.int 1, .int (-1), .ref e1, .int 0, .ref e2, .ref e3, .ref e4, .int 0, .int 0, .ref e5, .ref e6, .ref e7, .ref e8, .ref e9, .ref e10, .ref e11, .ref e12, .ref e13, .int 0, .int 0, .ref e14, .ref e15, .ref e16, .ref e17, .int 0, .int 0, .int 0, .ref e18, .int 0, .ref e19, .ref e20, .ref e21, .int 0, .ref e22, .ref e23, .ref e24, .ref e25, .ref e26, .int 0, .ref e27, .ref e28, .ref e29])), (e3, .inl (e43, 6, .inr (.inr (.inr (.inr (va_up (va_up (va_up (va_up (va_up (va_up (fun _ => none) 0 (some e44)) 1 (some e45)) 2 (some e46)) 3 (some e47)) 4 (some e48)) 5 (some e49))))))), (e44, .inr (19, [.int 0, .int 0, .int 0, .int 0, .int 0, .int (-1), .int 0, .int 0, .ref e50, .ref e51, .ref e52, .int 0, .ref e53, .ref e54, .ref e55, .ref e56, .ref e57, .ref e58, .ref e59, .int 0, .ref e60, .ref e61, .int 0, .int 0, .ref e62, .ref e63, .ref e64, .int 0, .int 0, .int 0, .int 0, .int 0, .ref e65, .ref e66, .int 0, .int 0, .int 0, .int 0, .int 0, .int 0, .int 0, .ref e67, .int 0, .int 0])), (e45, .inr (19, [.int 0, .int 0, .int 0, .int 0, .int 0, .int (-1), .int 0, .int 0, .ref e69, .ref e70, .ref e71, .int 0, .ref e72, .ref e73, .ref e74, .ref e75, .ref e76, .ref e77, .ref e78, .int 0, .ref e79, .ref e80, .int 0, .int 0, .ref e81, .ref e82, .ref e83, .int 0, .int 0, .int 0, .int 0, .int 0, .ref e84, .ref e85, .int 0, .int 0, .int 0, .int 0, .int 0, .int 0, .int 0, .ref e86, .int 0, .int 0])), (e46, .inr (19, [.int 0, .int 0, .int 0, .int 0, .int 0, .int (-1), .int 0, .int 0, .ref e88, .ref e89, .ref e90, .int 0, .ref e91, .ref e92, .ref e93, .ref e94, .ref e95, .ref e96, .ref e97, .int 0, .ref e98, .ref e99, .int 0, .int 0, .ref e100, .ref e101, .ref e102, .int 0, .int 0, .int 0, .int 0, .int 0, .ref e103, .ref e104, .int 0, .int 0, .int 0, .int 0, .int 0, .int 0, .int 0, .ref e105, .int 0, .int 0])), (e47, .inr (19, [.int 0, .int 0, .int 0, .int 0, .int 0, .int (-1), .int 0, .int 0, .ref e107, .ref e108, .ref e109, .int 0, .ref e110, .ref e111, .ref e112, .ref e113, .ref e114, .ref e115, .ref e116, .int 0, .ref e117, .ref e118, .int 0, .int 0, .ref e119, .ref e120, .ref e121, .int 0, .int 0, .int 0, .int 0, .int 0, .ref e122, .ref e123, .int 0, .int 0, .int 0, .int 0, .int 0, .int 0, .int 0, .ref e124, .int 0, .int 0])), (e48, .inr (19, [.int 0, .int 0, .int 0, .int 0, .int 0, .int (-1), .int 0, .int 0, .ref e126, .ref e127, .ref e128, .int 0, .ref e129, .ref e130, .ref e131, .ref e132, .ref e133, .ref e134, .ref e135, .int 0, .ref e136, .ref e137, .int 0, .int 0, .ref e138, .ref e139, .ref e140, .int 0, .int 0, .int 0, .int 0, .int 0, .ref e141, .ref e142, .int 0, .int 0, .int 0, .int 0, .int 0, .int 0, .int 0, .ref e143, .int 0, .int 0])), (e49, .inr (19, [.int 0, .int 0, .int 0, .int 0, .int 0, .int (-1), .int 0, .int 0, .ref e145, .ref e146, .ref e147, .int 0, .ref e148, .ref e149, .ref e150, .ref e151, .ref e152, .ref e153, .ref e154, .int 0, .ref e155, .ref e156, .int 0, .int 0, .ref e157, .ref e158, .ref e159, .int 0, .int 0, .int 0, .int 0, .int 0, .ref e160, .ref e161, .int 0, .int 0, .int 0, .int 0, .int 0, .int 0, .int 0, .ref e162, .int 0, .int 0]))] U.heap ∧ va_K (dC, dI) classes [(e43, .object R_MSession)] U ∧ va_D (fun _ => True) [(h0, .inr (20, [.int 1, .int (-1), .ref e1, .int 0, .ref e2, .ref e3, .ref e4, .int 0, .int 0, .ref e5, .ref e6, .ref e7, .ref e8, .ref e9, .ref e10, .ref e11, .ref e12, .ref e13, .int 0, .int 0, .ref e14, .ref e15, .ref e16, .ref e17, .int 0, .int 0, .int 0, .ref e18, .int 0, .ref e19, .ref e20, .ref e21, .int 0, .ref e22, .ref e23, .ref e24, .ref e25, .ref e26, .int 0, .ref e27, .ref e28, .ref e29])), (e3, .inl (e43, 6, .inr (.inr (.inr (.inr (va_up (va_up (va_up (va_up (va_up (va_up (fun _ => none) 0 (some e44)) 1 (some e45)) 2 (some e46)) 3 (some e47)) 4 (some e48)) 5 (some e49))))))), (e44, .inr (19, [.int 0, .int 0, .int 0, .int 0, .int 0, .int (-1), .int 0, .int 0, .ref e50, .ref e51, .ref e52, .int 0, .ref e53, .ref e54, .ref e55, .ref e56, .ref e57, .ref e58, .ref e59, .int 0, .ref e60, .ref e61, .int 0, .int 0, .ref e62, .ref e63, .ref e64, .int 0, .int 0, .int 0, .int 0, .int 0, .ref e65, .ref e66, .int 0, .int 0, .int 0, .int 0, .int 0, .int 0, .int 0, .ref e67, .int 0, .int 0])), (e45, .inr (19, [.int 0, .int 0, .int 0, .int 0, .int 0, .int (-1), .int 0, .int 0, .ref e69, .ref e70, .ref e71, .int 0, .ref e72, .ref e73, .ref e74, .ref e75, .ref e76, .ref e77, .ref e78, .int 0, .ref e79, .ref e80, .int 0, .int 0, .ref e81, .ref e82, .ref e83, .int 0, .int 0, .int 0, .int 0, .int 0, .ref e84, .ref e85, .int 0, .int 0, .int 0, .int 0, .int 0, .int 0, .int 0, .ref e86, .int 0, .int 0])), (e46, .inr (19, [.int 0, .int 0, .int 0, .int 0, .int 0, .int (-1), .int 0, .int 0, .ref e88, .ref e89, .ref e90, .int 0, .ref e91, .ref e92, .ref e93, .ref e94, .ref e95, .ref e96, .ref e97, .int 0, .ref e98, .ref e99, .int 0, .int 0, .ref e100, .ref e101, .ref e102, .int 0, .int 0, .int 0, .int 0, .int 0, .ref e103, .ref e104, .int 0, .int 0, .int 0, .int 0, .int 0, .int 0, .int 0, .ref e105, .int 0, .int 0])), (e47, .inr (19, [.int 0, .int 0, .int 0, .int 0, .int 0, .int (-1), .int 0, .int 0, .ref e107, .ref e108, .ref e109, .int 0, .ref e110, .ref e111, .ref e112, .ref e113, .ref e114, .ref e115, .ref e116, .int 0, .ref e117, .ref e118, .int 0, .int 0, .ref e119, .ref e120, .ref e121, .int 0, .int 0, .int 0, .int 0, .int 0, .ref e122, .ref e123, .int 0, .int 0, .int 0, .int 0, .int 0, .int 0, .int 0, .ref e124, .int 0, .int 0])), (e48, .inr (19, [.int 0, .int 0, .int 0, .int 0, .int 0, .int (-1), .int 0, .int 0, .ref e126, .ref e127, .ref e128, .int 0, .ref e129, .ref e130, .ref e131, .ref e132, .ref e133, .ref e134, .ref e135, .int 0, .ref e136, .ref e137, .int 0, .int 0, .ref e138, .ref e139, .ref e140, .int 0, .int 0, .int 0, .int 0, .int 0, .ref e141, .ref e142, .int 0, .int 0, .int 0, .int 0, .int 0, .int 0, .int 0, .ref e143, .int 0, .int 0])), (e49, .inr (19, [.int 0, .int 0, .int 0, .int 0, .int 0, .int (-1), .int 0, .int 0, .ref e145, .ref e146, .ref e147, .int 0, .ref e148, .ref e149, .ref e150, .ref e151, .ref e152, .ref e153, .ref e154, .int 0, .ref e155, .ref e156, .int 0, .int 0, .ref e157, .ref e158, .ref e159, .int 0, .int 0, .int 0, .int 0, .int 0, .ref e160, .ref e161, .int 0, .int 0, .int 0, .int 0, .int 0, .int 0, .int 0, .ref e162, .int 0, .int 0]))] ∧ bx_N U)) (va_Qi (fun (r : Int32) (_ : Unit) => r = bx_st z1) (fun (_ : Unit) t => va_P (dC, dI) classes [] t.heap ∧ va_K (dC, dI) classes [] t ∧ va_D (va_A [(h0, .inr (20, [.int 1, .int (-1), .ref e1, .int 0, .ref e2, .ref e3, .ref e4, .int 0, .int 0, .ref e5, .ref e6, .ref e7, .ref e8, .ref e9, .ref e10, .ref e11, .ref e12, .ref e13, .int 0, .int 0, .ref e14, .ref e15, .ref e16, .ref e17, .int 0, .int 0, .int 0, .ref e18, .int 0, .ref e19, .ref e20, .ref e21, .int 0, .ref e22, .ref e23, .ref e24, .ref e25, .ref e26, .int 0, .ref e27, .ref e28, .ref e29])), (e3, .inl (e43, 6, .inr (.inr (.inr (.inr (va_up (va_up (va_up (va_up (va_up (va_up (fun _ => none) 0 (some e44)) 1 (some e45)) 2 (some e46)) 3 (some e47)) 4 (some e48)) 5 (some e49))))))), (e44, .inr (19, [.int 0, .int 0, .int 0, .int 0, .int 0, .int (-1), .int 0, .int 0, .ref e50, .ref e51, .ref e52, .int 0, .ref e53, .ref e54, .ref e55, .ref e56, .ref e57, .ref e58, .ref e59, .int 0, .ref e60, .ref e61, .int 0, .int 0, .ref e62, .ref e63, .ref e64, .int 0, .int 0, .int 0, .int 0, .int 0, .ref e65, .ref e66, .int 0, .int 0, .int 0, .int 0, .int 0, .int 0, .int 0, .ref e67, .int 0, .int 0])), (e45, .inr (19, [.int 0, .int 0, .int 0, .int 0, .int 0, .int (-1), .int 0, .int 0, .ref e69, .ref e70, .ref e71, .int 0, .ref e72, .ref e73, .ref e74, .ref e75, .ref e76, .ref e77, .ref e78, .int 0, .ref e79, .ref e80, .int 0, .int 0, .ref e81, .ref e82, .ref e83, .int 0, .int 0, .int 0, .int 0, .int 0, .ref e84, .ref e85, .int 0, .int 0, .int 0, .int 0, .int 0, .int 0, .int 0, .ref e86, .int 0, .int 0])), (e46, .inr (19, [.int 0, .int 0, .int 0, .int 0, .int 0, .int (-1), .int 0, .int 0, .ref e88, .ref e89, .ref e90, .int 0, .ref e91, .ref e92, .ref e93, .ref e94, .ref e95, .ref e96, .ref e97, .int 0, .ref e98, .ref e99, .int 0, .int 0, .ref e100, .ref e101, .ref e102, .int 0, .int 0, .int 0, .int 0, .int 0, .ref e103, .ref e104, .int 0, .int 0, .int 0, .int 0, .int 0, .int 0, .int 0, .ref e105, .int 0, .int 0])), (e47, .inr (19, [.int 0, .int 0, .int 0, .int 0, .int 0, .int (-1), .int 0, .int 0, .ref e107, .ref e108, .ref e109, .int 0, .ref e110, .ref e111, .ref e112, .ref e113, .ref e114, .ref e115, .ref e116, .int 0, .ref e117, .ref e118, .int 0, .int 0, .ref e119, .ref e120, .ref e121, .int 0, .int 0, .int 0, .int 0, .int 0, .ref e122, .ref e123, .int 0, .int 0, .int 0, .int 0, .int 0, .int 0, .int 0, .ref e124, .int 0, .int 0])), (e48, .inr (19, [.int 0, .int 0, .int 0, .int 0, .int 0, .int (-1), .int 0, .int 0, .ref e126, .ref e127, .ref e128, .int 0, .ref e129, .ref e130, .ref e131, .ref e132, .ref e133, .ref e134, .ref e135, .int 0, .ref e136, .ref e137, .int 0, .int 0, .ref e138, .ref e139, .ref e140, .int 0, .int 0, .int 0, .int 0, .int 0, .ref e141, .ref e142, .int 0, .int 0, .int 0, .int 0, .int 0, .int 0, .int 0, .ref e143, .int 0, .int 0])), (e49, .inr (19, [.int 0, .int 0, .int 0, .int 0, .int 0, .int (-1), .int 0, .int 0, .ref e145, .ref e146, .ref e147, .int 0, .ref e148, .ref e149, .ref e150, .ref e151, .ref e152, .ref e153, .ref e154, .int 0, .ref e155, .ref e156, .int 0, .int 0, .ref e157, .ref e158, .ref e159, .int 0, .int 0, .int 0, .int 0, .int 0, .ref e160, .ref e161, .int 0, .int 0, .int 0, .int 0, .int 0, .int 0, .int 0, .ref e162, .int 0, .int 0]))] sz) []) (va_A [(h0, .inr (20, [.int 1, .int (-1), .ref e1, .int 0, .ref e2, .ref e3, .ref e4, .int 0, .int 0, .ref e5, .ref e6, .ref e7, .ref e8, .ref e9, .ref e10, .ref e11, .ref e12, .ref e13, .int 0, .int 0, .ref e14, .ref e15, .ref e16, .ref e17, .int 0, .int 0, .int 0, .ref e18, .int 0, .ref e19, .ref e20, .ref e21, .int 0, .ref e22, .ref e23, .ref e24, .ref e25, .ref e26, .int 0, .ref e27, .ref e28, .ref e29])), (e3, .inl (e43, 6, .inr (.inr (.inr (.inr (va_up (va_up (va_up (va_up (va_up (va_up (fun _ => none) 0 (some e44)) 1 (some e45)) 2 (some e46)) 3 (some e47)) 4 (some e48)) 5 (some e49))))))), (e44, .inr (19, [.int 0, .int 0, .int 0, .int 0, .int 0, .int (-1), .int 0, .int 0, .ref e50, .ref e51, .ref e52, .int 0, .ref e53, .ref e54, .ref e55, .ref e56, .ref e57, .ref e58, .ref e59, .int 0, .ref e60, .ref e61, .int 0, .int 0, .ref e62, .ref e63, .ref e64, .int 0, .int 0, .int 0, .int 0, .int 0, .ref e65, .ref e66, .int 0, .int 0, .int 0, .int 0, .int 0, .int 0, .int 0, .ref e67, .int 0, .int 0])), (e45, .inr (19, [.int 0, .int 0, .int 0, .int 0, .int 0, .int (-1), .int 0, .int 0, .ref e69, .ref e70, .ref e71, .int 0, .ref e72, .ref e73, .ref e74, .ref e75, .ref e76, .ref e77, .ref e78, .int 0, .ref e79, .ref e80, .int 0, .int 0, .ref e81, .ref e82, .ref e83, .int 0, .int 0, .int 0, .int 0, .int 0, .ref e84, .ref e85, .int 0, .int 0, .int 0, .int 0, .int 0, .int 0, .int 0, .ref e86, .int 0, .int 0])), (e46, .inr (19, [.int 0, .int 0, .int 0, .int 0, .int 0, .int (-1), .int 0, .int 0, .ref e88, .ref e89, .ref e90, .int 0, .ref e91, .ref e92, .ref e93, .ref e94, .ref e95, .ref e96, .ref e97, .int 0, .ref e98, .ref e99, .int 0, .int 0, .ref e100, .ref e101, .ref e102, .int 0, .int 0, .int 0, .int 0, .int 0, .ref e103, .ref e104, .int 0, .int 0, .int 0, .int 0, .int 0, .int 0, .int 0, .ref e105, .int 0, .int 0])), (e47, .inr (19, [.int 0, .int 0, .int 0, .int 0, .int 0, .int (-1), .int 0, .int 0, .ref e107, .ref e108, .ref e109, .int 0, .ref e110, .ref e111, .ref e112, .ref e113, .ref e114, .ref e115, .ref e116, .int 0, .ref e117, .ref e118, .int 0, .int 0, .ref e119, .ref e120, .ref e121, .int 0, .int 0, .int 0, .int 0, .int 0, .ref e122, .ref e123, .int 0, .int 0, .int 0, .int 0, .int 0, .int 0, .int 0, .ref e124, .int 0, .int 0])), (e48, .inr (19, [.int 0, .int 0, .int 0, .int 0, .int 0, .int (-1), .int 0, .int 0, .ref e126, .ref e127, .ref e128, .int 0, .ref e129, .ref e130, .ref e131, .ref e132, .ref e133, .ref e134, .ref e135, .int 0, .ref e136, .ref e137, .int 0, .int 0, .ref e138, .ref e139, .ref e140, .int 0, .int 0, .int 0, .int 0, .int 0, .ref e141, .ref e142, .int 0, .int 0, .int 0, .int 0, .int 0, .int 0, .int 0, .ref e143, .int 0, .int 0])), (e49, .inr (19, [.int 0, .int 0, .int 0, .int 0, .int 0, .int (-1), .int 0, .int 0, .ref e145, .ref e146, .ref e147, .int 0, .ref e148, .ref e149, .ref e150, .ref e151, .ref e152, .ref e153, .ref e154, .int 0, .ref e155, .ref e156, .int 0, .int 0, .ref e157, .ref e158, .ref e159, .int 0, .int 0, .int 0, .int 0, .int 0, .ref e160, .ref e161, .int 0, .int 0, .int 0, .int 0, .int 0, .int 0, .int 0, .ref e162, .int 0, .int 0]))] sz)) 0 0 (va_A [(h0, .inr (20, [.int 1, .int (-1), .ref e1, .int 0, .ref e2, .ref e3, .ref e4, .int 0, .int 0, .ref e5, .ref e6, .ref e7, .ref e8, .ref e9, .ref e10, .ref e11, .ref e12, .ref e13, .int 0, .int 0, .ref e14, .ref e15, .ref e16, .ref e17, .int 0, .int 0, .int 0, .ref e18, .int 0, .ref e19, .ref e20, .ref e21, .int 0, .ref e22, .ref e23, .ref e24, .ref e25, .ref e26, .int 0, .ref e27, .ref e28, .ref e29])), (e3, .inl (e43, 6, .inr (.inr (.inr (.inr (va_up (va_up (va_up (va_up (va_up (va_up (fun _ => none) 0 (some e44)) 1 (some e45)) 2 (some e46)) 3 (some e47)) 4 (some e48)) 5 (some e49))))))), (e44, .inr (19, [.int 0, .int 0, .int 0, .int 0, .int 0, .int (-1), .int 0, .int 0, .ref e50, .ref e51, .ref e52, .int 0, .ref e53, .ref e54, .ref e55, .ref e56, .ref e57, .ref e58, .ref e59, .int 0, .ref e60, .ref e61, .int 0, .int 0, .ref e62, .ref e63, .ref e64, .int 0, .int 0, .int 0, .int 0, .int 0, .ref e65, .ref e66, .int 0, .int 0, .int 0, .int 0, .int 0, .int 0, .int 0, .ref e67, .int 0, .int 0])), (e45, .inr (19, [.int 0, .int 0, .int 0, .int 0, .int 0, .int (-1), .int 0, .int 0, .ref e69, .ref e70, .ref e71, .int 0, .ref e72, .ref e73, .ref e74, .ref e75, .ref e76, .ref e77, .ref e78, .int 0, .ref e79, .ref e80, .int 0, .int 0, .ref e81, .ref e82, .ref e83, .int 0, .int 0, .int 0, .int 0, .int 0, .ref e84, .ref e85, .int 0, .int 0, .int 0, .int 0, .int 0, .int 0, .int 0, .ref e86, .int 0, .int 0])), (e46, .inr (19, [.int 0, .int 0, .int 0, .int 0, .int 0, .int (-1), .int 0, .int 0, .ref e88, .ref e89, .ref e90, .int 0, .ref e91, .ref e92, .ref e93, .ref e94, .ref e95, .ref e96, .ref e97, .int 0, .ref e98, .ref e99, .int 0, .int 0, .ref e100, .ref e101, .ref e102, .int 0, .int 0, .int 0, .int 0, .int 0, .ref e103, .ref e104, .int 0, .int 0, .int 0, .int 0, .int 0, .int 0, .int 0, .ref e105, .int 0, .int 0])), (e47, .inr (19, [.int 0, .int 0, .int 0, .int 0, .int 0, .int (-1), .int 0, .int 0, .ref e107, .ref e108, .ref e109, .int 0, .ref e110, .ref e111, .ref e112, .ref e113, .ref e114, .ref e115, .ref e116, .int 0, .ref e117, .ref e118, .int 0, .int 0, .ref e119, .ref e120, .ref e121, .int 0, .int 0, .int 0, .int 0, .int 0, .ref e122, .ref e123, .int 0, .int 0, .int 0, .int 0, .int 0, .int 0, .int 0, .ref e124, .int 0, .int 0])), (e48, .inr (19, [.int 0, .int 0, .int 0, .int 0, .int 0, .int (-1), .int 0, .int 0, .ref e126, .ref e127, .ref e128, .int 0, .ref e129, .ref e130, .ref e131, .ref e132, .ref e133, .ref e134, .ref e135, .int 0, .ref e136, .ref e137, .int 0, .int 0, .ref e138, .ref e139, .ref e140, .int 0, .int 0, .int 0, .int 0, .int 0, .ref e141, .ref e142, .int 0, .int 0, .int 0, .int 0, .int 0, .int 0, .int 0, .ref e143, .int 0, .int 0])), (e49, .inr (19, [.int 0, .int 0, .int 0, .int 0, .int 0, .int (-1), .int 0, .int 0, .ref e145, .ref e146, .ref e147, .int 0, .ref e148, .ref e149, .ref e150, .ref e151, .ref e152, .ref e153, .ref e154, .int 0, .ref e155, .ref e156, .int 0, .int 0, .ref e157, .ref e158, .ref e159, .int 0, .int 0, .int 0, .int 0, .int 0, .ref e160, .ref e161, .int 0, .int 0, .int 0, .int 0, .int 0, .int 0, .int 0, .ref e162, .int 0, .int 0]))] sz) := by
  refine Met.ofW (cc := b_Model_state) (maxL := 4) (ret := (some .int)) (by decide) rfl ?_
  intro p e s m args below meth c s₁ B hml hv
  obtain ⟨rfl, hsz, hP, hK, hD0, hN⟩ := hv
  have hx := B.exec
  have hb := B.bytes
  have hr := B.returns
  have hts := atoms_spec (ws := w_Model_state) B.pre
  have hown : s.vm.findClass R_Model = some m.cls := findClass_of_methodNamed B.named
  have hlocks := B.notSynchronized
  subst hsz
  have hD := hD0.self (sz := s.heap.size)
  generalize hAe : va_A [(h0, .inr (20, [.int 1, .int (-1), .ref e1, .int 0, .ref e2, .ref e3, .ref e4, .int 0, .int 0, .ref e5, .ref e6, .ref e7, .ref e8, .ref e9, .ref e10, .ref e11, .ref e12, .ref e13, .int 0, .int 0, .ref e14, .ref e15, .ref e16, .ref e17, .int 0, .int 0, .int 0, .ref e18, .int 0, .ref e19, .ref e20, .ref e21, .int 0, .ref e22, .ref e23, .ref e24, .ref e25, .ref e26, .int 0, .ref e27, .ref e28, .ref e29])), (e3, .inl (e43, 6, .inr (.inr (.inr (.inr (va_up (va_up (va_up (va_up (va_up (va_up (fun _ => none) 0 (some e44)) 1 (some e45)) 2 (some e46)) 3 (some e47)) 4 (some e48)) 5 (some e49))))))), (e44, .inr (19, [.int 0, .int 0, .int 0, .int 0, .int 0, .int (-1), .int 0, .int 0, .ref e50, .ref e51, .ref e52, .int 0, .ref e53, .ref e54, .ref e55, .ref e56, .ref e57, .ref e58, .ref e59, .int 0, .ref e60, .ref e61, .int 0, .int 0, .ref e62, .ref e63, .ref e64, .int 0, .int 0, .int 0, .int 0, .int 0, .ref e65, .ref e66, .int 0, .int 0, .int 0, .int 0, .int 0, .int 0, .int 0, .ref e67, .int 0, .int 0])), (e45, .inr (19, [.int 0, .int 0, .int 0, .int 0, .int 0, .int (-1), .int 0, .int 0, .ref e69, .ref e70, .ref e71, .int 0, .ref e72, .ref e73, .ref e74, .ref e75, .ref e76, .ref e77, .ref e78, .int 0, .ref e79, .ref e80, .int 0, .int 0, .ref e81, .ref e82, .ref e83, .int 0, .int 0, .int 0, .int 0, .int 0, .ref e84, .ref e85, .int 0, .int 0, .int 0, .int 0, .int 0, .int 0, .int 0, .ref e86, .int 0, .int 0])), (e46, .inr (19, [.int 0, .int 0, .int 0, .int 0, .int 0, .int (-1), .int 0, .int 0, .ref e88, .ref e89, .ref e90, .int 0, .ref e91, .ref e92, .ref e93, .ref e94, .ref e95, .ref e96, .ref e97, .int 0, .ref e98, .ref e99, .int 0, .int 0, .ref e100, .ref e101, .ref e102, .int 0, .int 0, .int 0, .int 0, .int 0, .ref e103, .ref e104, .int 0, .int 0, .int 0, .int 0, .int 0, .int 0, .int 0, .ref e105, .int 0, .int 0])), (e47, .inr (19, [.int 0, .int 0, .int 0, .int 0, .int 0, .int (-1), .int 0, .int 0, .ref e107, .ref e108, .ref e109, .int 0, .ref e110, .ref e111, .ref e112, .ref e113, .ref e114, .ref e115, .ref e116, .int 0, .ref e117, .ref e118, .int 0, .int 0, .ref e119, .ref e120, .ref e121, .int 0, .int 0, .int 0, .int 0, .int 0, .ref e122, .ref e123, .int 0, .int 0, .int 0, .int 0, .int 0, .int 0, .int 0, .ref e124, .int 0, .int 0])), (e48, .inr (19, [.int 0, .int 0, .int 0, .int 0, .int 0, .int (-1), .int 0, .int 0, .ref e126, .ref e127, .ref e128, .int 0, .ref e129, .ref e130, .ref e131, .ref e132, .ref e133, .ref e134, .ref e135, .int 0, .ref e136, .ref e137, .int 0, .int 0, .ref e138, .ref e139, .ref e140, .int 0, .int 0, .int 0, .int 0, .int 0, .ref e141, .ref e142, .int 0, .int 0, .int 0, .int 0, .int 0, .int 0, .int 0, .ref e143, .int 0, .int 0])), (e49, .inr (19, [.int 0, .int 0, .int 0, .int 0, .int 0, .int (-1), .int 0, .int 0, .ref e145, .ref e146, .ref e147, .int 0, .ref e148, .ref e149, .ref e150, .ref e151, .ref e152, .ref e153, .ref e154, .int 0, .ref e155, .ref e156, .int 0, .int 0, .ref e157, .ref e158, .ref e159, .int 0, .int 0, .int 0, .int 0, .int 0, .ref e160, .ref e161, .int 0, .int 0, .int 0, .int 0, .int 0, .int 0, .int 0, .ref e162, .int 0, .int 0]))] s.heap.size = A at hD ⊢
  have hA : ∀ q : Nat, s.heap.size ≤ q → A q := fun q h => by rw [← hAe]; exact Or.inr h
  have hS : va_S A s.heap s.heap [] := va_S.rf
  have hP : va_P (dC, dI) classes [(h0, .inr (20, [.int 1, .int (-1), .ref e1, .int 0, .ref e2, .ref e3, .ref e4, .int 0, .int 0, .ref e5, .ref e6, .ref e7, .ref e8, .ref e9, .ref e10, .ref e11, .ref e12, .ref e13, .int 0, .int 0, .ref e14, .ref e15, .ref e16, .ref e17, .int 0, .int 0, .int 0, .ref e18, .int 0, .ref e19, .ref e20, .ref e21, .int 0, .ref e22, .ref e23, .ref e24, .ref e25, .ref e26, .int 0, .ref e27, .ref e28, .ref e29])), (e3, .inl (e43, 6, .inr (.inr (.inr (.inr (va_up (va_up (va_up (va_up (va_up (va_up (fun _ => none) 0 (some e44)) 1 (some e45)) 2 (some e46)) 3 (some e47)) 4 (some e48)) 5 (some e49))))))), (e44, .inr (19, [.int 0, .int 0, .int 0, .int 0, .int 0, .int (-1), .int 0, .int 0, .ref e50, .ref e51, .ref e52, .int 0, .ref e53, .ref e54, .ref e55, .ref e56, .ref e57, .ref e58, .ref e59, .int 0, .ref e60, .ref e61, .int 0, .int 0, .ref e62, .ref e63, .ref e64, .int 0, .int 0, .int 0, .int 0, .int 0, .ref e65, .ref e66, .int 0, .int 0, .int 0, .int 0, .int 0, .int 0, .int 0, .ref e67, .int 0, .int 0])), (e45, .inr (19, [.int 0, .int 0, .int 0, .int 0, .int 0, .int (-1), .int 0, .int 0, .ref e69, .ref e70, .ref e71, .int 0, .ref e72, .ref e73, .ref e74, .ref e75, .ref e76, .ref e77, .ref e78, .int 0, .ref e79, .ref e80, .int 0, .int 0, .ref e81, .ref e82, .ref e83, .int 0, .int 0, .int 0, .int 0, .int 0, .ref e84, .ref e85, .int 0, .int 0, .int 0, .int 0, .int 0, .int 0, .int 0, .ref e86, .int 0, .int 0])), (e46, .inr (19, [.int 0, .int 0, .int 0, .int 0, .int 0, .int (-1), .int 0, .int 0, .ref e88, .ref e89, .ref e90, .int 0, .ref e91, .ref e92, .ref e93, .ref e94, .ref e95, .ref e96, .ref e97, .int 0, .ref e98, .ref e99, .int 0, .int 0, .ref e100, .ref e101, .ref e102, .int 0, .int 0, .int 0, .int 0, .int 0, .ref e103, .ref e104, .int 0, .int 0, .int 0, .int 0, .int 0, .int 0, .int 0, .ref e105, .int 0, .int 0])), (e47, .inr (19, [.int 0, .int 0, .int 0, .int 0, .int 0, .int (-1), .int 0, .int 0, .ref e107, .ref e108, .ref e109, .int 0, .ref e110, .ref e111, .ref e112, .ref e113, .ref e114, .ref e115, .ref e116, .int 0, .ref e117, .ref e118, .int 0, .int 0, .ref e119, .ref e120, .ref e121, .int 0, .int 0, .int 0, .int 0, .int 0, .ref e122, .ref e123, .int 0, .int 0, .int 0, .int 0, .int 0, .int 0, .int 0, .ref e124, .int 0, .int 0])), (e48, .inr (19, [.int 0, .int 0, .int 0, .int 0, .int 0, .int (-1), .int 0, .int 0, .ref e126, .ref e127, .ref e128, .int 0, .ref e129, .ref e130, .ref e131, .ref e132, .ref e133, .ref e134, .ref e135, .int 0, .ref e136, .ref e137, .int 0, .int 0, .ref e138, .ref e139, .ref e140, .int 0, .int 0, .int 0, .int 0, .int 0, .ref e141, .ref e142, .int 0, .int 0, .int 0, .int 0, .int 0, .int 0, .int 0, .ref e143, .int 0, .int 0])), (e49, .inr (19, [.int 0, .int 0, .int 0, .int 0, .int 0, .int (-1), .int 0, .int 0, .ref e145, .ref e146, .ref e147, .int 0, .ref e148, .ref e149, .ref e150, .ref e151, .ref e152, .ref e153, .ref e154, .int 0, .ref e155, .ref e156, .int 0, .int 0, .ref e157, .ref e158, .ref e159, .int 0, .int 0, .int 0, .int 0, .int 0, .ref e160, .ref e161, .int 0, .int 0, .int 0, .int 0, .int 0, .int 0, .int 0, .ref e162, .int 0, .int 0]))] s.heap := hP
  have hl := lv_entry ([.ref h0, .int z1]) (n := 4) (Nat.le_of_ble_eq_true rfl)
  rw [lg_entry_eq]
  generalize (lg_sl ([.ref h0, .int z1]) ++ List.replicate (4 - (lg_sl ([.ref h0, .int z1])).length) Slot.unset).toArray = ls at hl ⊢
  have hl : lv_has ls 4 [(0, .ref h0), (1, .int z1)] := hl
  obtain ⟨H, hH⟩ : ∃ H : Heap, s.heap = H := ⟨_, rfl⟩
  have hP : va_P (dC, dI) classes [(h0, .inr (20, [.int 1, .int (-1), .ref e1, .int 0, .ref e2, .ref e3, .ref e4, .int 0, .int 0, .ref e5, .ref e6, .ref e7, .ref e8, .ref e9, .ref e10, .ref e11, .ref e12, .ref e13, .int 0, .int 0, .ref e14, .ref e15, .ref e16, .ref e17, .int 0, .int 0, .int 0, .ref e18, .int 0, .ref e19, .ref e20, .ref e21, .int 0, .ref e22, .ref e23, .ref e24, .ref e25, .ref e26, .int 0, .ref e27, .ref e28, .ref e29])), (e3, .inl (e43, 6, .inr (.inr (.inr (.inr (va_up (va_up (va_up (va_up (va_up (va_up (fun _ => none) 0 (some e44)) 1 (some e45)) 2 (some e46)) 3 (some e47)) 4 (some e48)) 5 (some e49))))))), (e44, .inr (19, [.int 0, .int 0, .int 0, .int 0, .int 0, .int (-1), .int 0, .int 0, .ref e50, .ref e51, .ref e52, .int 0, .ref e53, .ref e54, .ref e55, .ref e56, .ref e57, .ref e58, .ref e59, .int 0, .ref e60, .ref e61, .int 0, .int 0, .ref e62, .ref e63, .ref e64, .int 0, .int 0, .int 0, .int 0, .int 0, .ref e65, .ref e66, .int 0, .int 0, .int 0, .int 0, .int 0, .int 0, .int 0, .ref e67, .int 0, .int 0])), (e45, .inr (19, [.int 0, .int 0, .int 0, .int 0, .int 0, .int (-1), .int 0, .int 0, .ref e69, .ref e70, .ref e71, .int 0, .ref e72, .ref e73, .ref e74, .ref e75, .ref e76, .ref e77, .ref e78, .int 0, .ref e79, .ref e80, .int 0, .int 0, .ref e81, .ref e82, .ref e83, .int 0, .int 0, .int 0, .int 0, .int 0, .ref e84, .ref e85, .int 0, .int 0, .int 0, .int 0, .int 0, .int 0, .int 0, .ref e86, .int 0, .int 0])), (e46, .inr (19, [.int 0, .int 0, .int 0, .int 0, .int 0, .int (-1), .int 0, .int 0, .ref e88, .ref e89, .ref e90, .int 0, .ref e91, .ref e92, .ref e93, .ref e94, .ref e95, .ref e96, .ref e97, .int 0, .ref e98, .ref e99, .int 0, .int 0, .ref e100, .ref e101, .ref e102, .int 0, .int 0, .int 0, .int 0, .int 0, .ref e103, .ref e104, .int 0, .int 0, .int 0, .int 0, .int 0, .int 0, .int 0, .ref e105, .int 0, .int 0])), (e47, .inr (19, [.int 0, .int 0, .int 0, .int 0, .int 0, .int (-1), .int 0, .int 0, .ref e107, .ref e108, .ref e109, .int 0, .ref e110, .ref e111, .ref e112, .ref e113, .ref e114, .ref e115, .ref e116, .int 0, .ref e117, .ref e118, .int 0, .int 0, .ref e119, .ref e120, .ref e121, .int 0, .int 0, .int 0, .int 0, .int 0, .ref e122, .ref e123, .int 0, .int 0, .int 0, .int 0, .int 0, .int 0, .int 0, .ref e124, .int 0, .int 0])), (e48, .inr (19, [.int 0, .int 0, .int 0, .int 0, .int 0, .int (-1), .int 0, .int 0, .ref e126, .ref e127, .ref e128, .int 0, .ref e129, .ref e130, .ref e131, .ref e132, .ref e133, .ref e134, .ref e135, .int 0, .ref e136, .ref e137, .int 0, .int 0, .ref e138, .ref e139, .ref e140, .int 0, .int 0, .int 0, .int 0, .int 0, .ref e141, .ref e142, .int 0, .int 0, .int 0, .int 0, .int 0, .int 0, .int 0, .ref e143, .int 0, .int 0])), (e49, .inr (19, [.int 0, .int 0, .int 0, .int 0, .int 0, .int (-1), .int 0, .int 0, .ref e145, .ref e146, .ref e147, .int 0, .ref e148, .ref e149, .ref e150, .ref e151, .ref e152, .ref e153, .ref e154, .int 0, .ref e155, .ref e156, .int 0, .int 0, .ref e157, .ref e158, .ref e159, .int 0, .int 0, .int 0, .int 0, .int 0, .ref e160, .ref e161, .int 0, .int 0, .int 0, .int 0, .int 0, .int 0, .int 0, .ref e162, .int 0, .int 0]))] H := by rw [← hH]; exact hP
  have hS : va_S A s.heap H [] := by rw [← hH]; exact va_S.rf
  refine bx_heap hH ?_
  refine lv_iload_n hx hb d_Model_state_0 rfl (lv_at hl 1 rfl) ?_
  refine lv_if_lt (tgt := 10) hx hb d_Model_state_1 (by decide) (fun c_1 => ?_) (fun c_1 => ?_)
  · skip
    refine lv_iconst (v := -1) hx hb d_Model_state_10 (by decide) ?_
    refine W.widen (k := 0) (n := 0) (Nat.le_of_ble_eq_true rfl) (Nat.le_of_ble_eq_true rfl) ?_
    exact W.iret (v := (-1)) hx hb hr (fun t ht hW => ⟨⟨(-1), (), rfl, (by simp [bx_in, bx_st, c_1]), va_P.none, va_K.moved hW.alike (hK.sub (tys' := []) [] rfl), va_D.none⟩, hS.F ht⟩) hS.2.2 d_Model_state_11
  · skip
    refine lv_iload_n hx hb d_Model_state_4 rfl (lv_at hl 1 rfl) ?_
    refine lv_bipush (v := 6) hx hb d_Model_state_5 (by decide) ?_
    refine lv_icmp_lt (tgt := 12) hx hb d_Model_state_7 (by decide) (fun c_2 => ?_) (fun c_2 => ?_)
    · skip
      rcases bx_six c_1 (fun h => absurd h (Int32.not_le.mpr c_2)) with rfl | rfl | rfl | rfl | rfl | rfl
      · skip
        refine lv_aload_n hx hb d_Model_state_12 rfl (lv_at hl 0 rfl) ?_
        refine va_get (D := (dC, dI)) (ci := 20) (v := .ref e3) (C := R_Model) (T := F_Model) (N := 42) hx hb hts (i_Model _) hown hK hP 0 rfl rfl 5 (by decide) (hts _ (List.mem_cons_of_mem _ q_2633)) (fun _ h9 => h9) rfl d_Model_state_13 ?_
        refine lv_iload_n hx hb d_Model_state_16 rfl (lv_at hl 1 rfl) ?_
        refine va_aldq hx hb hK hP 1 0 (i := 0) rfl rfl (vp_in_nI (n := 0) (by decide) (by decide)) d_Model_state_17 ?_
        refine W.eq (g2 := F0 m 18 ls [.ref e44]) rfl ?_
        refine lv_astore_n (lv' := [(2, .ref e44), (0, .ref h0), (1, .int 0)]) hx hb d_Model_state_18 rfl hl (by decide) rfl (fun ls hl => ?_)
        refine lv_aload_n hx hb d_Model_state_19 rfl (lv_at hl 0 rfl) ?_
        refine va_getN (D := (dC, dI)) (ci := 19) (v := .int 0) (C := R_MSession) (T := F_MSession) (N := 44) hx hb hts (i_MSession _) hown hK hP 2 rfl rfl 0 (by decide) ((bx_f hN ("SessionServerModel", 192, "SessionServerModel$Session", "open", "Z", "SessionServerModel") (by decide)).use rfl) (fun _ h9 => h9) rfl d_Model_state_20 ?_
        refine lv_if_ne (tgt := 30) hx hb d_Model_state_23 (by decide) (fun c_3 => absurd c_3 (by decide)) (fun c_3 => ?_)
        refine lv_iconst (v := 0) hx hb d_Model_state_26 (by decide) ?_
        refine lv_goto (tgt := 53) hx hb d_Model_state_27 (by decide) ?_
        refine lv_istore_n (lv' := [(3, .int 0), (2, .ref e44), (0, .ref h0), (1, .int 0)]) hx hb d_Model_state_53 rfl hl (by decide) rfl (fun ls hl => ?_)
        refine lv_aload_n hx hb d_Model_state_54 rfl (lv_at hl 1 rfl) ?_
        refine va_getN (D := (dC, dI)) (ci := 19) (v := .int 0) (C := R_MSession) (T := F_MSession) (N := 44) hx hb hts (i_MSession _) hown hK hP 2 rfl rfl 34 (by decide) ((bx_f hN ("SessionServerModel", 195, "SessionServerModel$Session", "wait", "I", "SessionServerModel") (by decide)).use rfl) (fun _ h9 => h9) rfl d_Model_state_55 ?_
        refine lv_if_le (tgt := 67) hx hb d_Model_state_58 (by decide) (fun c_4 => ?_) (fun c_4 => absurd (by decide) c_4)
        refine lv_iload_n hx hb d_Model_state_67 rfl (lv_at hl 0 rfl) ?_
        refine W.widen (k := 0) (n := 0) (Nat.le_of_ble_eq_true rfl) (Nat.le_of_ble_eq_true rfl) ?_
        exact W.iret (v := 0) hx hb hr (fun t ht hW => ⟨⟨0, (), rfl, (by decide), va_P.none, va_K.moved hW.alike (hK.sub (tys' := []) [] rfl), va_D.none⟩, hS.F ht⟩) hS.2.2 d_Model_state_68
      · skip
        refine lv_aload_n hx hb d_Model_state_12 rfl (lv_at hl 0 rfl) ?_
        refine va_get (D := (dC, dI)) (ci := 20) (v := .ref e3) (C := R_Model) (T := F_Model) (N := 42) hx hb hts (i_Model _) hown hK hP 0 rfl rfl 5 (by decide) (hts _ (List.mem_cons_of_mem _ q_2633)) (fun _ h9 => h9) rfl d_Model_state_13 ?_
        refine lv_iload_n hx hb d_Model_state_16 rfl (lv_at hl 1 rfl) ?_
        refine va_aldq hx hb hK hP 1 0 (i := 1) rfl rfl (vp_in_nI (n := 1) (by decide) (by decide)) d_Model_state_17 ?_
        refine W.eq (g2 := F0 m 18 ls [.ref e45]) rfl ?_
        refine lv_astore_n (lv' := [(2, .ref e45), (0, .ref h0), (1, .int 1)]) hx hb d_Model_state_18 rfl hl (by decide) rfl (fun ls hl => ?_)
        refine lv_aload_n hx hb d_Model_state_19 rfl (lv_at hl 0 rfl) ?_
        refine va_getN (D := (dC, dI)) (ci := 19) (v := .int 0) (C := R_MSession) (T := F_MSession) (N := 44) hx hb hts (i_MSession _) hown hK hP 3 rfl rfl 0 (by decide) ((bx_f hN ("SessionServerModel", 192, "SessionServerModel$Session", "open", "Z", "SessionServerModel") (by decide)).use rfl) (fun _ h9 => h9) rfl d_Model_state_20 ?_
        refine lv_if_ne (tgt := 30) hx hb d_Model_state_23 (by decide) (fun c_3 => absurd c_3 (by decide)) (fun c_3 => ?_)
        refine lv_iconst (v := 0) hx hb d_Model_state_26 (by decide) ?_
        refine lv_goto (tgt := 53) hx hb d_Model_state_27 (by decide) ?_
        refine lv_istore_n (lv' := [(3, .int 0), (2, .ref e45), (0, .ref h0), (1, .int 1)]) hx hb d_Model_state_53 rfl hl (by decide) rfl (fun ls hl => ?_)
        refine lv_aload_n hx hb d_Model_state_54 rfl (lv_at hl 1 rfl) ?_
        refine va_getN (D := (dC, dI)) (ci := 19) (v := .int 0) (C := R_MSession) (T := F_MSession) (N := 44) hx hb hts (i_MSession _) hown hK hP 3 rfl rfl 34 (by decide) ((bx_f hN ("SessionServerModel", 195, "SessionServerModel$Session", "wait", "I", "SessionServerModel") (by decide)).use rfl) (fun _ h9 => h9) rfl d_Model_state_55 ?_
        refine lv_if_le (tgt := 67) hx hb d_Model_state_58 (by decide) (fun c_4 => ?_) (fun c_4 => absurd (by decide) c_4)
        refine lv_iload_n hx hb d_Model_state_67 rfl (lv_at hl 0 rfl) ?_
        refine W.widen (k := 0) (n := 0) (Nat.le_of_ble_eq_true rfl) (Nat.le_of_ble_eq_true rfl) ?_
        exact W.iret (v := 0) hx hb hr (fun t ht hW => ⟨⟨0, (), rfl, (by decide), va_P.none, va_K.moved hW.alike (hK.sub (tys' := []) [] rfl), va_D.none⟩, hS.F ht⟩) hS.2.2 d_Model_state_68
      · skip
        refine lv_aload_n hx hb d_Model_state_12 rfl (lv_at hl 0 rfl) ?_
        refine va_get (D := (dC, dI)) (ci := 20) (v := .ref e3) (C := R_Model) (T := F_Model) (N := 42) hx hb hts (i_Model _) hown hK hP 0 rfl rfl 5 (by decide) (hts _ (List.mem_cons_of_mem _ q_2633)) (fun _ h9 => h9) rfl d_Model_state_13 ?_
        refine lv_iload_n hx hb d_Model_state_16 rfl (lv_at hl 1 rfl) ?_
        refine va_aldq hx hb hK hP 1 0 (i := 2) rfl rfl (vp_in_nI (n := 2) (by decide) (by decide)) d_Model_state_17 ?_
        refine W.eq (g2 := F0 m 18 ls [.ref e46]) rfl ?_
        refine lv_astore_n (lv' := [(2, .ref e46), (0, .ref h0), (1, .int 2)]) hx hb d_Model_state_18 rfl hl (by decide) rfl (fun ls hl => ?_)
        refine lv_aload_n hx hb d_Model_state_19 rfl (lv_at hl 0 rfl) ?_
        refine va_getN (D := (dC, dI)) (ci := 19) (v := .int 0) (C := R_MSession) (T := F_MSession) (N := 44) hx hb hts (i_MSession _) hown hK hP 4 rfl rfl 0 (by decide) ((bx_f hN ("SessionServerModel", 192, "SessionServerModel$Session", "open", "Z", "SessionServerModel") (by decide)).use rfl) (fun _ h9 => h9) rfl d_Model_state_20 ?_
        refine lv_if_ne (tgt := 30) hx hb d_Model_state_23 (by decide) (fun c_3 => absurd c_3 (by decide)) (fun c_3 => ?_)
        refine lv_iconst (v := 0) hx hb d_Model_state_26 (by decide) ?_
        refine lv_goto (tgt := 53) hx hb d_Model_state_27 (by decide) ?_
        refine lv_istore_n (lv' := [(3, .int 0), (2, .ref e46), (0, .ref h0), (1, .int 2)]) hx hb d_Model_state_53 rfl hl (by decide) rfl (fun ls hl => ?_)
        refine lv_aload_n hx hb d_Model_state_54 rfl (lv_at hl 1 rfl) ?_
        refine va_getN (D := (dC, dI)) (ci := 19) (v := .int 0) (C := R_MSession) (T := F_MSession) (N := 44) hx hb hts (i_MSession _) hown hK hP 4 rfl rfl 34 (by decide) ((bx_f hN ("SessionServerModel", 195, "SessionServerModel$Session", "wait", "I", "SessionServerModel") (by decide)).use rfl) (fun _ h9 => h9) rfl d_Model_state_55 ?_
        refine lv_if_le (tgt := 67) hx hb d_Model_state_58 (by decide) (fun c_4 => ?_) (fun c_4 => absurd (by decide) c_4)
        refine lv_iload_n hx hb d_Model_state_67 rfl (lv_at hl 0 rfl) ?_
        refine W.widen (k := 0) (n := 0) (Nat.le_of_ble_eq_true rfl) (Nat.le_of_ble_eq_true rfl) ?_
        exact W.iret (v := 0) hx hb hr (fun t ht hW => ⟨⟨0, (), rfl, (by decide), va_P.none, va_K.moved hW.alike (hK.sub (tys' := []) [] rfl), va_D.none⟩, hS.F ht⟩) hS.2.2 d_Model_state_68
      · skip
        refine lv_aload_n hx hb d_Model_state_12 rfl (lv_at hl 0 rfl) ?_
        refine va_get (D := (dC, dI)) (ci := 20) (v := .ref e3) (C := R_Model) (T := F_Model) (N := 42) hx hb hts (i_Model _) hown hK hP 0 rfl rfl 5 (by decide) (hts _ (List.mem_cons_of_mem _ q_2633)) (fun _ h9 => h9) rfl d_Model_state_13 ?_
        refine lv_iload_n hx hb d_Model_state_16 rfl (lv_at hl 1 rfl) ?_
        refine va_aldq hx hb hK hP 1 0 (i := 3) rfl rfl (vp_in_nI (n := 3) (by decide) (by decide)) d_Model_state_17 ?_
        refine W.eq (g2 := F0 m 18 ls [.ref e47]) rfl ?_
        refine lv_astore_n (lv' := [(2, .ref e47), (0, .ref h0), (1, .int 3)]) hx hb d_Model_state_18 rfl hl (by decide) rfl (fun ls hl => ?_)
        refine lv_aload_n hx hb d_Model_state_19 rfl (lv_at hl 0 rfl) ?_
        refine va_getN (D := (dC, dI)) (ci := 19) (v := .int 0) (C := R_MSession) (T := F_MSession) (N := 44) hx hb hts (i_MSession _) hown hK hP 5 rfl rfl 0 (by decide) ((bx_f hN ("SessionServerModel", 192, "SessionServerModel$Session", "open", "Z", "SessionServerModel") (by decide)).use rfl) (fun _ h9 => h9) rfl d_Model_state_20 ?_
        refine lv_if_ne (tgt := 30) hx hb d_Model_state_23 (by decide) (fun c_3 => absurd c_3 (by decide)) (fun c_3 => ?_)
        refine lv_iconst (v := 0) hx hb d_Model_state_26 (by decide) ?_
        refine lv_goto (tgt := 53) hx hb d_Model_state_27 (by decide) ?_
        refine lv_istore_n (lv' := [(3, .int 0), (2, .ref e47), (0, .ref h0), (1, .int 3)]) hx hb d_Model_state_53 rfl hl (by decide) rfl (fun ls hl => ?_)
        refine lv_aload_n hx hb d_Model_state_54 rfl (lv_at hl 1 rfl) ?_
        refine va_getN (D := (dC, dI)) (ci := 19) (v := .int 0) (C := R_MSession) (T := F_MSession) (N := 44) hx hb hts (i_MSession _) hown hK hP 5 rfl rfl 34 (by decide) ((bx_f hN ("SessionServerModel", 195, "SessionServerModel$Session", "wait", "I", "SessionServerModel") (by decide)).use rfl) (fun _ h9 => h9) rfl d_Model_state_55 ?_
        refine lv_if_le (tgt := 67) hx hb d_Model_state_58 (by decide) (fun c_4 => ?_) (fun c_4 => absurd (by decide) c_4)
        refine lv_iload_n hx hb d_Model_state_67 rfl (lv_at hl 0 rfl) ?_
        refine W.widen (k := 0) (n := 0) (Nat.le_of_ble_eq_true rfl) (Nat.le_of_ble_eq_true rfl) ?_
        exact W.iret (v := 0) hx hb hr (fun t ht hW => ⟨⟨0, (), rfl, (by decide), va_P.none, va_K.moved hW.alike (hK.sub (tys' := []) [] rfl), va_D.none⟩, hS.F ht⟩) hS.2.2 d_Model_state_68
      · skip
        refine lv_aload_n hx hb d_Model_state_12 rfl (lv_at hl 0 rfl) ?_
        refine va_get (D := (dC, dI)) (ci := 20) (v := .ref e3) (C := R_Model) (T := F_Model) (N := 42) hx hb hts (i_Model _) hown hK hP 0 rfl rfl 5 (by decide) (hts _ (List.mem_cons_of_mem _ q_2633)) (fun _ h9 => h9) rfl d_Model_state_13 ?_
        refine lv_iload_n hx hb d_Model_state_16 rfl (lv_at hl 1 rfl) ?_
        refine va_aldq hx hb hK hP 1 0 (i := 4) rfl rfl (vp_in_nI (n := 4) (by decide) (by decide)) d_Model_state_17 ?_
        refine W.eq (g2 := F0 m 18 ls [.ref e48]) rfl ?_
        refine lv_astore_n (lv' := [(2, .ref e48), (0, .ref h0), (1, .int 4)]) hx hb d_Model_state_18 rfl hl (by decide) rfl (fun ls hl => ?_)
        refine lv_aload_n hx hb d_Model_state_19 rfl (lv_at hl 0 rfl) ?_
        refine va_getN (D := (dC, dI)) (ci := 19) (v := .int 0) (C := R_MSession) (T := F_MSession) (N := 44) hx hb hts (i_MSession _) hown hK hP 6 rfl rfl 0 (by decide) ((bx_f hN ("SessionServerModel", 192, "SessionServerModel$Session", "open", "Z", "SessionServerModel") (by decide)).use rfl) (fun _ h9 => h9) rfl d_Model_state_20 ?_
        refine lv_if_ne (tgt := 30) hx hb d_Model_state_23 (by decide) (fun c_3 => absurd c_3 (by decide)) (fun c_3 => ?_)
        refine lv_iconst (v := 0) hx hb d_Model_state_26 (by decide) ?_
        refine lv_goto (tgt := 53) hx hb d_Model_state_27 (by decide) ?_
        refine lv_istore_n (lv' := [(3, .int 0), (2, .ref e48), (0, .ref h0), (1, .int 4)]) hx hb d_Model_state_53 rfl hl (by decide) rfl (fun ls hl => ?_)
        refine lv_aload_n hx hb d_Model_state_54 rfl (lv_at hl 1 rfl) ?_
        refine va_getN (D := (dC, dI)) (ci := 19) (v := .int 0) (C := R_MSession) (T := F_MSession) (N := 44) hx hb hts (i_MSession _) hown hK hP 6 rfl rfl 34 (by decide) ((bx_f hN ("SessionServerModel", 195, "SessionServerModel$Session", "wait", "I", "SessionServerModel") (by decide)).use rfl) (fun _ h9 => h9) rfl d_Model_state_55 ?_
        refine lv_if_le (tgt := 67) hx hb d_Model_state_58 (by decide) (fun c_4 => ?_) (fun c_4 => absurd (by decide) c_4)
        refine lv_iload_n hx hb d_Model_state_67 rfl (lv_at hl 0 rfl) ?_
        refine W.widen (k := 0) (n := 0) (Nat.le_of_ble_eq_true rfl) (Nat.le_of_ble_eq_true rfl) ?_
        exact W.iret (v := 0) hx hb hr (fun t ht hW => ⟨⟨0, (), rfl, (by decide), va_P.none, va_K.moved hW.alike (hK.sub (tys' := []) [] rfl), va_D.none⟩, hS.F ht⟩) hS.2.2 d_Model_state_68
      · skip
        refine lv_aload_n hx hb d_Model_state_12 rfl (lv_at hl 0 rfl) ?_
        refine va_get (D := (dC, dI)) (ci := 20) (v := .ref e3) (C := R_Model) (T := F_Model) (N := 42) hx hb hts (i_Model _) hown hK hP 0 rfl rfl 5 (by decide) (hts _ (List.mem_cons_of_mem _ q_2633)) (fun _ h9 => h9) rfl d_Model_state_13 ?_
        refine lv_iload_n hx hb d_Model_state_16 rfl (lv_at hl 1 rfl) ?_
        refine va_aldq hx hb hK hP 1 0 (i := 5) rfl rfl (vp_in_nI (n := 5) (by decide) (by decide)) d_Model_state_17 ?_
        refine W.eq (g2 := F0 m 18 ls [.ref e49]) rfl ?_
        refine lv_astore_n (lv' := [(2, .ref e49), (0, .ref h0), (1, .int 5)]) hx hb d_Model_state_18 rfl hl (by decide) rfl (fun ls hl => ?_)
        refine lv_aload_n hx hb d_Model_state_19 rfl (lv_at hl 0 rfl) ?_
        refine va_getN (D := (dC, dI)) (ci := 19) (v := .int 0) (C := R_MSession) (T := F_MSession) (N := 44) hx hb hts (i_MSession _) hown hK hP 7 rfl rfl 0 (by decide) ((bx_f hN ("SessionServerModel", 192, "SessionServerModel$Session", "open", "Z", "SessionServerModel") (by decide)).use rfl) (fun _ h9 => h9) rfl d_Model_state_20 ?_
        refine lv_if_ne (tgt := 30) hx hb d_Model_state_23 (by decide) (fun c_3 => absurd c_3 (by decide)) (fun c_3 => ?_)
        refine lv_iconst (v := 0) hx hb d_Model_state_26 (by decide) ?_
        refine lv_goto (tgt := 53) hx hb d_Model_state_27 (by decide) ?_
        refine lv_istore_n (lv' := [(3, .int 0), (2, .ref e49), (0, .ref h0), (1, .int 5)]) hx hb d_Model_state_53 rfl hl (by decide) rfl (fun ls hl => ?_)
        refine lv_aload_n hx hb d_Model_state_54 rfl (lv_at hl 1 rfl) ?_
        refine va_getN (D := (dC, dI)) (ci := 19) (v := .int 0) (C := R_MSession) (T := F_MSession) (N := 44) hx hb hts (i_MSession _) hown hK hP 7 rfl rfl 34 (by decide) ((bx_f hN ("SessionServerModel", 195, "SessionServerModel$Session", "wait", "I", "SessionServerModel") (by decide)).use rfl) (fun _ h9 => h9) rfl d_Model_state_55 ?_
        refine lv_if_le (tgt := 67) hx hb d_Model_state_58 (by decide) (fun c_4 => ?_) (fun c_4 => absurd (by decide) c_4)
        refine lv_iload_n hx hb d_Model_state_67 rfl (lv_at hl 0 rfl) ?_
        refine W.widen (k := 0) (n := 0) (Nat.le_of_ble_eq_true rfl) (Nat.le_of_ble_eq_true rfl) ?_
        exact W.iret (v := 0) hx hb hr (fun t ht hW => ⟨⟨0, (), rfl, (by decide), va_P.none, va_K.moved hW.alike (hK.sub (tys' := []) [] rfl), va_D.none⟩, hS.F ht⟩) hS.2.2 d_Model_state_68
    · skip
      refine lv_iconst (v := -1) hx hb d_Model_state_10 (by decide) ?_
      refine W.widen (k := 0) (n := 0) (Nat.le_of_ble_eq_true rfl) (Nat.le_of_ble_eq_true rfl) ?_
      exact W.iret (v := (-1)) hx hb hr (fun t ht hW => ⟨⟨(-1), (), rfl, (by simp [bx_in, bx_st, c_1, c_2]), va_P.none, va_K.moved hW.alike (hK.sub (tys' := []) [] rfl), va_D.none⟩, hS.F ht⟩) hS.2.2 d_Model_state_11
set_option maxHeartbeats 4000000 in
set_option maxRecDepth 100000 in
theorem c_Model_charge (l : Launch) (dC : Nat → ClassId) (dI : Nat → Nat → Nat) (sz : Nat) (h0 : Nat) (e1 : Nat) (e2 : Nat) (e3 : Nat) (e4 : Nat) (e5 : Nat) (e6 : Nat) (e7 : Nat) (e8 : Nat) (e9 : Nat) (e10 : Nat) (e11 : Nat) (e12 : Nat) (e13 : Nat) (e14 : Nat) (e15 : Nat) (e16 : Nat) (e17 : Nat) (e18 : Nat) (e19 : Nat) (e20 : Nat) (e21 : Nat) (e22 : Nat) (e23 : Nat) (e24 : Nat) (e25 : Nat) (e26 : Nat) (e27 : Nat) (e28 : Nat) (e29 : Nat) (z1 : Int32) : Met l y_Model_charge w_Model_charge ({ frames := 0, cells := 0, slots := 0, locals := 0 }) (va_Pc [.ref h0, .int z1] (fun U => U.heap.size = sz ∧ va_P (dC, dI) classes [(h0, .inr (20, [.int 1, .int (-1), .ref e1, .int 0, .ref e2, .ref e3, .ref e4, .int 0, .int 0, .ref e5, .ref e6, .ref e7, .ref e8, .ref e9, .ref e10, .ref e11, .ref e12, .ref e13, .int 0, .int 0, .ref e14, .ref e15, .ref e16, .ref e17, .int 0, .int 0, .int 0, .ref e18, .int 0, .ref e19, .ref e20, .ref e21, .int 0, .ref e22, .ref e23, .ref e24, .ref e25, .ref e26, .int 0, .ref e27, .ref e28, .ref e29]))] U.heap ∧ va_K (dC, dI) classes [] U ∧ va_D (fun _ => True) [(h0, .inr (20, [.int 1, .int (-1), .ref e1, .int 0, .ref e2, .ref e3, .ref e4, .int 0, .int 0, .ref e5, .ref e6, .ref e7, .ref e8, .ref e9, .ref e10, .ref e11, .ref e12, .ref e13, .int 0, .int 0, .ref e14, .ref e15, .ref e16, .ref e17, .int 0, .int 0, .int 0, .ref e18, .int 0, .ref e19, .ref e20, .ref e21, .int 0, .ref e22, .ref e23, .ref e24, .ref e25, .ref e26, .int 0, .ref e27, .ref e28, .ref e29]))] ∧ bx_N U)) (va_Qi (fun (r : Int32) (_ : Unit) => r = bx_chg z1) (fun (_ : Unit) t => va_P (dC, dI) classes [] t.heap ∧ va_K (dC, dI) classes [] t ∧ va_D (va_A [(h0, .inr (20, [.int 1, .int (-1), .ref e1, .int 0, .ref e2, .ref e3, .ref e4, .int 0, .int 0, .ref e5, .ref e6, .ref e7, .ref e8, .ref e9, .ref e10, .ref e11, .ref e12, .ref e13, .int 0, .int 0, .ref e14, .ref e15, .ref e16, .ref e17, .int 0, .int 0, .int 0, .ref e18, .int 0, .ref e19, .ref e20, .ref e21, .int 0, .ref e22, .ref e23, .ref e24, .ref e25, .ref e26, .int 0, .ref e27, .ref e28, .ref e29]))] sz) []) (va_A [(h0, .inr (20, [.int 1, .int (-1), .ref e1, .int 0, .ref e2, .ref e3, .ref e4, .int 0, .int 0, .ref e5, .ref e6, .ref e7, .ref e8, .ref e9, .ref e10, .ref e11, .ref e12, .ref e13, .int 0, .int 0, .ref e14, .ref e15, .ref e16, .ref e17, .int 0, .int 0, .int 0, .ref e18, .int 0, .ref e19, .ref e20, .ref e21, .int 0, .ref e22, .ref e23, .ref e24, .ref e25, .ref e26, .int 0, .ref e27, .ref e28, .ref e29]))] sz)) 0 0 (va_A [(h0, .inr (20, [.int 1, .int (-1), .ref e1, .int 0, .ref e2, .ref e3, .ref e4, .int 0, .int 0, .ref e5, .ref e6, .ref e7, .ref e8, .ref e9, .ref e10, .ref e11, .ref e12, .ref e13, .int 0, .int 0, .ref e14, .ref e15, .ref e16, .ref e17, .int 0, .int 0, .int 0, .ref e18, .int 0, .ref e19, .ref e20, .ref e21, .int 0, .ref e22, .ref e23, .ref e24, .ref e25, .ref e26, .int 0, .ref e27, .ref e28, .ref e29]))] sz) := by
  refine Met.ofW (cc := b_Model_charge) (maxL := 2) (ret := (some .boolean)) (by decide) rfl ?_
  intro p e s m args below meth c s₁ B hml hv
  obtain ⟨rfl, hsz, hP, hK, hD0, hN⟩ := hv
  have hx := B.exec
  have hb := B.bytes
  have hr := B.returns
  have hts := atoms_spec (ws := w_Model_charge) B.pre
  have hown : s.vm.findClass R_Model = some m.cls := findClass_of_methodNamed B.named
  have hlocks := B.notSynchronized
  subst hsz
  have hD := hD0.self (sz := s.heap.size)
  generalize hAe : va_A [(h0, .inr (20, [.int 1, .int (-1), .ref e1, .int 0, .ref e2, .ref e3, .ref e4, .int 0, .int 0, .ref e5, .ref e6, .ref e7, .ref e8, .ref e9, .ref e10, .ref e11, .ref e12, .ref e13, .int 0, .int 0, .ref e14, .ref e15, .ref e16, .ref e17, .int 0, .int 0, .int 0, .ref e18, .int 0, .ref e19, .ref e20, .ref e21, .int 0, .ref e22, .ref e23, .ref e24, .ref e25, .ref e26, .int 0, .ref e27, .ref e28, .ref e29]))] s.heap.size = A at hD ⊢
  have hA : ∀ q : Nat, s.heap.size ≤ q → A q := fun q h => by rw [← hAe]; exact Or.inr h
  have hS : va_S A s.heap s.heap [] := va_S.rf
  have hP : va_P (dC, dI) classes [(h0, .inr (20, [.int 1, .int (-1), .ref e1, .int 0, .ref e2, .ref e3, .ref e4, .int 0, .int 0, .ref e5, .ref e6, .ref e7, .ref e8, .ref e9, .ref e10, .ref e11, .ref e12, .ref e13, .int 0, .int 0, .ref e14, .ref e15, .ref e16, .ref e17, .int 0, .int 0, .int 0, .ref e18, .int 0, .ref e19, .ref e20, .ref e21, .int 0, .ref e22, .ref e23, .ref e24, .ref e25, .ref e26, .int 0, .ref e27, .ref e28, .ref e29]))] s.heap := hP
  have hl := lv_entry ([.ref h0, .int z1]) (n := 2) (Nat.le_of_ble_eq_true rfl)
  rw [lg_entry_eq]
  generalize (lg_sl ([.ref h0, .int z1]) ++ List.replicate (2 - (lg_sl ([.ref h0, .int z1])).length) Slot.unset).toArray = ls at hl ⊢
  have hl : lv_has ls 2 [(0, .ref h0), (1, .int z1)] := hl
  obtain ⟨H, hH⟩ : ∃ H : Heap, s.heap = H := ⟨_, rfl⟩
  have hP : va_P (dC, dI) classes [(h0, .inr (20, [.int 1, .int (-1), .ref e1, .int 0, .ref e2, .ref e3, .ref e4, .int 0, .int 0, .ref e5, .ref e6, .ref e7, .ref e8, .ref e9, .ref e10, .ref e11, .ref e12, .ref e13, .int 0, .int 0, .ref e14, .ref e15, .ref e16, .ref e17, .int 0, .int 0, .int 0, .ref e18, .int 0, .ref e19, .ref e20, .ref e21, .int 0, .ref e22, .ref e23, .ref e24, .ref e25, .ref e26, .int 0, .ref e27, .ref e28, .ref e29]))] H := by rw [← hH]; exact hP
  have hS : va_S A s.heap H [] := by rw [← hH]; exact va_S.rf
  refine bx_heap hH ?_
  refine lv_iload_n hx hb d_Model_charge_0 rfl (lv_at hl 1 rfl) ?_
  refine lv_if_lt (tgt := 18) hx hb d_Model_charge_1 (by decide) (fun c_1 => ?_) (fun c_1 => ?_)
  · skip
    refine lv_iconst (v := 0) hx hb d_Model_charge_18 (by decide) ?_
    refine W.widen (k := 0) (n := 0) (Nat.le_of_ble_eq_true rfl) (Nat.le_of_ble_eq_true rfl) ?_
    exact W.zret (v := 0) hx hb hr (by decide) (fun t ht hW => ⟨⟨0, (), rfl, (by simp [bx_chg, c_1]), va_P.none, va_K.moved hW.alike (hK.sub (tys' := []) [] rfl), va_D.none⟩, hS.F ht⟩) hS.2.2 d_Model_charge_19
  · skip
    refine lv_iload_n hx hb d_Model_charge_4 rfl (lv_at hl 1 rfl) ?_
    refine lv_sipush (v := 999) hx hb d_Model_charge_5 (by decide) ?_
    refine lv_icmp_gt (tgt := 18) hx hb d_Model_charge_8 (by decide) (fun c_2 => ?_) (fun c_2 => ?_)
    · skip
      refine lv_iconst (v := 0) hx hb d_Model_charge_18 (by decide) ?_
      refine W.widen (k := 0) (n := 0) (Nat.le_of_ble_eq_true rfl) (Nat.le_of_ble_eq_true rfl) ?_
      exact W.zret (v := 0) hx hb hr (by decide) (fun t ht hW => ⟨⟨0, (), rfl, (by simp [bx_chg, c_1, c_2]), va_P.none, va_K.moved hW.alike (hK.sub (tys' := []) [] rfl), va_D.none⟩, hS.F ht⟩) hS.2.2 d_Model_charge_19
    · skip
      refine lv_aload_n hx hb d_Model_charge_11 rfl (lv_at hl 0 rfl) ?_
      refine va_get (D := (dC, dI)) (ci := 20) (v := .int 1) (C := R_Model) (T := F_Model) (N := 42) hx hb hts (i_Model _) hown hK hP 0 rfl rfl 0 (by decide) (hts _ (List.mem_cons_of_mem _ q_2628)) (fun _ h9 => h9) rfl d_Model_charge_12 ?_
      refine lv_if_ne (tgt := 20) hx hb d_Model_charge_15 (by decide) (fun c_3 => ?_) (fun c_3 => absurd c_3 (by decide))
      refine lv_aload_n hx hb d_Model_charge_20 rfl (lv_at hl 0 rfl) ?_
      refine lv_iload_n hx hb d_Model_charge_21 rfl (lv_at hl 1 rfl) ?_
      refine va_put (D := (dC, dI)) (ci := 20) (v := .int z1) (ty := .int) (C := R_Model) (T := F_Model) (N := 42) hx hb hts (i_Model _) t_Model t_Model_ok n_Model hown hK hP hD hS 0 rfl rfl 1 (by decide) (hts _ (List.mem_cons_of_mem _ q_2629)) (fun _ h9 => h9) rfl (by decide +kernel) rfl rfl (Nat.le_of_ble_eq_true rfl) d_Model_charge_22 (fun H locs hP hD hS => ?_)
      have hP : va_P (dC, dI) classes [(h0, .inr (20, [.int 1, .int z1, .ref e1, .int 0, .ref e2, .ref e3, .ref e4, .int 0, .int 0, .ref e5, .ref e6, .ref e7, .ref e8, .ref e9, .ref e10, .ref e11, .ref e12, .ref e13, .int 0, .int 0, .ref e14, .ref e15, .ref e16, .ref e17, .int 0, .int 0, .int 0, .ref e18, .int 0, .ref e19, .ref e20, .ref e21, .int 0, .ref e22, .ref e23, .ref e24, .ref e25, .ref e26, .int 0, .ref e27, .ref e28, .ref e29]))] H := hP
      have hD : va_D A [(h0, .inr (20, [.int 1, .int z1, .ref e1, .int 0, .ref e2, .ref e3, .ref e4, .int 0, .int 0, .ref e5, .ref e6, .ref e7, .ref e8, .ref e9, .ref e10, .ref e11, .ref e12, .ref e13, .int 0, .int 0, .ref e14, .ref e15, .ref e16, .ref e17, .int 0, .int 0, .int 0, .ref e18, .int 0, .ref e19, .ref e20, .ref e21, .int 0, .ref e22, .ref e23, .ref e24, .ref e25, .ref e26, .int 0, .ref e27, .ref e28, .ref e29]))] := hD
      refine lv_iconst (v := 1) hx hb d_Model_charge_25 (by decide) ?_
      refine W.widen (k := 0) (n := 0) (Nat.le_of_ble_eq_true rfl) (Nat.le_of_ble_eq_true rfl) ?_
      exact W.zret (v := 1) hx hb hr (by decide) (fun t ht hW => ⟨⟨1, (), rfl, (by simp [bx_chg, c_1, c_2]), va_P.none, va_K.moved hW.alike (hK.sub (tys' := []) [] rfl), va_D.none⟩, hS.F ht⟩) hS.2.2 d_Model_charge_26
set_option maxHeartbeats 4000000 in
set_option maxRecDepth 100000 in
theorem c_Model_start (l : Launch) (dC : Nat → ClassId) (dI : Nat → Nat → Nat) (sz : Nat) (h0 : Nat) (e1 : Nat) (e2 : Nat) (e3 : Nat) (e4 : Nat) (e5 : Nat) (e6 : Nat) (e7 : Nat) (e8 : Nat) (e9 : Nat) (e10 : Nat) (e11 : Nat) (e12 : Nat) (e13 : Nat) (e14 : Nat) (e15 : Nat) (e16 : Nat) (e17 : Nat) (e18 : Nat) (e19 : Nat) (e20 : Nat) (e21 : Nat) (e22 : Nat) (e23 : Nat) (e24 : Nat) (e25 : Nat) (e26 : Nat) (e27 : Nat) (e28 : Nat) (e29 : Nat) : Met l y_Model_start w_Model_start ({ frames := 0, cells := 0, slots := 0, locals := 0 }) (va_Pc [.ref h0] (fun U => U.heap.size = sz ∧ va_P (dC, dI) classes [(h0, .inr (20, [.int 1, .int (-1), .ref e1, .int 0, .ref e2, .ref e3, .ref e4, .int 0, .int 0, .ref e5, .ref e6, .ref e7, .ref e8, .ref e9, .ref e10, .ref e11, .ref e12, .ref e13, .int 0, .int 0, .ref e14, .ref e15, .ref e16, .ref e17, .int 0, .int 0, .int 0, .ref e18, .int 0, .ref e19, .ref e20, .ref e21, .int 0, .ref e22, .ref e23, .ref e24, .ref e25, .ref e26, .int 0, .ref e27, .ref e28, .ref e29]))] U.heap ∧ va_K (dC, dI) classes [] U ∧ va_D (fun _ => True) [(h0, .inr (20, [.int 1, .int (-1), .ref e1, .int 0, .ref e2, .ref e3, .ref e4, .int 0, .int 0, .ref e5, .ref e6, .ref e7, .ref e8, .ref e9, .ref e10, .ref e11, .ref e12, .ref e13, .int 0, .int 0, .ref e14, .ref e15, .ref e16, .ref e17, .int 0, .int 0, .int 0, .ref e18, .int 0, .ref e19, .ref e20, .ref e21, .int 0, .ref e22, .ref e23, .ref e24, .ref e25, .ref e26, .int 0, .ref e27, .ref e28, .ref e29]))] ∧ bx_N U)) (va_Qi (fun (r : Int32) (_ : Unit) => r = 0) (fun (_ : Unit) t => va_P (dC, dI) classes [] t.heap ∧ va_K (dC, dI) classes [] t ∧ va_D (va_A [(h0, .inr (20, [.int 1, .int (-1), .ref e1, .int 0, .ref e2, .ref e3, .ref e4, .int 0, .int 0, .ref e5, .ref e6, .ref e7, .ref e8, .ref e9, .ref e10, .ref e11, .ref e12, .ref e13, .int 0, .int 0, .ref e14, .ref e15, .ref e16, .ref e17, .int 0, .int 0, .int 0, .ref e18, .int 0, .ref e19, .ref e20, .ref e21, .int 0, .ref e22, .ref e23, .ref e24, .ref e25, .ref e26, .int 0, .ref e27, .ref e28, .ref e29]))] sz) []) (va_A [(h0, .inr (20, [.int 1, .int (-1), .ref e1, .int 0, .ref e2, .ref e3, .ref e4, .int 0, .int 0, .ref e5, .ref e6, .ref e7, .ref e8, .ref e9, .ref e10, .ref e11, .ref e12, .ref e13, .int 0, .int 0, .ref e14, .ref e15, .ref e16, .ref e17, .int 0, .int 0, .int 0, .ref e18, .int 0, .ref e19, .ref e20, .ref e21, .int 0, .ref e22, .ref e23, .ref e24, .ref e25, .ref e26, .int 0, .ref e27, .ref e28, .ref e29]))] sz)) 0 0 (va_A [(h0, .inr (20, [.int 1, .int (-1), .ref e1, .int 0, .ref e2, .ref e3, .ref e4, .int 0, .int 0, .ref e5, .ref e6, .ref e7, .ref e8, .ref e9, .ref e10, .ref e11, .ref e12, .ref e13, .int 0, .int 0, .ref e14, .ref e15, .ref e16, .ref e17, .int 0, .int 0, .int 0, .ref e18, .int 0, .ref e19, .ref e20, .ref e21, .int 0, .ref e22, .ref e23, .ref e24, .ref e25, .ref e26, .int 0, .ref e27, .ref e28, .ref e29]))] sz) := by
  refine Met.ofW (cc := b_Model_start) (maxL := 3) (ret := (some .boolean)) (by decide) rfl ?_
  intro p e s m args below meth c s₁ B hml hv
  obtain ⟨rfl, hsz, hP, hK, hD0, hN⟩ := hv
  have hx := B.exec
  have hb := B.bytes
  have hr := B.returns
  have hts := atoms_spec (ws := w_Model_start) B.pre
  have hown : s.vm.findClass R_Model = some m.cls := findClass_of_methodNamed B.named
  have hlocks := B.notSynchronized
  subst hsz
  have hD := hD0.self (sz := s.heap.size)
  generalize hAe : va_A [(h0, .inr (20, [.int 1, .int (-1), .ref e1, .int 0, .ref e2, .ref e3, .ref e4, .int 0, .int 0, .ref e5, .ref e6, .ref e7, .ref e8, .ref e9, .ref e10, .ref e11, .ref e12, .ref e13, .int 0, .int 0, .ref e14, .ref e15, .ref e16, .ref e17, .int 0, .int 0, .int 0, .ref e18, .int 0, .ref e19, .ref e20, .ref e21, .int 0, .ref e22, .ref e23, .ref e24, .ref e25, .ref e26, .int 0, .ref e27, .ref e28, .ref e29]))] s.heap.size = A at hD ⊢
  have hA : ∀ q : Nat, s.heap.size ≤ q → A q := fun q h => by rw [← hAe]; exact Or.inr h
  have hS : va_S A s.heap s.heap [] := va_S.rf
  have hP : va_P (dC, dI) classes [(h0, .inr (20, [.int 1, .int (-1), .ref e1, .int 0, .ref e2, .ref e3, .ref e4, .int 0, .int 0, .ref e5, .ref e6, .ref e7, .ref e8, .ref e9, .ref e10, .ref e11, .ref e12, .ref e13, .int 0, .int 0, .ref e14, .ref e15, .ref e16, .ref e17, .int 0, .int 0, .int 0, .ref e18, .int 0, .ref e19, .ref e20, .ref e21, .int 0, .ref e22, .ref e23, .ref e24, .ref e25, .ref e26, .int 0, .ref e27, .ref e28, .ref e29]))] s.heap := hP
  have hl := lv_entry ([.ref h0]) (n := 3) (Nat.le_of_ble_eq_true rfl)
  rw [lg_entry_eq]
  generalize (lg_sl ([.ref h0]) ++ List.replicate (3 - (lg_sl ([.ref h0])).length) Slot.unset).toArray = ls at hl ⊢
  have hl : lv_has ls 3 [(0, .ref h0)] := hl
  obtain ⟨H, hH⟩ : ∃ H : Heap, s.heap = H := ⟨_, rfl⟩
  have hP : va_P (dC, dI) classes [(h0, .inr (20, [.int 1, .int (-1), .ref e1, .int 0, .ref e2, .ref e3, .ref e4, .int 0, .int 0, .ref e5, .ref e6, .ref e7, .ref e8, .ref e9, .ref e10, .ref e11, .ref e12, .ref e13, .int 0, .int 0, .ref e14, .ref e15, .ref e16, .ref e17, .int 0, .int 0, .int 0, .ref e18, .int 0, .ref e19, .ref e20, .ref e21, .int 0, .ref e22, .ref e23, .ref e24, .ref e25, .ref e26, .int 0, .ref e27, .ref e28, .ref e29]))] H := by rw [← hH]; exact hP
  have hS : va_S A s.heap H [] := by rw [← hH]; exact va_S.rf
  refine bx_heap hH ?_
  refine lv_aload_n hx hb d_Model_start_0 rfl (lv_at hl 0 rfl) ?_
  refine va_get (D := (dC, dI)) (ci := 20) (v := .int 1) (C := R_Model) (T := F_Model) (N := 42) hx hb hts (i_Model _) hown hK hP 0 rfl rfl 0 (by decide) (hts _ (List.mem_cons_of_mem _ q_2628)) (fun _ h9 => h9) rfl d_Model_start_1 ?_
  refine lv_if_eq (tgt := 9) hx hb d_Model_start_4 (by decide) (fun c_1 => absurd c_1 (by decide)) (fun c_1 => ?_)
  refine lv_iconst (v := 0) hx hb d_Model_start_7 (by decide) ?_
  refine W.widen (k := 0) (n := 0) (Nat.le_of_ble_eq_true rfl) (Nat.le_of_ble_eq_true rfl) ?_
  exact W.zret (v := 0) hx hb hr (by decide) (fun t ht hW => ⟨⟨0, (), rfl, rfl, va_P.none, va_K.moved hW.alike (hK.sub (tys' := []) [] rfl), va_D.none⟩, hS.F ht⟩) hS.2.2 d_Model_start_8
set_option maxHeartbeats 4000000 in
set_option maxRecDepth 100000 in
theorem c_MSerial_countRings (l : Launch) (dC : Nat → ClassId) (dI : Nat → Nat → Nat) (sz : Nat) (h0 : Nat) (e1 : Nat) (e2 : Nat) (e3 : Nat) (e4 : Nat) (e5 : Nat) (e6 : Nat) (e7 : Nat) (e8 : Nat) (e9 : Nat) (e10 : Nat) (e11 : Nat) (e12 : Nat) (e13 : Nat) : Met l y_MSerial_countRings w_MSerial_countRings ({ frames := 0, cells := 0, slots := 0, locals := 0 }) (va_Pc [.ref h0] (fun U => U.heap.size = sz ∧ va_P (dC, dI) classes [(h0, .inr (16, [.int 0, .int 0, .int 0, .ref e1, .ref e2, .ref e3, .ref e4, .ref e5, .ref e6, .ref e7, .ref e8, .ref e9, .ref e10, .ref e11, .ref e12, .ref e13]))] U.heap ∧ va_K (dC, dI) classes [] U ∧ va_D (fun _ => True) [(h0, .inr (16, [.int 0, .int 0, .int 0, .ref e1, .ref e2, .ref e3, .ref e4, .ref e5, .ref e6, .ref e7, .ref e8, .ref e9, .ref e10, .ref e11, .ref e12, .ref e13]))] ∧ bx_N U)) (va_Qi (fun (r : Int32) (_ : Unit) => r = 0) (fun (_ : Unit) t => va_P (dC, dI) classes [] t.heap ∧ va_K (dC, dI) classes [] t ∧ va_D (va_A [(h0, .inr (16, [.int 0, .int 0, .int 0, .ref e1, .ref e2, .ref e3, .ref e4, .ref e5, .ref e6, .ref e7, .ref e8, .ref e9, .ref e10, .ref e11, .ref e12, .ref e13]))] sz) []) (va_A [(h0, .inr (16, [.int 0, .int 0, .int 0, .ref e1, .ref e2, .ref e3, .ref e4, .ref e5, .ref e6, .ref e7, .ref e8, .ref e9, .ref e10, .ref e11, .ref e12, .ref e13]))] sz)) 0 0 (va_A [(h0, .inr (16, [.int 0, .int 0, .int 0, .ref e1, .ref e2, .ref e3, .ref e4, .ref e5, .ref e6, .ref e7, .ref e8, .ref e9, .ref e10, .ref e11, .ref e12, .ref e13]))] sz) := by
  refine Met.ofW (cc := b_MSerial_countRings) (maxL := 3) (ret := (some .int)) (by decide) rfl ?_
  intro p e s m args below meth c s₁ B hml hv
  obtain ⟨rfl, hsz, hP, hK, hD0, hN⟩ := hv
  have hx := B.exec
  have hb := B.bytes
  have hr := B.returns
  have hts := atoms_spec (ws := w_MSerial_countRings) B.pre
  have hown : s.vm.findClass R_MSerial = some m.cls := findClass_of_methodNamed B.named
  have hlocks := B.notSynchronized
  subst hsz
  have hD := hD0.self (sz := s.heap.size)
  generalize hAe : va_A [(h0, .inr (16, [.int 0, .int 0, .int 0, .ref e1, .ref e2, .ref e3, .ref e4, .ref e5, .ref e6, .ref e7, .ref e8, .ref e9, .ref e10, .ref e11, .ref e12, .ref e13]))] s.heap.size = A at hD ⊢
  have hA : ∀ q : Nat, s.heap.size ≤ q → A q := fun q h => by rw [← hAe]; exact Or.inr h
  have hS : va_S A s.heap s.heap [] := va_S.rf
  have hP : va_P (dC, dI) classes [(h0, .inr (16, [.int 0, .int 0, .int 0, .ref e1, .ref e2, .ref e3, .ref e4, .ref e5, .ref e6, .ref e7, .ref e8, .ref e9, .ref e10, .ref e11, .ref e12, .ref e13]))] s.heap := hP
  have hl := lv_entry ([.ref h0]) (n := 3) (Nat.le_of_ble_eq_true rfl)
  rw [lg_entry_eq]
  generalize (lg_sl ([.ref h0]) ++ List.replicate (3 - (lg_sl ([.ref h0])).length) Slot.unset).toArray = ls at hl ⊢
  have hl : lv_has ls 3 [(0, .ref h0)] := hl
  obtain ⟨H, hH⟩ : ∃ H : Heap, s.heap = H := ⟨_, rfl⟩
  have hP : va_P (dC, dI) classes [(h0, .inr (16, [.int 0, .int 0, .int 0, .ref e1, .ref e2, .ref e3, .ref e4, .ref e5, .ref e6, .ref e7, .ref e8, .ref e9, .ref e10, .ref e11, .ref e12, .ref e13]))] H := by rw [← hH]; exact hP
  have hS : va_S A s.heap H [] := by rw [← hH]; exact va_S.rf
  refine bx_heap hH ?_
  refine lv_iconst (v := 0) hx hb d_MSerial_countRings_0 (by decide) ?_
  refine lv_istore_n (lv' := [(1, .int 0), (0, .ref h0)]) hx hb d_MSerial_countRings_1 rfl hl (by decide) rfl (fun ls hl => ?_)
  refine lv_iconst (v := 1) hx hb d_MSerial_countRings_2 (by decide) ?_
  refine lv_istore_n (lv' := [(2, .int 1), (1, .int 0), (0, .ref h0)]) hx hb d_MSerial_countRings_3 rfl hl (by decide) rfl (fun ls hl => ?_)
  refine lv_iload_n hx hb d_MSerial_countRings_4 rfl (lv_at hl 0 rfl) ?_
  refine lv_aload_n hx hb d_MSerial_countRings_5 rfl (lv_at hl 2 rfl) ?_
  refine va_get (D := (dC, dI)) (ci := 16) (v := .int 0) (C := R_MSerial) (T := F_MSerial) (N := 16) hx hb hts (i_MSerial _) hown hK hP 0 rfl rfl 0 (by decide) (hts _ (List.mem_cons_of_mem _ q_2105)) (fun _ h9 => h9) rfl d_MSerial_countRings_6 ?_
  refine lv_icmp_gt (tgt := 43) hx hb d_MSerial_countRings_9 (by decide) (fun c_1 => ?_) (fun c_1 => absurd (by decide) c_1)
  refine lv_iload_n hx hb d_MSerial_countRings_43 rfl (lv_at hl 1 rfl) ?_
  refine W.widen (k := 0) (n := 0) (Nat.le_of_ble_eq_true rfl) (Nat.le_of_ble_eq_true rfl) ?_
  exact W.iret (v := 0) hx hb hr (fun t ht hW => ⟨⟨0, (), rfl, rfl, va_P.none, va_K.moved hW.alike (hK.sub (tys' := []) [] rfl), va_D.none⟩, hS.F ht⟩) hS.2.2 d_MSerial_countRings_44
set_option maxHeartbeats 4000000 in
set_option maxRecDepth 100000 in
theorem c_Model_rings (l : Launch) (dC : Nat → ClassId) (dI : Nat → Nat → Nat) (sz : Nat) (h0 : Nat) (e1 : Nat) (e2 : Nat) (e3 : Nat) (e4 : Nat) (e5 : Nat) (e6 : Nat) (e7 : Nat) (e8 : Nat) (e9 : Nat) (e10 : Nat) (e11 : Nat) (e12 : Nat) (e13 : Nat) (e14 : Nat) (e15 : Nat) (e16 : Nat) (e17 : Nat) (e18 : Nat) (e19 : Nat) (e20 : Nat) (e21 : Nat) (e22 : Nat) (e23 : Nat) (e24 : Nat) (e25 : Nat) (e26 : Nat) (e27 : Nat) (e28 : Nat) (e29 : Nat) (e164 : Nat) (e165 : Nat) (e166 : Nat) (e167 : Nat) (e168 : Nat) (e169 : Nat) (e170 : Nat) (e171 : Nat) (e172 : Nat) (e173 : Nat) (e174 : Nat) (e175 : Nat) (e176 : Nat) : Met l y_Model_rings w_Model_rings ({ frames := 1, cells := 0, slots := 0, locals := 22 }) (va_Pc [.ref h0] (fun U => U.heap.size = sz ∧ va_P (dC, dI) classes [(h0, .inr (20, [.int 1, .int (-1), .ref e1, .int 0, .ref e2, .ref e3, .ref e4, .int 0, .int 0, .ref e5, .ref e6, .ref e7, .ref e8, .ref e9, .ref e10, .ref e11, .ref e12, .ref e13, .int 0, .int 0, .ref e14, .ref e15, .ref e16, .ref e17, .int 0, .int 0, .int 0, .ref e18, .int 0, .ref e19, .ref e20, .ref e21, .int 0, .ref e22, .ref e23, .ref e24, .ref e25, .ref e26, .int 0, .ref e27, .ref e28, .ref e29])), (e4, .inr (16, [.int 0, .int 0, .int 0, .ref e164, .ref e165, .ref e166, .ref e167, .ref e168, .ref e169, .ref e170, .ref e171, .ref e172, .ref e173, .ref e174, .ref e175, .ref e176]))] U.heap ∧ va_K (dC, dI) classes [] U ∧ va_D (fun _ => True) [(h0, .inr (20, [.int 1, .int (-1), .ref e1, .int 0, .ref e2, .ref e3, .ref e4, .int 0, .int 0, .ref e5, .ref e6, .ref e7, .ref e8, .ref e9, .ref e10, .ref e11, .ref e12, .ref e13, .int 0, .int 0, .ref e14, .ref e15, .ref e16, .ref e17, .int 0, .int 0, .int 0, .ref e18, .int 0, .ref e19, .ref e20, .ref e21, .int 0, .ref e22, .ref e23, .ref e24, .ref e25, .ref e26, .int 0, .ref e27, .ref e28, .ref e29])), (e4, .inr (16, [.int 0, .int 0, .int 0, .ref e164, .ref e165, .ref e166, .ref e167, .ref e168, .ref e169, .ref e170, .ref e171, .ref e172, .ref e173, .ref e174, .ref e175, .ref e176]))] ∧ bx_N U)) (va_Qi (fun (r : Int32) (_ : Unit) => r = 0) (fun (_ : Unit) t => va_P (dC, dI) classes [] t.heap ∧ va_K (dC, dI) classes [] t ∧ va_D (va_A [(h0, .inr (20, [.int 1, .int (-1), .ref e1, .int 0, .ref e2, .ref e3, .ref e4, .int 0, .int 0, .ref e5, .ref e6, .ref e7, .ref e8, .ref e9, .ref e10, .ref e11, .ref e12, .ref e13, .int 0, .int 0, .ref e14, .ref e15, .ref e16, .ref e17, .int 0, .int 0, .int 0, .ref e18, .int 0, .ref e19, .ref e20, .ref e21, .int 0, .ref e22, .ref e23, .ref e24, .ref e25, .ref e26, .int 0, .ref e27, .ref e28, .ref e29])), (e4, .inr (16, [.int 0, .int 0, .int 0, .ref e164, .ref e165, .ref e166, .ref e167, .ref e168, .ref e169, .ref e170, .ref e171, .ref e172, .ref e173, .ref e174, .ref e175, .ref e176]))] sz) []) (va_A [(h0, .inr (20, [.int 1, .int (-1), .ref e1, .int 0, .ref e2, .ref e3, .ref e4, .int 0, .int 0, .ref e5, .ref e6, .ref e7, .ref e8, .ref e9, .ref e10, .ref e11, .ref e12, .ref e13, .int 0, .int 0, .ref e14, .ref e15, .ref e16, .ref e17, .int 0, .int 0, .int 0, .ref e18, .int 0, .ref e19, .ref e20, .ref e21, .int 0, .ref e22, .ref e23, .ref e24, .ref e25, .ref e26, .int 0, .ref e27, .ref e28, .ref e29])), (e4, .inr (16, [.int 0, .int 0, .int 0, .ref e164, .ref e165, .ref e166, .ref e167, .ref e168, .ref e169, .ref e170, .ref e171, .ref e172, .ref e173, .ref e174, .ref e175, .ref e176]))] sz)) 0 0 (va_A [(h0, .inr (20, [.int 1, .int (-1), .ref e1, .int 0, .ref e2, .ref e3, .ref e4, .int 0, .int 0, .ref e5, .ref e6, .ref e7, .ref e8, .ref e9, .ref e10, .ref e11, .ref e12, .ref e13, .int 0, .int 0, .ref e14, .ref e15, .ref e16, .ref e17, .int 0, .int 0, .int 0, .ref e18, .int 0, .ref e19, .ref e20, .ref e21, .int 0, .ref e22, .ref e23, .ref e24, .ref e25, .ref e26, .int 0, .ref e27, .ref e28, .ref e29])), (e4, .inr (16, [.int 0, .int 0, .int 0, .ref e164, .ref e165, .ref e166, .ref e167, .ref e168, .ref e169, .ref e170, .ref e171, .ref e172, .ref e173, .ref e174, .ref e175, .ref e176]))] sz) := by
  refine Met.ofW (cc := b_Model_rings) (maxL := 1) (ret := (some .int)) (by decide) rfl ?_
  intro p e s m args below meth c s₁ B hml hv
  obtain ⟨rfl, hsz, hP, hK, hD0, hN⟩ := hv
  have hx := B.exec
  have hb := B.bytes
  have hr := B.returns
  have hts := atoms_spec (ws := w_Model_rings) B.pre
  have hown : s.vm.findClass R_Model = some m.cls := findClass_of_methodNamed B.named
  have hlocks := B.notSynchronized
  subst hsz
  have hD := hD0.self (sz := s.heap.size)
  generalize hAe : va_A [(h0, .inr (20, [.int 1, .int (-1), .ref e1, .int 0, .ref e2, .ref e3, .ref e4, .int 0, .int 0, .ref e5, .ref e6, .ref e7, .ref e8, .ref e9, .ref e10, .ref e11, .ref e12, .ref e13, .int 0, .int 0, .ref e14, .ref e15, .ref e16, .ref e17, .int 0, .int 0, .int 0, .ref e18, .int 0, .ref e19, .ref e20, .ref e21, .int 0, .ref e22, .ref e23, .ref e24, .ref e25, .ref e26, .int 0, .ref e27, .ref e28, .ref e29])), (e4, .inr (16, [.int 0, .int 0, .int 0, .ref e164, .ref e165, .ref e166, .ref e167, .ref e168, .ref e169, .ref e170, .ref e171, .ref e172, .ref e173, .ref e174, .ref e175, .ref e176]))] s.heap.size = A at hD ⊢
  have hA : ∀ q : Nat, s.heap.size ≤ q → A q := fun q h => by rw [← hAe]; exact Or.inr h
  have hS : va_S A s.heap s.heap [] := va_S.rf
  have hP : va_P (dC, dI) classes [(h0, .inr (20, [.int 1, .int (-1), .ref e1, .int 0, .ref e2, .ref e3, .ref e4, .int 0, .int 0, .ref e5, .ref e6, .ref e7, .ref e8, .ref e9, .ref e10, .ref e11, .ref e12, .ref e13, .int 0, .int 0, .ref e14, .ref e15, .ref e16, .ref e17, .int 0, .int 0, .int 0, .ref e18, .int 0, .ref e19, .ref e20, .ref e21, .int 0, .ref e22, .ref e23, .ref e24, .ref e25, .ref e26, .int 0, .ref e27, .ref e28, .ref e29])), (e4, .inr (16, [.int 0, .int 0, .int 0, .ref e164, .ref e165, .ref e166, .ref e167, .ref e168, .ref e169, .ref e170, .ref e171, .ref e172, .ref e173, .ref e174, .ref e175, .ref e176]))] s.heap := hP
  have hl := lv_entry ([.ref h0]) (n := 1) (Nat.le_of_ble_eq_true rfl)
  rw [lg_entry_eq]
  generalize (lg_sl ([.ref h0]) ++ List.replicate (1 - (lg_sl ([.ref h0])).length) Slot.unset).toArray = ls at hl ⊢
  have hl : lv_has ls 1 [(0, .ref h0)] := hl
  obtain ⟨H, hH⟩ : ∃ H : Heap, s.heap = H := ⟨_, rfl⟩
  have hP : va_P (dC, dI) classes [(h0, .inr (20, [.int 1, .int (-1), .ref e1, .int 0, .ref e2, .ref e3, .ref e4, .int 0, .int 0, .ref e5, .ref e6, .ref e7, .ref e8, .ref e9, .ref e10, .ref e11, .ref e12, .ref e13, .int 0, .int 0, .ref e14, .ref e15, .ref e16, .ref e17, .int 0, .int 0, .int 0, .ref e18, .int 0, .ref e19, .ref e20, .ref e21, .int 0, .ref e22, .ref e23, .ref e24, .ref e25, .ref e26, .int 0, .ref e27, .ref e28, .ref e29])), (e4, .inr (16, [.int 0, .int 0, .int 0, .ref e164, .ref e165, .ref e166, .ref e167, .ref e168, .ref e169, .ref e170, .ref e171, .ref e172, .ref e173, .ref e174, .ref e175, .ref e176]))] H := by rw [← hH]; exact hP
  have hS : va_S A s.heap H [] := by rw [← hH]; exact va_S.rf
  refine bx_heap hH ?_
  refine lv_aload_n hx hb d_Model_rings_0 rfl (lv_at hl 0 rfl) ?_
  refine va_get (D := (dC, dI)) (ci := 20) (v := .ref e4) (C := R_Model) (T := F_Model) (N := 42) hx hb hts (i_Model _) hown hK hP 0 rfl rfl 6 (by decide) (hts _ (List.mem_cons_of_mem _ q_2634)) (fun _ h9 => h9) rfl d_Model_rings_1 ?_
  have hPc := hP.sub (ws' := [(e4, .inr (16, [.int 0, .int 0, .int 0, .ref e164, .ref e165, .ref e166, .ref e167, .ref e168, .ref e169, .ref e170, .ref e171, .ref e172, .ref e173, .ref e174, .ref e175, .ref e176]))]) [1] rfl
  have hDc := hD.sub (ws' := [(e4, .inr (16, [.int 0, .int 0, .int 0, .ref e164, .ref e165, .ref e166, .ref e167, .ref e168, .ref e169, .ref e170, .ref e171, .ref e172, .ref e173, .ref e174, .ref e175, .ref e176]))]) [1] (by decide) rfl
  have hKc := hK.sub (tys' := []) [] rfl
  have hFc := va_free (wc := [(e4, .inr (16, [.int 0, .int 0, .int 0, .ref e164, .ref e165, .ref e166, .ref e167, .ref e168, .ref e169, .ref e170, .ref e171, .ref e172, .ref e173, .ref e174, .ref e175, .ref e176]))]) hD hS hA [1] rfl
  refine va_calli (va_runV (As := []) (rest := []) ⟨hx, hb, hml, hown, hts⟩ (c_MSerial_countRings l dC dI H.size e4 e164 e165 e166 e167 e168 e169 e170 e171 e172 e173 e174 e175 e176) (cwV 0 hts (gG_goodV q_3887 q_3888 (sel_MSerial_countRings) q_16 q_3890) rfl rfl rfl (by decide +kernel) ⟨Nat.le_of_ble_eq_true rfl, Nat.le_of_ble_eq_true rfl⟩) ⟨fun a U g mk q => by obtain ⟨q0, q1, qP, qK, qD, qN⟩ := q; exact ⟨q0, q1, qP, va_K.moved (u := U) (U := U.calling g mk a) (Vm.Alike.refl U.vm) qK, qD, bx_N.same rfl qN⟩, va_recv hKc hPc (ci := 16) (q0 := 0) rfl rfl, fun U hU hW => ⟨rfl, by rw [hU], by rw [hU]; exact hPc, va_K.moved hW.alike hKc, hDc.weaken (fun _ _ _ _ => trivial), bx_N.warm hW hN⟩⟩ rfl rfl hl.1 rfl (lv_room (Nat.le_of_ble_eq_true rfl)) d_Model_rings_4 ⟨Nat.le_of_ble_eq_true rfl, Nat.le_of_ble_eq_true rfl⟩) hS (fun q _ h => hFc q h) hFc (fun r1 u t H1 locs ht hvm hw hB hz1 hk1 hS => ?_)
  subst hw
  obtain ⟨hP1, hK1, hD1⟩ := hB
  rw [ht] at hP1
  have hK1 := va_K.moved hvm.symm hK1
  obtain ⟨hP, hD⟩ := va_join (wr := [(h0, .inr (20, [.int 1, .int (-1), .ref e1, .int 0, .ref e2, .ref e3, .ref e4, .int 0, .int 0, .ref e5, .ref e6, .ref e7, .ref e8, .ref e9, .ref e10, .ref e11, .ref e12, .ref e13, .int 0, .int 0, .ref e14, .ref e15, .ref e16, .ref e17, .int 0, .int 0, .int 0, .ref e18, .int 0, .ref e19, .ref e20, .ref e21, .int 0, .ref e22, .ref e23, .ref e24, .ref e25, .ref e26, .int 0, .ref e27, .ref e28, .ref e29]))]) (w1 := []) hP hD [1] [0] rfl rfl (by decide) (by decide) hk1 hFc hP1 hD1
  have hK := (hK.sub (tys' := []) [] rfl).app hK1
  generalize H1 = H at hP hS ⊢
  have hP : va_P (dC, dI) classes [(h0, .inr (20, [.int 1, .int (-1), .ref e1, .int 0, .ref e2, .ref e3, .ref e4, .int 0, .int 0, .ref e5, .ref e6, .ref e7, .ref e8, .ref e9, .ref e10, .ref e11, .ref e12, .ref e13, .int 0, .int 0, .ref e14, .ref e15, .ref e16, .ref e17, .int 0, .int 0, .int 0, .ref e18, .int 0, .ref e19, .ref e20, .ref e21, .int 0, .ref e22, .ref e23, .ref e24, .ref e25, .ref e26, .int 0, .ref e27, .ref e28, .ref e29]))] H := hP
  have hD : va_D A [(h0, .inr (20, [.int 1, .int (-1), .ref e1, .int 0, .ref e2, .ref e3, .ref e4, .int 0, .int 0, .ref e5, .ref e6, .ref e7, .ref e8, .ref e9, .ref e10, .ref e11, .ref e12, .ref e13, .int 0, .int 0, .ref e14, .ref e15, .ref e16, .ref e17, .int 0, .int 0, .int 0, .ref e18, .int 0, .ref e19, .ref e20, .ref e21, .int 0, .ref e22, .ref e23, .ref e24, .ref e25, .ref e26, .int 0, .ref e27, .ref e28, .ref e29]))] := hD
  have hK : va_K (dC, dI) classes [] s := hK
  refine W.widen (k := 0) (n := 0) (Nat.le_of_ble_eq_true rfl) (Nat.le_of_ble_eq_true rfl) ?_
  refine W.widen (k := 0) (n := 0) (Nat.le_of_ble_eq_true rfl) (Nat.le_of_ble_eq_true rfl) ?_
  exact W.iret (v := 0) hx hb hr (fun t ht hW => ⟨⟨0, (), rfl, rfl, va_P.none, va_K.moved hW.alike (hK.sub (tys' := []) [] rfl), va_D.none⟩, hS.F ht⟩) hS.2.2 d_Model_rings_7
set_option maxHeartbeats 4000000 in
set_option maxRecDepth 100000 in
theorem c_MCatalog_tables (l : Launch) (dC : Nat → ClassId) (dI : Nat → Nat → Nat) (sz : Nat) (h0 : Nat) (e1 : Nat) (e2 : Nat) (e3 : Nat) (e4 : Nat) (e5 : Nat) (e6 : Nat) (e7 : Nat) (e8 : Nat) (e9 : Nat) (e10 : Nat) (e11 : Nat) (e12 : ClassId) : Met l y_MCatalog_tables w_MCatalog_tables ({ frames := 0, cells := 0, slots := 0, locals := 0 }) (va_Pc [.ref h0] (fun U => U.heap.size = sz ∧ va_P (dC, dI) classes [(h0, .inr (13, [.int 0, .ref e1, .ref e2, .ref e3, .ref e4, .ref e5, .ref e6, .ref e7, .ref e8, .int 0, .ref e9, .ref e10, .ref e11])), (e1, .inl (e12, 8, .inl (fun _ => 0)))] U.heap ∧ va_K (dC, dI) classes [(e12, .int)] U ∧ va_D (fun _ => True) [(h0, .inr (13, [.int 0, .ref e1, .ref e2, .ref e3, .ref e4, .ref e5, .ref e6, .ref e7, .ref e8, .int 0, .ref e9, .ref e10, .ref e11])), (e1, .inl (e12, 8, .inl (fun _ => 0)))] ∧ bx_N U)) (va_Qi (fun (r : Int32) (_ : Unit) => r = 0) (fun (_ : Unit) t => va_P (dC, dI) classes [] t.heap ∧ va_K (dC, dI) classes [] t ∧ va_D (va_A [(h0, .inr (13, [.int 0, .ref e1, .ref e2, .ref e3, .ref e4, .ref e5, .ref e6, .ref e7, .ref e8, .int 0, .ref e9, .ref e10, .ref e11])), (e1, .inl (e12, 8, .inl (fun _ => 0)))] sz) []) (va_A [(h0, .inr (13, [.int 0, .ref e1, .ref e2, .ref e3, .ref e4, .ref e5, .ref e6, .ref e7, .ref e8, .int 0, .ref e9, .ref e10, .ref e11])), (e1, .inl (e12, 8, .inl (fun _ => 0)))] sz)) 0 0 (va_A [(h0, .inr (13, [.int 0, .ref e1, .ref e2, .ref e3, .ref e4, .ref e5, .ref e6, .ref e7, .ref e8, .int 0, .ref e9, .ref e10, .ref e11])), (e1, .inl (e12, 8, .inl (fun _ => 0)))] sz) := by
  refine Met.ofW (cc := b_MCatalog_tables) (maxL := 3) (ret := (some .int)) (by decide) rfl ?_
  intro p e s m args below meth c s₁ B hml hv
  obtain ⟨rfl, hsz, hP, hK, hD0, hN⟩ := hv
  have hx := B.exec
  have hb := B.bytes
  have hr := B.returns
  have hts := atoms_spec (ws := w_MCatalog_tables) B.pre
  have hown : s.vm.findClass R_MCatalog = some m.cls := findClass_of_methodNamed B.named
  have hlocks := B.notSynchronized
  subst hsz
  have hD := hD0.self (sz := s.heap.size)
  generalize hAe : va_A [(h0, .inr (13, [.int 0, .ref e1, .ref e2, .ref e3, .ref e4, .ref e5, .ref e6, .ref e7, .ref e8, .int 0, .ref e9, .ref e10, .ref e11])), (e1, .inl (e12, 8, .inl (fun _ => 0)))] s.heap.size = A at hD ⊢
  have hA : ∀ q : Nat, s.heap.size ≤ q → A q := fun q h => by rw [← hAe]; exact Or.inr h
  have hS : va_S A s.heap s.heap [] := va_S.rf
  have hP : va_P (dC, dI) classes [(h0, .inr (13, [.int 0, .ref e1, .ref e2, .ref e3, .ref e4, .ref e5, .ref e6, .ref e7, .ref e8, .int 0, .ref e9, .ref e10, .ref e11])), (e1, .inl (e12, 8, .inl (fun _ => 0)))] s.heap := hP
  have hl := lv_entry ([.ref h0]) (n := 3) (Nat.le_of_ble_eq_true rfl)
  rw [lg_entry_eq]
  generalize (lg_sl ([.ref h0]) ++ List.replicate (3 - (lg_sl ([.ref h0])).length) Slot.unset).toArray = ls at hl ⊢
  have hl : lv_has ls 3 [(0, .ref h0)] := hl
  obtain ⟨H, hH⟩ : ∃ H : Heap, s.heap = H := ⟨_, rfl⟩
  have hP : va_P (dC, dI) classes [(h0, .inr (13, [.int 0, .ref e1, .ref e2, .ref e3, .ref e4, .ref e5, .ref e6, .ref e7, .ref e8, .int 0, .ref e9, .ref e10, .ref e11])), (e1, .inl (e12, 8, .inl (fun _ => 0)))] H := by rw [← hH]; exact hP
  have hS : va_S A s.heap H [] := by rw [← hH]; exact va_S.rf
  refine bx_heap hH ?_
  refine lv_iconst (v := 0) hx hb d_MCatalog_tables_0 (by decide) ?_
  refine lv_istore_n (lv' := [(1, .int 0), (0, .ref h0)]) hx hb d_MCatalog_tables_1 rfl hl (by decide) rfl (fun ls hl => ?_)
  refine lv_iconst (v := 0) hx hb d_MCatalog_tables_2 (by decide) ?_
  refine lv_istore_n (lv' := [(2, .int 0), (1, .int 0), (0, .ref h0)]) hx hb d_MCatalog_tables_3 rfl hl (by decide) rfl (fun ls hl => ?_)
  refine lv_iload_n hx hb d_MCatalog_tables_4 rfl (lv_at hl 0 rfl) ?_
  refine lv_bipush (v := 8) hx hb d_MCatalog_tables_5 (by decide) ?_
  refine lv_icmp_ge (tgt := 33) hx hb d_MCatalog_tables_7 (by decide) (fun c_1 => absurd c_1 (by decide)) (fun c_1 => ?_)
  refine lv_aload_n hx hb d_MCatalog_tables_10 rfl (lv_at hl 2 rfl) ?_
  refine va_get (D := (dC, dI)) (ci := 13) (v := .ref e1) (C := R_MCatalog) (T := F_MCatalog) (N := 13) hx hb hts (i_MCatalog _) hown hK hP 0 rfl rfl 1 (by decide) (hts _ (List.mem_cons_of_mem _ q_1986)) (fun _ h9 => h9) rfl d_MCatalog_tables_11 ?_
  refine lv_iload_n hx hb d_MCatalog_tables_14 rfl (lv_at hl 0 rfl) ?_
  refine va_iald hx hb hK hP 1 0 (i := 0) rfl rfl (vp_in_nI (n := 0) (by decide) (by decide)) d_MCatalog_tables_15 ?_
  refine bx_top (y := 0) rfl ?_
  refine lv_if_le (tgt := 25) hx hb d_MCatalog_tables_16 (by decide) (fun c_2 => ?_) (fun c_2 => absurd (by decide) c_2)
  refine lv_iload_n hx hb d_MCatalog_tables_25 rfl (lv_at hl 1 rfl) ?_
  refine lv_istore_n (lv' := [(1, .int 0), (2, .int 0), (0, .ref h0)]) hx hb d_MCatalog_tables_26 rfl hl (by decide) rfl (fun ls hl => ?_)
  refine lv_iinc (v := 1) (lv' := [(2, .int 1), (1, .int 0), (0, .ref h0)]) hx hb d_MCatalog_tables_27 hl (k := 1) rfl (by decide) (by decide) rfl (fun ls hl => ?_)
  refine lv_goto (tgt := 4) hx hb d_MCatalog_tables_30 (by decide) ?_
  refine lv_iload_n hx hb d_MCatalog_tables_4 rfl (lv_at hl 0 rfl) ?_
  refine lv_bipush (v := 8) hx hb d_MCatalog_tables_5 (by decide) ?_
  refine lv_icmp_ge (tgt := 33) hx hb d_MCatalog_tables_7 (by decide) (fun c_3 => absurd c_3 (by decide)) (fun c_3 => ?_)
  refine lv_aload_n hx hb d_MCatalog_tables_10 rfl (lv_at hl 2 rfl) ?_
  refine va_get (D := (dC, dI)) (ci := 13) (v := .ref e1) (C := R_MCatalog) (T := F_MCatalog) (N := 13) hx hb hts (i_MCatalog _) hown hK hP 0 rfl rfl 1 (by decide) (hts _ (List.mem_cons_of_mem _ q_1986)) (fun _ h9 => h9) rfl d_MCatalog_tables_11 ?_
  refine lv_iload_n hx hb d_MCatalog_tables_14 rfl (lv_at hl 0 rfl) ?_
  refine va_iald hx hb hK hP 1 0 (i := 1) rfl rfl (vp_in_nI (n := 1) (by decide) (by decide)) d_MCatalog_tables_15 ?_
  refine bx_top (y := 0) rfl ?_
  refine lv_if_le (tgt := 25) hx hb d_MCatalog_tables_16 (by decide) (fun c_4 => ?_) (fun c_4 => absurd (by decide) c_4)
  refine lv_iload_n hx hb d_MCatalog_tables_25 rfl (lv_at hl 1 rfl) ?_
  refine lv_istore_n (lv' := [(1, .int 0), (2, .int 1), (0, .ref h0)]) hx hb d_MCatalog_tables_26 rfl hl (by decide) rfl (fun ls hl => ?_)
  refine lv_iinc (v := 2) (lv' := [(2, .int 2), (1, .int 0), (0, .ref h0)]) hx hb d_MCatalog_tables_27 hl (k := 1) rfl (by decide) (by decide) rfl (fun ls hl => ?_)
  refine lv_goto (tgt := 4) hx hb d_MCatalog_tables_30 (by decide) ?_
  refine lv_iload_n hx hb d_MCatalog_tables_4 rfl (lv_at hl 0 rfl) ?_
  refine lv_bipush (v := 8) hx hb d_MCatalog_tables_5 (by decide) ?_
  refine lv_icmp_ge (tgt := 33) hx hb d_MCatalog_tables_7 (by decide) (fun c_5 => absurd c_5 (by decide)) (fun c_5 => ?_)
  refine lv_aload_n hx hb d_MCatalog_tables_10 rfl (lv_at hl 2 rfl) ?_
  refine va_get (D := (dC, dI)) (ci := 13) (v := .ref e1) (C := R_MCatalog) (T := F_MCatalog) (N := 13) hx hb hts (i_MCatalog _) hown hK hP 0 rfl rfl 1 (by decide) (hts _ (List.mem_cons_of_mem _ q_1986)) (fun _ h9 => h9) rfl d_MCatalog_tables_11 ?_
  refine lv_iload_n hx hb d_MCatalog_tables_14 rfl (lv_at hl 0 rfl) ?_
  refine va_iald hx hb hK hP 1 0 (i := 2) rfl rfl (vp_in_nI (n := 2) (by decide) (by decide)) d_MCatalog_tables_15 ?_
  refine bx_top (y := 0) rfl ?_
  refine lv_if_le (tgt := 25) hx hb d_MCatalog_tables_16 (by decide) (fun c_6 => ?_) (fun c_6 => absurd (by decide) c_6)
  refine lv_iload_n hx hb d_MCatalog_tables_25 rfl (lv_at hl 1 rfl) ?_
  refine lv_istore_n (lv' := [(1, .int 0), (2, .int 2), (0, .ref h0)]) hx hb d_MCatalog_tables_26 rfl hl (by decide) rfl (fun ls hl => ?_)
  refine lv_iinc (v := 3) (lv' := [(2, .int 3), (1, .int 0), (0, .ref h0)]) hx hb d_MCatalog_tables_27 hl (k := 1) rfl (by decide) (by decide) rfl (fun ls hl => ?_)
  refine lv_goto (tgt := 4) hx hb d_MCatalog_tables_30 (by decide) ?_
  refine lv_iload_n hx hb d_MCatalog_tables_4 rfl (lv_at hl 0 rfl) ?_
  refine lv_bipush (v := 8) hx hb d_MCatalog_tables_5 (by decide) ?_
  refine lv_icmp_ge (tgt := 33) hx hb d_MCatalog_tables_7 (by decide) (fun c_7 => absurd c_7 (by decide)) (fun c_7 => ?_)
  refine lv_aload_n hx hb d_MCatalog_tables_10 rfl (lv_at hl 2 rfl) ?_
  refine va_get (D := (dC, dI)) (ci := 13) (v := .ref e1) (C := R_MCatalog) (T := F_MCatalog) (N := 13) hx hb hts (i_MCatalog _) hown hK hP 0 rfl rfl 1 (by decide) (hts _ (List.mem_cons_of_mem _ q_1986)) (fun _ h9 => h9) rfl d_MCatalog_tables_11 ?_
  refine lv_iload_n hx hb d_MCatalog_tables_14 rfl (lv_at hl 0 rfl) ?_
  refine va_iald hx hb hK hP 1 0 (i := 3) rfl rfl (vp_in_nI (n := 3) (by decide) (by decide)) d_MCatalog_tables_15 ?_
  refine bx_top (y := 0) rfl ?_
  refine lv_if_le (tgt := 25) hx hb d_MCatalog_tables_16 (by decide) (fun c_8 => ?_) (fun c_8 => absurd (by decide) c_8)
  refine lv_iload_n hx hb d_MCatalog_tables_25 rfl (lv_at hl 1 rfl) ?_
  refine lv_istore_n (lv' := [(1, .int 0), (2, .int 3), (0, .ref h0)]) hx hb d_MCatalog_tables_26 rfl hl (by decide) rfl (fun ls hl => ?_)
  refine lv_iinc (v := 4) (lv' := [(2, .int 4), (1, .int 0), (0, .ref h0)]) hx hb d_MCatalog_tables_27 hl (k := 1) rfl (by decide) (by decide) rfl (fun ls hl => ?_)
  refine lv_goto (tgt := 4) hx hb d_MCatalog_tables_30 (by decide) ?_
  refine lv_iload_n hx hb d_MCatalog_tables_4 rfl (lv_at hl 0 rfl) ?_
  refine lv_bipush (v := 8) hx hb d_MCatalog_tables_5 (by decide) ?_
  refine lv_icmp_ge (tgt := 33) hx hb d_MCatalog_tables_7 (by decide) (fun c_9 => absurd c_9 (by decide)) (fun c_9 => ?_)
  refine lv_aload_n hx hb d_MCatalog_tables_10 rfl (lv_at hl 2 rfl) ?_
  refine va_get (D := (dC, dI)) (ci := 13) (v := .ref e1) (C := R_MCatalog) (T := F_MCatalog) (N := 13) hx hb hts (i_MCatalog _) hown hK hP 0 rfl rfl 1 (by decide) (hts _ (List.mem_cons_of_mem _ q_1986)) (fun _ h9 => h9) rfl d_MCatalog_tables_11 ?_
  refine lv_iload_n hx hb d_MCatalog_tables_14 rfl (lv_at hl 0 rfl) ?_
  refine va_iald hx hb hK hP 1 0 (i := 4) rfl rfl (vp_in_nI (n := 4) (by decide) (by decide)) d_MCatalog_tables_15 ?_
  refine bx_top (y := 0) rfl ?_
  refine lv_if_le (tgt := 25) hx hb d_MCatalog_tables_16 (by decide) (fun c_10 => ?_) (fun c_10 => absurd (by decide) c_10)
  refine lv_iload_n hx hb d_MCatalog_tables_25 rfl (lv_at hl 1 rfl) ?_
  refine lv_istore_n (lv' := [(1, .int 0), (2, .int 4), (0, .ref h0)]) hx hb d_MCatalog_tables_26 rfl hl (by decide) rfl (fun ls hl => ?_)
  refine lv_iinc (v := 5) (lv' := [(2, .int 5), (1, .int 0), (0, .ref h0)]) hx hb d_MCatalog_tables_27 hl (k := 1) rfl (by decide) (by decide) rfl (fun ls hl => ?_)
  refine lv_goto (tgt := 4) hx hb d_MCatalog_tables_30 (by decide) ?_
  refine lv_iload_n hx hb d_MCatalog_tables_4 rfl (lv_at hl 0 rfl) ?_
  refine lv_bipush (v := 8) hx hb d_MCatalog_tables_5 (by decide) ?_
  refine lv_icmp_ge (tgt := 33) hx hb d_MCatalog_tables_7 (by decide) (fun c_11 => absurd c_11 (by decide)) (fun c_11 => ?_)
  refine lv_aload_n hx hb d_MCatalog_tables_10 rfl (lv_at hl 2 rfl) ?_
  refine va_get (D := (dC, dI)) (ci := 13) (v := .ref e1) (C := R_MCatalog) (T := F_MCatalog) (N := 13) hx hb hts (i_MCatalog _) hown hK hP 0 rfl rfl 1 (by decide) (hts _ (List.mem_cons_of_mem _ q_1986)) (fun _ h9 => h9) rfl d_MCatalog_tables_11 ?_
  refine lv_iload_n hx hb d_MCatalog_tables_14 rfl (lv_at hl 0 rfl) ?_
  refine va_iald hx hb hK hP 1 0 (i := 5) rfl rfl (vp_in_nI (n := 5) (by decide) (by decide)) d_MCatalog_tables_15 ?_
  refine bx_top (y := 0) rfl ?_
  refine lv_if_le (tgt := 25) hx hb d_MCatalog_tables_16 (by decide) (fun c_12 => ?_) (fun c_12 => absurd (by decide) c_12)
  refine lv_iload_n hx hb d_MCatalog_tables_25 rfl (lv_at hl 1 rfl) ?_
  refine lv_istore_n (lv' := [(1, .int 0), (2, .int 5), (0, .ref h0)]) hx hb d_MCatalog_tables_26 rfl hl (by decide) rfl (fun ls hl => ?_)
  refine lv_iinc (v := 6) (lv' := [(2, .int 6), (1, .int 0), (0, .ref h0)]) hx hb d_MCatalog_tables_27 hl (k := 1) rfl (by decide) (by decide) rfl (fun ls hl => ?_)
  refine lv_goto (tgt := 4) hx hb d_MCatalog_tables_30 (by decide) ?_
  refine lv_iload_n hx hb d_MCatalog_tables_4 rfl (lv_at hl 0 rfl) ?_
  refine lv_bipush (v := 8) hx hb d_MCatalog_tables_5 (by decide) ?_
  refine lv_icmp_ge (tgt := 33) hx hb d_MCatalog_tables_7 (by decide) (fun c_13 => absurd c_13 (by decide)) (fun c_13 => ?_)
  refine lv_aload_n hx hb d_MCatalog_tables_10 rfl (lv_at hl 2 rfl) ?_
  refine va_get (D := (dC, dI)) (ci := 13) (v := .ref e1) (C := R_MCatalog) (T := F_MCatalog) (N := 13) hx hb hts (i_MCatalog _) hown hK hP 0 rfl rfl 1 (by decide) (hts _ (List.mem_cons_of_mem _ q_1986)) (fun _ h9 => h9) rfl d_MCatalog_tables_11 ?_
  refine lv_iload_n hx hb d_MCatalog_tables_14 rfl (lv_at hl 0 rfl) ?_
  refine va_iald hx hb hK hP 1 0 (i := 6) rfl rfl (vp_in_nI (n := 6) (by decide) (by decide)) d_MCatalog_tables_15 ?_
  refine bx_top (y := 0) rfl ?_
  refine lv_if_le (tgt := 25) hx hb d_MCatalog_tables_16 (by decide) (fun c_14 => ?_) (fun c_14 => absurd (by decide) c_14)
  refine lv_iload_n hx hb d_MCatalog_tables_25 rfl (lv_at hl 1 rfl) ?_
  refine lv_istore_n (lv' := [(1, .int 0), (2, .int 6), (0, .ref h0)]) hx hb d_MCatalog_tables_26 rfl hl (by decide) rfl (fun ls hl => ?_)
  refine lv_iinc (v := 7) (lv' := [(2, .int 7), (1, .int 0), (0, .ref h0)]) hx hb d_MCatalog_tables_27 hl (k := 1) rfl (by decide) (by decide) rfl (fun ls hl => ?_)
  refine lv_goto (tgt := 4) hx hb d_MCatalog_tables_30 (by decide) ?_
  refine lv_iload_n hx hb d_MCatalog_tables_4 rfl (lv_at hl 0 rfl) ?_
  refine lv_bipush (v := 8) hx hb d_MCatalog_tables_5 (by decide) ?_
  refine lv_icmp_ge (tgt := 33) hx hb d_MCatalog_tables_7 (by decide) (fun c_15 => absurd c_15 (by decide)) (fun c_15 => ?_)
  refine lv_aload_n hx hb d_MCatalog_tables_10 rfl (lv_at hl 2 rfl) ?_
  refine va_get (D := (dC, dI)) (ci := 13) (v := .ref e1) (C := R_MCatalog) (T := F_MCatalog) (N := 13) hx hb hts (i_MCatalog _) hown hK hP 0 rfl rfl 1 (by decide) (hts _ (List.mem_cons_of_mem _ q_1986)) (fun _ h9 => h9) rfl d_MCatalog_tables_11 ?_
  refine lv_iload_n hx hb d_MCatalog_tables_14 rfl (lv_at hl 0 rfl) ?_
  refine va_iald hx hb hK hP 1 0 (i := 7) rfl rfl (vp_in_nI (n := 7) (by decide) (by decide)) d_MCatalog_tables_15 ?_
  refine bx_top (y := 0) rfl ?_
  refine lv_if_le (tgt := 25) hx hb d_MCatalog_tables_16 (by decide) (fun c_16 => ?_) (fun c_16 => absurd (by decide) c_16)
  refine lv_iload_n hx hb d_MCatalog_tables_25 rfl (lv_at hl 1 rfl) ?_
  refine lv_istore_n (lv' := [(1, .int 0), (2, .int 7), (0, .ref h0)]) hx hb d_MCatalog_tables_26 rfl hl (by decide) rfl (fun ls hl => ?_)
  refine lv_iinc (v := 8) (lv' := [(2, .int 8), (1, .int 0), (0, .ref h0)]) hx hb d_MCatalog_tables_27 hl (k := 1) rfl (by decide) (by decide) rfl (fun ls hl => ?_)
  refine lv_goto (tgt := 4) hx hb d_MCatalog_tables_30 (by decide) ?_
  refine lv_iload_n hx hb d_MCatalog_tables_4 rfl (lv_at hl 0 rfl) ?_
  refine lv_bipush (v := 8) hx hb d_MCatalog_tables_5 (by decide) ?_
  refine lv_icmp_ge (tgt := 33) hx hb d_MCatalog_tables_7 (by decide) (fun c_17 => ?_) (fun c_17 => absurd (by decide) c_17)
  refine lv_iload_n hx hb d_MCatalog_tables_33 rfl (lv_at hl 1 rfl) ?_
  refine W.widen (k := 0) (n := 0) (Nat.le_of_ble_eq_true rfl) (Nat.le_of_ble_eq_true rfl) ?_
  exact W.iret (v := 0) hx hb hr (fun t ht hW => ⟨⟨0, (), rfl, rfl, va_P.none, va_K.moved hW.alike (hK.sub (tys' := []) [] rfl), va_D.none⟩, hS.F ht⟩) hS.2.2 d_MCatalog_tables_34
set_option maxHeartbeats 4000000 in
set_option maxRecDepth 100000 in
theorem c_Model_count (l : Launch) (dC : Nat → ClassId) (dI : Nat → Nat → Nat) (sz : Nat) (h0 : Nat) (e1 : Nat) (e2 : Nat) (e3 : Nat) (e4 : Nat) (e5 : Nat) (e6 : Nat) (e7 : Nat) (e8 : Nat) (e9 : Nat) (e10 : Nat) (e11 : Nat) (e12 : Nat) (e13 : Nat) (e14 : Nat) (e15 : Nat) (e16 : Nat) (e17 : Nat) (e18 : Nat) (e19 : Nat) (e20 : Nat) (e21 : Nat) (e22 : Nat) (e23 : Nat) (e24 : Nat) (e25 : Nat) (e26 : Nat) (e27 : Nat) (e28 : Nat) (e29 : Nat) (e43 : ClassId) (e44 : Nat) (e45 : Nat) (e46 : Nat) (e47 : Nat) (e48 : Nat) (e49 : Nat) (e50 : Nat) (e51 : Nat) (e52 : Nat) (e53 : Nat) (e54 : Nat) (e55 : Nat) (e56 : Nat) (e57 : Nat) (e58 : Nat) (e59 : Nat) (e60 : Nat) (e61 : Nat) (e62 : Nat) (e63 : Nat) (e64 : Nat) (e65 : Nat) (e66 : Nat) (e67 : Nat) (e69 : Nat) (e70 : Nat) (e71 : Nat) (e72 : Nat) (e73 : Nat) (e74 : Nat) (e75 : Nat) (e76 : Nat) (e77 : Nat) (e78 : Nat) (e79 : Nat) (e80 : Nat) (e81 : Nat) (e82 : Nat) (e83 : Nat) (e84 : Nat) (e85 : Nat) (e86 : Nat) (e88 : Nat) (e89 : Nat) (e90 : Nat) (e91 : Nat) (e92 : Nat) (e93 : Nat) (e94 : Nat) (e95 : Nat) (e96 : Nat) (e97 : Nat) (e98 : Nat) (e99 : Nat) (e100 : Nat) (e101 : Nat) (e102 : Nat) (e103 : Nat) (e104 : Nat) (e105 : Nat) (e107 : Nat) (e108 : Nat) (e109 : Nat) (e110 : Nat) (e111 : Nat) (e112 : Nat) (e113 : Nat) (e114 : Nat) (e115 : Nat) (e116 : Nat) (e117 : Nat) (e118 : Nat) (e119 : Nat) (e120 : Nat) (e121 : Nat) (e122 : Nat) (e123 : Nat) (e124 : Nat) (e126 : Nat) (e127 : Nat) (e128 : Nat) (e129 : Nat) (e130 : Nat) (e131 : Nat) (e132 : Nat) (e133 : Nat) (e134 : Nat) (e135 : Nat) (e136 : Nat) (e137 : Nat) (e138 : Nat) (e139 : Nat) (e140 : Nat) (e141 : Nat) (e142 : Nat) (e143 : Nat) (e145 : Nat) (e146 : Nat) (e147 : Nat) (e148 : Nat) (e149 : Nat) (e150 : Nat) (e151 : Nat) (e152 : Nat) (e153 : Nat) (e154 : Nat) (e155 : Nat) (e156 : Nat) (e157 : Nat) (e158 : Nat) (e159 : Nat) (e160 : Nat) (e161 : Nat) (e162 : Nat) (e31 : Nat) (e32 : Nat) (e33 : Nat) (e34 : Nat) (e35 : Nat) (e36 : Nat) (e37 : Nat) (e38 : Nat) (e39 : Nat) (e40 : Nat) (e41 : Nat) (e42 : ClassId) (z1 : Int32) : Met l y_Model_count w_Model_count ({ frames := 1, cells := 0, slots := 0, locals := 22 }) (va_Pc [.ref h0, .int z1] (fun U => U.heap.size = sz ∧ va_P (dC, dI) classes [(h0, .inr (20, [.int 1, .int (-1), .ref e1, .int 0, .ref e2, .ref e3, .ref e4, .int 0, .int 0, .ref e5, .ref e6, .ref e7, .ref e8, .ref e9, .ref e10, .ref e11, .ref e12, .ref e13, .int 0, .int 0, .ref e14, .ref e15, .ref e16, .ref e17, .int 0, .int 0, .int 0, .ref e18, .int 0, .ref e19, .ref e20, .ref e21, .int 0, .ref e22, .ref e23, .ref e24, .ref e25, .ref e26, .int 0, .ref e27, .ref e28, .ref e29])), (e3, .inl (e43, 6, .inr (.inr (.inr (.inr (va_up (va_up (va_up (va_up (va_up (va_up (fun _ => none) 0 (some e44)) 1 (some e45)) 2 (some e46)) 3 (some e47)) 4 (some e48)) 5 (some e49))))))), (e44, .inr (19, [.int 0, .int 0, .int 0, .int 0, .int 0, .int (-1), .int 0, .int 0, .ref e50, .ref e51, .ref e52, .int 0, .ref e53, .ref e54, .ref e55, .ref e56, .ref e57, .ref e58, .ref e59, .int 0, .ref e60, .ref e61, .int 0, .int 0, .ref e62, .ref e63, .ref e64, .int 0, .int 0, .int 0, .int 0, .int 0, .ref e65, .ref e66, .int 0, .int 0, .int 0, .int 0, .int 0, .int 0, .int 0, .ref e67, .int 0, .int 0])), (e45, .inr (19, [.int 0, .int 0, .int 0, .int 0, .int 0, .int (-1), .int 0, .int 0, .ref e69, .ref e70, .ref e71, .int 0, .ref e72, .ref e73, .ref e74, .ref e75, .ref e76, .ref e77, .ref e78, .int 0, .ref e79, .ref e80, .int 0, .int 0, .ref e81, .ref e82, .ref e83, .int 0, .int 0, .int 0, .int 0, .int 0, .ref e84, .ref e85, .int 0, .int 0, .int 0, .int 0, .int 0, .int 0, .int 0, .ref e86, .int 0, .int 0])), (e46, .inr (19, [.int 0, .int 0, .int 0, .int 0, .int 0, .int (-1), .int 0, .int 0, .ref e88, .ref e89, .ref e90, .int 0, .ref e91, .ref e92, .ref e93, .ref e94, .ref e95, .ref e96, .ref e97, .int 0, .ref e98, .ref e99, .int 0, .int 0, .ref e100, .ref e101, .ref e102, .int 0, .int 0, .int 0, .int 0, .int 0, .ref e103, .ref e104, .int 0, .int 0, .int 0, .int 0, .int 0, .int 0, .int 0, .ref e105, .int 0, .int 0])), (e47, .inr (19, [.int 0, .int 0, .int 0, .int 0, .int 0, .int (-1), .int 0, .int 0, .ref e107, .ref e108, .ref e109, .int 0, .ref e110, .ref e111, .ref e112, .ref e113, .ref e114, .ref e115, .ref e116, .int 0, .ref e117, .ref e118, .int 0, .int 0, .ref e119, .ref e120, .ref e121, .int 0, .int 0, .int 0, .int 0, .int 0, .ref e122, .ref e123, .int 0, .int 0, .int 0, .int 0, .int 0, .int 0, .int 0, .ref e124, .int 0, .int 0])), (e48, .inr (19, [.int 0, .int 0, .int 0, .int 0, .int 0, .int (-1), .int 0, .int 0, .ref e126, .ref e127, .ref e128, .int 0, .ref e129, .ref e130, .ref e131, .ref e132, .ref e133, .ref e134, .ref e135, .int 0, .ref e136, .ref e137, .int 0, .int 0, .ref e138, .ref e139, .ref e140, .int 0, .int 0, .int 0, .int 0, .int 0, .ref e141, .ref e142, .int 0, .int 0, .int 0, .int 0, .int 0, .int 0, .int 0, .ref e143, .int 0, .int 0])), (e49, .inr (19, [.int 0, .int 0, .int 0, .int 0, .int 0, .int (-1), .int 0, .int 0, .ref e145, .ref e146, .ref e147, .int 0, .ref e148, .ref e149, .ref e150, .ref e151, .ref e152, .ref e153, .ref e154, .int 0, .ref e155, .ref e156, .int 0, .int 0, .ref e157, .ref e158, .ref e159, .int 0, .int 0, .int 0, .int 0, .int 0, .ref e160, .ref e161, .int 0, .int 0, .int 0, .int 0, .int 0, .int 0, .int 0, .ref e162, .int 0, .int 0])), (e2, .inr (13, [.int 0, .ref e31, .ref e32, .ref e33, .ref e34, .ref e35, .ref e36, .ref e37, .ref e38, .int 0, .ref e39, .ref e40, .ref e41])), (e31, .inl (e42, 8, .inl (fun _ => 0)))] U.heap ∧ va_K (dC, dI) classes [(e43, .object R_MSession), (e42, .int)] U ∧ va_D (fun _ => True) [(h0, .inr (20, [.int 1, .int (-1), .ref e1, .int 0, .ref e2, .ref e3, .ref e4, .int 0, .int 0, .ref e5, .ref e6, .ref e7, .ref e8, .ref e9, .ref e10, .ref e11, .ref e12, .ref e13, .int 0, .int 0, .ref e14, .ref e15, .ref e16, .ref e17, .int 0, .int 0, .int 0, .ref e18, .int 0, .ref e19, .ref e20, .ref e21, .int 0, .ref e22, .ref e23, .ref e24, .ref e25, .ref e26, .int 0, .ref e27, .ref e28, .ref e29])), (e3, .inl (e43, 6, .inr (.inr (.inr (.inr (va_up (va_up (va_up (va_up (va_up (va_up (fun _ => none) 0 (some e44)) 1 (some e45)) 2 (some e46)) 3 (some e47)) 4 (some e48)) 5 (some e49))))))), (e44, .inr (19, [.int 0, .int 0, .int 0, .int 0, .int 0, .int (-1), .int 0, .int 0, .ref e50, .ref e51, .ref e52, .int 0, .ref e53, .ref e54, .ref e55, .ref e56, .ref e57, .ref e58, .ref e59, .int 0, .ref e60, .ref e61, .int 0, .int 0, .ref e62, .ref e63, .ref e64, .int 0, .int 0, .int 0, .int 0, .int 0, .ref e65, .ref e66, .int 0, .int 0, .int 0, .int 0, .int 0, .int 0, .int 0, .ref e67, .int 0, .int 0])), (e45, .inr (19, [.int 0, .int 0, .int 0, .int 0, .int 0, .int (-1), .int 0, .int 0, .ref e69, .ref e70, .ref e71, .int 0, .ref e72, .ref e73, .ref e74, .ref e75, .ref e76, .ref e77, .ref e78, .int 0, .ref e79, .ref e80, .int 0, .int 0, .ref e81, .ref e82, .ref e83, .int 0, .int 0, .int 0, .int 0, .int 0, .ref e84, .ref e85, .int 0, .int 0, .int 0, .int 0, .int 0, .int 0, .int 0, .ref e86, .int 0, .int 0])), (e46, .inr (19, [.int 0, .int 0, .int 0, .int 0, .int 0, .int (-1), .int 0, .int 0, .ref e88, .ref e89, .ref e90, .int 0, .ref e91, .ref e92, .ref e93, .ref e94, .ref e95, .ref e96, .ref e97, .int 0, .ref e98, .ref e99, .int 0, .int 0, .ref e100, .ref e101, .ref e102, .int 0, .int 0, .int 0, .int 0, .int 0, .ref e103, .ref e104, .int 0, .int 0, .int 0, .int 0, .int 0, .int 0, .int 0, .ref e105, .int 0, .int 0])), (e47, .inr (19, [.int 0, .int 0, .int 0, .int 0, .int 0, .int (-1), .int 0, .int 0, .ref e107, .ref e108, .ref e109, .int 0, .ref e110, .ref e111, .ref e112, .ref e113, .ref e114, .ref e115, .ref e116, .int 0, .ref e117, .ref e118, .int 0, .int 0, .ref e119, .ref e120, .ref e121, .int 0, .int 0, .int 0, .int 0, .int 0, .ref e122, .ref e123, .int 0, .int 0, .int 0, .int 0, .int 0, .int 0, .int 0, .ref e124, .int 0, .int 0])), (e48, .inr (19, [.int 0, .int 0, .int 0, .int 0, .int 0, .int (-1), .int 0, .int 0, .ref e126, .ref e127, .ref e128, .int 0, .ref e129, .ref e130, .ref e131, .ref e132, .ref e133, .ref e134, .ref e135, .int 0, .ref e136, .ref e137, .int 0, .int 0, .ref e138, .ref e139, .ref e140, .int 0, .int 0, .int 0, .int 0, .int 0, .ref e141, .ref e142, .int 0, .int 0, .int 0, .int 0, .int 0, .int 0, .int 0, .ref e143, .int 0, .int 0])), (e49, .inr (19, [.int 0, .int 0, .int 0, .int 0, .int 0, .int (-1), .int 0, .int 0, .ref e145, .ref e146, .ref e147, .int 0, .ref e148, .ref e149, .ref e150, .ref e151, .ref e152, .ref e153, .ref e154, .int 0, .ref e155, .ref e156, .int 0, .int 0, .ref e157, .ref e158, .ref e159, .int 0, .int 0, .int 0, .int 0, .int 0, .ref e160, .ref e161, .int 0, .int 0, .int 0, .int 0, .int 0, .int 0, .int 0, .ref e162, .int 0, .int 0])), (e2, .inr (13, [.int 0, .ref e31, .ref e32, .ref e33, .ref e34, .ref e35, .ref e36, .ref e37, .ref e38, .int 0, .ref e39, .ref e40, .ref e41])), (e31, .inl (e42, 8, .inl (fun _ => 0)))] ∧ bx_N U)) (va_Qi (fun (r : Int32) (_ : Unit) => r = bx_cnt z1) (fun (_ : Unit) t => va_P (dC, dI) classes [] t.heap ∧ va_K (dC, dI) classes [] t ∧ va_D (va_A [(h0, .inr (20, [.int 1, .int (-1), .ref e1, .int 0, .ref e2, .ref e3, .ref e4, .int 0, .int 0, .ref e5, .ref e6, .ref e7, .ref e8, .ref e9, .ref e10, .ref e11, .ref e12, .ref e13, .int 0, .int 0, .ref e14, .ref e15, .ref e16, .ref e17, .int 0, .int 0, .int 0, .ref e18, .int 0, .ref e19, .ref e20, .ref e21, .int 0, .ref e22, .ref e23, .ref e24, .ref e25, .ref e26, .int 0, .ref e27, .ref e28, .ref e29])), (e3, .inl (e43, 6, .inr (.inr (.inr (.inr (va_up (va_up (va_up (va_up (va_up (va_up (fun _ => none) 0 (some e44)) 1 (some e45)) 2 (some e46)) 3 (some e47)) 4 (some e48)) 5 (some e49))))))), (e44, .inr (19, [.int 0, .int 0, .int 0, .int 0, .int 0, .int (-1), .int 0, .int 0, .ref e50, .ref e51, .ref e52, .int 0, .ref e53, .ref e54, .ref e55, .ref e56, .ref e57, .ref e58, .ref e59, .int 0, .ref e60, .ref e61, .int 0, .int 0, .ref e62, .ref e63, .ref e64, .int 0, .int 0, .int 0, .int 0, .int 0, .ref e65, .ref e66, .int 0, .int 0, .int 0, .int 0, .int 0, .int 0, .int 0, .ref e67, .int 0, .int 0])), (e45, .inr (19, [.int 0, .int 0, .int 0, .int 0, .int 0, .int (-1), .int 0, .int 0, .ref e69, .ref e70, .ref e71, .int 0, .ref e72, .ref e73, .ref e74, .ref e75, .ref e76, .ref e77, .ref e78, .int 0, .ref e79, .ref e80, .int 0, .int 0, .ref e81, .ref e82, .ref e83, .int 0, .int 0, .int 0, .int 0, .int 0, .ref e84, .ref e85, .int 0, .int 0, .int 0, .int 0, .int 0, .int 0, .int 0, .ref e86, .int 0, .int 0])), (e46, .inr (19, [.int 0, .int 0, .int 0, .int 0, .int 0, .int (-1), .int 0, .int 0, .ref e88, .ref e89, .ref e90, .int 0, .ref e91, .ref e92, .ref e93, .ref e94, .ref e95, .ref e96, .ref e97, .int 0, .ref e98, .ref e99, .int 0, .int 0, .ref e100, .ref e101, .ref e102, .int 0, .int 0, .int 0, .int 0, .int 0, .ref e103, .ref e104, .int 0, .int 0, .int 0, .int 0, .int 0, .int 0, .int 0, .ref e105, .int 0, .int 0])), (e47, .inr (19, [.int 0, .int 0, .int 0, .int 0, .int 0, .int (-1), .int 0, .int 0, .ref e107, .ref e108, .ref e109, .int 0, .ref e110, .ref e111, .ref e112, .ref e113, .ref e114, .ref e115, .ref e116, .int 0, .ref e117, .ref e118, .int 0, .int 0, .ref e119, .ref e120, .ref e121, .int 0, .int 0, .int 0, .int 0, .int 0, .ref e122, .ref e123, .int 0, .int 0, .int 0, .int 0, .int 0, .int 0, .int 0, .ref e124, .int 0, .int 0])), (e48, .inr (19, [.int 0, .int 0, .int 0, .int 0, .int 0, .int (-1), .int 0, .int 0, .ref e126, .ref e127, .ref e128, .int 0, .ref e129, .ref e130, .ref e131, .ref e132, .ref e133, .ref e134, .ref e135, .int 0, .ref e136, .ref e137, .int 0, .int 0, .ref e138, .ref e139, .ref e140, .int 0, .int 0, .int 0, .int 0, .int 0, .ref e141, .ref e142, .int 0, .int 0, .int 0, .int 0, .int 0, .int 0, .int 0, .ref e143, .int 0, .int 0])), (e49, .inr (19, [.int 0, .int 0, .int 0, .int 0, .int 0, .int (-1), .int 0, .int 0, .ref e145, .ref e146, .ref e147, .int 0, .ref e148, .ref e149, .ref e150, .ref e151, .ref e152, .ref e153, .ref e154, .int 0, .ref e155, .ref e156, .int 0, .int 0, .ref e157, .ref e158, .ref e159, .int 0, .int 0, .int 0, .int 0, .int 0, .ref e160, .ref e161, .int 0, .int 0, .int 0, .int 0, .int 0, .int 0, .int 0, .ref e162, .int 0, .int 0])), (e2, .inr (13, [.int 0, .ref e31, .ref e32, .ref e33, .ref e34, .ref e35, .ref e36, .ref e37, .ref e38, .int 0, .ref e39, .ref e40, .ref e41])), (e31, .inl (e42, 8, .inl (fun _ => 0)))] sz) []) (va_A [(h0, .inr (20, [.int 1, .int (-1), .ref e1, .int 0, .ref e2, .ref e3, .ref e4, .int 0, .int 0, .ref e5, .ref e6, .ref e7, .ref e8, .ref e9, .ref e10, .ref e11, .ref e12, .ref e13, .int 0, .int 0, .ref e14, .ref e15, .ref e16, .ref e17, .int 0, .int 0, .int 0, .ref e18, .int 0, .ref e19, .ref e20, .ref e21, .int 0, .ref e22, .ref e23, .ref e24, .ref e25, .ref e26, .int 0, .ref e27, .ref e28, .ref e29])), (e3, .inl (e43, 6, .inr (.inr (.inr (.inr (va_up (va_up (va_up (va_up (va_up (va_up (fun _ => none) 0 (some e44)) 1 (some e45)) 2 (some e46)) 3 (some e47)) 4 (some e48)) 5 (some e49))))))), (e44, .inr (19, [.int 0, .int 0, .int 0, .int 0, .int 0, .int (-1), .int 0, .int 0, .ref e50, .ref e51, .ref e52, .int 0, .ref e53, .ref e54, .ref e55, .ref e56, .ref e57, .ref e58, .ref e59, .int 0, .ref e60, .ref e61, .int 0, .int 0, .ref e62, .ref e63, .ref e64, .int 0, .int 0, .int 0, .int 0, .int 0, .ref e65, .ref e66, .int 0, .int 0, .int 0, .int 0, .int 0, .int 0, .int 0, .ref e67, .int 0, .int 0])), (e45, .inr (19, [.int 0, .int 0, .int 0, .int 0, .int 0, .int (-1), .int 0, .int 0, .ref e69, .ref e70, .ref e71, .int 0, .ref e72, .ref e73, .ref e74, .ref e75, .ref e76, .ref e77, .ref e78, .int 0, .ref e79, .ref e80, .int 0, .int 0, .ref e81, .ref e82, .ref e83, .int 0, .int 0, .int 0, .int 0, .int 0, .ref e84, .ref e85, .int 0, .int 0, .int 0, .int 0, .int 0, .int 0, .int 0, .ref e86, .int 0, .int 0])), (e46, .inr (19, [.int 0, .int 0, .int 0, .int 0, .int 0, .int (-1), .int 0, .int 0, .ref e88, .ref e89, .ref e90, .int 0, .ref e91, .ref e92, .ref e93, .ref e94, .ref e95, .ref e96, .ref e97, .int 0, .ref e98, .ref e99, .int 0, .int 0, .ref e100, .ref e101, .ref e102, .int 0, .int 0, .int 0, .int 0, .int 0, .ref e103, .ref e104, .int 0, .int 0, .int 0, .int 0, .int 0, .int 0, .int 0, .ref e105, .int 0, .int 0])), (e47, .inr (19, [.int 0, .int 0, .int 0, .int 0, .int 0, .int (-1), .int 0, .int 0, .ref e107, .ref e108, .ref e109, .int 0, .ref e110, .ref e111, .ref e112, .ref e113, .ref e114, .ref e115, .ref e116, .int 0, .ref e117, .ref e118, .int 0, .int 0, .ref e119, .ref e120, .ref e121, .int 0, .int 0, .int 0, .int 0, .int 0, .ref e122, .ref e123, .int 0, .int 0, .int 0, .int 0, .int 0, .int 0, .int 0, .ref e124, .int 0, .int 0])), (e48, .inr (19, [.int 0, .int 0, .int 0, .int 0, .int 0, .int (-1), .int 0, .int 0, .ref e126, .ref e127, .ref e128, .int 0, .ref e129, .ref e130, .ref e131, .ref e132, .ref e133, .ref e134, .ref e135, .int 0, .ref e136, .ref e137, .int 0, .int 0, .ref e138, .ref e139, .ref e140, .int 0, .int 0, .int 0, .int 0, .int 0, .ref e141, .ref e142, .int 0, .int 0, .int 0, .int 0, .int 0, .int 0, .int 0, .ref e143, .int 0, .int 0])), (e49, .inr (19, [.int 0, .int 0, .int 0, .int 0, .int 0, .int (-1), .int 0, .int 0, .ref e145, .ref e146, .ref e147, .int 0, .ref e148, .ref e149, .ref e150, .ref e151, .ref e152, .ref e153, .ref e154, .int 0, .ref e155, .ref e156, .int 0, .int 0, .ref e157, .ref e158, .ref e159, .int 0, .int 0, .int 0, .int 0, .int 0, .ref e160, .ref e161, .int 0, .int 0, .int 0, .int 0, .int 0, .int 0, .int 0, .ref e162, .int 0, .int 0])), (e2, .inr (13, [.int 0, .ref e31, .ref e32, .ref e33, .ref e34, .ref e35, .ref e36, .ref e37, .ref e38, .int 0, .ref e39, .ref e40, .ref e41])), (e31, .inl (e42, 8, .inl (fun _ => 0)))] sz)) 0 0 (va_A [(h0, .inr (20, [.int 1, .int (-1), .ref e1, .int 0, .ref e2, .ref e3, .ref e4, .int 0, .int 0, .ref e5, .ref e6, .ref e7, .ref e8, .ref e9, .ref e10, .ref e11, .ref e12, .ref e13, .int 0, .int 0, .ref e14, .ref e15, .ref e16, .ref e17, .int 0, .int 0, .int 0, .ref e18, .int 0, .ref e19, .ref e20, .ref e21, .int 0, .ref e22, .ref e23, .ref e24, .ref e25, .ref e26, .int 0, .ref e27, .ref e28, .ref e29])), (e3, .inl (e43, 6, .inr (.inr (.inr (.inr (va_up (va_up (va_up (va_up (va_up (va_up (fun _ => none) 0 (some e44)) 1 (some e45)) 2 (some e46)) 3 (some e47)) 4 (some e48)) 5 (some e49))))))), (e44, .inr (19, [.int 0, .int 0, .int 0, .int 0, .int 0, .int (-1), .int 0, .int 0, .ref e50, .ref e51, .ref e52, .int 0, .ref e53, .ref e54, .ref e55, .ref e56, .ref e57, .ref e58, .ref e59, .int 0, .ref e60, .ref e61, .int 0, .int 0, .ref e62, .ref e63, .ref e64, .int 0, .int 0, .int 0, .int 0, .int 0, .ref e65, .ref e66, .int 0, .int 0, .int 0, .int 0, .int 0, .int 0, .int 0, .ref e67, .int 0, .int 0])), (e45, .inr (19, [.int 0, .int 0, .int 0, .int 0, .int 0, .int (-1), .int 0, .int 0, .ref e69, .ref e70, .ref e71, .int 0, .ref e72, .ref e73, .ref e74, .ref e75, .ref e76, .ref e77, .ref e78, .int 0, .ref e79, .ref e80, .int 0, .int 0, .ref e81, .ref e82, .ref e83, .int 0, .int 0, .int 0, .int 0, .int 0, .ref e84, .ref e85, .int 0, .int 0, .int 0, .int 0, .int 0, .int 0, .int 0, .ref e86, .int 0, .int 0])), (e46, .inr (19, [.int 0, .int 0, .int 0, .int 0, .int 0, .int (-1), .int 0, .int 0, .ref e88, .ref e89, .ref e90, .int 0, .ref e91, .ref e92, .ref e93, .ref e94, .ref e95, .ref e96, .ref e97, .int 0, .ref e98, .ref e99, .int 0, .int 0, .ref e100, .ref e101, .ref e102, .int 0, .int 0, .int 0, .int 0, .int 0, .ref e103, .ref e104, .int 0, .int 0, .int 0, .int 0, .int 0, .int 0, .int 0, .ref e105, .int 0, .int 0])), (e47, .inr (19, [.int 0, .int 0, .int 0, .int 0, .int 0, .int (-1), .int 0, .int 0, .ref e107, .ref e108, .ref e109, .int 0, .ref e110, .ref e111, .ref e112, .ref e113, .ref e114, .ref e115, .ref e116, .int 0, .ref e117, .ref e118, .int 0, .int 0, .ref e119, .ref e120, .ref e121, .int 0, .int 0, .int 0, .int 0, .int 0, .ref e122, .ref e123, .int 0, .int 0, .int 0, .int 0, .int 0, .int 0, .int 0, .ref e124, .int 0, .int 0])), (e48, .inr (19, [.int 0, .int 0, .int 0, .int 0, .int 0, .int (-1), .int 0, .int 0, .ref e126, .ref e127, .ref e128, .int 0, .ref e129, .ref e130, .ref e131, .ref e132, .ref e133, .ref e134, .ref e135, .int 0, .ref e136, .ref e137, .int 0, .int 0, .ref e138, .ref e139, .ref e140, .int 0, .int 0, .int 0, .int 0, .int 0, .ref e141, .ref e142, .int 0, .int 0, .int 0, .int 0, .int 0, .int 0, .int 0, .ref e143, .int 0, .int 0])), (e49, .inr (19, [.int 0, .int 0, .int 0, .int 0, .int 0, .int (-1), .int 0, .int 0, .ref e145, .ref e146, .ref e147, .int 0, .ref e148, .ref e149, .ref e150, .ref e151, .ref e152, .ref e153, .ref e154, .int 0, .ref e155, .ref e156, .int 0, .int 0, .ref e157, .ref e158, .ref e159, .int 0, .int 0, .int 0, .int 0, .int 0, .ref e160, .ref e161, .int 0, .int 0, .int 0, .int 0, .int 0, .int 0, .int 0, .ref e162, .int 0, .int 0])), (e2, .inr (13, [.int 0, .ref e31, .ref e32, .ref e33, .ref e34, .ref e35, .ref e36, .ref e37, .ref e38, .int 0, .ref e39, .ref e40, .ref e41])), (e31, .inl (e42, 8, .inl (fun _ => 0)))] sz) := by
  refine Met.ofW (cc := b_Model_count) (maxL := 4) (ret := (some .int)) (by decide) rfl ?_
  intro p e s m args below meth c s₁ B hml hv
  obtain ⟨rfl, hsz, hP, hK, hD0, hN⟩ := hv
  have hx := B.exec
  have hb := B.bytes
  have hr := B.returns
  have hts := atoms_spec (ws := w_Model_count) B.pre
  have hown : s.vm.findClass R_Model = some m.cls := findClass_of_methodNamed B.named
  have hlocks := B.notSynchronized
  subst hsz
  have hD := hD0.self (sz := s.heap.size)
  generalize hAe : va_A [(h0, .inr (20, [.int 1, .int (-1), .ref e1, .int 0, .ref e2, .ref e3, .ref e4, .int 0, .int 0, .ref e5, .ref e6, .ref e7, .ref e8, .ref e9, .ref e10, .ref e11, .ref e12, .ref e13, .int 0, .int 0, .ref e14, .ref e15, .ref e16, .ref e17, .int 0, .int 0, .int 0, .ref e18, .int 0, .ref e19, .ref e20, .ref e21, .int 0, .ref e22, .ref e23, .ref e24, .ref e25, .ref e26, .int 0, .ref e27, .ref e28, .ref e29])), (e3, .inl (e43, 6, .inr (.inr (.inr (.inr (va_up (va_up (va_up (va_up (va_up (va_up (fun _ => none) 0 (some e44)) 1 (some e45)) 2 (some e46)) 3 (some e47)) 4 (some e48)) 5 (some e49))))))), (e44, .inr (19, [.int 0, .int 0, .int 0, .int 0, .int 0, .int (-1), .int 0, .int 0, .ref e50, .ref e51, .ref e52, .int 0, .ref e53, .ref e54, .ref e55, .ref e56, .ref e57, .ref e58, .ref e59, .int 0, .ref e60, .ref e61, .int 0, .int 0, .ref e62, .ref e63, .ref e64, .int 0, .int 0, .int 0, .int 0, .int 0, .ref e65, .ref e66, .int 0, .int 0, .int 0, .int 0, .int 0, .int 0, .int 0, .ref e67, .int 0, .int 0])), (e45, .inr (19, [.int 0, .int 0, .int 0, .int 0, .int 0, .int (-1), .int 0, .int 0, .ref e69, .ref e70, .ref e71, .int 0, .ref e72, .ref e73, .ref e74, .ref e75, .ref e76, .ref e77, .ref e78, .int 0, .ref e79, .ref e80, .int 0, .int 0, .ref e81, .ref e82, .ref e83, .int 0, .int 0, .int 0, .int 0, .int 0, .ref e84, .ref e85, .int 0, .int 0, .int 0, .int 0, .int 0, .int 0, .int 0, .ref e86, .int 0, .int 0])), (e46, .inr (19, [.int 0, .int 0, .int 0, .int 0, .int 0, .int (-1), .int 0, .int 0, .ref e88, .ref e89, .ref e90, .int 0, .ref e91, .ref e92, .ref e93, .ref e94, .ref e95, .ref e96, .ref e97, .int 0, .ref e98, .ref e99, .int 0, .int 0, .ref e100, .ref e101, .ref e102, .int 0, .int 0, .int 0, .int 0, .int 0, .ref e103, .ref e104, .int 0, .int 0, .int 0, .int 0, .int 0, .int 0, .int 0, .ref e105, .int 0, .int 0])), (e47, .inr (19, [.int 0, .int 0, .int 0, .int 0, .int 0, .int (-1), .int 0, .int 0, .ref e107, .ref e108, .ref e109, .int 0, .ref e110, .ref e111, .ref e112, .ref e113, .ref e114, .ref e115, .ref e116, .int 0, .ref e117, .ref e118, .int 0, .int 0, .ref e119, .ref e120, .ref e121, .int 0, .int 0, .int 0, .int 0, .int 0, .ref e122, .ref e123, .int 0, .int 0, .int 0, .int 0, .int 0, .int 0, .int 0, .ref e124, .int 0, .int 0])), (e48, .inr (19, [.int 0, .int 0, .int 0, .int 0, .int 0, .int (-1), .int 0, .int 0, .ref e126, .ref e127, .ref e128, .int 0, .ref e129, .ref e130, .ref e131, .ref e132, .ref e133, .ref e134, .ref e135, .int 0, .ref e136, .ref e137, .int 0, .int 0, .ref e138, .ref e139, .ref e140, .int 0, .int 0, .int 0, .int 0, .int 0, .ref e141, .ref e142, .int 0, .int 0, .int 0, .int 0, .int 0, .int 0, .int 0, .ref e143, .int 0, .int 0])), (e49, .inr (19, [.int 0, .int 0, .int 0, .int 0, .int 0, .int (-1), .int 0, .int 0, .ref e145, .ref e146, .ref e147, .int 0, .ref e148, .ref e149, .ref e150, .ref e151, .ref e152, .ref e153, .ref e154, .int 0, .ref e155, .ref e156, .int 0, .int 0, .ref e157, .ref e158, .ref e159, .int 0, .int 0, .int 0, .int 0, .int 0, .ref e160, .ref e161, .int 0, .int 0, .int 0, .int 0, .int 0, .int 0, .int 0, .ref e162, .int 0, .int 0])), (e2, .inr (13, [.int 0, .ref e31, .ref e32, .ref e33, .ref e34, .ref e35, .ref e36, .ref e37, .ref e38, .int 0, .ref e39, .ref e40, .ref e41])), (e31, .inl (e42, 8, .inl (fun _ => 0)))] s.heap.size = A at hD ⊢
  have hA : ∀ q : Nat, s.heap.size ≤ q → A q := fun q h => by rw [← hAe]; exact Or.inr h
  have hS : va_S A s.heap s.heap [] := va_S.rf
  have hP : va_P (dC, dI) classes [(h0, .inr (20, [.int 1, .int (-1), .ref e1, .int 0, .ref e2, .ref e3, .ref e4, .int 0, .int 0, .ref e5, .ref e6, .ref e7, .ref e8, .ref e9, .ref e10, .ref e11, .ref e12, .ref e13, .int 0, .int 0, .ref e14, .ref e15, .ref e16, .ref e17, .int 0, .int 0, .int 0, .ref e18, .int 0, .ref e19, .ref e20, .ref e21, .int 0, .ref e22, .ref e23, .ref e24, .ref e25, .ref e26, .int 0, .ref e27, .ref e28, .ref e29])), (e3, .inl (e43, 6, .inr (.inr (.inr (.inr (va_up (va_up (va_up (va_up (va_up (va_up (fun _ => none) 0 (some e44)) 1 (some e45)) 2 (some e46)) 3 (some e47)) 4 (some e48)) 5 (some e49))))))), (e44, .inr (19, [.int 0, .int 0, .int 0, .int 0, .int 0, .int (-1), .int 0, .int 0, .ref e50, .ref e51, .ref e52, .int 0, .ref e53, .ref e54, .ref e55, .ref e56, .ref e57, .ref e58, .ref e59, .int 0, .ref e60, .ref e61, .int 0, .int 0, .ref e62, .ref e63, .ref e64, .int 0, .int 0, .int 0, .int 0, .int 0, .ref e65, .ref e66, .int 0, .int 0, .int 0, .int 0, .int 0, .int 0, .int 0, .ref e67, .int 0, .int 0])), (e45, .inr (19, [.int 0, .int 0, .int 0, .int 0, .int 0, .int (-1), .int 0, .int 0, .ref e69, .ref e70, .ref e71, .int 0, .ref e72, .ref e73, .ref e74, .ref e75, .ref e76, .ref e77, .ref e78, .int 0, .ref e79, .ref e80, .int 0, .int 0, .ref e81, .ref e82, .ref e83, .int 0, .int 0, .int 0, .int 0, .int 0, .ref e84, .ref e85, .int 0, .int 0, .int 0, .int 0, .int 0, .int 0, .int 0, .ref e86, .int 0, .int 0])), (e46, .inr (19, [.int 0, .int 0, .int 0, .int 0, .int 0, .int (-1), .int 0, .int 0, .ref e88, .ref e89, .ref e90, .int 0, .ref e91, .ref e92, .ref e93, .ref e94, .ref e95, .ref e96, .ref e97, .int 0, .ref e98, .ref e99, .int 0, .int 0, .ref e100, .ref e101, .ref e102, .int 0, .int 0, .int 0, .int 0, .int 0, .ref e103, .ref e104, .int 0, .int 0, .int 0, .int 0, .int 0, .int 0, .int 0, .ref e105, .int 0, .int 0])), (e47, .inr (19, [.int 0, .int 0, .int 0, .int 0, .int 0, .int (-1), .int 0, .int 0, .ref e107, .ref e108, .ref e109, .int 0, .ref e110, .ref e111, .ref e112, .ref e113, .ref e114, .ref e115, .ref e116, .int 0, .ref e117, .ref e118, .int 0, .int 0, .ref e119, .ref e120, .ref e121, .int 0, .int 0, .int 0, .int 0, .int 0, .ref e122, .ref e123, .int 0, .int 0, .int 0, .int 0, .int 0, .int 0, .int 0, .ref e124, .int 0, .int 0])), (e48, .inr (19, [.int 0, .int 0, .int 0, .int 0, .int 0, .int (-1), .int 0, .int 0, .ref e126, .ref e127, .ref e128, .int 0, .ref e129, .ref e130, .ref e131, .ref e132, .ref e133, .ref e134, .ref e135, .int 0, .ref e136, .ref e137, .int 0, .int 0, .ref e138, .ref e139, .ref e140, .int 0, .int 0, .int 0, .int 0, .int 0, .ref e141, .ref e142, .int 0, .int 0, .int 0, .int 0, .int 0, .int 0, .int 0, .ref e143, .int 0, .int 0])), (e49, .inr (19, [.int 0, .int 0, .int 0, .int 0, .int 0, .int (-1), .int 0, .int 0, .ref e145, .ref e146, .ref e147, .int 0, .ref e148, .ref e149, .ref e150, .ref e151, .ref e152, .ref e153, .ref e154, .int 0, .ref e155, .ref e156, .int 0, .int 0, .ref e157, .ref e158, .ref e159, .int 0, .int 0, .int 0, .int 0, .int 0, .ref e160, .ref e161, .int 0, .int 0, .int 0, .int 0, .int 0, .int 0, .int 0, .ref e162, .int 0, .int 0])), (e2, .inr (13, [.int 0, .ref e31, .ref e32, .ref e33, .ref e34, .ref e35, .ref e36, .ref e37, .ref e38, .int 0, .ref e39, .ref e40, .ref e41])), (e31, .inl (e42, 8, .inl (fun _ => 0)))] s.heap := hP
  have hl := lv_entry ([.ref h0, .int z1]) (n := 4) (Nat.le_of_ble_eq_true rfl)
  rw [lg_entry_eq]
  generalize (lg_sl ([.ref h0, .int z1]) ++ List.replicate (4 - (lg_sl ([.ref h0, .int z1])).length) Slot.unset).toArray = ls at hl ⊢
  have hl : lv_has ls 4 [(0, .ref h0), (1, .int z1)] := hl
  obtain ⟨H, hH⟩ : ∃ H : Heap, s.heap = H := ⟨_, rfl⟩
  have hP : va_P (dC, dI) classes [(h0, .inr (20, [.int 1, .int (-1), .ref e1, .int 0, .ref e2, .ref e3, .ref e4, .int 0, .int 0, .ref e5, .ref e6, .ref e7, .ref e8, .ref e9, .ref e10, .ref e11, .ref e12, .ref e13, .int 0, .int 0, .ref e14, .ref e15, .ref e16, .ref e17, .int 0, .int 0, .int 0, .ref e18, .int 0, .ref e19, .ref e20, .ref e21, .int 0, .ref e22, .ref e23, .ref e24, .ref e25, .ref e26, .int 0, .ref e27, .ref e28, .ref e29])), (e3, .inl (e43, 6, .inr (.inr (.inr (.inr (va_up (va_up (va_up (va_up (va_up (va_up (fun _ => none) 0 (some e44)) 1 (some e45)) 2 (some e46)) 3 (some e47)) 4 (some e48)) 5 (some e49))))))), (e44, .inr (19, [.int 0, .int 0, .int 0, .int 0, .int 0, .int (-1), .int 0, .int 0, .ref e50, .ref e51, .ref e52, .int 0, .ref e53, .ref e54, .ref e55, .ref e56, .ref e57, .ref e58, .ref e59, .int 0, .ref e60, .ref e61, .int 0, .int 0, .ref e62, .ref e63, .ref e64, .int 0, .int 0, .int 0, .int 0, .int 0, .ref e65, .ref e66, .int 0, .int 0, .int 0, .int 0, .int 0, .int 0, .int 0, .ref e67, .int 0, .int 0])), (e45, .inr (19, [.int 0, .int 0, .int 0, .int 0, .int 0, .int (-1), .int 0, .int 0, .ref e69, .ref e70, .ref e71, .int 0, .ref e72, .ref e73, .ref e74, .ref e75, .ref e76, .ref e77, .ref e78, .int 0, .ref e79, .ref e80, .int 0, .int 0, .ref e81, .ref e82, .ref e83, .int 0, .int 0, .int 0, .int 0, .int 0, .ref e84, .ref e85, .int 0, .int 0, .int 0, .int 0, .int 0, .int 0, .int 0, .ref e86, .int 0, .int 0])), (e46, .inr (19, [.int 0, .int 0, .int 0, .int 0, .int 0, .int (-1), .int 0, .int 0, .ref e88, .ref e89, .ref e90, .int 0, .ref e91, .ref e92, .ref e93, .ref e94, .ref e95, .ref e96, .ref e97, .int 0, .ref e98, .ref e99, .int 0, .int 0, .ref e100, .ref e101, .ref e102, .int 0, .int 0, .int 0, .int 0, .int 0, .ref e103, .ref e104, .int 0, .int 0, .int 0, .int 0, .int 0, .int 0, .int 0, .ref e105, .int 0, .int 0])), (e47, .inr (19, [.int 0, .int 0, .int 0, .int 0, .int 0, .int (-1), .int 0, .int 0, .ref e107, .ref e108, .ref e109, .int 0, .ref e110, .ref e111, .ref e112, .ref e113, .ref e114, .ref e115, .ref e116, .int 0, .ref e117, .ref e118, .int 0, .int 0, .ref e119, .ref e120, .ref e121, .int 0, .int 0, .int 0, .int 0, .int 0, .ref e122, .ref e123, .int 0, .int 0, .int 0, .int 0, .int 0, .int 0, .int 0, .ref e124, .int 0, .int 0])), (e48, .inr (19, [.int 0, .int 0, .int 0, .int 0, .int 0, .int (-1), .int 0, .int 0, .ref e126, .ref e127, .ref e128, .int 0, .ref e129, .ref e130, .ref e131, .ref e132, .ref e133, .ref e134, .ref e135, .int 0, .ref e136, .ref e137, .int 0, .int 0, .ref e138, .ref e139, .ref e140, .int 0, .int 0, .int 0, .int 0, .int 0, .ref e141, .ref e142, .int 0, .int 0, .int 0, .int 0, .int 0, .int 0, .int 0, .ref e143, .int 0, .int 0])), (e49, .inr (19, [.int 0, .int 0, .int 0, .int 0, .int 0, .int (-1), .int 0, .int 0, .ref e145, .ref e146, .ref e147, .int 0, .ref e148, .ref e149, .ref e150, .ref e151, .ref e152, .ref e153, .ref e154, .int 0, .ref e155, .ref e156, .int 0, .int 0, .ref e157, .ref e158, .ref e159, .int 0, .int 0, .int 0, .int 0, .int 0, .ref e160, .ref e161, .int 0, .int 0, .int 0, .int 0, .int 0, .int 0, .int 0, .ref e162, .int 0, .int 0])), (e2, .inr (13, [.int 0, .ref e31, .ref e32, .ref e33, .ref e34, .ref e35, .ref e36, .ref e37, .ref e38, .int 0, .ref e39, .ref e40, .ref e41])), (e31, .inl (e42, 8, .inl (fun _ => 0)))] H := by rw [← hH]; exact hP
  have hS : va_S A s.heap H [] := by rw [← hH]; exact va_S.rf
  refine bx_heap hH ?_
  refine lv_iload_n hx hb d_Model_count_0 rfl (lv_at hl 1 rfl) ?_
  refine lv_if_lt (tgt := 10) hx hb d_Model_count_1 (by decide) (fun c_1 => ?_) (fun c_1 => ?_)
  · skip
    refine lv_iconst (v := -1) hx hb d_Model_count_10 (by decide) ?_
    refine W.widen (k := 0) (n := 0) (Nat.le_of_ble_eq_true rfl) (Nat.le_of_ble_eq_true rfl) ?_
    exact W.iret (v := (-1)) hx hb hr (fun t ht hW => ⟨⟨(-1), (), rfl, (by simp [bx_cnt, c_1]), va_P.none, va_K.moved hW.alike (hK.sub (tys' := []) [] rfl), va_D.none⟩, hS.F ht⟩) hS.2.2 d_Model_count_11
  · skip
    refine lv_iload_n hx hb d_Model_count_4 rfl (lv_at hl 1 rfl) ?_
    refine lv_bipush (v := 8) hx hb d_Model_count_5 (by decide) ?_
    refine lv_icmp_le (tgt := 12) hx hb d_Model_count_7 (by decide) (fun c_2 => ?_) (fun c_2 => ?_)
    · skip
      rcases bx_nine c_1 c_2 with rfl | rfl | rfl | rfl | rfl | rfl | rfl | rfl | rfl
      · skip
        refine lv_iload_n hx hb d_Model_count_12 rfl (lv_at hl 1 rfl) ?_
        refine lv_bipush (v := 7) hx hb d_Model_count_13 (by decide) ?_
        refine lv_icmp_ne (tgt := 23) hx hb d_Model_count_15 (by decide) (fun c_3 => ?_) (fun c_3 => absurd c_3 (by decide))
        refine lv_aload_n hx hb d_Model_count_23 rfl (lv_at hl 0 rfl) ?_
        refine va_get (D := (dC, dI)) (ci := 20) (v := .int 1) (C := R_Model) (T := F_Model) (N := 42) hx hb hts (i_Model _) hown hK hP 0 rfl rfl 0 (by decide) (hts _ (List.mem_cons_of_mem _ q_2628)) (fun _ h9 => h9) rfl d_Model_count_24 ?_
        refine lv_if_ne (tgt := 32) hx hb d_Model_count_27 (by decide) (fun c_4 => ?_) (fun c_4 => absurd c_4 (by decide))
        refine lv_iconst (v := 0) hx hb d_Model_count_32 (by decide) ?_
        refine lv_istore_n (lv' := [(2, .int 0), (0, .ref h0), (1, .int 0)]) hx hb d_Model_count_33 rfl hl (by decide) rfl (fun ls hl => ?_)
        refine lv_iconst (v := 0) hx hb d_Model_count_34 (by decide) ?_
        refine lv_istore_n (lv' := [(3, .int 0), (2, .int 0), (0, .ref h0), (1, .int 0)]) hx hb d_Model_count_35 rfl hl (by decide) rfl (fun ls hl => ?_)
        refine lv_iload_n hx hb d_Model_count_36 rfl (lv_at hl 0 rfl) ?_
        refine lv_bipush (v := 6) hx hb d_Model_count_37 (by decide) ?_
        refine lv_icmp_ge (tgt := 68) hx hb d_Model_count_39 (by decide) (fun c_5 => absurd c_5 (by decide)) (fun c_5 => ?_)
        refine lv_aload_n hx hb d_Model_count_42 rfl (lv_at hl 2 rfl) ?_
        refine va_get (D := (dC, dI)) (ci := 20) (v := .ref e3) (C := R_Model) (T := F_Model) (N := 42) hx hb hts (i_Model _) hown hK hP 0 rfl rfl 5 (by decide) (hts _ (List.mem_cons_of_mem _ q_2633)) (fun _ h9 => h9) rfl d_Model_count_43 ?_
        refine lv_iload_n hx hb d_Model_count_46 rfl (lv_at hl 0 rfl) ?_
        refine va_aldq hx hb hK hP 1 0 (i := 0) rfl rfl (vp_in_nI (n := 0) (by decide) (by decide)) d_Model_count_47 ?_
        refine W.eq (g2 := F0 m 48 ls [.ref e44]) rfl ?_
        refine va_getN (D := (dC, dI)) (ci := 19) (v := .int 0) (C := R_MSession) (T := F_MSession) (N := 44) hx hb hts (i_MSession _) hown hK hP 2 rfl rfl 34 (by decide) ((bx_f hN ("SessionServerModel", 195, "SessionServerModel$Session", "wait", "I", "SessionServerModel") (by decide)).use rfl) (fun _ h9 => h9) rfl d_Model_count_48 ?_
        refine lv_if_le (tgt := 60) hx hb d_Model_count_51 (by decide) (fun c_6 => ?_) (fun c_6 => absurd (by decide) c_6)
        refine lv_iload_n hx hb d_Model_count_60 rfl (lv_at hl 1 rfl) ?_
        refine lv_istore_n (lv' := [(2, .int 0), (3, .int 0), (0, .ref h0), (1, .int 0)]) hx hb d_Model_count_61 rfl hl (by decide) rfl (fun ls hl => ?_)
        refine lv_iinc (v := 1) (lv' := [(3, .int 1), (2, .int 0), (0, .ref h0), (1, .int 0)]) hx hb d_Model_count_62 hl (k := 1) rfl (by decide) (by decide) rfl (fun ls hl => ?_)
        refine lv_goto (tgt := 36) hx hb d_Model_count_65 (by decide) ?_
        refine lv_iload_n hx hb d_Model_count_36 rfl (lv_at hl 0 rfl) ?_
        refine lv_bipush (v := 6) hx hb d_Model_count_37 (by decide) ?_
        refine lv_icmp_ge (tgt := 68) hx hb d_Model_count_39 (by decide) (fun c_7 => absurd c_7 (by decide)) (fun c_7 => ?_)
        refine lv_aload_n hx hb d_Model_count_42 rfl (lv_at hl 2 rfl) ?_
        refine va_get (D := (dC, dI)) (ci := 20) (v := .ref e3) (C := R_Model) (T := F_Model) (N := 42) hx hb hts (i_Model _) hown hK hP 0 rfl rfl 5 (by decide) (hts _ (List.mem_cons_of_mem _ q_2633)) (fun _ h9 => h9) rfl d_Model_count_43 ?_
        refine lv_iload_n hx hb d_Model_count_46 rfl (lv_at hl 0 rfl) ?_
        refine va_aldq hx hb hK hP 1 0 (i := 1) rfl rfl (vp_in_nI (n := 1) (by decide) (by decide)) d_Model_count_47 ?_
        refine W.eq (g2 := F0 m 48 ls [.ref e45]) rfl ?_
        refine va_getN (D := (dC, dI)) (ci := 19) (v := .int 0) (C := R_MSession) (T := F_MSession) (N := 44) hx hb hts (i_MSession _) hown hK hP 3 rfl rfl 34 (by decide) ((bx_f hN ("SessionServerModel", 195, "SessionServerModel$Session", "wait", "I", "SessionServerModel") (by decide)).use rfl) (fun _ h9 => h9) rfl d_Model_count_48 ?_
        refine lv_if_le (tgt := 60) hx hb d_Model_count_51 (by decide) (fun c_8 => ?_) (fun c_8 => absurd (by decide) c_8)
        refine lv_iload_n hx hb d_Model_count_60 rfl (lv_at hl 1 rfl) ?_
        refine lv_istore_n (lv' := [(2, .int 0), (3, .int 1), (0, .ref h0), (1, .int 0)]) hx hb d_Model_count_61 rfl hl (by decide) rfl (fun ls hl => ?_)
        refine lv_iinc (v := 2) (lv' := [(3, .int 2), (2, .int 0), (0, .ref h0), (1, .int 0)]) hx hb d_Model_count_62 hl (k := 1) rfl (by decide) (by decide) rfl (fun ls hl => ?_)
        refine lv_goto (tgt := 36) hx hb d_Model_count_65 (by decide) ?_
        refine lv_iload_n hx hb d_Model_count_36 rfl (lv_at hl 0 rfl) ?_
        refine lv_bipush (v := 6) hx hb d_Model_count_37 (by decide) ?_
        refine lv_icmp_ge (tgt := 68) hx hb d_Model_count_39 (by decide) (fun c_9 => absurd c_9 (by decide)) (fun c_9 => ?_)
        refine lv_aload_n hx hb d_Model_count_42 rfl (lv_at hl 2 rfl) ?_
        refine va_get (D := (dC, dI)) (ci := 20) (v := .ref e3) (C := R_Model) (T := F_Model) (N := 42) hx hb hts (i_Model _) hown hK hP 0 rfl rfl 5 (by decide) (hts _ (List.mem_cons_of_mem _ q_2633)) (fun _ h9 => h9) rfl d_Model_count_43 ?_
        refine lv_iload_n hx hb d_Model_count_46 rfl (lv_at hl 0 rfl) ?_
        refine va_aldq hx hb hK hP 1 0 (i := 2) rfl rfl (vp_in_nI (n := 2) (by decide) (by decide)) d_Model_count_47 ?_
        refine W.eq (g2 := F0 m 48 ls [.ref e46]) rfl ?_
        refine va_getN (D := (dC, dI)) (ci := 19) (v := .int 0) (C := R_MSession) (T := F_MSession) (N := 44) hx hb hts (i_MSession _) hown hK hP 4 rfl rfl 34 (by decide) ((bx_f hN ("SessionServerModel", 195, "SessionServerModel$Session", "wait", "I", "SessionServerModel") (by decide)).use rfl) (fun _ h9 => h9) rfl d_Model_count_48 ?_
        refine lv_if_le (tgt := 60) hx hb d_Model_count_51 (by decide) (fun c_10 => ?_) (fun c_10 => absurd (by decide) c_10)
        refine lv_iload_n hx hb d_Model_count_60 rfl (lv_at hl 1 rfl) ?_
        refine lv_istore_n (lv' := [(2, .int 0), (3, .int 2), (0, .ref h0), (1, .int 0)]) hx hb d_Model_count_61 rfl hl (by decide) rfl (fun ls hl => ?_)
        refine lv_iinc (v := 3) (lv' := [(3, .int 3), (2, .int 0), (0, .ref h0), (1, .int 0)]) hx hb d_Model_count_62 hl (k := 1) rfl (by decide) (by decide) rfl (fun ls hl => ?_)
        refine lv_goto (tgt := 36) hx hb d_Model_count_65 (by decide) ?_
        refine lv_iload_n hx hb d_Model_count_36 rfl (lv_at hl 0 rfl) ?_
        refine lv_bipush (v := 6) hx hb d_Model_count_37 (by decide) ?_
        refine lv_icmp_ge (tgt := 68) hx hb d_Model_count_39 (by decide) (fun c_11 => absurd c_11 (by decide)) (fun c_11 => ?_)
        refine lv_aload_n hx hb d_Model_count_42 rfl (lv_at hl 2 rfl) ?_
        refine va_get (D := (dC, dI)) (ci := 20) (v := .ref e3) (C := R_Model) (T := F_Model) (N := 42) hx hb hts (i_Model _) hown hK hP 0 rfl rfl 5 (by decide) (hts _ (List.mem_cons_of_mem _ q_2633)) (fun _ h9 => h9) rfl d_Model_count_43 ?_
        refine lv_iload_n hx hb d_Model_count_46 rfl (lv_at hl 0 rfl) ?_
        refine va_aldq hx hb hK hP 1 0 (i := 3) rfl rfl (vp_in_nI (n := 3) (by decide) (by decide)) d_Model_count_47 ?_
        refine W.eq (g2 := F0 m 48 ls [.ref e47]) rfl ?_
        refine va_getN (D := (dC, dI)) (ci := 19) (v := .int 0) (C := R_MSession) (T := F_MSession) (N := 44) hx hb hts (i_MSession _) hown hK hP 5 rfl rfl 34 (by decide) ((bx_f hN ("SessionServerModel", 195, "SessionServerModel$Session", "wait", "I", "SessionServerModel") (by decide)).use rfl) (fun _ h9 => h9) rfl d_Model_count_48 ?_
        refine lv_if_le (tgt := 60) hx hb d_Model_count_51 (by decide) (fun c_12 => ?_) (fun c_12 => absurd (by decide) c_12)
        refine lv_iload_n hx hb d_Model_count_60 rfl (lv_at hl 1 rfl) ?_
        refine lv_istore_n (lv' := [(2, .int 0), (3, .int 3), (0, .ref h0), (1, .int 0)]) hx hb d_Model_count_61 rfl hl (by decide) rfl (fun ls hl => ?_)
        refine lv_iinc (v := 4) (lv' := [(3, .int 4), (2, .int 0), (0, .ref h0), (1, .int 0)]) hx hb d_Model_count_62 hl (k := 1) rfl (by decide) (by decide) rfl (fun ls hl => ?_)
        refine lv_goto (tgt := 36) hx hb d_Model_count_65 (by decide) ?_
        refine lv_iload_n hx hb d_Model_count_36 rfl (lv_at hl 0 rfl) ?_
        refine lv_bipush (v := 6) hx hb d_Model_count_37 (by decide) ?_
        refine lv_icmp_ge (tgt := 68) hx hb d_Model_count_39 (by decide) (fun c_13 => absurd c_13 (by decide)) (fun c_13 => ?_)
        refine lv_aload_n hx hb d_Model_count_42 rfl (lv_at hl 2 rfl) ?_
        refine va_get (D := (dC, dI)) (ci := 20) (v := .ref e3) (C := R_Model) (T := F_Model) (N := 42) hx hb hts (i_Model _) hown hK hP 0 rfl rfl 5 (by decide) (hts _ (List.mem_cons_of_mem _ q_2633)) (fun _ h9 => h9) rfl d_Model_count_43 ?_
        refine lv_iload_n hx hb d_Model_count_46 rfl (lv_at hl 0 rfl) ?_
        refine va_aldq hx hb hK hP 1 0 (i := 4) rfl rfl (vp_in_nI (n := 4) (by decide) (by decide)) d_Model_count_47 ?_
        refine W.eq (g2 := F0 m 48 ls [.ref e48]) rfl ?_
        refine va_getN (D := (dC, dI)) (ci := 19) (v := .int 0) (C := R_MSession) (T := F_MSession) (N := 44) hx hb hts (i_MSession _) hown hK hP 6 rfl rfl 34 (by decide) ((bx_f hN ("SessionServerModel", 195, "SessionServerModel$Session", "wait", "I", "SessionServerModel") (by decide)).use rfl) (fun _ h9 => h9) rfl d_Model_count_48 ?_
        refine lv_if_le (tgt := 60) hx hb d_Model_count_51 (by decide) (fun c_14 => ?_) (fun c_14 => absurd (by decide) c_14)
        refine lv_iload_n hx hb d_Model_count_60 rfl (lv_at hl 1 rfl) ?_
        refine lv_istore_n (lv' := [(2, .int 0), (3, .int 4), (0, .ref h0), (1, .int 0)]) hx hb d_Model_count_61 rfl hl (by decide) rfl (fun ls hl => ?_)
        refine lv_iinc (v := 5) (lv' := [(3, .int 5), (2, .int 0), (0, .ref h0), (1, .int 0)]) hx hb d_Model_count_62 hl (k := 1) rfl (by decide) (by decide) rfl (fun ls hl => ?_)
        refine lv_goto (tgt := 36) hx hb d_Model_count_65 (by decide) ?_
        refine lv_iload_n hx hb d_Model_count_36 rfl (lv_at hl 0 rfl) ?_
        refine lv_bipush (v := 6) hx hb d_Model_count_37 (by decide) ?_
        refine lv_icmp_ge (tgt := 68) hx hb d_Model_count_39 (by decide) (fun c_15 => absurd c_15 (by decide)) (fun c_15 => ?_)
        refine lv_aload_n hx hb d_Model_count_42 rfl (lv_at hl 2 rfl) ?_
        refine va_get (D := (dC, dI)) (ci := 20) (v := .ref e3) (C := R_Model) (T := F_Model) (N := 42) hx hb hts (i_Model _) hown hK hP 0 rfl rfl 5 (by decide) (hts _ (List.mem_cons_of_mem _ q_2633)) (fun _ h9 => h9) rfl d_Model_count_43 ?_
        refine lv_iload_n hx hb d_Model_count_46 rfl (lv_at hl 0 rfl) ?_
        refine va_aldq hx hb hK hP 1 0 (i := 5) rfl rfl (vp_in_nI (n := 5) (by decide) (by decide)) d_Model_count_47 ?_
        refine W.eq (g2 := F0 m 48 ls [.ref e49]) rfl ?_
        refine va_getN (D := (dC, dI)) (ci := 19) (v := .int 0) (C := R_MSession) (T := F_MSession) (N := 44) hx hb hts (i_MSession _) hown hK hP 7 rfl rfl 34 (by decide) ((bx_f hN ("SessionServerModel", 195, "SessionServerModel$Session", "wait", "I", "SessionServerModel") (by decide)).use rfl) (fun _ h9 => h9) rfl d_Model_count_48 ?_
        refine lv_if_le (tgt := 60) hx hb d_Model_count_51 (by decide) (fun c_16 => ?_) (fun c_16 => absurd (by decide) c_16)
        refine lv_iload_n hx hb d_Model_count_60 rfl (lv_at hl 1 rfl) ?_
        refine lv_istore_n (lv' := [(2, .int 0), (3, .int 5), (0, .ref h0), (1, .int 0)]) hx hb d_Model_count_61 rfl hl (by decide) rfl (fun ls hl => ?_)
        refine lv_iinc (v := 6) (lv' := [(3, .int 6), (2, .int 0), (0, .ref h0), (1, .int 0)]) hx hb d_Model_count_62 hl (k := 1) rfl (by decide) (by decide) rfl (fun ls hl => ?_)
        refine lv_goto (tgt := 36) hx hb d_Model_count_65 (by decide) ?_
        refine lv_iload_n hx hb d_Model_count_36 rfl (lv_at hl 0 rfl) ?_
        refine lv_bipush (v := 6) hx hb d_Model_count_37 (by decide) ?_
        refine lv_icmp_ge (tgt := 68) hx hb d_Model_count_39 (by decide) (fun c_17 => ?_) (fun c_17 => absurd (by decide) c_17)
        refine lv_iload_n hx hb d_Model_count_68 rfl (lv_at hl 3 rfl) ?_
        refine lv_if_ne (tgt := 76) hx hb d_Model_count_69 (by decide) (fun c_18 => absurd c_18 (by decide)) (fun c_18 => ?_)
        refine lv_iconst (v := 1) hx hb d_Model_count_72 (by decide) ?_
        refine lv_goto (tgt := 156) hx hb d_Model_count_73 (by decide) ?_
        refine W.widen (k := 0) (n := 0) (Nat.le_of_ble_eq_true rfl) (Nat.le_of_ble_eq_true rfl) ?_
        exact W.iret (v := 1) hx hb hr (fun t ht hW => ⟨⟨1, (), rfl, (by decide), va_P.none, va_K.moved hW.alike (hK.sub (tys' := []) [] rfl), va_D.none⟩, hS.F ht⟩) hS.2.2 d_Model_count_156
      · skip
        refine lv_iload_n hx hb d_Model_count_12 rfl (lv_at hl 1 rfl) ?_
        refine lv_bipush (v := 7) hx hb d_Model_count_13 (by decide) ?_
        refine lv_icmp_ne (tgt := 23) hx hb d_Model_count_15 (by decide) (fun c_3 => ?_) (fun c_3 => absurd c_3 (by decide))
        refine lv_aload_n hx hb d_Model_count_23 rfl (lv_at hl 0 rfl) ?_
        refine va_get (D := (dC, dI)) (ci := 20) (v := .int 1) (C := R_Model) (T := F_Model) (N := 42) hx hb hts (i_Model _) hown hK hP 0 rfl rfl 0 (by decide) (hts _ (List.mem_cons_of_mem _ q_2628)) (fun _ h9 => h9) rfl d_Model_count_24 ?_
        refine lv_if_ne (tgt := 32) hx hb d_Model_count_27 (by decide) (fun c_4 => ?_) (fun c_4 => absurd c_4 (by decide))
        refine lv_iconst (v := 0) hx hb d_Model_count_32 (by decide) ?_
        refine lv_istore_n (lv' := [(2, .int 0), (0, .ref h0), (1, .int 1)]) hx hb d_Model_count_33 rfl hl (by decide) rfl (fun ls hl => ?_)
        refine lv_iconst (v := 0) hx hb d_Model_count_34 (by decide) ?_
        refine lv_istore_n (lv' := [(3, .int 0), (2, .int 0), (0, .ref h0), (1, .int 1)]) hx hb d_Model_count_35 rfl hl (by decide) rfl (fun ls hl => ?_)
        refine lv_iload_n hx hb d_Model_count_36 rfl (lv_at hl 0 rfl) ?_
        refine lv_bipush (v := 6) hx hb d_Model_count_37 (by decide) ?_
        refine lv_icmp_ge (tgt := 68) hx hb d_Model_count_39 (by decide) (fun c_5 => absurd c_5 (by decide)) (fun c_5 => ?_)
        refine lv_aload_n hx hb d_Model_count_42 rfl (lv_at hl 2 rfl) ?_
        refine va_get (D := (dC, dI)) (ci := 20) (v := .ref e3) (C := R_Model) (T := F_Model) (N := 42) hx hb hts (i_Model _) hown hK hP 0 rfl rfl 5 (by decide) (hts _ (List.mem_cons_of_mem _ q_2633)) (fun _ h9 => h9) rfl d_Model_count_43 ?_
        refine lv_iload_n hx hb d_Model_count_46 rfl (lv_at hl 0 rfl) ?_
        refine va_aldq hx hb hK hP 1 0 (i := 0) rfl rfl (vp_in_nI (n := 0) (by decide) (by decide)) d_Model_count_47 ?_
        refine W.eq (g2 := F0 m 48 ls [.ref e44]) rfl ?_
        refine va_getN (D := (dC, dI)) (ci := 19) (v := .int 0) (C := R_MSession) (T := F_MSession) (N := 44) hx hb hts (i_MSession _) hown hK hP 2 rfl rfl 34 (by decide) ((bx_f hN ("SessionServerModel", 195, "SessionServerModel$Session", "wait", "I", "SessionServerModel") (by decide)).use rfl) (fun _ h9 => h9) rfl d_Model_count_48 ?_
        refine lv_if_le (tgt := 60) hx hb d_Model_count_51 (by decide) (fun c_6 => ?_) (fun c_6 => absurd (by decide) c_6)
        refine lv_iload_n hx hb d_Model_count_60 rfl (lv_at hl 1 rfl) ?_
        refine lv_istore_n (lv' := [(2, .int 0), (3, .int 0), (0, .ref h0), (1, .int 1)]) hx hb d_Model_count_61 rfl hl (by decide) rfl (fun ls hl => ?_)
        refine lv_iinc (v := 1) (lv' := [(3, .int 1), (2, .int 0), (0, .ref h0), (1, .int 1)]) hx hb d_Model_count_62 hl (k := 1) rfl (by decide) (by decide) rfl (fun ls hl => ?_)
        refine lv_goto (tgt := 36) hx hb d_Model_count_65 (by decide) ?_
        refine lv_iload_n hx hb d_Model_count_36 rfl (lv_at hl 0 rfl) ?_
        refine lv_bipush (v := 6) hx hb d_Model_count_37 (by decide) ?_
        refine lv_icmp_ge (tgt := 68) hx hb d_Model_count_39 (by decide) (fun c_7 => absurd c_7 (by decide)) (fun c_7 => ?_)
        refine lv_aload_n hx hb d_Model_count_42 rfl (lv_at hl 2 rfl) ?_
        refine va_get (D := (dC, dI)) (ci := 20) (v := .ref e3) (C := R_Model) (T := F_Model) (N := 42) hx hb hts (i_Model _) hown hK hP 0 rfl rfl 5 (by decide) (hts _ (List.mem_cons_of_mem _ q_2633)) (fun _ h9 => h9) rfl d_Model_count_43 ?_
        refine lv_iload_n hx hb d_Model_count_46 rfl (lv_at hl 0 rfl) ?_
        refine va_aldq hx hb hK hP 1 0 (i := 1) rfl rfl (vp_in_nI (n := 1) (by decide) (by decide)) d_Model_count_47 ?_
        refine W.eq (g2 := F0 m 48 ls [.ref e45]) rfl ?_
        refine va_getN (D := (dC, dI)) (ci := 19) (v := .int 0) (C := R_MSession) (T := F_MSession) (N := 44) hx hb hts (i_MSession _) hown hK hP 3 rfl rfl 34 (by decide) ((bx_f hN ("SessionServerModel", 195, "SessionServerModel$Session", "wait", "I", "SessionServerModel") (by decide)).use rfl) (fun _ h9 => h9) rfl d_Model_count_48 ?_
        refine lv_if_le (tgt := 60) hx hb d_Model_count_51 (by decide) (fun c_8 => ?_) (fun c_8 => absurd (by decide) c_8)
        refine lv_iload_n hx hb d_Model_count_60 rfl (lv_at hl 1 rfl) ?_
        refine lv_istore_n (lv' := [(2, .int 0), (3, .int 1), (0, .ref h0), (1, .int 1)]) hx hb d_Model_count_61 rfl hl (by decide) rfl (fun ls hl => ?_)
        refine lv_iinc (v := 2) (lv' := [(3, .int 2), (2, .int 0), (0, .ref h0), (1, .int 1)]) hx hb d_Model_count_62 hl (k := 1) rfl (by decide) (by decide) rfl (fun ls hl => ?_)
        refine lv_goto (tgt := 36) hx hb d_Model_count_65 (by decide) ?_
        refine lv_iload_n hx hb d_Model_count_36 rfl (lv_at hl 0 rfl) ?_
        refine lv_bipush (v := 6) hx hb d_Model_count_37 (by decide) ?_
        refine lv_icmp_ge (tgt := 68) hx hb d_Model_count_39 (by decide) (fun c_9 => absurd c_9 (by decide)) (fun c_9 => ?_)
        refine lv_aload_n hx hb d_Model_count_42 rfl (lv_at hl 2 rfl) ?_
        refine va_get (D := (dC, dI)) (ci := 20) (v := .ref e3) (C := R_Model) (T := F_Model) (N := 42) hx hb hts (i_Model _) hown hK hP 0 rfl rfl 5 (by decide) (hts _ (List.mem_cons_of_mem _ q_2633)) (fun _ h9 => h9) rfl d_Model_count_43 ?_
        refine lv_iload_n hx hb d_Model_count_46 rfl (lv_at hl 0 rfl) ?_
        refine va_aldq hx hb hK hP 1 0 (i := 2) rfl rfl (vp_in_nI (n := 2) (by decide) (by decide)) d_Model_count_47 ?_
        refine W.eq (g2 := F0 m 48 ls [.ref e46]) rfl ?_
        refine va_getN (D := (dC, dI)) (ci := 19) (v := .int 0) (C := R_MSession) (T := F_MSession) (N := 44) hx hb hts (i_MSession _) hown hK hP 4 rfl rfl 34 (by decide) ((bx_f hN ("SessionServerModel", 195, "SessionServerModel$Session", "wait", "I", "SessionServerModel") (by decide)).use rfl) (fun _ h9 => h9) rfl d_Model_count_48 ?_
        refine lv_if_le (tgt := 60) hx hb d_Model_count_51 (by decide) (fun c_10 => ?_) (fun c_10 => absurd (by decide) c_10)
        refine lv_iload_n hx hb d_Model_count_60 rfl (lv_at hl 1 rfl) ?_
        refine lv_istore_n (lv' := [(2, .int 0), (3, .int 2), (0, .ref h0), (1, .int 1)]) hx hb d_Model_count_61 rfl hl (by decide) rfl (fun ls hl => ?_)
        refine lv_iinc (v := 3) (lv' := [(3, .int 3), (2, .int 0), (0, .ref h0), (1, .int 1)]) hx hb d_Model_count_62 hl (k := 1) rfl (by decide) (by decide) rfl (fun ls hl => ?_)
        refine lv_goto (tgt := 36) hx hb d_Model_count_65 (by decide) ?_
        refine lv_iload_n hx hb d_Model_count_36 rfl (lv_at hl 0 rfl) ?_
        refine lv_bipush (v := 6) hx hb d_Model_count_37 (by decide) ?_
        refine lv_icmp_ge (tgt := 68) hx hb d_Model_count_39 (by decide) (fun c_11 => absurd c_11 (by decide)) (fun c_11 => ?_)
        refine lv_aload_n hx hb d_Model_count_42 rfl (lv_at hl 2 rfl) ?_
        refine va_get (D := (dC, dI)) (ci := 20) (v := .ref e3) (C := R_Model) (T := F_Model) (N := 42) hx hb hts (i_Model _) hown hK hP 0 rfl rfl 5 (by decide) (hts _ (List.mem_cons_of_mem _ q_2633)) (fun _ h9 => h9) rfl d_Model_count_43 ?_
        refine lv_iload_n hx hb d_Model_count_46 rfl (lv_at hl 0 rfl) ?_
        refine va_aldq hx hb hK hP 1 0 (i := 3) rfl rfl (vp_in_nI (n := 3) (by decide) (by decide)) d_Model_count_47 ?_
        refine W.eq (g2 := F0 m 48 ls [.ref e47]) rfl ?_
        refine va_getN (D := (dC, dI)) (ci := 19) (v := .int 0) (C := R_MSession) (T := F_MSession) (N := 44) hx hb hts (i_MSession _) hown hK hP 5 rfl rfl 34 (by decide) ((bx_f hN ("SessionServerModel", 195, "SessionServerModel$Session", "wait", "I", "SessionServerModel") (by decide)).use rfl) (fun _ h9 => h9) rfl d_Model_count_48 ?_
        refine lv_if_le (tgt := 60) hx hb d_Model_count_51 (by decide) (fun c_12 => ?_) (fun c_12 => absurd (by decide) c_12)
        refine lv_iload_n hx hb d_Model_count_60 rfl (lv_at hl 1 rfl) ?_
        refine lv_istore_n (lv' := [(2, .int 0), (3, .int 3), (0, .ref h0), (1, .int 1)]) hx hb d_Model_count_61 rfl hl (by decide) rfl (fun ls hl => ?_)
        refine lv_iinc (v := 4) (lv' := [(3, .int 4), (2, .int 0), (0, .ref h0), (1, .int 1)]) hx hb d_Model_count_62 hl (k := 1) rfl (by decide) (by decide) rfl (fun ls hl => ?_)
        refine lv_goto (tgt := 36) hx hb d_Model_count_65 (by decide) ?_
        refine lv_iload_n hx hb d_Model_count_36 rfl (lv_at hl 0 rfl) ?_
        refine lv_bipush (v := 6) hx hb d_Model_count_37 (by decide) ?_
        refine lv_icmp_ge (tgt := 68) hx hb d_Model_count_39 (by decide) (fun c_13 => absurd c_13 (by decide)) (fun c_13 => ?_)
        refine lv_aload_n hx hb d_Model_count_42 rfl (lv_at hl 2 rfl) ?_
        refine va_get (D := (dC, dI)) (ci := 20) (v := .ref e3) (C := R_Model) (T := F_Model) (N := 42) hx hb hts (i_Model _) hown hK hP 0 rfl rfl 5 (by decide) (hts _ (List.mem_cons_of_mem _ q_2633)) (fun _ h9 => h9) rfl d_Model_count_43 ?_
        refine lv_iload_n hx hb d_Model_count_46 rfl (lv_at hl 0 rfl) ?_
        refine va_aldq hx hb hK hP 1 0 (i := 4) rfl rfl (vp_in_nI (n := 4) (by decide) (by decide)) d_Model_count_47 ?_
        refine W.eq (g2 := F0 m 48 ls [.ref e48]) rfl ?_
        refine va_getN (D := (dC, dI)) (ci := 19) (v := .int 0) (C := R_MSession) (T := F_MSession) (N := 44) hx hb hts (i_MSession _) hown hK hP 6 rfl rfl 34 (by decide) ((bx_f hN ("SessionServerModel", 195, "SessionServerModel$Session", "wait", "I", "SessionServerModel") (by decide)).use rfl) (fun _ h9 => h9) rfl d_Model_count_48 ?_
        refine lv_if_le (tgt := 60) hx hb d_Model_count_51 (by decide) (fun c_14 => ?_) (fun c_14 => absurd (by decide) c_14)
        refine lv_iload_n hx hb d_Model_count_60 rfl (lv_at hl 1 rfl) ?_
        refine lv_istore_n (lv' := [(2, .int 0), (3, .int 4), (0, .ref h0), (1, .int 1)]) hx hb d_Model_count_61 rfl hl (by decide) rfl (fun ls hl => ?_)
        refine lv_iinc (v := 5) (lv' := [(3, .int 5), (2, .int 0), (0, .ref h0), (1, .int 1)]) hx hb d_Model_count_62 hl (k := 1) rfl (by decide) (by decide) rfl (fun ls hl => ?_)
        refine lv_goto (tgt := 36) hx hb d_Model_count_65 (by decide) ?_
        refine lv_iload_n hx hb d_Model_count_36 rfl (lv_at hl 0 rfl) ?_
        refine lv_bipush (v := 6) hx hb d_Model_count_37 (by decide) ?_
        refine lv_icmp_ge (tgt := 68) hx hb d_Model_count_39 (by decide) (fun c_15 => absurd c_15 (by decide)) (fun c_15 => ?_)
        refine lv_aload_n hx hb d_Model_count_42 rfl (lv_at hl 2 rfl) ?_
        refine va_get (D := (dC, dI)) (ci := 20) (v := .ref e3) (C := R_Model) (T := F_Model) (N := 42) hx hb hts (i_Model _) hown hK hP 0 rfl rfl 5 (by decide) (hts _ (List.mem_cons_of_mem _ q_2633)) (fun _ h9 => h9) rfl d_Model_count_43 ?_
        refine lv_iload_n hx hb d_Model_count_46 rfl (lv_at hl 0 rfl) ?_
        refine va_aldq hx hb hK hP 1 0 (i := 5) rfl rfl (vp_in_nI (n := 5) (by decide) (by decide)) d_Model_count_47 ?_
        refine W.eq (g2 := F0 m 48 ls [.ref e49]) rfl ?_
        refine va_getN (D := (dC, dI)) (ci := 19) (v := .int 0) (C := R_MSession) (T := F_MSession) (N := 44) hx hb hts (i_MSession _) hown hK hP 7 rfl rfl 34 (by decide) ((bx_f hN ("SessionServerModel", 195, "SessionServerModel$Session", "wait", "I", "SessionServerModel") (by decide)).use rfl) (fun _ h9 => h9) rfl d_Model_count_48 ?_
        refine lv_if_le (tgt := 60) hx hb d_Model_count_51 (by decide) (fun c_16 => ?_) (fun c_16 => absurd (by decide) c_16)
        refine lv_iload_n hx hb d_Model_count_60 rfl (lv_at hl 1 rfl) ?_
        refine lv_istore_n (lv' := [(2, .int 0), (3, .int 5), (0, .ref h0), (1, .int 1)]) hx hb d_Model_count_61 rfl hl (by decide) rfl (fun ls hl => ?_)
        refine lv_iinc (v := 6) (lv' := [(3, .int 6), (2, .int 0), (0, .ref h0), (1, .int 1)]) hx hb d_Model_count_62 hl (k := 1) rfl (by decide) (by decide) rfl (fun ls hl => ?_)
        refine lv_goto (tgt := 36) hx hb d_Model_count_65 (by decide) ?_
        refine lv_iload_n hx hb d_Model_count_36 rfl (lv_at hl 0 rfl) ?_
        refine lv_bipush (v := 6) hx hb d_Model_count_37 (by decide) ?_
        refine lv_icmp_ge (tgt := 68) hx hb d_Model_count_39 (by decide) (fun c_17 => ?_) (fun c_17 => absurd (by decide) c_17)
        refine lv_iload_n hx hb d_Model_count_68 rfl (lv_at hl 3 rfl) ?_
        refine lv_if_ne (tgt := 76) hx hb d_Model_count_69 (by decide) (fun c_18 => ?_) (fun c_18 => absurd c_18 (by decide))
        refine lv_iload_n hx hb d_Model_count_76 rfl (lv_at hl 3 rfl) ?_
        refine lv_iconst (v := 1) hx hb d_Model_count_77 (by decide) ?_
        refine lv_icmp_ne (tgt := 88) hx hb d_Model_count_78 (by decide) (fun c_19 => absurd c_19 (by decide)) (fun c_19 => ?_)
        refine lv_aload_n hx hb d_Model_count_81 rfl (lv_at hl 2 rfl) ?_
        refine va_get (D := (dC, dI)) (ci := 20) (v := .int 0) (C := R_Model) (T := F_Model) (N := 42) hx hb hts (i_Model _) hown hK hP 0 rfl rfl 7 (by decide) (hts _ (List.mem_cons_of_mem _ q_2635)) (fun _ h9 => h9) rfl d_Model_count_82 ?_
        refine lv_goto (tgt := 156) hx hb d_Model_count_85 (by decide) ?_
        refine W.widen (k := 0) (n := 0) (Nat.le_of_ble_eq_true rfl) (Nat.le_of_ble_eq_true rfl) ?_
        exact W.iret (v := 0) hx hb hr (fun t ht hW => ⟨⟨0, (), rfl, (by decide), va_P.none, va_K.moved hW.alike (hK.sub (tys' := []) [] rfl), va_D.none⟩, hS.F ht⟩) hS.2.2 d_Model_count_156
      · skip
        refine lv_iload_n hx hb d_Model_count_12 rfl (lv_at hl 1 rfl) ?_
        refine lv_bipush (v := 7) hx hb d_Model_count_13 (by decide) ?_
        refine lv_icmp_ne (tgt := 23) hx hb d_Model_count_15 (by decide) (fun c_3 => ?_) (fun c_3 => absurd c_3 (by decide))
        refine lv_aload_n hx hb d_Model_count_23 rfl (lv_at hl 0 rfl) ?_
        refine va_get (D := (dC, dI)) (ci := 20) (v := .int 1) (C := R_Model) (T := F_Model) (N := 42) hx hb hts (i_Model _) hown hK hP 0 rfl rfl 0 (by decide) (hts _ (List.mem_cons_of_mem _ q_2628)) (fun _ h9 => h9) rfl d_Model_count_24 ?_
        refine lv_if_ne (tgt := 32) hx hb d_Model_count_27 (by decide) (fun c_4 => ?_) (fun c_4 => absurd c_4 (by decide))
        refine lv_iconst (v := 0) hx hb d_Model_count_32 (by decide) ?_
        refine lv_istore_n (lv' := [(2, .int 0), (0, .ref h0), (1, .int 2)]) hx hb d_Model_count_33 rfl hl (by decide) rfl (fun ls hl => ?_)
        refine lv_iconst (v := 0) hx hb d_Model_count_34 (by decide) ?_
        refine lv_istore_n (lv' := [(3, .int 0), (2, .int 0), (0, .ref h0), (1, .int 2)]) hx hb d_Model_count_35 rfl hl (by decide) rfl (fun ls hl => ?_)
        refine lv_iload_n hx hb d_Model_count_36 rfl (lv_at hl 0 rfl) ?_
        refine lv_bipush (v := 6) hx hb d_Model_count_37 (by decide) ?_
        refine lv_icmp_ge (tgt := 68) hx hb d_Model_count_39 (by decide) (fun c_5 => absurd c_5 (by decide)) (fun c_5 => ?_)
        refine lv_aload_n hx hb d_Model_count_42 rfl (lv_at hl 2 rfl) ?_
        refine va_get (D := (dC, dI)) (ci := 20) (v := .ref e3) (C := R_Model) (T := F_Model) (N := 42) hx hb hts (i_Model _) hown hK hP 0 rfl rfl 5 (by decide) (hts _ (List.mem_cons_of_mem _ q_2633)) (fun _ h9 => h9) rfl d_Model_count_43 ?_
        refine lv_iload_n hx hb d_Model_count_46 rfl (lv_at hl 0 rfl) ?_
        refine va_aldq hx hb hK hP 1 0 (i := 0) rfl rfl (vp_in_nI (n := 0) (by decide) (by decide)) d_Model_count_47 ?_
        refine W.eq (g2 := F0 m 48 ls [.ref e44]) rfl ?_
        refine va_getN (D := (dC, dI)) (ci := 19) (v := .int 0) (C := R_MSession) (T := F_MSession) (N := 44) hx hb hts (i_MSession _) hown hK hP 2 rfl rfl 34 (by decide) ((bx_f hN ("SessionServerModel", 195, "SessionServerModel$Session", "wait", "I", "SessionServerModel") (by decide)).use rfl) (fun _ h9 => h9) rfl d_Model_count_48 ?_
        refine lv_if_le (tgt := 60) hx hb d_Model_count_51 (by decide) (fun c_6 => ?_) (fun c_6 => absurd (by decide) c_6)
        refine lv_iload_n hx hb d_Model_count_60 rfl (lv_at hl 1 rfl) ?_
        refine lv_istore_n (lv' := [(2, .int 0), (3, .int 0), (0, .ref h0), (1, .int 2)]) hx hb d_Model_count_61 rfl hl (by decide) rfl (fun ls hl => ?_)
        refine lv_iinc (v := 1) (lv' := [(3, .int 1), (2, .int 0), (0, .ref h0), (1, .int 2)]) hx hb d_Model_count_62 hl (k := 1) rfl (by decide) (by decide) rfl (fun ls hl => ?_)
        refine lv_goto (tgt := 36) hx hb d_Model_count_65 (by decide) ?_
        refine lv_iload_n hx hb d_Model_count_36 rfl (lv_at hl 0 rfl) ?_
        refine lv_bipush (v := 6) hx hb d_Model_count_37 (by decide) ?_
        refine lv_icmp_ge (tgt := 68) hx hb d_Model_count_39 (by decide) (fun c_7 => absurd c_7 (by decide)) (fun c_7 => ?_)
        refine lv_aload_n hx hb d_Model_count_42 rfl (lv_at hl 2 rfl) ?_
        refine va_get (D := (dC, dI)) (ci := 20) (v := .ref e3) (C := R_Model) (T := F_Model) (N := 42) hx hb hts (i_Model _) hown hK hP 0 rfl rfl 5 (by decide) (hts _ (List.mem_cons_of_mem _ q_2633)) (fun _ h9 => h9) rfl d_Model_count_43 ?_
        refine lv_iload_n hx hb d_Model_count_46 rfl (lv_at hl 0 rfl) ?_
        refine va_aldq hx hb hK hP 1 0 (i := 1) rfl rfl (vp_in_nI (n := 1) (by decide) (by decide)) d_Model_count_47 ?_
        refine W.eq (g2 := F0 m 48 ls [.ref e45]) rfl ?_
        refine va_getN (D := (dC, dI)) (ci := 19) (v := .int 0) (C := R_MSession) (T := F_MSession) (N := 44) hx hb hts (i_MSession _) hown hK hP 3 rfl rfl 34 (by decide) ((bx_f hN ("SessionServerModel", 195, "SessionServerModel$Session", "wait", "I", "SessionServerModel") (by decide)).use rfl) (fun _ h9 => h9) rfl d_Model_count_48 ?_
        refine lv_if_le (tgt := 60) hx hb d_Model_count_51 (by decide) (fun c_8 => ?_) (fun c_8 => absurd (by decide) c_8)
        refine lv_iload_n hx hb d_Model_count_60 rfl (lv_at hl 1 rfl) ?_
        refine lv_istore_n (lv' := [(2, .int 0), (3, .int 1), (0, .ref h0), (1, .int 2)]) hx hb d_Model_count_61 rfl hl (by decide) rfl (fun ls hl => ?_)
        refine lv_iinc (v := 2) (lv' := [(3, .int 2), (2, .int 0), (0, .ref h0), (1, .int 2)]) hx hb d_Model_count_62 hl (k := 1) rfl (by decide) (by decide) rfl (fun ls hl => ?_)
        refine lv_goto (tgt := 36) hx hb d_Model_count_65 (by decide) ?_
        refine lv_iload_n hx hb d_Model_count_36 rfl (lv_at hl 0 rfl) ?_
        refine lv_bipush (v := 6) hx hb d_Model_count_37 (by decide) ?_
        refine lv_icmp_ge (tgt := 68) hx hb d_Model_count_39 (by decide) (fun c_9 => absurd c_9 (by decide)) (fun c_9 => ?_)
        refine lv_aload_n hx hb d_Model_count_42 rfl (lv_at hl 2 rfl) ?_
        refine va_get (D := (dC, dI)) (ci := 20) (v := .ref e3) (C := R_Model) (T := F_Model) (N := 42) hx hb hts (i_Model _) hown hK hP 0 rfl rfl 5 (by decide) (hts _ (List.mem_cons_of_mem _ q_2633)) (fun _ h9 => h9) rfl d_Model_count_43 ?_
        refine lv_iload_n hx hb d_Model_count_46 rfl (lv_at hl 0 rfl) ?_
        refine va_aldq hx hb hK hP 1 0 (i := 2) rfl rfl (vp_in_nI (n := 2) (by decide) (by decide)) d_Model_count_47 ?_
        refine W.eq (g2 := F0 m 48 ls [.ref e46]) rfl ?_
        refine va_getN (D := (dC, dI)) (ci := 19) (v := .int 0) (C := R_MSession) (T := F_MSession) (N := 44) hx hb hts (i_MSession _) hown hK hP 4 rfl rfl 34 (by decide) ((bx_f hN ("SessionServerModel", 195, "SessionServerModel$Session", "wait", "I", "SessionServerModel") (by decide)).use rfl) (fun _ h9 => h9) rfl d_Model_count_48 ?_
        refine lv_if_le (tgt := 60) hx hb d_Model_count_51 (by decide) (fun c_10 => ?_) (fun c_10 => absurd (by decide) c_10)
        refine lv_iload_n hx hb d_Model_count_60 rfl (lv_at hl 1 rfl) ?_
        refine lv_istore_n (lv' := [(2, .int 0), (3, .int 2), (0, .ref h0), (1, .int 2)]) hx hb d_Model_count_61 rfl hl (by decide) rfl (fun ls hl => ?_)
        refine lv_iinc (v := 3) (lv' := [(3, .int 3), (2, .int 0), (0, .ref h0), (1, .int 2)]) hx hb d_Model_count_62 hl (k := 1) rfl (by decide) (by decide) rfl (fun ls hl => ?_)
        refine lv_goto (tgt := 36) hx hb d_Model_count_65 (by decide) ?_
        refine lv_iload_n hx hb d_Model_count_36 rfl (lv_at hl 0 rfl) ?_
        refine lv_bipush (v := 6) hx hb d_Model_count_37 (by decide) ?_
        refine lv_icmp_ge (tgt := 68) hx hb d_Model_count_39 (by decide) (fun c_11 => absurd c_11 (by decide)) (fun c_11 => ?_)
        refine lv_aload_n hx hb d_Model_count_42 rfl (lv_at hl 2 rfl) ?_
        refine va_get (D := (dC, dI)) (ci := 20) (v := .ref e3) (C := R_Model) (T := F_Model) (N := 42) hx hb hts (i_Model _) hown hK hP 0 rfl rfl 5 (by decide) (hts _ (List.mem_cons_of_mem _ q_2633)) (fun _ h9 => h9) rfl d_Model_count_43 ?_
        refine lv_iload_n hx hb d_Model_count_46 rfl (lv_at hl 0 rfl) ?_
        refine va_aldq hx hb hK hP 1 0 (i := 3) rfl rfl (vp_in_nI (n := 3) (by decide) (by decide)) d_Model_count_47 ?_
        refine W.eq (g2 := F0 m 48 ls [.ref e47]) rfl ?_
        refine va_getN (D := (dC, dI)) (ci := 19) (v := .int 0) (C := R_MSession) (T := F_MSession) (N := 44) hx hb hts (i_MSession _) hown hK hP 5 rfl rfl 34 (by decide) ((bx_f hN ("SessionServerModel", 195, "SessionServerModel$Session", "wait", "I", "SessionServerModel") (by decide)).use rfl) (fun _ h9 => h9) rfl d_Model_count_48 ?_
        refine lv_if_le (tgt := 60) hx hb d_Model_count_51 (by decide) (fun c_12 => ?_) (fun c_12 => absurd (by decide) c_12)
        refine lv_iload_n hx hb d_Model_count_60 rfl (lv_at hl 1 rfl) ?_
        refine lv_istore_n (lv' := [(2, .int 0), (3, .int 3), (0, .ref h0), (1, .int 2)]) hx hb d_Model_count_61 rfl hl (by decide) rfl (fun ls hl => ?_)
        refine lv_iinc (v := 4) (lv' := [(3, .int 4), (2, .int 0), (0, .ref h0), (1, .int 2)]) hx hb d_Model_count_62 hl (k := 1) rfl (by decide) (by decide) rfl (fun ls hl => ?_)
        refine lv_goto (tgt := 36) hx hb d_Model_count_65 (by decide) ?_
        refine lv_iload_n hx hb d_Model_count_36 rfl (lv_at hl 0 rfl) ?_
        refine lv_bipush (v := 6) hx hb d_Model_count_37 (by decide) ?_
        refine lv_icmp_ge (tgt := 68) hx hb d_Model_count_39 (by decide) (fun c_13 => absurd c_13 (by decide)) (fun c_13 => ?_)
        refine lv_aload_n hx hb d_Model_count_42 rfl (lv_at hl 2 rfl) ?_
        refine va_get (D := (dC, dI)) (ci := 20) (v := .ref e3) (C := R_Model) (T := F_Model) (N := 42) hx hb hts (i_Model _) hown hK hP 0 rfl rfl 5 (by decide) (hts _ (List.mem_cons_of_mem _ q_2633)) (fun _ h9 => h9) rfl d_Model_count_43 ?_
        refine lv_iload_n hx hb d_Model_count_46 rfl (lv_at hl 0 rfl) ?_
        refine va_aldq hx hb hK hP 1 0 (i := 4) rfl rfl (vp_in_nI (n := 4) (by decide) (by decide)) d_Model_count_47 ?_
        refine W.eq (g2 := F0 m 48 ls [.ref e48]) rfl ?_
        refine va_getN (D := (dC, dI)) (ci := 19) (v := .int 0) (C := R_MSession) (T := F_MSession) (N := 44) hx hb hts (i_MSession _) hown hK hP 6 rfl rfl 34 (by decide) ((bx_f hN ("SessionServerModel", 195, "SessionServerModel$Session", "wait", "I", "SessionServerModel") (by decide)).use rfl) (fun _ h9 => h9) rfl d_Model_count_48 ?_
        refine lv_if_le (tgt := 60) hx hb d_Model_count_51 (by decide) (fun c_14 => ?_) (fun c_14 => absurd (by decide) c_14)
        refine lv_iload_n hx hb d_Model_count_60 rfl (lv_at hl 1 rfl) ?_
        refine lv_istore_n (lv' := [(2, .int 0), (3, .int 4), (0, .ref h0), (1, .int 2)]) hx hb d_Model_count_61 rfl hl (by decide) rfl (fun ls hl => ?_)
        refine lv_iinc (v := 5) (lv' := [(3, .int 5), (2, .int 0), (0, .ref h0), (1, .int 2)]) hx hb d_Model_count_62 hl (k := 1) rfl (by decide) (by decide) rfl (fun ls hl => ?_)
        refine lv_goto (tgt := 36) hx hb d_Model_count_65 (by decide) ?_
        refine lv_iload_n hx hb d_Model_count_36 rfl (lv_at hl 0 rfl) ?_
        refine lv_bipush (v := 6) hx hb d_Model_count_37 (by decide) ?_
        refine lv_icmp_ge (tgt := 68) hx hb d_Model_count_39 (by decide) (fun c_15 => absurd c_15 (by decide)) (fun c_15 => ?_)
        refine lv_aload_n hx hb d_Model_count_42 rfl (lv_at hl 2 rfl) ?_
        refine va_get (D := (dC, dI)) (ci := 20) (v := .ref e3) (C := R_Model) (T := F_Model) (N := 42) hx hb hts (i_Model _) hown hK hP 0 rfl rfl 5 (by decide) (hts _ (List.mem_cons_of_mem _ q_2633)) (fun _ h9 => h9) rfl d_Model_count_43 ?_
        refine lv_iload_n hx hb d_Model_count_46 rfl (lv_at hl 0 rfl) ?_
        refine va_aldq hx hb hK hP 1 0 (i := 5) rfl rfl (vp_in_nI (n := 5) (by decide) (by decide)) d_Model_count_47 ?_
        refine W.eq (g2 := F0 m 48 ls [.ref e49]) rfl ?_
        refine va_getN (D := (dC, dI)) (ci := 19) (v := .int 0) (C := R_MSession) (T := F_MSession) (N := 44) hx hb hts (i_MSession _) hown hK hP 7 rfl rfl 34 (by decide) ((bx_f hN ("SessionServerModel", 195, "SessionServerModel$Session", "wait", "I", "SessionServerModel") (by decide)).use rfl) (fun _ h9 => h9) rfl d_Model_count_48 ?_
        refine lv_if_le (tgt := 60) hx hb d_Model_count_51 (by decide) (fun c_16 => ?_) (fun c_16 => absurd (by decide) c_16)
        refine lv_iload_n hx hb d_Model_count_60 rfl (lv_at hl 1 rfl) ?_
        refine lv_istore_n (lv' := [(2, .int 0), (3, .int 5), (0, .ref h0), (1, .int 2)]) hx hb d_Model_count_61 rfl hl (by decide) rfl (fun ls hl => ?_)
        refine lv_iinc (v := 6) (lv' := [(3, .int 6), (2, .int 0), (0, .ref h0), (1, .int 2)]) hx hb d_Model_count_62 hl (k := 1) rfl (by decide) (by decide) rfl (fun ls hl => ?_)
        refine lv_goto (tgt := 36) hx hb d_Model_count_65 (by decide) ?_
        refine lv_iload_n hx hb d_Model_count_36 rfl (lv_at hl 0 rfl) ?_
        refine lv_bipush (v := 6) hx hb d_Model_count_37 (by decide) ?_
        refine lv_icmp_ge (tgt := 68) hx hb d_Model_count_39 (by decide) (fun c_17 => ?_) (fun c_17 => absurd (by decide) c_17)
        refine lv_iload_n hx hb d_Model_count_68 rfl (lv_at hl 3 rfl) ?_
        refine lv_if_ne (tgt := 76) hx hb d_Model_count_69 (by decide) (fun c_18 => ?_) (fun c_18 => absurd c_18 (by decide))
        refine lv_iload_n hx hb d_Model_count_76 rfl (lv_at hl 3 rfl) ?_
        refine lv_iconst (v := 1) hx hb d_Model_count_77 (by decide) ?_
        refine lv_icmp_ne (tgt := 88) hx hb d_Model_count_78 (by decide) (fun c_19 => ?_) (fun c_19 => absurd c_19 (by decide))
        refine lv_iload_n hx hb d_Model_count_88 rfl (lv_at hl 3 rfl) ?_
        refine lv_iconst (v := 2) hx hb d_Model_count_89 (by decide) ?_
        refine lv_icmp_ne (tgt := 100) hx hb d_Model_count_90 (by decide) (fun c_20 => absurd c_20 (by decide)) (fun c_20 => ?_)
        refine lv_aload_n hx hb d_Model_count_93 rfl (lv_at hl 2 rfl) ?_
        refine va_get (D := (dC, dI)) (ci := 20) (v := .int 0) (C := R_Model) (T := F_Model) (N := 42) hx hb hts (i_Model _) hown hK hP 0 rfl rfl 8 (by decide) (hts _ (List.mem_cons_of_mem _ q_2636)) (fun _ h9 => h9) rfl d_Model_count_94 ?_
        refine lv_goto (tgt := 156) hx hb d_Model_count_97 (by decide) ?_
        refine W.widen (k := 0) (n := 0) (Nat.le_of_ble_eq_true rfl) (Nat.le_of_ble_eq_true rfl) ?_
        exact W.iret (v := 0) hx hb hr (fun t ht hW => ⟨⟨0, (), rfl, (by decide), va_P.none, va_K.moved hW.alike (hK.sub (tys' := []) [] rfl), va_D.none⟩, hS.F ht⟩) hS.2.2 d_Model_count_156
      · skip
        refine lv_iload_n hx hb d_Model_count_12 rfl (lv_at hl 1 rfl) ?_
        refine lv_bipush (v := 7) hx hb d_Model_count_13 (by decide) ?_
        refine lv_icmp_ne (tgt := 23) hx hb d_Model_count_15 (by decide) (fun c_3 => ?_) (fun c_3 => absurd c_3 (by decide))
        refine lv_aload_n hx hb d_Model_count_23 rfl (lv_at hl 0 rfl) ?_
        refine va_get (D := (dC, dI)) (ci := 20) (v := .int 1) (C := R_Model) (T := F_Model) (N := 42) hx hb hts (i_Model _) hown hK hP 0 rfl rfl 0 (by decide) (hts _ (List.mem_cons_of_mem _ q_2628)) (fun _ h9 => h9) rfl d_Model_count_24 ?_
        refine lv_if_ne (tgt := 32) hx hb d_Model_count_27 (by decide) (fun c_4 => ?_) (fun c_4 => absurd c_4 (by decide))
        refine lv_iconst (v := 0) hx hb d_Model_count_32 (by decide) ?_
        refine lv_istore_n (lv' := [(2, .int 0), (0, .ref h0), (1, .int 3)]) hx hb d_Model_count_33 rfl hl (by decide) rfl (fun ls hl => ?_)
        refine lv_iconst (v := 0) hx hb d_Model_count_34 (by decide) ?_
        refine lv_istore_n (lv' := [(3, .int 0), (2, .int 0), (0, .ref h0), (1, .int 3)]) hx hb d_Model_count_35 rfl hl (by decide) rfl (fun ls hl => ?_)
        refine lv_iload_n hx hb d_Model_count_36 rfl (lv_at hl 0 rfl) ?_
        refine lv_bipush (v := 6) hx hb d_Model_count_37 (by decide) ?_
        refine lv_icmp_ge (tgt := 68) hx hb d_Model_count_39 (by decide) (fun c_5 => absurd c_5 (by decide)) (fun c_5 => ?_)
        refine lv_aload_n hx hb d_Model_count_42 rfl (lv_at hl 2 rfl) ?_
        refine va_get (D := (dC, dI)) (ci := 20) (v := .ref e3) (C := R_Model) (T := F_Model) (N := 42) hx hb hts (i_Model _) hown hK hP 0 rfl rfl 5 (by decide) (hts _ (List.mem_cons_of_mem _ q_2633)) (fun _ h9 => h9) rfl d_Model_count_43 ?_
        refine lv_iload_n hx hb d_Model_count_46 rfl (lv_at hl 0 rfl) ?_
        refine va_aldq hx hb hK hP 1 0 (i := 0) rfl rfl (vp_in_nI (n := 0) (by decide) (by decide)) d_Model_count_47 ?_
        refine W.eq (g2 := F0 m 48 ls [.ref e44]) rfl ?_
        refine va_getN (D := (dC, dI)) (ci := 19) (v := .int 0) (C := R_MSession) (T := F_MSession) (N := 44) hx hb hts (i_MSession _) hown hK hP 2 rfl rfl 34 (by decide) ((bx_f hN ("SessionServerModel", 195, "SessionServerModel$Session", "wait", "I", "SessionServerModel") (by decide)).use rfl) (fun _ h9 => h9) rfl d_Model_count_48 ?_
        refine lv_if_le (tgt := 60) hx hb d_Model_count_51 (by decide) (fun c_6 => ?_) (fun c_6 => absurd (by decide) c_6)
        refine lv_iload_n hx hb d_Model_count_60 rfl (lv_at hl 1 rfl) ?_
        refine lv_istore_n (lv' := [(2, .int 0), (3, .int 0), (0, .ref h0), (1, .int 3)]) hx hb d_Model_count_61 rfl hl (by decide) rfl (fun ls hl => ?_)
        refine lv_iinc (v := 1) (lv' := [(3, .int 1), (2, .int 0), (0, .ref h0), (1, .int 3)]) hx hb d_Model_count_62 hl (k := 1) rfl (by decide) (by decide) rfl (fun ls hl => ?_)
        refine lv_goto (tgt := 36) hx hb d_Model_count_65 (by decide) ?_
        refine lv_iload_n hx hb d_Model_count_36 rfl (lv_at hl 0 rfl) ?_
        refine lv_bipush (v := 6) hx hb d_Model_count_37 (by decide) ?_
        refine lv_icmp_ge (tgt := 68) hx hb d_Model_count_39 (by decide) (fun c_7 => absurd c_7 (by decide)) (fun c_7 => ?_)
        refine lv_aload_n hx hb d_Model_count_42 rfl (lv_at hl 2 rfl) ?_
        refine va_get (D := (dC, dI)) (ci := 20) (v := .ref e3) (C := R_Model) (T := F_Model) (N := 42) hx hb hts (i_Model _) hown hK hP 0 rfl rfl 5 (by decide) (hts _ (List.mem_cons_of_mem _ q_2633)) (fun _ h9 => h9) rfl d_Model_count_43 ?_
        refine lv_iload_n hx hb d_Model_count_46 rfl (lv_at hl 0 rfl) ?_
        refine va_aldq hx hb hK hP 1 0 (i := 1) rfl rfl (vp_in_nI (n := 1) (by decide) (by decide)) d_Model_count_47 ?_
        refine W.eq (g2 := F0 m 48 ls [.ref e45]) rfl ?_
        refine va_getN (D := (dC, dI)) (ci := 19) (v := .int 0) (C := R_MSession) (T := F_MSession) (N := 44) hx hb hts (i_MSession _) hown hK hP 3 rfl rfl 34 (by decide) ((bx_f hN ("SessionServerModel", 195, "SessionServerModel$Session", "wait", "I", "SessionServerModel") (by decide)).use rfl) (fun _ h9 => h9) rfl d_Model_count_48 ?_
        refine lv_if_le (tgt := 60) hx hb d_Model_count_51 (by decide) (fun c_8 => ?_) (fun c_8 => absurd (by decide) c_8)
        refine lv_iload_n hx hb d_Model_count_60 rfl (lv_at hl 1 rfl) ?_
        refine lv_istore_n (lv' := [(2, .int 0), (3, .int 1), (0, .ref h0), (1, .int 3)]) hx hb d_Model_count_61 rfl hl (by decide) rfl (fun ls hl => ?_)
        refine lv_iinc (v := 2) (lv' := [(3, .int 2), (2, .int 0), (0, .ref h0), (1, .int 3)]) hx hb d_Model_count_62 hl (k := 1) rfl (by decide) (by decide) rfl (fun ls hl => ?_)
        refine lv_goto (tgt := 36) hx hb d_Model_count_65 (by decide) ?_
        refine lv_iload_n hx hb d_Model_count_36 rfl (lv_at hl 0 rfl) ?_
        refine lv_bipush (v := 6) hx hb d_Model_count_37 (by decide) ?_
        refine lv_icmp_ge (tgt := 68) hx hb d_Model_count_39 (by decide) (fun c_9 => absurd c_9 (by decide)) (fun c_9 => ?_)
        refine lv_aload_n hx hb d_Model_count_42 rfl (lv_at hl 2 rfl) ?_
        refine va_get (D := (dC, dI)) (ci := 20) (v := .ref e3) (C := R_Model) (T := F_Model) (N := 42) hx hb hts (i_Model _) hown hK hP 0 rfl rfl 5 (by decide) (hts _ (List.mem_cons_of_mem _ q_2633)) (fun _ h9 => h9) rfl d_Model_count_43 ?_
        refine lv_iload_n hx hb d_Model_count_46 rfl (lv_at hl 0 rfl) ?_
        refine va_aldq hx hb hK hP 1 0 (i := 2) rfl rfl (vp_in_nI (n := 2) (by decide) (by decide)) d_Model_count_47 ?_
        refine W.eq (g2 := F0 m 48 ls [.ref e46]) rfl ?_
        refine va_getN (D := (dC, dI)) (ci := 19) (v := .int 0) (C := R_MSession) (T := F_MSession) (N := 44) hx hb hts (i_MSession _) hown hK hP 4 rfl rfl 34 (by decide) ((bx_f hN ("SessionServerModel", 195, "SessionServerModel$Session", "wait", "I", "SessionServerModel") (by decide)).use rfl) (fun _ h9 => h9) rfl d_Model_count_48 ?_
        refine lv_if_le (tgt := 60) hx hb d_Model_count_51 (by decide) (fun c_10 => ?_) (fun c_10 => absurd (by decide) c_10)
        refine lv_iload_n hx hb d_Model_count_60 rfl (lv_at hl 1 rfl) ?_
        refine lv_istore_n (lv' := [(2, .int 0), (3, .int 2), (0, .ref h0), (1, .int 3)]) hx hb d_Model_count_61 rfl hl (by decide) rfl (fun ls hl => ?_)
        refine lv_iinc (v := 3) (lv' := [(3, .int 3), (2, .int 0), (0, .ref h0), (1, .int 3)]) hx hb d_Model_count_62 hl (k := 1) rfl (by decide) (by decide) rfl (fun ls hl => ?_)
        refine lv_goto (tgt := 36) hx hb d_Model_count_65 (by decide) ?_
        refine lv_iload_n hx hb d_Model_count_36 rfl (lv_at hl 0 rfl) ?_
        refine lv_bipush (v := 6) hx hb d_Model_count_37 (by decide) ?_
        refine lv_icmp_ge (tgt := 68) hx hb d_Model_count_39 (by decide) (fun c_11 => absurd c_11 (by decide)) (fun c_11 => ?_)
        refine lv_aload_n hx hb d_Model_count_42 rfl (lv_at hl 2 rfl) ?_
        refine va_get (D := (dC, dI)) (ci := 20) (v := .ref e3) (C := R_Model) (T := F_Model) (N := 42) hx hb hts (i_Model _) hown hK hP 0 rfl rfl 5 (by decide) (hts _ (List.mem_cons_of_mem _ q_2633)) (fun _ h9 => h9) rfl d_Model_count_43 ?_
        refine lv_iload_n hx hb d_Model_count_46 rfl (lv_at hl 0 rfl) ?_
        refine va_aldq hx hb hK hP 1 0 (i := 3) rfl rfl (vp_in_nI (n := 3) (by decide) (by decide)) d_Model_count_47 ?_
        refine W.eq (g2 := F0 m 48 ls [.ref e47]) rfl ?_
        refine va_getN (D := (dC, dI)) (ci := 19) (v := .int 0) (C := R_MSession) (T := F_MSession) (N := 44) hx hb hts (i_MSession _) hown hK hP 5 rfl rfl 34 (by decide) ((bx_f hN ("SessionServerModel", 195, "SessionServerModel$Session", "wait", "I", "SessionServerModel") (by decide)).use rfl) (fun _ h9 => h9) rfl d_Model_count_48 ?_
        refine lv_if_le (tgt := 60) hx hb d_Model_count_51 (by decide) (fun c_12 => ?_) (fun c_12 => absurd (by decide) c_12)
        refine lv_iload_n hx hb d_Model_count_60 rfl (lv_at hl 1 rfl) ?_
        refine lv_istore_n (lv' := [(2, .int 0), (3, .int 3), (0, .ref h0), (1, .int 3)]) hx hb d_Model_count_61 rfl hl (by decide) rfl (fun ls hl => ?_)
        refine lv_iinc (v := 4) (lv' := [(3, .int 4), (2, .int 0), (0, .ref h0), (1, .int 3)]) hx hb d_Model_count_62 hl (k := 1) rfl (by decide) (by decide) rfl (fun ls hl => ?_)
        refine lv_goto (tgt := 36) hx hb d_Model_count_65 (by decide) ?_
        refine lv_iload_n hx hb d_Model_count_36 rfl (lv_at hl 0 rfl) ?_
        refine lv_bipush (v := 6) hx hb d_Model_count_37 (by decide) ?_
        refine lv_icmp_ge (tgt := 68) hx hb d_Model_count_39 (by decide) (fun c_13 => absurd c_13 (by decide)) (fun c_13 => ?_)
        refine lv_aload_n hx hb d_Model_count_42 rfl (lv_at hl 2 rfl) ?_
        refine va_get (D := (dC, dI)) (ci := 20) (v := .ref e3) (C := R_Model) (T := F_Model) (N := 42) hx hb hts (i_Model _) hown hK hP 0 rfl rfl 5 (by decide) (hts _ (List.mem_cons_of_mem _ q_2633)) (fun _ h9 => h9) rfl d_Model_count_43 ?_
        refine lv_iload_n hx hb d_Model_count_46 rfl (lv_at hl 0 rfl) ?_
        refine va_aldq hx hb hK hP 1 0 (i := 4) rfl rfl (vp_in_nI (n := 4) (by decide) (by decide)) d_Model_count_47 ?_
        refine W.eq (g2 := F0 m 48 ls [.ref e48]) rfl ?_
        refine va_getN (D := (dC, dI)) (ci := 19) (v := .int 0) (C := R_MSession) (T := F_MSession) (N := 44) hx hb hts (i_MSession _) hown hK hP 6 rfl rfl 34 (by decide) ((bx_f hN ("SessionServerModel", 195, "SessionServerModel$Session", "wait", "I", "SessionServerModel") (by decide)).use rfl) (fun _ h9 => h9) rfl d_Model_count_48 ?_
        refine lv_if_le (tgt := 60) hx hb d_Model_count_51 (by decide) (fun c_14 => ?_) (fun c_14 => absurd (by decide) c_14)
        refine lv_iload_n hx hb d_Model_count_60 rfl (lv_at hl 1 rfl) ?_
        refine lv_istore_n (lv' := [(2, .int 0), (3, .int 4), (0, .ref h0), (1, .int 3)]) hx hb d_Model_count_61 rfl hl (by decide) rfl (fun ls hl => ?_)
        refine lv_iinc (v := 5) (lv' := [(3, .int 5), (2, .int 0), (0, .ref h0), (1, .int 3)]) hx hb d_Model_count_62 hl (k := 1) rfl (by decide) (by decide) rfl (fun ls hl => ?_)
        refine lv_goto (tgt := 36) hx hb d_Model_count_65 (by decide) ?_
        refine lv_iload_n hx hb d_Model_count_36 rfl (lv_at hl 0 rfl) ?_
        refine lv_bipush (v := 6) hx hb d_Model_count_37 (by decide) ?_
        refine lv_icmp_ge (tgt := 68) hx hb d_Model_count_39 (by decide) (fun c_15 => absurd c_15 (by decide)) (fun c_15 => ?_)
        refine lv_aload_n hx hb d_Model_count_42 rfl (lv_at hl 2 rfl) ?_
        refine va_get (D := (dC, dI)) (ci := 20) (v := .ref e3) (C := R_Model) (T := F_Model) (N := 42) hx hb hts (i_Model _) hown hK hP 0 rfl rfl 5 (by decide) (hts _ (List.mem_cons_of_mem _ q_2633)) (fun _ h9 => h9) rfl d_Model_count_43 ?_
        refine lv_iload_n hx hb d_Model_count_46 rfl (lv_at hl 0 rfl) ?_
        refine va_aldq hx hb hK hP 1 0 (i := 5) rfl rfl (vp_in_nI (n := 5) (by decide) (by decide)) d_Model_count_47 ?_
        refine W.eq (g2 := F0 m 48 ls [.ref e49]) rfl ?_
        refine va_getN (D := (dC, dI)) (ci := 19) (v := .int 0) (C := R_MSession) (T := F_MSession) (N := 44) hx hb hts (i_MSession _) hown hK hP 7 rfl rfl 34 (by decide) ((bx_f hN ("SessionServerModel", 195, "SessionServerModel$Session", "wait", "I", "SessionServerModel") (by decide)).use rfl) (fun _ h9 => h9) rfl d_Model_count_48 ?_
        refine lv_if_le (tgt := 60) hx hb d_Model_count_51 (by decide) (fun c_16 => ?_) (fun c_16 => absurd (by decide) c_16)
        refine lv_iload_n hx hb d_Model_count_60 rfl (lv_at hl 1 rfl) ?_
        refine lv_istore_n (lv' := [(2, .int 0), (3, .int 5), (0, .ref h0), (1, .int 3)]) hx hb d_Model_count_61 rfl hl (by decide) rfl (fun ls hl => ?_)
        refine lv_iinc (v := 6) (lv' := [(3, .int 6), (2, .int 0), (0, .ref h0), (1, .int 3)]) hx hb d_Model_count_62 hl (k := 1) rfl (by decide) (by decide) rfl (fun ls hl => ?_)
        refine lv_goto (tgt := 36) hx hb d_Model_count_65 (by decide) ?_
        refine lv_iload_n hx hb d_Model_count_36 rfl (lv_at hl 0 rfl) ?_
        refine lv_bipush (v := 6) hx hb d_Model_count_37 (by decide) ?_
        refine lv_icmp_ge (tgt := 68) hx hb d_Model_count_39 (by decide) (fun c_17 => ?_) (fun c_17 => absurd (by decide) c_17)
        refine lv_iload_n hx hb d_Model_count_68 rfl (lv_at hl 3 rfl) ?_
        refine lv_if_ne (tgt := 76) hx hb d_Model_count_69 (by decide) (fun c_18 => ?_) (fun c_18 => absurd c_18 (by decide))
        refine lv_iload_n hx hb d_Model_count_76 rfl (lv_at hl 3 rfl) ?_
        refine lv_iconst (v := 1) hx hb d_Model_count_77 (by decide) ?_
        refine lv_icmp_ne (tgt := 88) hx hb d_Model_count_78 (by decide) (fun c_19 => ?_) (fun c_19 => absurd c_19 (by decide))
        refine lv_iload_n hx hb d_Model_count_88 rfl (lv_at hl 3 rfl) ?_
        refine lv_iconst (v := 2) hx hb d_Model_count_89 (by decide) ?_
        refine lv_icmp_ne (tgt := 100) hx hb d_Model_count_90 (by decide) (fun c_20 => ?_) (fun c_20 => absurd c_20 (by decide))
        refine lv_iload_n hx hb d_Model_count_100 rfl (lv_at hl 3 rfl) ?_
        refine lv_iconst (v := 3) hx hb d_Model_count_101 (by decide) ?_
        refine lv_icmp_ne (tgt := 112) hx hb d_Model_count_102 (by decide) (fun c_21 => absurd c_21 (by decide)) (fun c_21 => ?_)
        refine lv_aload_n hx hb d_Model_count_105 rfl (lv_at hl 2 rfl) ?_
        refine va_get (D := (dC, dI)) (ci := 20) (v := .int 0) (C := R_Model) (T := F_Model) (N := 42) hx hb hts (i_Model _) hown hK hP 0 rfl rfl 18 (by decide) (hts _ (List.mem_cons_of_mem _ q_2646)) (fun _ h9 => h9) rfl d_Model_count_106 ?_
        refine lv_goto (tgt := 156) hx hb d_Model_count_109 (by decide) ?_
        refine W.widen (k := 0) (n := 0) (Nat.le_of_ble_eq_true rfl) (Nat.le_of_ble_eq_true rfl) ?_
        exact W.iret (v := 0) hx hb hr (fun t ht hW => ⟨⟨0, (), rfl, (by decide), va_P.none, va_K.moved hW.alike (hK.sub (tys' := []) [] rfl), va_D.none⟩, hS.F ht⟩) hS.2.2 d_Model_count_156
      · skip
        refine lv_iload_n hx hb d_Model_count_12 rfl (lv_at hl 1 rfl) ?_
        refine lv_bipush (v := 7) hx hb d_Model_count_13 (by decide) ?_
        refine lv_icmp_ne (tgt := 23) hx hb d_Model_count_15 (by decide) (fun c_3 => ?_) (fun c_3 => absurd c_3 (by decide))
        refine lv_aload_n hx hb d_Model_count_23 rfl (lv_at hl 0 rfl) ?_
        refine va_get (D := (dC, dI)) (ci := 20) (v := .int 1) (C := R_Model) (T := F_Model) (N := 42) hx hb hts (i_Model _) hown hK hP 0 rfl rfl 0 (by decide) (hts _ (List.mem_cons_of_mem _ q_2628)) (fun _ h9 => h9) rfl d_Model_count_24 ?_
        refine lv_if_ne (tgt := 32) hx hb d_Model_count_27 (by decide) (fun c_4 => ?_) (fun c_4 => absurd c_4 (by decide))
        refine lv_iconst (v := 0) hx hb d_Model_count_32 (by decide) ?_
        refine lv_istore_n (lv' := [(2, .int 0), (0, .ref h0), (1, .int 4)]) hx hb d_Model_count_33 rfl hl (by decide) rfl (fun ls hl => ?_)
        refine lv_iconst (v := 0) hx hb d_Model_count_34 (by decide) ?_
        refine lv_istore_n (lv' := [(3, .int 0), (2, .int 0), (0, .ref h0), (1, .int 4)]) hx hb d_Model_count_35 rfl hl (by decide) rfl (fun ls hl => ?_)
        refine lv_iload_n hx hb d_Model_count_36 rfl (lv_at hl 0 rfl) ?_
        refine lv_bipush (v := 6) hx hb d_Model_count_37 (by decide) ?_
        refine lv_icmp_ge (tgt := 68) hx hb d_Model_count_39 (by decide) (fun c_5 => absurd c_5 (by decide)) (fun c_5 => ?_)
        refine lv_aload_n hx hb d_Model_count_42 rfl (lv_at hl 2 rfl) ?_
        refine va_get (D := (dC, dI)) (ci := 20) (v := .ref e3) (C := R_Model) (T := F_Model) (N := 42) hx hb hts (i_Model _) hown hK hP 0 rfl rfl 5 (by decide) (hts _ (List.mem_cons_of_mem _ q_2633)) (fun _ h9 => h9) rfl d_Model_count_43 ?_
        refine lv_iload_n hx hb d_Model_count_46 rfl (lv_at hl 0 rfl) ?_
        refine va_aldq hx hb hK hP 1 0 (i := 0) rfl rfl (vp_in_nI (n := 0) (by decide) (by decide)) d_Model_count_47 ?_
        refine W.eq (g2 := F0 m 48 ls [.ref e44]) rfl ?_
        refine va_getN (D := (dC, dI)) (ci := 19) (v := .int 0) (C := R_MSession) (T := F_MSession) (N := 44) hx hb hts (i_MSession _) hown hK hP 2 rfl rfl 34 (by decide) ((bx_f hN ("SessionServerModel", 195, "SessionServerModel$Session", "wait", "I", "SessionServerModel") (by decide)).use rfl) (fun _ h9 => h9) rfl d_Model_count_48 ?_
        refine lv_if_le (tgt := 60) hx hb d_Model_count_51 (by decide) (fun c_6 => ?_) (fun c_6 => absurd (by decide) c_6)
        refine lv_iload_n hx hb d_Model_count_60 rfl (lv_at hl 1 rfl) ?_
        refine lv_istore_n (lv' := [(2, .int 0), (3, .int 0), (0, .ref h0), (1, .int 4)]) hx hb d_Model_count_61 rfl hl (by decide) rfl (fun ls hl => ?_)
        refine lv_iinc (v := 1) (lv' := [(3, .int 1), (2, .int 0), (0, .ref h0), (1, .int 4)]) hx hb d_Model_count_62 hl (k := 1) rfl (by decide) (by decide) rfl (fun ls hl => ?_)
        refine lv_goto (tgt := 36) hx hb d_Model_count_65 (by decide) ?_
        refine lv_iload_n hx hb d_Model_count_36 rfl (lv_at hl 0 rfl) ?_
        refine lv_bipush (v := 6) hx hb d_Model_count_37 (by decide) ?_
        refine lv_icmp_ge (tgt := 68) hx hb d_Model_count_39 (by decide) (fun c_7 => absurd c_7 (by decide)) (fun c_7 => ?_)
        refine lv_aload_n hx hb d_Model_count_42 rfl (lv_at hl 2 rfl) ?_
        refine va_get (D := (dC, dI)) (ci := 20) (v := .ref e3) (C := R_Model) (T := F_Model) (N := 42) hx hb hts (i_Model _) hown hK hP 0 rfl rfl 5 (by decide) (hts _ (List.mem_cons_of_mem _ q_2633)) (fun _ h9 => h9) rfl d_Model_count_43 ?_
        refine lv_iload_n hx hb d_Model_count_46 rfl (lv_at hl 0 rfl) ?_
        refine va_aldq hx hb hK hP 1 0 (i := 1) rfl rfl (vp_in_nI (n := 1) (by decide) (by decide)) d_Model_count_47 ?_
        refine W.eq (g2 := F0 m 48 ls [.ref e45]) rfl ?_
        refine va_getN (D := (dC, dI)) (ci := 19) (v := .int 0) (C := R_MSession) (T := F_MSession) (N := 44) hx hb hts (i_MSession _) hown hK hP 3 rfl rfl 34 (by decide) ((bx_f hN ("SessionServerModel", 195, "SessionServerModel$Session", "wait", "I", "SessionServerModel") (by decide)).use rfl) (fun _ h9 => h9) rfl d_Model_count_48 ?_
        refine lv_if_le (tgt := 60) hx hb d_Model_count_51 (by decide) (fun c_8 => ?_) (fun c_8 => absurd (by decide) c_8)
        refine lv_iload_n hx hb d_Model_count_60 rfl (lv_at hl 1 rfl) ?_
        refine lv_istore_n (lv' := [(2, .int 0), (3, .int 1), (0, .ref h0), (1, .int 4)]) hx hb d_Model_count_61 rfl hl (by decide) rfl (fun ls hl => ?_)
        refine lv_iinc (v := 2) (lv' := [(3, .int 2), (2, .int 0), (0, .ref h0), (1, .int 4)]) hx hb d_Model_count_62 hl (k := 1) rfl (by decide) (by decide) rfl (fun ls hl => ?_)
        refine lv_goto (tgt := 36) hx hb d_Model_count_65 (by decide) ?_
        refine lv_iload_n hx hb d_Model_count_36 rfl (lv_at hl 0 rfl) ?_
        refine lv_bipush (v := 6) hx hb d_Model_count_37 (by decide) ?_
        refine lv_icmp_ge (tgt := 68) hx hb d_Model_count_39 (by decide) (fun c_9 => absurd c_9 (by decide)) (fun c_9 => ?_)
        refine lv_aload_n hx hb d_Model_count_42 rfl (lv_at hl 2 rfl) ?_
        refine va_get (D := (dC, dI)) (ci := 20) (v := .ref e3) (C := R_Model) (T := F_Model) (N := 42) hx hb hts (i_Model _) hown hK hP 0 rfl rfl 5 (by decide) (hts _ (List.mem_cons_of_mem _ q_2633)) (fun _ h9 => h9) rfl d_Model_count_43 ?_
        refine lv_iload_n hx hb d_Model_count_46 rfl (lv_at hl 0 rfl) ?_
        refine va_aldq hx hb hK hP 1 0 (i := 2) rfl rfl (vp_in_nI (n := 2) (by decide) (by decide)) d_Model_count_47 ?_
        refine W.eq (g2 := F0 m 48 ls [.ref e46]) rfl ?_
        refine va_getN (D := (dC, dI)) (ci := 19) (v := .int 0) (C := R_MSession) (T := F_MSession) (N := 44) hx hb hts (i_MSession _) hown hK hP 4 rfl rfl 34 (by decide) ((bx_f hN ("SessionServerModel", 195, "SessionServerModel$Session", "wait", "I", "SessionServerModel") (by decide)).use rfl) (fun _ h9 => h9) rfl d_Model_count_48 ?_
        refine lv_if_le (tgt := 60) hx hb d_Model_count_51 (by decide) (fun c_10 => ?_) (fun c_10 => absurd (by decide) c_10)
        refine lv_iload_n hx hb d_Model_count_60 rfl (lv_at hl 1 rfl) ?_
        refine lv_istore_n (lv' := [(2, .int 0), (3, .int 2), (0, .ref h0), (1, .int 4)]) hx hb d_Model_count_61 rfl hl (by decide) rfl (fun ls hl => ?_)
        refine lv_iinc (v := 3) (lv' := [(3, .int 3), (2, .int 0), (0, .ref h0), (1, .int 4)]) hx hb d_Model_count_62 hl (k := 1) rfl (by decide) (by decide) rfl (fun ls hl => ?_)
        refine lv_goto (tgt := 36) hx hb d_Model_count_65 (by decide) ?_
        refine lv_iload_n hx hb d_Model_count_36 rfl (lv_at hl 0 rfl) ?_
        refine lv_bipush (v := 6) hx hb d_Model_count_37 (by decide) ?_
        refine lv_icmp_ge (tgt := 68) hx hb d_Model_count_39 (by decide) (fun c_11 => absurd c_11 (by decide)) (fun c_11 => ?_)
        refine lv_aload_n hx hb d_Model_count_42 rfl (lv_at hl 2 rfl) ?_
        refine va_get (D := (dC, dI)) (ci := 20) (v := .ref e3) (C := R_Model) (T := F_Model) (N := 42) hx hb hts (i_Model _) hown hK hP 0 rfl rfl 5 (by decide) (hts _ (List.mem_cons_of_mem _ q_2633)) (fun _ h9 => h9) rfl d_Model_count_43 ?_
        refine lv_iload_n hx hb d_Model_count_46 rfl (lv_at hl 0 rfl) ?_
        refine va_aldq hx hb hK hP 1 0 (i := 3) rfl rfl (vp_in_nI (n := 3) (by decide) (by decide)) d_Model_count_47 ?_
        refine W.eq (g2 := F0 m 48 ls [.ref e47]) rfl ?_
        refine va_getN (D := (dC, dI)) (ci := 19) (v := .int 0) (C := R_MSession) (T := F_MSession) (N := 44) hx hb hts (i_MSession _) hown hK hP 5 rfl rfl 34 (by decide) ((bx_f hN ("SessionServerModel", 195, "SessionServerModel$Session", "wait", "I", "SessionServerModel") (by decide)).use rfl) (fun _ h9 => h9) rfl d_Model_count_48 ?_
        refine lv_if_le (tgt := 60) hx hb d_Model_count_51 (by decide) (fun c_12 => ?_) (fun c_12 => absurd (by decide) c_12)
        refine lv_iload_n hx hb d_Model_count_60 rfl (lv_at hl 1 rfl) ?_
        refine lv_istore_n (lv' := [(2, .int 0), (3, .int 3), (0, .ref h0), (1, .int 4)]) hx hb d_Model_count_61 rfl hl (by decide) rfl (fun ls hl => ?_)
        refine lv_iinc (v := 4) (lv' := [(3, .int 4), (2, .int 0), (0, .ref h0), (1, .int 4)]) hx hb d_Model_count_62 hl (k := 1) rfl (by decide) (by decide) rfl (fun ls hl => ?_)
        refine lv_goto (tgt := 36) hx hb d_Model_count_65 (by decide) ?_
        refine lv_iload_n hx hb d_Model_count_36 rfl (lv_at hl 0 rfl) ?_
        refine lv_bipush (v := 6) hx hb d_Model_count_37 (by decide) ?_
        refine lv_icmp_ge (tgt := 68) hx hb d_Model_count_39 (by decide) (fun c_13 => absurd c_13 (by decide)) (fun c_13 => ?_)
        refine lv_aload_n hx hb d_Model_count_42 rfl (lv_at hl 2 rfl) ?_
        refine va_get (D := (dC, dI)) (ci := 20) (v := .ref e3) (C := R_Model) (T := F_Model) (N := 42) hx hb hts (i_Model _) hown hK hP 0 rfl rfl 5 (by decide) (hts _ (List.mem_cons_of_mem _ q_2633)) (fun _ h9 => h9) rfl d_Model_count_43 ?_
        refine lv_iload_n hx hb d_Model_count_46 rfl (lv_at hl 0 rfl) ?_
        refine va_aldq hx hb hK hP 1 0 (i := 4) rfl rfl (vp_in_nI (n := 4) (by decide) (by decide)) d_Model_count_47 ?_
        refine W.eq (g2 := F0 m 48 ls [.ref e48]) rfl ?_
        refine va_getN (D := (dC, dI)) (ci := 19) (v := .int 0) (C := R_MSession) (T := F_MSession) (N := 44) hx hb hts (i_MSession _) hown hK hP 6 rfl rfl 34 (by decide) ((bx_f hN ("SessionServerModel", 195, "SessionServerModel$Session", "wait", "I", "SessionServerModel") (by decide)).use rfl) (fun _ h9 => h9) rfl d_Model_count_48 ?_
        refine lv_if_le (tgt := 60) hx hb d_Model_count_51 (by decide) (fun c_14 => ?_) (fun c_14 => absurd (by decide) c_14)
        refine lv_iload_n hx hb d_Model_count_60 rfl (lv_at hl 1 rfl) ?_
        refine lv_istore_n (lv' := [(2, .int 0), (3, .int 4), (0, .ref h0), (1, .int 4)]) hx hb d_Model_count_61 rfl hl (by decide) rfl (fun ls hl => ?_)
        refine lv_iinc (v := 5) (lv' := [(3, .int 5), (2, .int 0), (0, .ref h0), (1, .int 4)]) hx hb d_Model_count_62 hl (k := 1) rfl (by decide) (by decide) rfl (fun ls hl => ?_)
        refine lv_goto (tgt := 36) hx hb d_Model_count_65 (by decide) ?_
        refine lv_iload_n hx hb d_Model_count_36 rfl (lv_at hl 0 rfl) ?_
        refine lv_bipush (v := 6) hx hb d_Model_count_37 (by decide) ?_
        refine lv_icmp_ge (tgt := 68) hx hb d_Model_count_39 (by decide) (fun c_15 => absurd c_15 (by decide)) (fun c_15 => ?_)
        refine lv_aload_n hx hb d_Model_count_42 rfl (lv_at hl 2 rfl) ?_
        refine va_get (D := (dC, dI)) (ci := 20) (v := .ref e3) (C := R_Model) (T := F_Model) (N := 42) hx hb hts (i_Model _) hown hK hP 0 rfl rfl 5 (by decide) (hts _ (List.mem_cons_of_mem _ q_2633)) (fun _ h9 => h9) rfl d_Model_count_43 ?_
        refine lv_iload_n hx hb d_Model_count_46 rfl (lv_at hl 0 rfl) ?_
        refine va_aldq hx hb hK hP 1 0 (i := 5) rfl rfl (vp_in_nI (n := 5) (by decide) (by decide)) d_Model_count_47 ?_
        refine W.eq (g2 := F0 m 48 ls [.ref e49]) rfl ?_
        refine va_getN (D := (dC, dI)) (ci := 19) (v := .int 0) (C := R_MSession) (T := F_MSession) (N := 44) hx hb hts (i_MSession _) hown hK hP 7 rfl rfl 34 (by decide) ((bx_f hN ("SessionServerModel", 195, "SessionServerModel$Session", "wait", "I", "SessionServerModel") (by decide)).use rfl) (fun _ h9 => h9) rfl d_Model_count_48 ?_
        refine lv_if_le (tgt := 60) hx hb d_Model_count_51 (by decide) (fun c_16 => ?_) (fun c_16 => absurd (by decide) c_16)
        refine lv_iload_n hx hb d_Model_count_60 rfl (lv_at hl 1 rfl) ?_
        refine lv_istore_n (lv' := [(2, .int 0), (3, .int 5), (0, .ref h0), (1, .int 4)]) hx hb d_Model_count_61 rfl hl (by decide) rfl (fun ls hl => ?_)
        refine lv_iinc (v := 6) (lv' := [(3, .int 6), (2, .int 0), (0, .ref h0), (1, .int 4)]) hx hb d_Model_count_62 hl (k := 1) rfl (by decide) (by decide) rfl (fun ls hl => ?_)
        refine lv_goto (tgt := 36) hx hb d_Model_count_65 (by decide) ?_
        refine lv_iload_n hx hb d_Model_count_36 rfl (lv_at hl 0 rfl) ?_
        refine lv_bipush (v := 6) hx hb d_Model_count_37 (by decide) ?_
        refine lv_icmp_ge (tgt := 68) hx hb d_Model_count_39 (by decide) (fun c_17 => ?_) (fun c_17 => absurd (by decide) c_17)
        refine lv_iload_n hx hb d_Model_count_68 rfl (lv_at hl 3 rfl) ?_
        refine lv_if_ne (tgt := 76) hx hb d_Model_count_69 (by decide) (fun c_18 => ?_) (fun c_18 => absurd c_18 (by decide))
        refine lv_iload_n hx hb d_Model_count_76 rfl (lv_at hl 3 rfl) ?_
        refine lv_iconst (v := 1) hx hb d_Model_count_77 (by decide) ?_
        refine lv_icmp_ne (tgt := 88) hx hb d_Model_count_78 (by decide) (fun c_19 => ?_) (fun c_19 => absurd c_19 (by decide))
        refine lv_iload_n hx hb d_Model_count_88 rfl (lv_at hl 3 rfl) ?_
        refine lv_iconst (v := 2) hx hb d_Model_count_89 (by decide) ?_
        refine lv_icmp_ne (tgt := 100) hx hb d_Model_count_90 (by decide) (fun c_20 => ?_) (fun c_20 => absurd c_20 (by decide))
        refine lv_iload_n hx hb d_Model_count_100 rfl (lv_at hl 3 rfl) ?_
        refine lv_iconst (v := 3) hx hb d_Model_count_101 (by decide) ?_
        refine lv_icmp_ne (tgt := 112) hx hb d_Model_count_102 (by decide) (fun c_21 => ?_) (fun c_21 => absurd c_21 (by decide))
        refine lv_iload_n hx hb d_Model_count_112 rfl (lv_at hl 3 rfl) ?_
        refine lv_iconst (v := 4) hx hb d_Model_count_113 (by decide) ?_
        refine lv_icmp_ne (tgt := 124) hx hb d_Model_count_114 (by decide) (fun c_22 => absurd c_22 (by decide)) (fun c_22 => ?_)
        refine lv_aload_n hx hb d_Model_count_117 rfl (lv_at hl 2 rfl) ?_
        refine va_get (D := (dC, dI)) (ci := 20) (v := .int 0) (C := R_Model) (T := F_Model) (N := 42) hx hb hts (i_Model _) hown hK hP 0 rfl rfl 19 (by decide) (hts _ (List.mem_cons_of_mem _ q_2647)) (fun _ h9 => h9) rfl d_Model_count_118 ?_
        refine lv_goto (tgt := 156) hx hb d_Model_count_121 (by decide) ?_
        refine W.widen (k := 0) (n := 0) (Nat.le_of_ble_eq_true rfl) (Nat.le_of_ble_eq_true rfl) ?_
        exact W.iret (v := 0) hx hb hr (fun t ht hW => ⟨⟨0, (), rfl, (by decide), va_P.none, va_K.moved hW.alike (hK.sub (tys' := []) [] rfl), va_D.none⟩, hS.F ht⟩) hS.2.2 d_Model_count_156
      · skip
        refine lv_iload_n hx hb d_Model_count_12 rfl (lv_at hl 1 rfl) ?_
        refine lv_bipush (v := 7) hx hb d_Model_count_13 (by decide) ?_
        refine lv_icmp_ne (tgt := 23) hx hb d_Model_count_15 (by decide) (fun c_3 => ?_) (fun c_3 => absurd c_3 (by decide))
        refine lv_aload_n hx hb d_Model_count_23 rfl (lv_at hl 0 rfl) ?_
        refine va_get (D := (dC, dI)) (ci := 20) (v := .int 1) (C := R_Model) (T := F_Model) (N := 42) hx hb hts (i_Model _) hown hK hP 0 rfl rfl 0 (by decide) (hts _ (List.mem_cons_of_mem _ q_2628)) (fun _ h9 => h9) rfl d_Model_count_24 ?_
        refine lv_if_ne (tgt := 32) hx hb d_Model_count_27 (by decide) (fun c_4 => ?_) (fun c_4 => absurd c_4 (by decide))
        refine lv_iconst (v := 0) hx hb d_Model_count_32 (by decide) ?_
        refine lv_istore_n (lv' := [(2, .int 0), (0, .ref h0), (1, .int 5)]) hx hb d_Model_count_33 rfl hl (by decide) rfl (fun ls hl => ?_)
        refine lv_iconst (v := 0) hx hb d_Model_count_34 (by decide) ?_
        refine lv_istore_n (lv' := [(3, .int 0), (2, .int 0), (0, .ref h0), (1, .int 5)]) hx hb d_Model_count_35 rfl hl (by decide) rfl (fun ls hl => ?_)
        refine lv_iload_n hx hb d_Model_count_36 rfl (lv_at hl 0 rfl) ?_
        refine lv_bipush (v := 6) hx hb d_Model_count_37 (by decide) ?_
        refine lv_icmp_ge (tgt := 68) hx hb d_Model_count_39 (by decide) (fun c_5 => absurd c_5 (by decide)) (fun c_5 => ?_)
        refine lv_aload_n hx hb d_Model_count_42 rfl (lv_at hl 2 rfl) ?_
        refine va_get (D := (dC, dI)) (ci := 20) (v := .ref e3) (C := R_Model) (T := F_Model) (N := 42) hx hb hts (i_Model _) hown hK hP 0 rfl rfl 5 (by decide) (hts _ (List.mem_cons_of_mem _ q_2633)) (fun _ h9 => h9) rfl d_Model_count_43 ?_
        refine lv_iload_n hx hb d_Model_count_46 rfl (lv_at hl 0 rfl) ?_
        refine va_aldq hx hb hK hP 1 0 (i := 0) rfl rfl (vp_in_nI (n := 0) (by decide) (by decide)) d_Model_count_47 ?_
        refine W.eq (g2 := F0 m 48 ls [.ref e44]) rfl ?_
        refine va_getN (D := (dC, dI)) (ci := 19) (v := .int 0) (C := R_MSession) (T := F_MSession) (N := 44) hx hb hts (i_MSession _) hown hK hP 2 rfl rfl 34 (by decide) ((bx_f hN ("SessionServerModel", 195, "SessionServerModel$Session", "wait", "I", "SessionServerModel") (by decide)).use rfl) (fun _ h9 => h9) rfl d_Model_count_48 ?_
        refine lv_if_le (tgt := 60) hx hb d_Model_count_51 (by decide) (fun c_6 => ?_) (fun c_6 => absurd (by decide) c_6)
        refine lv_iload_n hx hb d_Model_count_60 rfl (lv_at hl 1 rfl) ?_
        refine lv_istore_n (lv' := [(2, .int 0), (3, .int 0), (0, .ref h0), (1, .int 5)]) hx hb d_Model_count_61 rfl hl (by decide) rfl (fun ls hl => ?_)
        refine lv_iinc (v := 1) (lv' := [(3, .int 1), (2, .int 0), (0, .ref h0), (1, .int 5)]) hx hb d_Model_count_62 hl (k := 1) rfl (by decide) (by decide) rfl (fun ls hl => ?_)
        refine lv_goto (tgt := 36) hx hb d_Model_count_65 (by decide) ?_
        refine lv_iload_n hx hb d_Model_count_36 rfl (lv_at hl 0 rfl) ?_
        refine lv_bipush (v := 6) hx hb d_Model_count_37 (by decide) ?_
        refine lv_icmp_ge (tgt := 68) hx hb d_Model_count_39 (by decide) (fun c_7 => absurd c_7 (by decide)) (fun c_7 => ?_)
        refine lv_aload_n hx hb d_Model_count_42 rfl (lv_at hl 2 rfl) ?_
        refine va_get (D := (dC, dI)) (ci := 20) (v := .ref e3) (C := R_Model) (T := F_Model) (N := 42) hx hb hts (i_Model _) hown hK hP 0 rfl rfl 5 (by decide) (hts _ (List.mem_cons_of_mem _ q_2633)) (fun _ h9 => h9) rfl d_Model_count_43 ?_
        refine lv_iload_n hx hb d_Model_count_46 rfl (lv_at hl 0 rfl) ?_
        refine va_aldq hx hb hK hP 1 0 (i := 1) rfl rfl (vp_in_nI (n := 1) (by decide) (by decide)) d_Model_count_47 ?_
        refine W.eq (g2 := F0 m 48 ls [.ref e45]) rfl ?_
        refine va_getN (D := (dC, dI)) (ci := 19) (v := .int 0) (C := R_MSession) (T := F_MSession) (N := 44) hx hb hts (i_MSession _) hown hK hP 3 rfl rfl 34 (by decide) ((bx_f hN ("SessionServerModel", 195, "SessionServerModel$Session", "wait", "I", "SessionServerModel") (by decide)).use rfl) (fun _ h9 => h9) rfl d_Model_count_48 ?_
        refine lv_if_le (tgt := 60) hx hb d_Model_count_51 (by decide) (fun c_8 => ?_) (fun c_8 => absurd (by decide) c_8)
        refine lv_iload_n hx hb d_Model_count_60 rfl (lv_at hl 1 rfl) ?_
        refine lv_istore_n (lv' := [(2, .int 0), (3, .int 1), (0, .ref h0), (1, .int 5)]) hx hb d_Model_count_61 rfl hl (by decide) rfl (fun ls hl => ?_)
        refine lv_iinc (v := 2) (lv' := [(3, .int 2), (2, .int 0), (0, .ref h0), (1, .int 5)]) hx hb d_Model_count_62 hl (k := 1) rfl (by decide) (by decide) rfl (fun ls hl => ?_)
        refine lv_goto (tgt := 36) hx hb d_Model_count_65 (by decide) ?_
        refine lv_iload_n hx hb d_Model_count_36 rfl (lv_at hl 0 rfl) ?_
        refine lv_bipush (v := 6) hx hb d_Model_count_37 (by decide) ?_
        refine lv_icmp_ge (tgt := 68) hx hb d_Model_count_39 (by decide) (fun c_9 => absurd c_9 (by decide)) (fun c_9 => ?_)
        refine lv_aload_n hx hb d_Model_count_42 rfl (lv_at hl 2 rfl) ?_
        refine va_get (D := (dC, dI)) (ci := 20) (v := .ref e3) (C := R_Model) (T := F_Model) (N := 42) hx hb hts (i_Model _) hown hK hP 0 rfl rfl 5 (by decide) (hts _ (List.mem_cons_of_mem _ q_2633)) (fun _ h9 => h9) rfl d_Model_count_43 ?_
        refine lv_iload_n hx hb d_Model_count_46 rfl (lv_at hl 0 rfl) ?_
        refine va_aldq hx hb hK hP 1 0 (i := 2) rfl rfl (vp_in_nI (n := 2) (by decide) (by decide)) d_Model_count_47 ?_
        refine W.eq (g2 := F0 m 48 ls [.ref e46]) rfl ?_
        refine va_getN (D := (dC, dI)) (ci := 19) (v := .int 0) (C := R_MSession) (T := F_MSession) (N := 44) hx hb hts (i_MSession _) hown hK hP 4 rfl rfl 34 (by decide) ((bx_f hN ("SessionServerModel", 195, "SessionServerModel$Session", "wait", "I", "SessionServerModel") (by decide)).use rfl) (fun _ h9 => h9) rfl d_Model_count_48 ?_
        refine lv_if_le (tgt := 60) hx hb d_Model_count_51 (by decide) (fun c_10 => ?_) (fun c_10 => absurd (by decide) c_10)
        refine lv_iload_n hx hb d_Model_count_60 rfl (lv_at hl 1 rfl) ?_
        refine lv_istore_n (lv' := [(2, .int 0), (3, .int 2), (0, .ref h0), (1, .int 5)]) hx hb d_Model_count_61 rfl hl (by decide) rfl (fun ls hl => ?_)
        refine lv_iinc (v := 3) (lv' := [(3, .int 3), (2, .int 0), (0, .ref h0), (1, .int 5)]) hx hb d_Model_count_62 hl (k := 1) rfl (by decide) (by decide) rfl (fun ls hl => ?_)
        refine lv_goto (tgt := 36) hx hb d_Model_count_65 (by decide) ?_
        refine lv_iload_n hx hb d_Model_count_36 rfl (lv_at hl 0 rfl) ?_
        refine lv_bipush (v := 6) hx hb d_Model_count_37 (by decide) ?_
        refine lv_icmp_ge (tgt := 68) hx hb d_Model_count_39 (by decide) (fun c_11 => absurd c_11 (by decide)) (fun c_11 => ?_)
        refine lv_aload_n hx hb d_Model_count_42 rfl (lv_at hl 2 rfl) ?_
        refine va_get (D := (dC, dI)) (ci := 20) (v := .ref e3) (C := R_Model) (T := F_Model) (N := 42) hx hb hts (i_Model _) hown hK hP 0 rfl rfl 5 (by decide) (hts _ (List.mem_cons_of_mem _ q_2633)) (fun _ h9 => h9) rfl d_Model_count_43 ?_
        refine lv_iload_n hx hb d_Model_count_46 rfl (lv_at hl 0 rfl) ?_
        refine va_aldq hx hb hK hP 1 0 (i := 3) rfl rfl (vp_in_nI (n := 3) (by decide) (by decide)) d_Model_count_47 ?_
        refine W.eq (g2 := F0 m 48 ls [.ref e47]) rfl ?_
        refine va_getN (D := (dC, dI)) (ci := 19) (v := .int 0) (C := R_MSession) (T := F_MSession) (N := 44) hx hb hts (i_MSession _) hown hK hP 5 rfl rfl 34 (by decide) ((bx_f hN ("SessionServerModel", 195, "SessionServerModel$Session", "wait", "I", "SessionServerModel") (by decide)).use rfl) (fun _ h9 => h9) rfl d_Model_count_48 ?_
        refine lv_if_le (tgt := 60) hx hb d_Model_count_51 (by decide) (fun c_12 => ?_) (fun c_12 => absurd (by decide) c_12)
        refine lv_iload_n hx hb d_Model_count_60 rfl (lv_at hl 1 rfl) ?_
        refine lv_istore_n (lv' := [(2, .int 0), (3, .int 3), (0, .ref h0), (1, .int 5)]) hx hb d_Model_count_61 rfl hl (by decide) rfl (fun ls hl => ?_)
        refine lv_iinc (v := 4) (lv' := [(3, .int 4), (2, .int 0), (0, .ref h0), (1, .int 5)]) hx hb d_Model_count_62 hl (k := 1) rfl (by decide) (by decide) rfl (fun ls hl => ?_)
        refine lv_goto (tgt := 36) hx hb d_Model_count_65 (by decide) ?_
        refine lv_iload_n hx hb d_Model_count_36 rfl (lv_at hl 0 rfl) ?_
        refine lv_bipush (v := 6) hx hb d_Model_count_37 (by decide) ?_
        refine lv_icmp_ge (tgt := 68) hx hb d_Model_count_39 (by decide) (fun c_13 => absurd c_13 (by decide)) (fun c_13 => ?_)
        refine lv_aload_n hx hb d_Model_count_42 rfl (lv_at hl 2 rfl) ?_
        refine va_get (D := (dC, dI)) (ci := 20) (v := .ref e3) (C := R_Model) (T := F_Model) (N := 42) hx hb hts (i_Model _) hown hK hP 0 rfl rfl 5 (by decide) (hts _ (List.mem_cons_of_mem _ q_2633)) (fun _ h9 => h9) rfl d_Model_count_43 ?_
        refine lv_iload_n hx hb d_Model_count_46 rfl (lv_at hl 0 rfl) ?_
        refine va_aldq hx hb hK hP 1 0 (i := 4) rfl rfl (vp_in_nI (n := 4) (by decide) (by decide)) d_Model_count_47 ?_
        refine W.eq (g2 := F0 m 48 ls [.ref e48]) rfl ?_
        refine va_getN (D := (dC, dI)) (ci := 19) (v := .int 0) (C := R_MSession) (T := F_MSession) (N := 44) hx hb hts (i_MSession _) hown hK hP 6 rfl rfl 34 (by decide) ((bx_f hN ("SessionServerModel", 195, "SessionServerModel$Session", "wait", "I", "SessionServerModel") (by decide)).use rfl) (fun _ h9 => h9) rfl d_Model_count_48 ?_
        refine lv_if_le (tgt := 60) hx hb d_Model_count_51 (by decide) (fun c_14 => ?_) (fun c_14 => absurd (by decide) c_14)
        refine lv_iload_n hx hb d_Model_count_60 rfl (lv_at hl 1 rfl) ?_
        refine lv_istore_n (lv' := [(2, .int 0), (3, .int 4), (0, .ref h0), (1, .int 5)]) hx hb d_Model_count_61 rfl hl (by decide) rfl (fun ls hl => ?_)
        refine lv_iinc (v := 5) (lv' := [(3, .int 5), (2, .int 0), (0, .ref h0), (1, .int 5)]) hx hb d_Model_count_62 hl (k := 1) rfl (by decide) (by decide) rfl (fun ls hl => ?_)
        refine lv_goto (tgt := 36) hx hb d_Model_count_65 (by decide) ?_
        refine lv_iload_n hx hb d_Model_count_36 rfl (lv_at hl 0 rfl) ?_
        refine lv_bipush (v := 6) hx hb d_Model_count_37 (by decide) ?_
        refine lv_icmp_ge (tgt := 68) hx hb d_Model_count_39 (by decide) (fun c_15 => absurd c_15 (by decide)) (fun c_15 => ?_)
        refine lv_aload_n hx hb d_Model_count_42 rfl (lv_at hl 2 rfl) ?_
        refine va_get (D := (dC, dI)) (ci := 20) (v := .ref e3) (C := R_Model) (T := F_Model) (N := 42) hx hb hts (i_Model _) hown hK hP 0 rfl rfl 5 (by decide) (hts _ (List.mem_cons_of_mem _ q_2633)) (fun _ h9 => h9) rfl d_Model_count_43 ?_
        refine lv_iload_n hx hb d_Model_count_46 rfl (lv_at hl 0 rfl) ?_
        refine va_aldq hx hb hK hP 1 0 (i := 5) rfl rfl (vp_in_nI (n := 5) (by decide) (by decide)) d_Model_count_47 ?_
        refine W.eq (g2 := F0 m 48 ls [.ref e49]) rfl ?_
        refine va_getN (D := (dC, dI)) (ci := 19) (v := .int 0) (C := R_MSession) (T := F_MSession) (N := 44) hx hb hts (i_MSession _) hown hK hP 7 rfl rfl 34 (by decide) ((bx_f hN ("SessionServerModel", 195, "SessionServerModel$Session", "wait", "I", "SessionServerModel") (by decide)).use rfl) (fun _ h9 => h9) rfl d_Model_count_48 ?_
        refine lv_if_le (tgt := 60) hx hb d_Model_count_51 (by decide) (fun c_16 => ?_) (fun c_16 => absurd (by decide) c_16)
        refine lv_iload_n hx hb d_Model_count_60 rfl (lv_at hl 1 rfl) ?_
        refine lv_istore_n (lv' := [(2, .int 0), (3, .int 5), (0, .ref h0), (1, .int 5)]) hx hb d_Model_count_61 rfl hl (by decide) rfl (fun ls hl => ?_)
        refine lv_iinc (v := 6) (lv' := [(3, .int 6), (2, .int 0), (0, .ref h0), (1, .int 5)]) hx hb d_Model_count_62 hl (k := 1) rfl (by decide) (by decide) rfl (fun ls hl => ?_)
        refine lv_goto (tgt := 36) hx hb d_Model_count_65 (by decide) ?_
        refine lv_iload_n hx hb d_Model_count_36 rfl (lv_at hl 0 rfl) ?_
        refine lv_bipush (v := 6) hx hb d_Model_count_37 (by decide) ?_
        refine lv_icmp_ge (tgt := 68) hx hb d_Model_count_39 (by decide) (fun c_17 => ?_) (fun c_17 => absurd (by decide) c_17)
        refine lv_iload_n hx hb d_Model_count_68 rfl (lv_at hl 3 rfl) ?_
        refine lv_if_ne (tgt := 76) hx hb d_Model_count_69 (by decide) (fun c_18 => ?_) (fun c_18 => absurd c_18 (by decide))
        refine lv_iload_n hx hb d_Model_count_76 rfl (lv_at hl 3 rfl) ?_
        refine lv_iconst (v := 1) hx hb d_Model_count_77 (by decide) ?_
        refine lv_icmp_ne (tgt := 88) hx hb d_Model_count_78 (by decide) (fun c_19 => ?_) (fun c_19 => absurd c_19 (by decide))
        refine lv_iload_n hx hb d_Model_count_88 rfl (lv_at hl 3 rfl) ?_
        refine lv_iconst (v := 2) hx hb d_Model_count_89 (by decide) ?_
        refine lv_icmp_ne (tgt := 100) hx hb d_Model_count_90 (by decide) (fun c_20 => ?_) (fun c_20 => absurd c_20 (by decide))
        refine lv_iload_n hx hb d_Model_count_100 rfl (lv_at hl 3 rfl) ?_
        refine lv_iconst (v := 3) hx hb d_Model_count_101 (by decide) ?_
        refine lv_icmp_ne (tgt := 112) hx hb d_Model_count_102 (by decide) (fun c_21 => ?_) (fun c_21 => absurd c_21 (by decide))
        refine lv_iload_n hx hb d_Model_count_112 rfl (lv_at hl 3 rfl) ?_
        refine lv_iconst (v := 4) hx hb d_Model_count_113 (by decide) ?_
        refine lv_icmp_ne (tgt := 124) hx hb d_Model_count_114 (by decide) (fun c_22 => ?_) (fun c_22 => absurd c_22 (by decide))
        refine lv_iload_n hx hb d_Model_count_124 rfl (lv_at hl 3 rfl) ?_
        refine lv_iconst (v := 5) hx hb d_Model_count_125 (by decide) ?_
        refine lv_icmp_ne (tgt := 139) hx hb d_Model_count_126 (by decide) (fun c_23 => absurd c_23 (by decide)) (fun c_23 => ?_)
        refine lv_aload_n hx hb d_Model_count_129 rfl (lv_at hl 2 rfl) ?_
        refine va_get (D := (dC, dI)) (ci := 20) (v := .ref e2) (C := R_Model) (T := F_Model) (N := 42) hx hb hts (i_Model _) hown hK hP 0 rfl rfl 4 (by decide) (hts _ (List.mem_cons_of_mem _ q_2632)) (fun _ h9 => h9) rfl d_Model_count_130 ?_
        have hPc := hP.sub (ws' := [(e2, .inr (13, [.int 0, .ref e31, .ref e32, .ref e33, .ref e34, .ref e35, .ref e36, .ref e37, .ref e38, .int 0, .ref e39, .ref e40, .ref e41])), (e31, .inl (e42, 8, .inl (fun _ => 0)))]) [8, 9] rfl
        have hDc := hD.sub (ws' := [(e2, .inr (13, [.int 0, .ref e31, .ref e32, .ref e33, .ref e34, .ref e35, .ref e36, .ref e37, .ref e38, .int 0, .ref e39, .ref e40, .ref e41])), (e31, .inl (e42, 8, .inl (fun _ => 0)))]) [8, 9] (by decide) rfl
        have hKc := hK.sub (tys' := [(e42, .int)]) [1] rfl
        have hFc := va_free (wc := [(e2, .inr (13, [.int 0, .ref e31, .ref e32, .ref e33, .ref e34, .ref e35, .ref e36, .ref e37, .ref e38, .int 0, .ref e39, .ref e40, .ref e41])), (e31, .inl (e42, 8, .inl (fun _ => 0)))]) hD hS hA [8, 9] rfl
        refine va_calli (va_runV (As := []) (rest := []) ⟨hx, hb, hml, hown, hts⟩ (c_MCatalog_tables l dC dI H.size e2 e31 e32 e33 e34 e35 e36 e37 e38 e39 e40 e41 e42) (cwV 0 hts (gG_goodV q_3851 q_3852 (sel_MCatalog_tables) q_15 q_3854) rfl rfl rfl (by decide +kernel) ⟨Nat.le_of_ble_eq_true rfl, Nat.le_of_ble_eq_true rfl⟩) ⟨fun a U g mk q => by obtain ⟨q0, q1, qP, qK, qD, qN⟩ := q; exact ⟨q0, q1, qP, va_K.moved (u := U) (U := U.calling g mk a) (Vm.Alike.refl U.vm) qK, qD, bx_N.same rfl qN⟩, va_recv hKc hPc (ci := 13) (q0 := 0) rfl rfl, fun U hU hW => ⟨rfl, by rw [hU], by rw [hU]; exact hPc, va_K.moved hW.alike hKc, hDc.weaken (fun _ _ _ _ => trivial), bx_N.warm hW hN⟩⟩ rfl rfl hl.1 rfl (lv_room (Nat.le_of_ble_eq_true rfl)) d_Model_count_133 ⟨Nat.le_of_ble_eq_true rfl, Nat.le_of_ble_eq_true rfl⟩) hS (fun q _ h => hFc q h) hFc (fun r24 u t H1 locs ht hvm hw hB hz1 hk1 hS => ?_)
        subst hw
        obtain ⟨hP1, hK1, hD1⟩ := hB
        rw [ht] at hP1
        have hK1 := va_K.moved hvm.symm hK1
        obtain ⟨hP, hD⟩ := va_join (wr := [(h0, .inr (20, [.int 1, .int (-1), .ref e1, .int 0, .ref e2, .ref e3, .ref e4, .int 0, .int 0, .ref e5, .ref e6, .ref e7, .ref e8, .ref e9, .ref e10, .ref e11, .ref e12, .ref e13, .int 0, .int 0, .ref e14, .ref e15, .ref e16, .ref e17, .int 0, .int 0, .int 0, .ref e18, .int 0, .ref e19, .ref e20, .ref e21, .int 0, .ref e22, .ref e23, .ref e24, .ref e25, .ref e26, .int 0, .ref e27, .ref e28, .ref e29])), (e3, .inl (e43, 6, .inr (.inr (.inr (.inr (va_up (va_up (va_up (va_up (va_up (va_up (fun _ => none) 0 (some e44)) 1 (some e45)) 2 (some e46)) 3 (some e47)) 4 (some e48)) 5 (some e49))))))), (e44, .inr (19, [.int 0, .int 0, .int 0, .int 0, .int 0, .int (-1), .int 0, .int 0, .ref e50, .ref e51, .ref e52, .int 0, .ref e53, .ref e54, .ref e55, .ref e56, .ref e57, .ref e58, .ref e59, .int 0, .ref e60, .ref e61, .int 0, .int 0, .ref e62, .ref e63, .ref e64, .int 0, .int 0, .int 0, .int 0, .int 0, .ref e65, .ref e66, .int 0, .int 0, .int 0, .int 0, .int 0, .int 0, .int 0, .ref e67, .int 0, .int 0])), (e45, .inr (19, [.int 0, .int 0, .int 0, .int 0, .int 0, .int (-1), .int 0, .int 0, .ref e69, .ref e70, .ref e71, .int 0, .ref e72, .ref e73, .ref e74, .ref e75, .ref e76, .ref e77, .ref e78, .int 0, .ref e79, .ref e80, .int 0, .int 0, .ref e81, .ref e82, .ref e83, .int 0, .int 0, .int 0, .int 0, .int 0, .ref e84, .ref e85, .int 0, .int 0, .int 0, .int 0, .int 0, .int 0, .int 0, .ref e86, .int 0, .int 0])), (e46, .inr (19, [.int 0, .int 0, .int 0, .int 0, .int 0, .int (-1), .int 0, .int 0, .ref e88, .ref e89, .ref e90, .int 0, .ref e91, .ref e92, .ref e93, .ref e94, .ref e95, .ref e96, .ref e97, .int 0, .ref e98, .ref e99, .int 0, .int 0, .ref e100, .ref e101, .ref e102, .int 0, .int 0, .int 0, .int 0, .int 0, .ref e103, .ref e104, .int 0, .int 0, .int 0, .int 0, .int 0, .int 0, .int 0, .ref e105, .int 0, .int 0])), (e47, .inr (19, [.int 0, .int 0, .int 0, .int 0, .int 0, .int (-1), .int 0, .int 0, .ref e107, .ref e108, .ref e109, .int 0, .ref e110, .ref e111, .ref e112, .ref e113, .ref e114, .ref e115, .ref e116, .int 0, .ref e117, .ref e118, .int 0, .int 0, .ref e119, .ref e120, .ref e121, .int 0, .int 0, .int 0, .int 0, .int 0, .ref e122, .ref e123, .int 0, .int 0, .int 0, .int 0, .int 0, .int 0, .int 0, .ref e124, .int 0, .int 0])), (e48, .inr (19, [.int 0, .int 0, .int 0, .int 0, .int 0, .int (-1), .int 0, .int 0, .ref e126, .ref e127, .ref e128, .int 0, .ref e129, .ref e130, .ref e131, .ref e132, .ref e133, .ref e134, .ref e135, .int 0, .ref e136, .ref e137, .int 0, .int 0, .ref e138, .ref e139, .ref e140, .int 0, .int 0, .int 0, .int 0, .int 0, .ref e141, .ref e142, .int 0, .int 0, .int 0, .int 0, .int 0, .int 0, .int 0, .ref e143, .int 0, .int 0])), (e49, .inr (19, [.int 0, .int 0, .int 0, .int 0, .int 0, .int (-1), .int 0, .int 0, .ref e145, .ref e146, .ref e147, .int 0, .ref e148, .ref e149, .ref e150, .ref e151, .ref e152, .ref e153, .ref e154, .int 0, .ref e155, .ref e156, .int 0, .int 0, .ref e157, .ref e158, .ref e159, .int 0, .int 0, .int 0, .int 0, .int 0, .ref e160, .ref e161, .int 0, .int 0, .int 0, .int 0, .int 0, .int 0, .int 0, .ref e162, .int 0, .int 0]))]) (w1 := []) hP hD [8, 9] [0, 1, 2, 3, 4, 5, 6, 7] rfl rfl (by decide) (by decide) hk1 hFc hP1 hD1
        have hK := (hK.sub (tys' := [(e43, .object R_MSession)]) [0] rfl).app hK1
        generalize H1 = H at hP hS ⊢
        have hP : va_P (dC, dI) classes [(h0, .inr (20, [.int 1, .int (-1), .ref e1, .int 0, .ref e2, .ref e3, .ref e4, .int 0, .int 0, .ref e5, .ref e6, .ref e7, .ref e8, .ref e9, .ref e10, .ref e11, .ref e12, .ref e13, .int 0, .int 0, .ref e14, .ref e15, .ref e16, .ref e17, .int 0, .int 0, .int 0, .ref e18, .int 0, .ref e19, .ref e20, .ref e21, .int 0, .ref e22, .ref e23, .ref e24, .ref e25, .ref e26, .int 0, .ref e27, .ref e28, .ref e29])), (e3, .inl (e43, 6, .inr (.inr (.inr (.inr (va_up (va_up (va_up (va_up (va_up (va_up (fun _ => none) 0 (some e44)) 1 (some e45)) 2 (some e46)) 3 (some e47)) 4 (some e48)) 5 (some e49))))))), (e44, .inr (19, [.int 0, .int 0, .int 0, .int 0, .int 0, .int (-1), .int 0, .int 0, .ref e50, .ref e51, .ref e52, .int 0, .ref e53, .ref e54, .ref e55, .ref e56, .ref e57, .ref e58, .ref e59, .int 0, .ref e60, .ref e61, .int 0, .int 0, .ref e62, .ref e63, .ref e64, .int 0, .int 0, .int 0, .int 0, .int 0, .ref e65, .ref e66, .int 0, .int 0, .int 0, .int 0, .int 0, .int 0, .int 0, .ref e67, .int 0, .int 0])), (e45, .inr (19, [.int 0, .int 0, .int 0, .int 0, .int 0, .int (-1), .int 0, .int 0, .ref e69, .ref e70, .ref e71, .int 0, .ref e72, .ref e73, .ref e74, .ref e75, .ref e76, .ref e77, .ref e78, .int 0, .ref e79, .ref e80, .int 0, .int 0, .ref e81, .ref e82, .ref e83, .int 0, .int 0, .int 0, .int 0, .int 0, .ref e84, .ref e85, .int 0, .int 0, .int 0, .int 0, .int 0, .int 0, .int 0, .ref e86, .int 0, .int 0])), (e46, .inr (19, [.int 0, .int 0, .int 0, .int 0, .int 0, .int (-1), .int 0, .int 0, .ref e88, .ref e89, .ref e90, .int 0, .ref e91, .ref e92, .ref e93, .ref e94, .ref e95, .ref e96, .ref e97, .int 0, .ref e98, .ref e99, .int 0, .int 0, .ref e100, .ref e101, .ref e102, .int 0, .int 0, .int 0, .int 0, .int 0, .ref e103, .ref e104, .int 0, .int 0, .int 0, .int 0, .int 0, .int 0, .int 0, .ref e105, .int 0, .int 0])), (e47, .inr (19, [.int 0, .int 0, .int 0, .int 0, .int 0, .int (-1), .int 0, .int 0, .ref e107, .ref e108, .ref e109, .int 0, .ref e110, .ref e111, .ref e112, .ref e113, .ref e114, .ref e115, .ref e116, .int 0, .ref e117, .ref e118, .int 0, .int 0, .ref e119, .ref e120, .ref e121, .int 0, .int 0, .int 0, .int 0, .int 0, .ref e122, .ref e123, .int 0, .int 0, .int 0, .int 0, .int 0, .int 0, .int 0, .ref e124, .int 0, .int 0])), (e48, .inr (19, [.int 0, .int 0, .int 0, .int 0, .int 0, .int (-1), .int 0, .int 0, .ref e126, .ref e127, .ref e128, .int 0, .ref e129, .ref e130, .ref e131, .ref e132, .ref e133, .ref e134, .ref e135, .int 0, .ref e136, .ref e137, .int 0, .int 0, .ref e138, .ref e139, .ref e140, .int 0, .int 0, .int 0, .int 0, .int 0, .ref e141, .ref e142, .int 0, .int 0, .int 0, .int 0, .int 0, .int 0, .int 0, .ref e143, .int 0, .int 0])), (e49, .inr (19, [.int 0, .int 0, .int 0, .int 0, .int 0, .int (-1), .int 0, .int 0, .ref e145, .ref e146, .ref e147, .int 0, .ref e148, .ref e149, .ref e150, .ref e151, .ref e152, .ref e153, .ref e154, .int 0, .ref e155, .ref e156, .int 0, .int 0, .ref e157, .ref e158, .ref e159, .int 0, .int 0, .int 0, .int 0, .int 0, .ref e160, .ref e161, .int 0, .int 0, .int 0, .int 0, .int 0, .int 0, .int 0, .ref e162, .int 0, .int 0]))] H := hP
        have hD : va_D A [(h0, .inr (20, [.int 1, .int (-1), .ref e1, .int 0, .ref e2, .ref e3, .ref e4, .int 0, .int 0, .ref e5, .ref e6, .ref e7, .ref e8, .ref e9, .ref e10, .ref e11, .ref e12, .ref e13, .int 0, .int 0, .ref e14, .ref e15, .ref e16, .ref e17, .int 0, .int 0, .int 0, .ref e18, .int 0, .ref e19, .ref e20, .ref e21, .int 0, .ref e22, .ref e23, .ref e24, .ref e25, .ref e26, .int 0, .ref e27, .ref e28, .ref e29])), (e3, .inl (e43, 6, .inr (.inr (.inr (.inr (va_up (va_up (va_up (va_up (va_up (va_up (fun _ => none) 0 (some e44)) 1 (some e45)) 2 (some e46)) 3 (some e47)) 4 (some e48)) 5 (some e49))))))), (e44, .inr (19, [.int 0, .int 0, .int 0, .int 0, .int 0, .int (-1), .int 0, .int 0, .ref e50, .ref e51, .ref e52, .int 0, .ref e53, .ref e54, .ref e55, .ref e56, .ref e57, .ref e58, .ref e59, .int 0, .ref e60, .ref e61, .int 0, .int 0, .ref e62, .ref e63, .ref e64, .int 0, .int 0, .int 0, .int 0, .int 0, .ref e65, .ref e66, .int 0, .int 0, .int 0, .int 0, .int 0, .int 0, .int 0, .ref e67, .int 0, .int 0])), (e45, .inr (19, [.int 0, .int 0, .int 0, .int 0, .int 0, .int (-1), .int 0, .int 0, .ref e69, .ref e70, .ref e71, .int 0, .ref e72, .ref e73, .ref e74, .ref e75, .ref e76, .ref e77, .ref e78, .int 0, .ref e79, .ref e80, .int 0, .int 0, .ref e81, .ref e82, .ref e83, .int 0, .int 0, .int 0, .int 0, .int 0, .ref e84, .ref e85, .int 0, .int 0, .int 0, .int 0, .int 0, .int 0, .int 0, .ref e86, .int 0, .int 0])), (e46, .inr (19, [.int 0, .int 0, .int 0, .int 0, .int 0, .int (-1), .int 0, .int 0, .ref e88, .ref e89, .ref e90, .int 0, .ref e91, .ref e92, .ref e93, .ref e94, .ref e95, .ref e96, .ref e97, .int 0, .ref e98, .ref e99, .int 0, .int 0, .ref e100, .ref e101, .ref e102, .int 0, .int 0, .int 0, .int 0, .int 0, .ref e103, .ref e104, .int 0, .int 0, .int 0, .int 0, .int 0, .int 0, .int 0, .ref e105, .int 0, .int 0])), (e47, .inr (19, [.int 0, .int 0, .int 0, .int 0, .int 0, .int (-1), .int 0, .int 0, .ref e107, .ref e108, .ref e109, .int 0, .ref e110, .ref e111, .ref e112, .ref e113, .ref e114, .ref e115, .ref e116, .int 0, .ref e117, .ref e118, .int 0, .int 0, .ref e119, .ref e120, .ref e121, .int 0, .int 0, .int 0, .int 0, .int 0, .ref e122, .ref e123, .int 0, .int 0, .int 0, .int 0, .int 0, .int 0, .int 0, .ref e124, .int 0, .int 0])), (e48, .inr (19, [.int 0, .int 0, .int 0, .int 0, .int 0, .int (-1), .int 0, .int 0, .ref e126, .ref e127, .ref e128, .int 0, .ref e129, .ref e130, .ref e131, .ref e132, .ref e133, .ref e134, .ref e135, .int 0, .ref e136, .ref e137, .int 0, .int 0, .ref e138, .ref e139, .ref e140, .int 0, .int 0, .int 0, .int 0, .int 0, .ref e141, .ref e142, .int 0, .int 0, .int 0, .int 0, .int 0, .int 0, .int 0, .ref e143, .int 0, .int 0])), (e49, .inr (19, [.int 0, .int 0, .int 0, .int 0, .int 0, .int (-1), .int 0, .int 0, .ref e145, .ref e146, .ref e147, .int 0, .ref e148, .ref e149, .ref e150, .ref e151, .ref e152, .ref e153, .ref e154, .int 0, .ref e155, .ref e156, .int 0, .int 0, .ref e157, .ref e158, .ref e159, .int 0, .int 0, .int 0, .int 0, .int 0, .ref e160, .ref e161, .int 0, .int 0, .int 0, .int 0, .int 0, .int 0, .int 0, .ref e162, .int 0, .int 0]))] := hD
        have hK : va_K (dC, dI) classes [(e43, .object R_MSession)] s := hK
        refine W.widen (k := 0) (n := 0) (Nat.le_of_ble_eq_true rfl) (Nat.le_of_ble_eq_true rfl) ?_
        refine lv_goto (tgt := 156) hx hb d_Model_count_136 (by decide) ?_
        refine W.widen (k := 0) (n := 0) (Nat.le_of_ble_eq_true rfl) (Nat.le_of_ble_eq_true rfl) ?_
        exact W.iret (v := 0) hx hb hr (fun t ht hW => ⟨⟨0, (), rfl, (by decide), va_P.none, va_K.moved hW.alike (hK.sub (tys' := []) [] rfl), va_D.none⟩, hS.F ht⟩) hS.2.2 d_Model_count_156
      · skip
        refine lv_iload_n hx hb d_Model_count_12 rfl (lv_at hl 1 rfl) ?_
        refine lv_bipush (v := 7) hx hb d_Model_count_13 (by decide) ?_
        refine lv_icmp_ne (tgt := 23) hx hb d_Model_count_15 (by decide) (fun c_3 => ?_) (fun c_3 => absurd c_3 (by decide))
        refine lv_aload_n hx hb d_Model_count_23 rfl (lv_at hl 0 rfl) ?_
        refine va_get (D := (dC, dI)) (ci := 20) (v := .int 1) (C := R_Model) (T := F_Model) (N := 42) hx hb hts (i_Model _) hown hK hP 0 rfl rfl 0 (by decide) (hts _ (List.mem_cons_of_mem _ q_2628)) (fun _ h9 => h9) rfl d_Model_count_24 ?_
        refine lv_if_ne (tgt := 32) hx hb d_Model_count_27 (by decide) (fun c_4 => ?_) (fun c_4 => absurd c_4 (by decide))
        refine lv_iconst (v := 0) hx hb d_Model_count_32 (by decide) ?_
        refine lv_istore_n (lv' := [(2, .int 0), (0, .ref h0), (1, .int 6)]) hx hb d_Model_count_33 rfl hl (by decide) rfl (fun ls hl => ?_)
        refine lv_iconst (v := 0) hx hb d_Model_count_34 (by decide) ?_
        refine lv_istore_n (lv' := [(3, .int 0), (2, .int 0), (0, .ref h0), (1, .int 6)]) hx hb d_Model_count_35 rfl hl (by decide) rfl (fun ls hl => ?_)
        refine lv_iload_n hx hb d_Model_count_36 rfl (lv_at hl 0 rfl) ?_
        refine lv_bipush (v := 6) hx hb d_Model_count_37 (by decide) ?_
        refine lv_icmp_ge (tgt := 68) hx hb d_Model_count_39 (by decide) (fun c_5 => absurd c_5 (by decide)) (fun c_5 => ?_)
        refine lv_aload_n hx hb d_Model_count_42 rfl (lv_at hl 2 rfl) ?_
        refine va_get (D := (dC, dI)) (ci := 20) (v := .ref e3) (C := R_Model) (T := F_Model) (N := 42) hx hb hts (i_Model _) hown hK hP 0 rfl rfl 5 (by decide) (hts _ (List.mem_cons_of_mem _ q_2633)) (fun _ h9 => h9) rfl d_Model_count_43 ?_
        refine lv_iload_n hx hb d_Model_count_46 rfl (lv_at hl 0 rfl) ?_
        refine va_aldq hx hb hK hP 1 0 (i := 0) rfl rfl (vp_in_nI (n := 0) (by decide) (by decide)) d_Model_count_47 ?_
        refine W.eq (g2 := F0 m 48 ls [.ref e44]) rfl ?_
        refine va_getN (D := (dC, dI)) (ci := 19) (v := .int 0) (C := R_MSession) (T := F_MSession) (N := 44) hx hb hts (i_MSession _) hown hK hP 2 rfl rfl 34 (by decide) ((bx_f hN ("SessionServerModel", 195, "SessionServerModel$Session", "wait", "I", "SessionServerModel") (by decide)).use rfl) (fun _ h9 => h9) rfl d_Model_count_48 ?_
        refine lv_if_le (tgt := 60) hx hb d_Model_count_51 (by decide) (fun c_6 => ?_) (fun c_6 => absurd (by decide) c_6)
        refine lv_iload_n hx hb d_Model_count_60 rfl (lv_at hl 1 rfl) ?_
        refine lv_istore_n (lv' := [(2, .int 0), (3, .int 0), (0, .ref h0), (1, .int 6)]) hx hb d_Model_count_61 rfl hl (by decide) rfl (fun ls hl => ?_)
        refine lv_iinc (v := 1) (lv' := [(3, .int 1), (2, .int 0), (0, .ref h0), (1, .int 6)]) hx hb d_Model_count_62 hl (k := 1) rfl (by decide) (by decide) rfl (fun ls hl => ?_)
        refine lv_goto (tgt := 36) hx hb d_Model_count_65 (by decide) ?_
        refine lv_iload_n hx hb d_Model_count_36 rfl (lv_at hl 0 rfl) ?_
        refine lv_bipush (v := 6) hx hb d_Model_count_37 (by decide) ?_
        refine lv_icmp_ge (tgt := 68) hx hb d_Model_count_39 (by decide) (fun c_7 => absurd c_7 (by decide)) (fun c_7 => ?_)
        refine lv_aload_n hx hb d_Model_count_42 rfl (lv_at hl 2 rfl) ?_
        refine va_get (D := (dC, dI)) (ci := 20) (v := .ref e3) (C := R_Model) (T := F_Model) (N := 42) hx hb hts (i_Model _) hown hK hP 0 rfl rfl 5 (by decide) (hts _ (List.mem_cons_of_mem _ q_2633)) (fun _ h9 => h9) rfl d_Model_count_43 ?_
        refine lv_iload_n hx hb d_Model_count_46 rfl (lv_at hl 0 rfl) ?_
        refine va_aldq hx hb hK hP 1 0 (i := 1) rfl rfl (vp_in_nI (n := 1) (by decide) (by decide)) d_Model_count_47 ?_
        refine W.eq (g2 := F0 m 48 ls [.ref e45]) rfl ?_
        refine va_getN (D := (dC, dI)) (ci := 19) (v := .int 0) (C := R_MSession) (T := F_MSession) (N := 44) hx hb hts (i_MSession _) hown hK hP 3 rfl rfl 34 (by decide) ((bx_f hN ("SessionServerModel", 195, "SessionServerModel$Session", "wait", "I", "SessionServerModel") (by decide)).use rfl) (fun _ h9 => h9) rfl d_Model_count_48 ?_
        refine lv_if_le (tgt := 60) hx hb d_Model_count_51 (by decide) (fun c_8 => ?_) (fun c_8 => absurd (by decide) c_8)
        refine lv_iload_n hx hb d_Model_count_60 rfl (lv_at hl 1 rfl) ?_
        refine lv_istore_n (lv' := [(2, .int 0), (3, .int 1), (0, .ref h0), (1, .int 6)]) hx hb d_Model_count_61 rfl hl (by decide) rfl (fun ls hl => ?_)
        refine lv_iinc (v := 2) (lv' := [(3, .int 2), (2, .int 0), (0, .ref h0), (1, .int 6)]) hx hb d_Model_count_62 hl (k := 1) rfl (by decide) (by decide) rfl (fun ls hl => ?_)
        refine lv_goto (tgt := 36) hx hb d_Model_count_65 (by decide) ?_
        refine lv_iload_n hx hb d_Model_count_36 rfl (lv_at hl 0 rfl) ?_
        refine lv_bipush (v := 6) hx hb d_Model_count_37 (by decide) ?_
        refine lv_icmp_ge (tgt := 68) hx hb d_Model_count_39 (by decide) (fun c_9 => absurd c_9 (by decide)) (fun c_9 => ?_)
        refine lv_aload_n hx hb d_Model_count_42 rfl (lv_at hl 2 rfl) ?_
        refine va_get (D := (dC, dI)) (ci := 20) (v := .ref e3) (C := R_Model) (T := F_Model) (N := 42) hx hb hts (i_Model _) hown hK hP 0 rfl rfl 5 (by decide) (hts _ (List.mem_cons_of_mem _ q_2633)) (fun _ h9 => h9) rfl d_Model_count_43 ?_
        refine lv_iload_n hx hb d_Model_count_46 rfl (lv_at hl 0 rfl) ?_
        refine va_aldq hx hb hK hP 1 0 (i := 2) rfl rfl (vp_in_nI (n := 2) (by decide) (by decide)) d_Model_count_47 ?_
        refine W.eq (g2 := F0 m 48 ls [.ref e46]) rfl ?_
        refine va_getN (D := (dC, dI)) (ci := 19) (v := .int 0) (C := R_MSession) (T := F_MSession) (N := 44) hx hb hts (i_MSession _) hown hK hP 4 rfl rfl 34 (by decide) ((bx_f hN ("SessionServerModel", 195, "SessionServerModel$Session", "wait", "I", "SessionServerModel") (by decide)).use rfl) (fun _ h9 => h9) rfl d_Model_count_48 ?_
        refine lv_if_le (tgt := 60) hx hb d_Model_count_51 (by decide) (fun c_10 => ?_) (fun c_10 => absurd (by decide) c_10)
        refine lv_iload_n hx hb d_Model_count_60 rfl (lv_at hl 1 rfl) ?_
        refine lv_istore_n (lv' := [(2, .int 0), (3, .int 2), (0, .ref h0), (1, .int 6)]) hx hb d_Model_count_61 rfl hl (by decide) rfl (fun ls hl => ?_)
        refine lv_iinc (v := 3) (lv' := [(3, .int 3), (2, .int 0), (0, .ref h0), (1, .int 6)]) hx hb d_Model_count_62 hl (k := 1) rfl (by decide) (by decide) rfl (fun ls hl => ?_)
        refine lv_goto (tgt := 36) hx hb d_Model_count_65 (by decide) ?_
        refine lv_iload_n hx hb d_Model_count_36 rfl (lv_at hl 0 rfl) ?_
        refine lv_bipush (v := 6) hx hb d_Model_count_37 (by decide) ?_
        refine lv_icmp_ge (tgt := 68) hx hb d_Model_count_39 (by decide) (fun c_11 => absurd c_11 (by decide)) (fun c_11 => ?_)
        refine lv_aload_n hx hb d_Model_count_42 rfl (lv_at hl 2 rfl) ?_
        refine va_get (D := (dC, dI)) (ci := 20) (v := .ref e3) (C := R_Model) (T := F_Model) (N := 42) hx hb hts (i_Model _) hown hK hP 0 rfl rfl 5 (by decide) (hts _ (List.mem_cons_of_mem _ q_2633)) (fun _ h9 => h9) rfl d_Model_count_43 ?_
        refine lv_iload_n hx hb d_Model_count_46 rfl (lv_at hl 0 rfl) ?_
        refine va_aldq hx hb hK hP 1 0 (i := 3) rfl rfl (vp_in_nI (n := 3) (by decide) (by decide)) d_Model_count_47 ?_
        refine W.eq (g2 := F0 m 48 ls [.ref e47]) rfl ?_
        refine va_getN (D := (dC, dI)) (ci := 19) (v := .int 0) (C := R_MSession) (T := F_MSession) (N := 44) hx hb hts (i_MSession _) hown hK hP 5 rfl rfl 34 (by decide) ((bx_f hN ("SessionServerModel", 195, "SessionServerModel$Session", "wait", "I", "SessionServerModel") (by decide)).use rfl) (fun _ h9 => h9) rfl d_Model_count_48 ?_
        refine lv_if_le (tgt := 60) hx hb d_Model_count_51 (by decide) (fun c_12 => ?_) (fun c_12 => absurd (by decide) c_12)
        refine lv_iload_n hx hb d_Model_count_60 rfl (lv_at hl 1 rfl) ?_
        refine lv_istore_n (lv' := [(2, .int 0), (3, .int 3), (0, .ref h0), (1, .int 6)]) hx hb d_Model_count_61 rfl hl (by decide) rfl (fun ls hl => ?_)
        refine lv_iinc (v := 4) (lv' := [(3, .int 4), (2, .int 0), (0, .ref h0), (1, .int 6)]) hx hb d_Model_count_62 hl (k := 1) rfl (by decide) (by decide) rfl (fun ls hl => ?_)
        refine lv_goto (tgt := 36) hx hb d_Model_count_65 (by decide) ?_
        refine lv_iload_n hx hb d_Model_count_36 rfl (lv_at hl 0 rfl) ?_
        refine lv_bipush (v := 6) hx hb d_Model_count_37 (by decide) ?_
        refine lv_icmp_ge (tgt := 68) hx hb d_Model_count_39 (by decide) (fun c_13 => absurd c_13 (by decide)) (fun c_13 => ?_)
        refine lv_aload_n hx hb d_Model_count_42 rfl (lv_at hl 2 rfl) ?_
        refine va_get (D := (dC, dI)) (ci := 20) (v := .ref e3) (C := R_Model) (T := F_Model) (N := 42) hx hb hts (i_Model _) hown hK hP 0 rfl rfl 5 (by decide) (hts _ (List.mem_cons_of_mem _ q_2633)) (fun _ h9 => h9) rfl d_Model_count_43 ?_
        refine lv_iload_n hx hb d_Model_count_46 rfl (lv_at hl 0 rfl) ?_
        refine va_aldq hx hb hK hP 1 0 (i := 4) rfl rfl (vp_in_nI (n := 4) (by decide) (by decide)) d_Model_count_47 ?_
        refine W.eq (g2 := F0 m 48 ls [.ref e48]) rfl ?_
        refine va_getN (D := (dC, dI)) (ci := 19) (v := .int 0) (C := R_MSession) (T := F_MSession) (N := 44) hx hb hts (i_MSession _) hown hK hP 6 rfl rfl 34 (by decide) ((bx_f hN ("SessionServerModel", 195, "SessionServerModel$Session", "wait", "I", "SessionServerModel") (by decide)).use rfl) (fun _ h9 => h9) rfl d_Model_count_48 ?_
        refine lv_if_le (tgt := 60) hx hb d_Model_count_51 (by decide) (fun c_14 => ?_) (fun c_14 => absurd (by decide) c_14)
        refine lv_iload_n hx hb d_Model_count_60 rfl (lv_at hl 1 rfl) ?_
        refine lv_istore_n (lv' := [(2, .int 0), (3, .int 4), (0, .ref h0), (1, .int 6)]) hx hb d_Model_count_61 rfl hl (by decide) rfl (fun ls hl => ?_)
        refine lv_iinc (v := 5) (lv' := [(3, .int 5), (2, .int 0), (0, .ref h0), (1, .int 6)]) hx hb d_Model_count_62 hl (k := 1) rfl (by decide) (by decide) rfl (fun ls hl => ?_)
        refine lv_goto (tgt := 36) hx hb d_Model_count_65 (by decide) ?_
        refine lv_iload_n hx hb d_Model_count_36 rfl (lv_at hl 0 rfl) ?_
        refine lv_bipush (v := 6) hx hb d_Model_count_37 (by decide) ?_
        refine lv_icmp_ge (tgt := 68) hx hb d_Model_count_39 (by decide) (fun c_15 => absurd c_15 (by decide)) (fun c_15 => ?_)
        refine lv_aload_n hx hb d_Model_count_42 rfl (lv_at hl 2 rfl) ?_
        refine va_get (D := (dC, dI)) (ci := 20) (v := .ref e3) (C := R_Model) (T := F_Model) (N := 42) hx hb hts (i_Model _) hown hK hP 0 rfl rfl 5 (by decide) (hts _ (List.mem_cons_of_mem _ q_2633)) (fun _ h9 => h9) rfl d_Model_count_43 ?_
        refine lv_iload_n hx hb d_Model_count_46 rfl (lv_at hl 0 rfl) ?_
        refine va_aldq hx hb hK hP 1 0 (i := 5) rfl rfl (vp_in_nI (n := 5) (by decide) (by decide)) d_Model_count_47 ?_
        refine W.eq (g2 := F0 m 48 ls [.ref e49]) rfl ?_
        refine va_getN (D := (dC, dI)) (ci := 19) (v := .int 0) (C := R_MSession) (T := F_MSession) (N := 44) hx hb hts (i_MSession _) hown hK hP 7 rfl rfl 34 (by decide) ((bx_f hN ("SessionServerModel", 195, "SessionServerModel$Session", "wait", "I", "SessionServerModel") (by decide)).use rfl) (fun _ h9 => h9) rfl d_Model_count_48 ?_
        refine lv_if_le (tgt := 60) hx hb d_Model_count_51 (by decide) (fun c_16 => ?_) (fun c_16 => absurd (by decide) c_16)
        refine lv_iload_n hx hb d_Model_count_60 rfl (lv_at hl 1 rfl) ?_
        refine lv_istore_n (lv' := [(2, .int 0), (3, .int 5), (0, .ref h0), (1, .int 6)]) hx hb d_Model_count_61 rfl hl (by decide) rfl (fun ls hl => ?_)
        refine lv_iinc (v := 6) (lv' := [(3, .int 6), (2, .int 0), (0, .ref h0), (1, .int 6)]) hx hb d_Model_count_62 hl (k := 1) rfl (by decide) (by decide) rfl (fun ls hl => ?_)
        refine lv_goto (tgt := 36) hx hb d_Model_count_65 (by decide) ?_
        refine lv_iload_n hx hb d_Model_count_36 rfl (lv_at hl 0 rfl) ?_
        refine lv_bipush (v := 6) hx hb d_Model_count_37 (by decide) ?_
        refine lv_icmp_ge (tgt := 68) hx hb d_Model_count_39 (by decide) (fun c_17 => ?_) (fun c_17 => absurd (by decide) c_17)
        refine lv_iload_n hx hb d_Model_count_68 rfl (lv_at hl 3 rfl) ?_
        refine lv_if_ne (tgt := 76) hx hb d_Model_count_69 (by decide) (fun c_18 => ?_) (fun c_18 => absurd c_18 (by decide))
        refine lv_iload_n hx hb d_Model_count_76 rfl (lv_at hl 3 rfl) ?_
        refine lv_iconst (v := 1) hx hb d_Model_count_77 (by decide) ?_
        refine lv_icmp_ne (tgt := 88) hx hb d_Model_count_78 (by decide) (fun c_19 => ?_) (fun c_19 => absurd c_19 (by decide))
        refine lv_iload_n hx hb d_Model_count_88 rfl (lv_at hl 3 rfl) ?_
        refine lv_iconst (v := 2) hx hb d_Model_count_89 (by decide) ?_
        refine lv_icmp_ne (tgt := 100) hx hb d_Model_count_90 (by decide) (fun c_20 => ?_) (fun c_20 => absurd c_20 (by decide))
        refine lv_iload_n hx hb d_Model_count_100 rfl (lv_at hl 3 rfl) ?_
        refine lv_iconst (v := 3) hx hb d_Model_count_101 (by decide) ?_
        refine lv_icmp_ne (tgt := 112) hx hb d_Model_count_102 (by decide) (fun c_21 => ?_) (fun c_21 => absurd c_21 (by decide))
        refine lv_iload_n hx hb d_Model_count_112 rfl (lv_at hl 3 rfl) ?_
        refine lv_iconst (v := 4) hx hb d_Model_count_113 (by decide) ?_
        refine lv_icmp_ne (tgt := 124) hx hb d_Model_count_114 (by decide) (fun c_22 => ?_) (fun c_22 => absurd c_22 (by decide))
        refine lv_iload_n hx hb d_Model_count_124 rfl (lv_at hl 3 rfl) ?_
        refine lv_iconst (v := 5) hx hb d_Model_count_125 (by decide) ?_
        refine lv_icmp_ne (tgt := 139) hx hb d_Model_count_126 (by decide) (fun c_23 => ?_) (fun c_23 => absurd c_23 (by decide))
        refine lv_iload_n hx hb d_Model_count_139 rfl (lv_at hl 3 rfl) ?_
        refine lv_bipush (v := 6) hx hb d_Model_count_140 (by decide) ?_
        refine lv_icmp_ne (tgt := 155) hx hb d_Model_count_142 (by decide) (fun c_24 => absurd c_24 (by decide)) (fun c_24 => ?_)
        refine lv_aload_n hx hb d_Model_count_145 rfl (lv_at hl 2 rfl) ?_
        refine va_get (D := (dC, dI)) (ci := 20) (v := .ref e2) (C := R_Model) (T := F_Model) (N := 42) hx hb hts (i_Model _) hown hK hP 0 rfl rfl 4 (by decide) (hts _ (List.mem_cons_of_mem _ q_2632)) (fun _ h9 => h9) rfl d_Model_count_146 ?_
        refine va_getN (D := (dC, dI)) (ci := 13) (v := .int 0) (C := R_MCatalog) (T := F_MCatalog) (N := 13) hx hb hts (i_MCatalog _) hown hK hP 8 rfl rfl 9 (by decide) ((bx_f hN ("SessionServerModel", 377, "SessionServerModel$Catalog", "indexes", "I", "SessionServerModel") (by decide)).use rfl) (fun _ h9 => h9) rfl d_Model_count_149 ?_
        refine lv_goto (tgt := 156) hx hb d_Model_count_152 (by decide) ?_
        refine W.widen (k := 0) (n := 0) (Nat.le_of_ble_eq_true rfl) (Nat.le_of_ble_eq_true rfl) ?_
        exact W.iret (v := 0) hx hb hr (fun t ht hW => ⟨⟨0, (), rfl, (by decide), va_P.none, va_K.moved hW.alike (hK.sub (tys' := []) [] rfl), va_D.none⟩, hS.F ht⟩) hS.2.2 d_Model_count_156
      · skip
        refine lv_iload_n hx hb d_Model_count_12 rfl (lv_at hl 1 rfl) ?_
        refine lv_bipush (v := 7) hx hb d_Model_count_13 (by decide) ?_
        refine lv_icmp_ne (tgt := 23) hx hb d_Model_count_15 (by decide) (fun c_3 => absurd c_3 (by decide)) (fun c_3 => ?_)
        refine lv_aload_n hx hb d_Model_count_18 rfl (lv_at hl 0 rfl) ?_
        refine va_get (D := (dC, dI)) (ci := 20) (v := .int 0) (C := R_Model) (T := F_Model) (N := 42) hx hb hts (i_Model _) hown hK hP 0 rfl rfl 3 (by decide) (hts _ (List.mem_cons_of_mem _ q_2631)) (fun _ h9 => h9) rfl d_Model_count_19 ?_
        refine W.widen (k := 0) (n := 0) (Nat.le_of_ble_eq_true rfl) (Nat.le_of_ble_eq_true rfl) ?_
        exact W.iret (v := 0) hx hb hr (fun t ht hW => ⟨⟨0, (), rfl, (by decide), va_P.none, va_K.moved hW.alike (hK.sub (tys' := []) [] rfl), va_D.none⟩, hS.F ht⟩) hS.2.2 d_Model_count_22
      · skip
        refine lv_iload_n hx hb d_Model_count_12 rfl (lv_at hl 1 rfl) ?_
        refine lv_bipush (v := 7) hx hb d_Model_count_13 (by decide) ?_
        refine lv_icmp_ne (tgt := 23) hx hb d_Model_count_15 (by decide) (fun c_3 => ?_) (fun c_3 => absurd c_3 (by decide))
        refine lv_aload_n hx hb d_Model_count_23 rfl (lv_at hl 0 rfl) ?_
        refine va_get (D := (dC, dI)) (ci := 20) (v := .int 1) (C := R_Model) (T := F_Model) (N := 42) hx hb hts (i_Model _) hown hK hP 0 rfl rfl 0 (by decide) (hts _ (List.mem_cons_of_mem _ q_2628)) (fun _ h9 => h9) rfl d_Model_count_24 ?_
        refine lv_if_ne (tgt := 32) hx hb d_Model_count_27 (by decide) (fun c_4 => ?_) (fun c_4 => absurd c_4 (by decide))
        refine lv_iconst (v := 0) hx hb d_Model_count_32 (by decide) ?_
        refine lv_istore_n (lv' := [(2, .int 0), (0, .ref h0), (1, .int 8)]) hx hb d_Model_count_33 rfl hl (by decide) rfl (fun ls hl => ?_)
        refine lv_iconst (v := 0) hx hb d_Model_count_34 (by decide) ?_
        refine lv_istore_n (lv' := [(3, .int 0), (2, .int 0), (0, .ref h0), (1, .int 8)]) hx hb d_Model_count_35 rfl hl (by decide) rfl (fun ls hl => ?_)
        refine lv_iload_n hx hb d_Model_count_36 rfl (lv_at hl 0 rfl) ?_
        refine lv_bipush (v := 6) hx hb d_Model_count_37 (by decide) ?_
        refine lv_icmp_ge (tgt := 68) hx hb d_Model_count_39 (by decide) (fun c_5 => absurd c_5 (by decide)) (fun c_5 => ?_)
        refine lv_aload_n hx hb d_Model_count_42 rfl (lv_at hl 2 rfl) ?_
        refine va_get (D := (dC, dI)) (ci := 20) (v := .ref e3) (C := R_Model) (T := F_Model) (N := 42) hx hb hts (i_Model _) hown hK hP 0 rfl rfl 5 (by decide) (hts _ (List.mem_cons_of_mem _ q_2633)) (fun _ h9 => h9) rfl d_Model_count_43 ?_
        refine lv_iload_n hx hb d_Model_count_46 rfl (lv_at hl 0 rfl) ?_
        refine va_aldq hx hb hK hP 1 0 (i := 0) rfl rfl (vp_in_nI (n := 0) (by decide) (by decide)) d_Model_count_47 ?_
        refine W.eq (g2 := F0 m 48 ls [.ref e44]) rfl ?_
        refine va_getN (D := (dC, dI)) (ci := 19) (v := .int 0) (C := R_MSession) (T := F_MSession) (N := 44) hx hb hts (i_MSession _) hown hK hP 2 rfl rfl 34 (by decide) ((bx_f hN ("SessionServerModel", 195, "SessionServerModel$Session", "wait", "I", "SessionServerModel") (by decide)).use rfl) (fun _ h9 => h9) rfl d_Model_count_48 ?_
        refine lv_if_le (tgt := 60) hx hb d_Model_count_51 (by decide) (fun c_6 => ?_) (fun c_6 => absurd (by decide) c_6)
        refine lv_iload_n hx hb d_Model_count_60 rfl (lv_at hl 1 rfl) ?_
        refine lv_istore_n (lv' := [(2, .int 0), (3, .int 0), (0, .ref h0), (1, .int 8)]) hx hb d_Model_count_61 rfl hl (by decide) rfl (fun ls hl => ?_)
        refine lv_iinc (v := 1) (lv' := [(3, .int 1), (2, .int 0), (0, .ref h0), (1, .int 8)]) hx hb d_Model_count_62 hl (k := 1) rfl (by decide) (by decide) rfl (fun ls hl => ?_)
        refine lv_goto (tgt := 36) hx hb d_Model_count_65 (by decide) ?_
        refine lv_iload_n hx hb d_Model_count_36 rfl (lv_at hl 0 rfl) ?_
        refine lv_bipush (v := 6) hx hb d_Model_count_37 (by decide) ?_
        refine lv_icmp_ge (tgt := 68) hx hb d_Model_count_39 (by decide) (fun c_7 => absurd c_7 (by decide)) (fun c_7 => ?_)
        refine lv_aload_n hx hb d_Model_count_42 rfl (lv_at hl 2 rfl) ?_
        refine va_get (D := (dC, dI)) (ci := 20) (v := .ref e3) (C := R_Model) (T := F_Model) (N := 42) hx hb hts (i_Model _) hown hK hP 0 rfl rfl 5 (by decide) (hts _ (List.mem_cons_of_mem _ q_2633)) (fun _ h9 => h9) rfl d_Model_count_43 ?_
        refine lv_iload_n hx hb d_Model_count_46 rfl (lv_at hl 0 rfl) ?_
        refine va_aldq hx hb hK hP 1 0 (i := 1) rfl rfl (vp_in_nI (n := 1) (by decide) (by decide)) d_Model_count_47 ?_
        refine W.eq (g2 := F0 m 48 ls [.ref e45]) rfl ?_
        refine va_getN (D := (dC, dI)) (ci := 19) (v := .int 0) (C := R_MSession) (T := F_MSession) (N := 44) hx hb hts (i_MSession _) hown hK hP 3 rfl rfl 34 (by decide) ((bx_f hN ("SessionServerModel", 195, "SessionServerModel$Session", "wait", "I", "SessionServerModel") (by decide)).use rfl) (fun _ h9 => h9) rfl d_Model_count_48 ?_
        refine lv_if_le (tgt := 60) hx hb d_Model_count_51 (by decide) (fun c_8 => ?_) (fun c_8 => absurd (by decide) c_8)
        refine lv_iload_n hx hb d_Model_count_60 rfl (lv_at hl 1 rfl) ?_
        refine lv_istore_n (lv' := [(2, .int 0), (3, .int 1), (0, .ref h0), (1, .int 8)]) hx hb d_Model_count_61 rfl hl (by decide) rfl (fun ls hl => ?_)
        refine lv_iinc (v := 2) (lv' := [(3, .int 2), (2, .int 0), (0, .ref h0), (1, .int 8)]) hx hb d_Model_count_62 hl (k := 1) rfl (by decide) (by decide) rfl (fun ls hl => ?_)
        refine lv_goto (tgt := 36) hx hb d_Model_count_65 (by decide) ?_
        refine lv_iload_n hx hb d_Model_count_36 rfl (lv_at hl 0 rfl) ?_
        refine lv_bipush (v := 6) hx hb d_Model_count_37 (by decide) ?_
        refine lv_icmp_ge (tgt := 68) hx hb d_Model_count_39 (by decide) (fun c_9 => absurd c_9 (by decide)) (fun c_9 => ?_)
        refine lv_aload_n hx hb d_Model_count_42 rfl (lv_at hl 2 rfl) ?_
        refine va_get (D := (dC, dI)) (ci := 20) (v := .ref e3) (C := R_Model) (T := F_Model) (N := 42) hx hb hts (i_Model _) hown hK hP 0 rfl rfl 5 (by decide) (hts _ (List.mem_cons_of_mem _ q_2633)) (fun _ h9 => h9) rfl d_Model_count_43 ?_
        refine lv_iload_n hx hb d_Model_count_46 rfl (lv_at hl 0 rfl) ?_
        refine va_aldq hx hb hK hP 1 0 (i := 2) rfl rfl (vp_in_nI (n := 2) (by decide) (by decide)) d_Model_count_47 ?_
        refine W.eq (g2 := F0 m 48 ls [.ref e46]) rfl ?_
        refine va_getN (D := (dC, dI)) (ci := 19) (v := .int 0) (C := R_MSession) (T := F_MSession) (N := 44) hx hb hts (i_MSession _) hown hK hP 4 rfl rfl 34 (by decide) ((bx_f hN ("SessionServerModel", 195, "SessionServerModel$Session", "wait", "I", "SessionServerModel") (by decide)).use rfl) (fun _ h9 => h9) rfl d_Model_count_48 ?_
        refine lv_if_le (tgt := 60) hx hb d_Model_count_51 (by decide) (fun c_10 => ?_) (fun c_10 => absurd (by decide) c_10)
        refine lv_iload_n hx hb d_Model_count_60 rfl (lv_at hl 1 rfl) ?_
        refine lv_istore_n (lv' := [(2, .int 0), (3, .int 2), (0, .ref h0), (1, .int 8)]) hx hb d_Model_count_61 rfl hl (by decide) rfl (fun ls hl => ?_)
        refine lv_iinc (v := 3) (lv' := [(3, .int 3), (2, .int 0), (0, .ref h0), (1, .int 8)]) hx hb d_Model_count_62 hl (k := 1) rfl (by decide) (by decide) rfl (fun ls hl => ?_)
        refine lv_goto (tgt := 36) hx hb d_Model_count_65 (by decide) ?_
        refine lv_iload_n hx hb d_Model_count_36 rfl (lv_at hl 0 rfl) ?_
        refine lv_bipush (v := 6) hx hb d_Model_count_37 (by decide) ?_
        refine lv_icmp_ge (tgt := 68) hx hb d_Model_count_39 (by decide) (fun c_11 => absurd c_11 (by decide)) (fun c_11 => ?_)
        refine lv_aload_n hx hb d_Model_count_42 rfl (lv_at hl 2 rfl) ?_
        refine va_get (D := (dC, dI)) (ci := 20) (v := .ref e3) (C := R_Model) (T := F_Model) (N := 42) hx hb hts (i_Model _) hown hK hP 0 rfl rfl 5 (by decide) (hts _ (List.mem_cons_of_mem _ q_2633)) (fun _ h9 => h9) rfl d_Model_count_43 ?_
        refine lv_iload_n hx hb d_Model_count_46 rfl (lv_at hl 0 rfl) ?_
        refine va_aldq hx hb hK hP 1 0 (i := 3) rfl rfl (vp_in_nI (n := 3) (by decide) (by decide)) d_Model_count_47 ?_
        refine W.eq (g2 := F0 m 48 ls [.ref e47]) rfl ?_
        refine va_getN (D := (dC, dI)) (ci := 19) (v := .int 0) (C := R_MSession) (T := F_MSession) (N := 44) hx hb hts (i_MSession _) hown hK hP 5 rfl rfl 34 (by decide) ((bx_f hN ("SessionServerModel", 195, "SessionServerModel$Session", "wait", "I", "SessionServerModel") (by decide)).use rfl) (fun _ h9 => h9) rfl d_Model_count_48 ?_
        refine lv_if_le (tgt := 60) hx hb d_Model_count_51 (by decide) (fun c_12 => ?_) (fun c_12 => absurd (by decide) c_12)
        refine lv_iload_n hx hb d_Model_count_60 rfl (lv_at hl 1 rfl) ?_
        refine lv_istore_n (lv' := [(2, .int 0), (3, .int 3), (0, .ref h0), (1, .int 8)]) hx hb d_Model_count_61 rfl hl (by decide) rfl (fun ls hl => ?_)
        refine lv_iinc (v := 4) (lv' := [(3, .int 4), (2, .int 0), (0, .ref h0), (1, .int 8)]) hx hb d_Model_count_62 hl (k := 1) rfl (by decide) (by decide) rfl (fun ls hl => ?_)
        refine lv_goto (tgt := 36) hx hb d_Model_count_65 (by decide) ?_
        refine lv_iload_n hx hb d_Model_count_36 rfl (lv_at hl 0 rfl) ?_
        refine lv_bipush (v := 6) hx hb d_Model_count_37 (by decide) ?_
        refine lv_icmp_ge (tgt := 68) hx hb d_Model_count_39 (by decide) (fun c_13 => absurd c_13 (by decide)) (fun c_13 => ?_)
        refine lv_aload_n hx hb d_Model_count_42 rfl (lv_at hl 2 rfl) ?_
        refine va_get (D := (dC, dI)) (ci := 20) (v := .ref e3) (C := R_Model) (T := F_Model) (N := 42) hx hb hts (i_Model _) hown hK hP 0 rfl rfl 5 (by decide) (hts _ (List.mem_cons_of_mem _ q_2633)) (fun _ h9 => h9) rfl d_Model_count_43 ?_
        refine lv_iload_n hx hb d_Model_count_46 rfl (lv_at hl 0 rfl) ?_
        refine va_aldq hx hb hK hP 1 0 (i := 4) rfl rfl (vp_in_nI (n := 4) (by decide) (by decide)) d_Model_count_47 ?_
        refine W.eq (g2 := F0 m 48 ls [.ref e48]) rfl ?_
        refine va_getN (D := (dC, dI)) (ci := 19) (v := .int 0) (C := R_MSession) (T := F_MSession) (N := 44) hx hb hts (i_MSession _) hown hK hP 6 rfl rfl 34 (by decide) ((bx_f hN ("SessionServerModel", 195, "SessionServerModel$Session", "wait", "I", "SessionServerModel") (by decide)).use rfl) (fun _ h9 => h9) rfl d_Model_count_48 ?_
        refine lv_if_le (tgt := 60) hx hb d_Model_count_51 (by decide) (fun c_14 => ?_) (fun c_14 => absurd (by decide) c_14)
        refine lv_iload_n hx hb d_Model_count_60 rfl (lv_at hl 1 rfl) ?_
        refine lv_istore_n (lv' := [(2, .int 0), (3, .int 4), (0, .ref h0), (1, .int 8)]) hx hb d_Model_count_61 rfl hl (by decide) rfl (fun ls hl => ?_)
        refine lv_iinc (v := 5) (lv' := [(3, .int 5), (2, .int 0), (0, .ref h0), (1, .int 8)]) hx hb d_Model_count_62 hl (k := 1) rfl (by decide) (by decide) rfl (fun ls hl => ?_)
        refine lv_goto (tgt := 36) hx hb d_Model_count_65 (by decide) ?_
        refine lv_iload_n hx hb d_Model_count_36 rfl (lv_at hl 0 rfl) ?_
        refine lv_bipush (v := 6) hx hb d_Model_count_37 (by decide) ?_
        refine lv_icmp_ge (tgt := 68) hx hb d_Model_count_39 (by decide) (fun c_15 => absurd c_15 (by decide)) (fun c_15 => ?_)
        refine lv_aload_n hx hb d_Model_count_42 rfl (lv_at hl 2 rfl) ?_
        refine va_get (D := (dC, dI)) (ci := 20) (v := .ref e3) (C := R_Model) (T := F_Model) (N := 42) hx hb hts (i_Model _) hown hK hP 0 rfl rfl 5 (by decide) (hts _ (List.mem_cons_of_mem _ q_2633)) (fun _ h9 => h9) rfl d_Model_count_43 ?_
        refine lv_iload_n hx hb d_Model_count_46 rfl (lv_at hl 0 rfl) ?_
        refine va_aldq hx hb hK hP 1 0 (i := 5) rfl rfl (vp_in_nI (n := 5) (by decide) (by decide)) d_Model_count_47 ?_
        refine W.eq (g2 := F0 m 48 ls [.ref e49]) rfl ?_
        refine va_getN (D := (dC, dI)) (ci := 19) (v := .int 0) (C := R_MSession) (T := F_MSession) (N := 44) hx hb hts (i_MSession _) hown hK hP 7 rfl rfl 34 (by decide) ((bx_f hN ("SessionServerModel", 195, "SessionServerModel$Session", "wait", "I", "SessionServerModel") (by decide)).use rfl) (fun _ h9 => h9) rfl d_Model_count_48 ?_
        refine lv_if_le (tgt := 60) hx hb d_Model_count_51 (by decide) (fun c_16 => ?_) (fun c_16 => absurd (by decide) c_16)
        refine lv_iload_n hx hb d_Model_count_60 rfl (lv_at hl 1 rfl) ?_
        refine lv_istore_n (lv' := [(2, .int 0), (3, .int 5), (0, .ref h0), (1, .int 8)]) hx hb d_Model_count_61 rfl hl (by decide) rfl (fun ls hl => ?_)
        refine lv_iinc (v := 6) (lv' := [(3, .int 6), (2, .int 0), (0, .ref h0), (1, .int 8)]) hx hb d_Model_count_62 hl (k := 1) rfl (by decide) (by decide) rfl (fun ls hl => ?_)
        refine lv_goto (tgt := 36) hx hb d_Model_count_65 (by decide) ?_
        refine lv_iload_n hx hb d_Model_count_36 rfl (lv_at hl 0 rfl) ?_
        refine lv_bipush (v := 6) hx hb d_Model_count_37 (by decide) ?_
        refine lv_icmp_ge (tgt := 68) hx hb d_Model_count_39 (by decide) (fun c_17 => ?_) (fun c_17 => absurd (by decide) c_17)
        refine lv_iload_n hx hb d_Model_count_68 rfl (lv_at hl 3 rfl) ?_
        refine lv_if_ne (tgt := 76) hx hb d_Model_count_69 (by decide) (fun c_18 => ?_) (fun c_18 => absurd c_18 (by decide))
        refine lv_iload_n hx hb d_Model_count_76 rfl (lv_at hl 3 rfl) ?_
        refine lv_iconst (v := 1) hx hb d_Model_count_77 (by decide) ?_
        refine lv_icmp_ne (tgt := 88) hx hb d_Model_count_78 (by decide) (fun c_19 => ?_) (fun c_19 => absurd c_19 (by decide))
        refine lv_iload_n hx hb d_Model_count_88 rfl (lv_at hl 3 rfl) ?_
        refine lv_iconst (v := 2) hx hb d_Model_count_89 (by decide) ?_
        refine lv_icmp_ne (tgt := 100) hx hb d_Model_count_90 (by decide) (fun c_20 => ?_) (fun c_20 => absurd c_20 (by decide))
        refine lv_iload_n hx hb d_Model_count_100 rfl (lv_at hl 3 rfl) ?_
        refine lv_iconst (v := 3) hx hb d_Model_count_101 (by decide) ?_
        refine lv_icmp_ne (tgt := 112) hx hb d_Model_count_102 (by decide) (fun c_21 => ?_) (fun c_21 => absurd c_21 (by decide))
        refine lv_iload_n hx hb d_Model_count_112 rfl (lv_at hl 3 rfl) ?_
        refine lv_iconst (v := 4) hx hb d_Model_count_113 (by decide) ?_
        refine lv_icmp_ne (tgt := 124) hx hb d_Model_count_114 (by decide) (fun c_22 => ?_) (fun c_22 => absurd c_22 (by decide))
        refine lv_iload_n hx hb d_Model_count_124 rfl (lv_at hl 3 rfl) ?_
        refine lv_iconst (v := 5) hx hb d_Model_count_125 (by decide) ?_
        refine lv_icmp_ne (tgt := 139) hx hb d_Model_count_126 (by decide) (fun c_23 => ?_) (fun c_23 => absurd c_23 (by decide))
        refine lv_iload_n hx hb d_Model_count_139 rfl (lv_at hl 3 rfl) ?_
        refine lv_bipush (v := 6) hx hb d_Model_count_140 (by decide) ?_
        refine lv_icmp_ne (tgt := 155) hx hb d_Model_count_142 (by decide) (fun c_24 => ?_) (fun c_24 => absurd c_24 (by decide))
        refine lv_iload_n hx hb d_Model_count_155 rfl (lv_at hl 1 rfl) ?_
        refine W.widen (k := 0) (n := 0) (Nat.le_of_ble_eq_true rfl) (Nat.le_of_ble_eq_true rfl) ?_
        exact W.iret (v := 0) hx hb hr (fun t ht hW => ⟨⟨0, (), rfl, (by decide), va_P.none, va_K.moved hW.alike (hK.sub (tys' := []) [] rfl), va_D.none⟩, hS.F ht⟩) hS.2.2 d_Model_count_156
    · skip
      refine lv_iconst (v := -1) hx hb d_Model_count_10 (by decide) ?_
      refine W.widen (k := 0) (n := 0) (Nat.le_of_ble_eq_true rfl) (Nat.le_of_ble_eq_true rfl) ?_
      exact W.iret (v := (-1)) hx hb hr (fun t ht hW => ⟨⟨(-1), (), rfl, (by simp [bx_cnt, c_1, c_2]), va_P.none, va_K.moved hW.alike (hK.sub (tys' := []) [] rfl), va_D.none⟩, hS.F ht⟩) hS.2.2 d_Model_count_11
