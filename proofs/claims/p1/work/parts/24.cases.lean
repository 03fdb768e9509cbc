theorem dL_law_1068 : decode cL_law 1068 = .ok (.aload_n 1, 1) := by decide +kernel
theorem dL_law_1069 : decode cL_law 1069 = .ok (.aload_n 0, 1) := by decide +kernel
theorem dL_law_1070 : decode cL_law 1070 = .ok (.iload_n 3, 1) := by decide +kernel
theorem dL_law_1071 : decode cL_law 1071 = .ok (.iconst 1, 1) := by decide +kernel
theorem dL_law_1072 : decode cL_law 1072 = .ok (.iadd, 1) := by decide +kernel
theorem dL_law_1073 : decode cL_law 1073 = .ok (.iaload, 1) := by decide +kernel
theorem dL_law_1074 : decode cL_law 1074 = .ok (.invokevirtual 146, 3) := by decide +kernel
theorem dL_law_1077 : decode cL_law 1077 = .ok (.aload_n 2, 1) := by decide +kernel
theorem dL_law_1078 : decode cL_law 1078 = .ok (.aload_n 0, 1) := by decide +kernel
theorem dL_law_1079 : decode cL_law 1079 = .ok (.iload_n 3, 1) := by decide +kernel
theorem dL_law_1080 : decode cL_law 1080 = .ok (.iconst 1, 1) := by decide +kernel
theorem dL_law_1081 : decode cL_law 1081 = .ok (.iadd, 1) := by decide +kernel
theorem dL_law_1082 : decode cL_law 1082 = .ok (.iaload, 1) := by decide +kernel
theorem dL_law_1083 : decode cL_law 1083 = .ok (.invokevirtual 149, 3) := by decide +kernel
theorem dL_law_1086 : decode cL_law 1086 = .ok (.if_icmp .eq 879, 3) := by decide +kernel
theorem dL_law_1091 : decode cL_law 1091 = .ok (.aload_n 1, 1) := by decide +kernel
theorem dL_law_1092 : decode cL_law 1092 = .ok (.aload_n 0, 1) := by decide +kernel
theorem dL_law_1093 : decode cL_law 1093 = .ok (.iload_n 3, 1) := by decide +kernel
theorem dL_law_1094 : decode cL_law 1094 = .ok (.iconst 1, 1) := by decide +kernel
theorem dL_law_1095 : decode cL_law 1095 = .ok (.iadd, 1) := by decide +kernel
theorem dL_law_1096 : decode cL_law 1096 = .ok (.iaload, 1) := by decide +kernel
theorem dL_law_1097 : decode cL_law 1097 = .ok (.invokevirtual 150, 3) := by decide +kernel
theorem dL_law_1100 : decode cL_law 1100 = .ok (.aload_n 2, 1) := by decide +kernel
theorem dL_law_1101 : decode cL_law 1101 = .ok (.aload_n 0, 1) := by decide +kernel
theorem dL_law_1102 : decode cL_law 1102 = .ok (.iload_n 3, 1) := by decide +kernel
theorem dL_law_1103 : decode cL_law 1103 = .ok (.iconst 1, 1) := by decide +kernel
theorem dL_law_1104 : decode cL_law 1104 = .ok (.iadd, 1) := by decide +kernel
theorem dL_law_1105 : decode cL_law 1105 = .ok (.iaload, 1) := by decide +kernel
theorem dL_law_1106 : decode cL_law 1106 = .ok (.invokevirtual 153, 3) := by decide +kernel
theorem dL_law_1109 : decode cL_law 1109 = .ok (.if_icmp .eq 856, 3) := by decide +kernel
theorem dL_law_1114 : decode cL_law 1114 = .ok (.aload_n 1, 1) := by decide +kernel
theorem dL_law_1115 : decode cL_law 1115 = .ok (.aload_n 0, 1) := by decide +kernel
theorem dL_law_1116 : decode cL_law 1116 = .ok (.iload_n 3, 1) := by decide +kernel
theorem dL_law_1117 : decode cL_law 1117 = .ok (.iconst 1, 1) := by decide +kernel
theorem dL_law_1118 : decode cL_law 1118 = .ok (.iadd, 1) := by decide +kernel
theorem dL_law_1119 : decode cL_law 1119 = .ok (.iaload, 1) := by decide +kernel
theorem dL_law_1120 : decode cL_law 1120 = .ok (.invokevirtual 154, 3) := by decide +kernel
theorem dL_law_1123 : decode cL_law 1123 = .ok (.aload_n 2, 1) := by decide +kernel
theorem dL_law_1124 : decode cL_law 1124 = .ok (.aload_n 0, 1) := by decide +kernel
theorem dL_law_1125 : decode cL_law 1125 = .ok (.iload_n 3, 1) := by decide +kernel
theorem dL_law_1126 : decode cL_law 1126 = .ok (.iconst 1, 1) := by decide +kernel
theorem dL_law_1127 : decode cL_law 1127 = .ok (.iadd, 1) := by decide +kernel
theorem dL_law_1128 : decode cL_law 1128 = .ok (.iaload, 1) := by decide +kernel
theorem dL_law_1129 : decode cL_law 1129 = .ok (.invokevirtual 157, 3) := by decide +kernel
theorem dL_law_1132 : decode cL_law 1132 = .ok (.if_icmp .eq 833, 3) := by decide +kernel
theorem dL_law_1137 : decode cL_law 1137 = .ok (.aload_n 1, 1) := by decide +kernel
theorem dL_law_1138 : decode cL_law 1138 = .ok (.aload_n 0, 1) := by decide +kernel
theorem dL_law_1139 : decode cL_law 1139 = .ok (.iload_n 3, 1) := by decide +kernel
theorem dL_law_1140 : decode cL_law 1140 = .ok (.iconst 1, 1) := by decide +kernel
theorem dL_law_1141 : decode cL_law 1141 = .ok (.iadd, 1) := by decide +kernel
theorem dL_law_1142 : decode cL_law 1142 = .ok (.iaload, 1) := by decide +kernel
theorem dL_law_1143 : decode cL_law 1143 = .ok (.aload_n 0, 1) := by decide +kernel
theorem dL_law_1144 : decode cL_law 1144 = .ok (.iload_n 3, 1) := by decide +kernel
theorem dL_law_1145 : decode cL_law 1145 = .ok (.iconst 2, 1) := by decide +kernel
theorem dL_law_1146 : decode cL_law 1146 = .ok (.iadd, 1) := by decide +kernel
theorem dL_law_1147 : decode cL_law 1147 = .ok (.iaload, 1) := by decide +kernel
theorem dL_law_1148 : decode cL_law 1148 = .ok (.invokevirtual 158, 3) := by decide +kernel
theorem dL_law_1151 : decode cL_law 1151 = .ok (.aload_n 2, 1) := by decide +kernel
theorem dL_law_1152 : decode cL_law 1152 = .ok (.aload_n 0, 1) := by decide +kernel
theorem dL_law_1153 : decode cL_law 1153 = .ok (.iload_n 3, 1) := by decide +kernel
theorem dL_law_1154 : decode cL_law 1154 = .ok (.iconst 1, 1) := by decide +kernel
theorem dL_law_1155 : decode cL_law 1155 = .ok (.iadd, 1) := by decide +kernel
theorem dL_law_1156 : decode cL_law 1156 = .ok (.iaload, 1) := by decide +kernel
theorem dL_law_1157 : decode cL_law 1157 = .ok (.aload_n 0, 1) := by decide +kernel
theorem dL_law_1158 : decode cL_law 1158 = .ok (.iload_n 3, 1) := by decide +kernel
theorem dL_law_1159 : decode cL_law 1159 = .ok (.iconst 2, 1) := by decide +kernel
theorem dL_law_1160 : decode cL_law 1160 = .ok (.iadd, 1) := by decide +kernel
theorem dL_law_1161 : decode cL_law 1161 = .ok (.iaload, 1) := by decide +kernel
theorem dL_law_1162 : decode cL_law 1162 = .ok (.invokevirtual 161, 3) := by decide +kernel
theorem dL_law_1165 : decode cL_law 1165 = .ok (.if_icmp .eq 800, 3) := by decide +kernel
theorem dL_law_1170 : decode cL_law 1170 = .ok (.aload_n 1, 1) := by decide +kernel
theorem dL_law_1171 : decode cL_law 1171 = .ok (.aload_n 0, 1) := by decide +kernel
theorem dL_law_1172 : decode cL_law 1172 = .ok (.iload_n 3, 1) := by decide +kernel
theorem dL_law_1173 : decode cL_law 1173 = .ok (.iconst 1, 1) := by decide +kernel
theorem dL_law_1174 : decode cL_law 1174 = .ok (.iadd, 1) := by decide +kernel
theorem dL_law_1175 : decode cL_law 1175 = .ok (.iaload, 1) := by decide +kernel
theorem dL_law_1176 : decode cL_law 1176 = .ok (.aload_n 0, 1) := by decide +kernel
theorem dL_law_1177 : decode cL_law 1177 = .ok (.iload_n 3, 1) := by decide +kernel
theorem dL_law_1178 : decode cL_law 1178 = .ok (.iconst 2, 1) := by decide +kernel
theorem dL_law_1179 : decode cL_law 1179 = .ok (.iadd, 1) := by decide +kernel
theorem dL_law_1180 : decode cL_law 1180 = .ok (.iaload, 1) := by decide +kernel
theorem dL_law_1181 : decode cL_law 1181 = .ok (.invokevirtual 162, 3) := by decide +kernel
theorem dL_law_1184 : decode cL_law 1184 = .ok (.aload_n 2, 1) := by decide +kernel
theorem dL_law_1185 : decode cL_law 1185 = .ok (.aload_n 0, 1) := by decide +kernel
theorem dL_law_1186 : decode cL_law 1186 = .ok (.iload_n 3, 1) := by decide +kernel
theorem dL_law_1187 : decode cL_law 1187 = .ok (.iconst 1, 1) := by decide +kernel
theorem dL_law_1188 : decode cL_law 1188 = .ok (.iadd, 1) := by decide +kernel
theorem dL_law_1189 : decode cL_law 1189 = .ok (.iaload, 1) := by decide +kernel
theorem dL_law_1190 : decode cL_law 1190 = .ok (.aload_n 0, 1) := by decide +kernel
theorem dL_law_1191 : decode cL_law 1191 = .ok (.iload_n 3, 1) := by decide +kernel
theorem dL_law_1192 : decode cL_law 1192 = .ok (.iconst 2, 1) := by decide +kernel
theorem dL_law_1193 : decode cL_law 1193 = .ok (.iadd, 1) := by decide +kernel
theorem dL_law_1194 : decode cL_law 1194 = .ok (.iaload, 1) := by decide +kernel
theorem dL_law_1195 : decode cL_law 1195 = .ok (.invokevirtual 165, 3) := by decide +kernel
theorem dL_law_1198 : decode cL_law 1198 = .ok (.if_icmp .eq 767, 3) := by decide +kernel
theorem dL_law_1203 : decode cL_law 1203 = .ok (.aload_n 1, 1) := by decide +kernel
theorem dL_law_1204 : decode cL_law 1204 = .ok (.invokevirtual 166, 3) := by decide +kernel
theorem dL_law_1207 : decode cL_law 1207 = .ok (.aload_n 2, 1) := by decide +kernel
theorem dL_law_1208 : decode cL_law 1208 = .ok (.invokevirtual 169, 3) := by decide +kernel
theorem dL_law_1211 : decode cL_law 1211 = .ok (.if_icmp .eq 754, 3) := by decide +kernel
theorem dL_law_1216 : decode cL_law 1216 = .ok (.aload_n 1, 1) := by decide +kernel
theorem dL_law_1217 : decode cL_law 1217 = .ok (.aload_n 0, 1) := by decide +kernel
theorem dL_law_1218 : decode cL_law 1218 = .ok (.iload_n 3, 1) := by decide +kernel
theorem dL_law_1219 : decode cL_law 1219 = .ok (.iconst 1, 1) := by decide +kernel
theorem dL_law_1220 : decode cL_law 1220 = .ok (.iadd, 1) := by decide +kernel
theorem dL_law_1221 : decode cL_law 1221 = .ok (.iaload, 1) := by decide +kernel
theorem dL_law_1222 : decode cL_law 1222 = .ok (.invokevirtual 170, 3) := by decide +kernel
theorem dL_law_1225 : decode cL_law 1225 = .ok (.aload_n 2, 1) := by decide +kernel
theorem dL_law_1226 : decode cL_law 1226 = .ok (.aload_n 0, 1) := by decide +kernel
theorem dL_law_1227 : decode cL_law 1227 = .ok (.iload_n 3, 1) := by decide +kernel
theorem dL_law_1228 : decode cL_law 1228 = .ok (.iconst 1, 1) := by decide +kernel
theorem dL_law_1229 : decode cL_law 1229 = .ok (.iadd, 1) := by decide +kernel
theorem dL_law_1230 : decode cL_law 1230 = .ok (.iaload, 1) := by decide +kernel
theorem dL_law_1231 : decode cL_law 1231 = .ok (.invokevirtual 173, 3) := by decide +kernel
theorem dL_law_1234 : decode cL_law 1234 = .ok (.if_icmp .eq 731, 3) := by decide +kernel
theorem dL_law_1239 : decode cL_law 1239 = .ok (.aload_n 1, 1) := by decide +kernel
theorem dL_law_1240 : decode cL_law 1240 = .ok (.aload_n 0, 1) := by decide +kernel
theorem dL_law_1241 : decode cL_law 1241 = .ok (.iload_n 3, 1) := by decide +kernel
theorem dL_law_1242 : decode cL_law 1242 = .ok (.iconst 1, 1) := by decide +kernel
theorem dL_law_1243 : decode cL_law 1243 = .ok (.iadd, 1) := by decide +kernel
theorem dL_law_1244 : decode cL_law 1244 = .ok (.iaload, 1) := by decide +kernel
theorem dL_law_1245 : decode cL_law 1245 = .ok (.invokevirtual 174, 3) := by decide +kernel
theorem dL_law_1248 : decode cL_law 1248 = .ok (.aload_n 2, 1) := by decide +kernel
theorem dL_law_1249 : decode cL_law 1249 = .ok (.aload_n 0, 1) := by decide +kernel
theorem dL_law_1250 : decode cL_law 1250 = .ok (.iload_n 3, 1) := by decide +kernel
theorem dL_law_1251 : decode cL_law 1251 = .ok (.iconst 1, 1) := by decide +kernel
theorem dL_law_1252 : decode cL_law 1252 = .ok (.iadd, 1) := by decide +kernel
theorem dL_law_1253 : decode cL_law 1253 = .ok (.iaload, 1) := by decide +kernel
theorem dL_law_1254 : decode cL_law 1254 = .ok (.invokevirtual 177, 3) := by decide +kernel
theorem dL_law_1257 : decode cL_law 1257 = .ok (.if_icmp .eq 708, 3) := by decide +kernel
set_option maxHeartbeats 4000000 in
set_option maxRecDepth 100000 in
theorem lc_32 {p : Program} {e : Env} {s : State} {m : MethodId} {below : List Frame} {meth : Method} {c : Code} {l : Launch} {b : Nat} {xs : Nat → Int32} {D : va_G} {qx qm : Nat → Nat} {cx cm : Nat → ClassId} {H : Heap} {locs : List Loc} {ls : Array Slot} (C : zLaw p s m meth c b xs D qx qm cx cm) (hPx : va_P D vwCl (zw 81 qx (zXd qx cx) zXI0 zXR0 zXJ0) H) (hDx : va_D (zLA s) (zw 81 qx (zXd qx cx) zXI0 zXR0 zXJ0)) (hPm : va_P D vwCl (zw 25 qm (zMd qm cm) zMI0 zMR0 zMJ0) H) (hDm : va_D (zLA s) (zw 25 qm (zMd qm cm) zMI0 zMR0 zMJ0)) (hS : va_S (zLA s) s.heap H locs) (hl : lv_has ls 4 [(0, .ref b), (1, .ref (qx 0)), (2, .ref (qm 0)), (3, .int (nI 0))]) : W p l e room_1 s m #[Value.ref b] below meth c H locs 600000 7302250 (lw_Z below #[Value.ref b] s) (F0 m 1068 ls []) := by
  have C0 := C
  obtain ⟨⟨hx, hb, hr, hml, hown, hts, hX, hbl, hlocks, hgv⟩, hKx, hKm, hdis⟩ := C
  have hown : s.vm.findClass "ReceiptLeftLaw" = some m.cls := hown
  have ht : ∀ w ∈ zT, w.before #[Value.ref b] s = true := fun w h => hts w (zT_lw w h)
  have hA : ∀ a, s.heap.size ≤ a → zLA s a := fun _ h => h
  have hbA : ¬ zLA s b := Nat.not_le.mpr hbl
  refine lv_aload_n hx hb dL_law_1068 rfl (lv_at hl 1 rfl) ?_
  refine lv_aload_n hx hb dL_law_1069 rfl (lv_at hl 0 rfl) ?_
  refine lv_iload_n hx hb dL_law_1070 rfl (lv_at hl 3 rfl) ?_
  refine lv_iconst (v := nI 1) hx hb dL_law_1071 (by decide +kernel) ?_
  refine lv_iadd hx hb dL_law_1072 ?_
  refine z_eqi (y := nI 1) (by decide +kernel) ?_
  refine va_sld hx hb hX hbl hbA hS (vp_in_nI (by decide) (by decide)) dL_law_1073 ?_
  refine z_eqi (y := xs 1) rfl ?_
  refine z_callVi (k := 0) (As := [.int (xs 1)]) (rest := []) hx hb hml hown ht (kX10_lacks l D qx cx (xs 1)) hw_4_144 hmX10_lacks ⟨rfl, rfl⟩ (na := 1) rfl (by decide +kernel) ⟨Nat.le_of_ble_eq_true rfl, Nat.le_of_ble_eq_true rfl⟩ (by decide) rfl rfl hKx hPx hDx hS hA hl.1 rfl (Nat.le_of_ble_eq_true rfl) ⟨Nat.le_of_ble_eq_true rfl, Nat.le_of_ble_eq_true rfl⟩ dL_law_1074 (fun r_x I_x R_x J_x H1 locs hp_x hPx hDx hS hz_x hk_x => ?_)
  have hPm := z_frame (q := qx) (n := 81) hPm hdis hk_x
  generalize H1 = H at hPm hPx hS ⊢
  refine lv_aload_n hx hb dL_law_1077 rfl (lv_at hl 2 rfl) ?_
  refine lv_aload_n hx hb dL_law_1078 rfl (lv_at hl 0 rfl) ?_
  refine lv_iload_n hx hb dL_law_1079 rfl (lv_at hl 3 rfl) ?_
  refine lv_iconst (v := nI 1) hx hb dL_law_1080 (by decide +kernel) ?_
  refine lv_iadd hx hb dL_law_1081 ?_
  refine z_eqi (y := nI 1) (by decide +kernel) ?_
  refine va_sld hx hb hX hbl hbA hS (vp_in_nI (by decide) (by decide)) dL_law_1082 ?_
  refine z_eqi (y := xs 1) rfl ?_
  refine z_callVi (k := 0) (As := [.int (xs 1)]) (rest := [.int (r_x)]) hx hb hml hown ht (kX11_lacks l D qm cm (xs 1)) hw_7_184 hmX11_lacks ⟨rfl, rfl⟩ (na := 1) rfl (by decide +kernel) ⟨Nat.le_of_ble_eq_true rfl, Nat.le_of_ble_eq_true rfl⟩ (by decide) rfl rfl hKm hPm hDm hS hA hl.1 rfl (Nat.le_of_ble_eq_true rfl) ⟨Nat.le_of_ble_eq_true rfl, Nat.le_of_ble_eq_true rfl⟩ dL_law_1083 (fun r_m I_m R_m J_m H1 locs hp_m hPm hDm hS hz_m hk_m => ?_)
  have heq : r_x = r_m := Eq.trans hp_x (Eq.symm hp_m)
  refine lv_icmp_eq (tgt := 1965) hx hb dL_law_1086 (by decide) (fun _ => ?_) (fun c_0 => absurd heq c_0)
  exact lc_end C0 hS (lv_sub hl [0, 3] rfl)
set_option maxHeartbeats 4000000 in
set_option maxRecDepth 100000 in
theorem lc_33 {p : Program} {e : Env} {s : State} {m : MethodId} {below : List Frame} {meth : Method} {c : Code} {l : Launch} {b : Nat} {xs : Nat → Int32} {D : va_G} {qx qm : Nat → Nat} {cx cm : Nat → ClassId} {H : Heap} {locs : List Loc} {ls : Array Slot} (C : zLaw p s m meth c b xs D qx qm cx cm) (hPx : va_P D vwCl (zw 81 qx (zXd qx cx) zXI0 zXR0 zXJ0) H) (hDx : va_D (zLA s) (zw 81 qx (zXd qx cx) zXI0 zXR0 zXJ0)) (hPm : va_P D vwCl (zw 25 qm (zMd qm cm) zMI0 zMR0 zMJ0) H) (hDm : va_D (zLA s) (zw 25 qm (zMd qm cm) zMI0 zMR0 zMJ0)) (hS : va_S (zLA s) s.heap H locs) (hl : lv_has ls 4 [(0, .ref b), (1, .ref (qx 0)), (2, .ref (qm 0)), (3, .int (nI 0))]) : W p l e room_1 s m #[Value.ref b] below meth c H locs 600000 7302250 (lw_Z below #[Value.ref b] s) (F0 m 1091 ls []) := by
  have C0 := C
  obtain ⟨⟨hx, hb, hr, hml, hown, hts, hX, hbl, hlocks, hgv⟩, hKx, hKm, hdis⟩ := C
  have hown : s.vm.findClass "ReceiptLeftLaw" = some m.cls := hown
  have ht : ∀ w ∈ zT, w.before #[Value.ref b] s = true := fun w h => hts w (zT_lw w h)
  have hA : ∀ a, s.heap.size ≤ a → zLA s a := fun _ h => h
  have hbA : ¬ zLA s b := Nat.not_le.mpr hbl
  refine lv_aload_n hx hb dL_law_1091 rfl (lv_at hl 1 rfl) ?_
  refine lv_aload_n hx hb dL_law_1092 rfl (lv_at hl 0 rfl) ?_
  refine lv_iload_n hx hb dL_law_1093 rfl (lv_at hl 3 rfl) ?_
  refine lv_iconst (v := nI 1) hx hb dL_law_1094 (by decide +kernel) ?_
  refine lv_iadd hx hb dL_law_1095 ?_
  refine z_eqi (y := nI 1) (by decide +kernel) ?_
  refine va_sld hx hb hX hbl hbA hS (vp_in_nI (by decide) (by decide)) dL_law_1096 ?_
  refine z_eqi (y := xs 1) rfl ?_
  refine z_callVi (k := 0) (As := [.int (xs 1)]) (rest := []) hx hb hml hown ht (kX10_needs l D qx cx (xs 1)) hw_4_152 hmX10_needs ⟨rfl, rfl⟩ (na := 1) rfl (by decide +kernel) ⟨Nat.le_of_ble_eq_true rfl, Nat.le_of_ble_eq_true rfl⟩ (by decide) rfl rfl hKx hPx hDx hS hA hl.1 rfl (Nat.le_of_ble_eq_true rfl) ⟨Nat.le_of_ble_eq_true rfl, Nat.le_of_ble_eq_true rfl⟩ dL_law_1097 (fun r_x I_x R_x J_x H1 locs hp_x hPx hDx hS hz_x hk_x => ?_)
  have hPm := z_frame (q := qx) (n := 81) hPm hdis hk_x
  generalize H1 = H at hPm hPx hS ⊢
  refine lv_aload_n hx hb dL_law_1100 rfl (lv_at hl 2 rfl) ?_
  refine lv_aload_n hx hb dL_law_1101 rfl (lv_at hl 0 rfl) ?_
  refine lv_iload_n hx hb dL_law_1102 rfl (lv_at hl 3 rfl) ?_
  refine lv_iconst (v := nI 1) hx hb dL_law_1103 (by decide +kernel) ?_
  refine lv_iadd hx hb dL_law_1104 ?_
  refine z_eqi (y := nI 1) (by decide +kernel) ?_
  refine va_sld hx hb hX hbl hbA hS (vp_in_nI (by decide) (by decide)) dL_law_1105 ?_
  refine z_eqi (y := xs 1) rfl ?_
  refine z_callVi (k := 0) (As := [.int (xs 1)]) (rest := [.int (r_x)]) hx hb hml hown ht (kX11_needs_ l D qm cm (xs 1)) hw_7_188 hmX11_needs_ ⟨rfl, rfl⟩ (na := 1) rfl (by decide +kernel) ⟨Nat.le_of_ble_eq_true rfl, Nat.le_of_ble_eq_true rfl⟩ (by decide) rfl rfl hKm hPm hDm hS hA hl.1 rfl (Nat.le_of_ble_eq_true rfl) ⟨Nat.le_of_ble_eq_true rfl, Nat.le_of_ble_eq_true rfl⟩ dL_law_1106 (fun r_m I_m R_m J_m H1 locs hp_m hPm hDm hS hz_m hk_m => ?_)
  have heq : r_x = r_m := Eq.trans hp_x (Eq.symm hp_m)
  refine lv_icmp_eq (tgt := 1965) hx hb dL_law_1109 (by decide) (fun _ => ?_) (fun c_0 => absurd heq c_0)
  exact lc_end C0 hS (lv_sub hl [0, 3] rfl)
set_option maxHeartbeats 4000000 in
set_option maxRecDepth 100000 in
theorem lc_34 {p : Program} {e : Env} {s : State} {m : MethodId} {below : List Frame} {meth : Method} {c : Code} {l : Launch} {b : Nat} {xs : Nat → Int32} {D : va_G} {qx qm : Nat → Nat} {cx cm : Nat → ClassId} {H : Heap} {locs : List Loc} {ls : Array Slot} (C : zLaw p s m meth c b xs D qx qm cx cm) (hPx : va_P D vwCl (zw 81 qx (zXd qx cx) zXI0 zXR0 zXJ0) H) (hDx : va_D (zLA s) (zw 81 qx (zXd qx cx) zXI0 zXR0 zXJ0)) (hPm : va_P D vwCl (zw 25 qm (zMd qm cm) zMI0 zMR0 zMJ0) H) (hDm : va_D (zLA s) (zw 25 qm (zMd qm cm) zMI0 zMR0 zMJ0)) (hS : va_S (zLA s) s.heap H locs) (hl : lv_has ls 4 [(0, .ref b), (1, .ref (qx 0)), (2, .ref (qm 0)), (3, .int (nI 0))]) : W p l e room_1 s m #[Value.ref b] below meth c H locs 600000 7302250 (lw_Z below #[Value.ref b] s) (F0 m 1114 ls []) := by
  have C0 := C
  obtain ⟨⟨hx, hb, hr, hml, hown, hts, hX, hbl, hlocks, hgv⟩, hKx, hKm, hdis⟩ := C
  have hown : s.vm.findClass "ReceiptLeftLaw" = some m.cls := hown
  have ht : ∀ w ∈ zT, w.before #[Value.ref b] s = true := fun w h => hts w (zT_lw w h)
  have hA : ∀ a, s.heap.size ≤ a → zLA s a := fun _ h => h
  have hbA : ¬ zLA s b := Nat.not_le.mpr hbl
  refine lv_aload_n hx hb dL_law_1114 rfl (lv_at hl 1 rfl) ?_
  refine lv_aload_n hx hb dL_law_1115 rfl (lv_at hl 0 rfl) ?_
  refine lv_iload_n hx hb dL_law_1116 rfl (lv_at hl 3 rfl) ?_
  refine lv_iconst (v := nI 1) hx hb dL_law_1117 (by decide +kernel) ?_
  refine lv_iadd hx hb dL_law_1118 ?_
  refine z_eqi (y := nI 1) (by decide +kernel) ?_
  refine va_sld hx hb hX hbl hbA hS (vp_in_nI (by decide) (by decide)) dL_law_1119 ?_
  refine z_eqi (y := xs 1) rfl ?_
  refine z_callVi (k := 0) (As := [.int (xs 1)]) (rest := []) hx hb hml hown ht (kX10_fails l D qx cx (xs 1)) hw_4_165 hmX10_fails ⟨rfl, rfl⟩ (na := 1) rfl (by decide +kernel) ⟨Nat.le_of_ble_eq_true rfl, Nat.le_of_ble_eq_true rfl⟩ (by decide) rfl rfl hKx hPx hDx hS hA hl.1 rfl (Nat.le_of_ble_eq_true rfl) ⟨Nat.le_of_ble_eq_true rfl, Nat.le_of_ble_eq_true rfl⟩ dL_law_1120 (fun r_x I_x R_x J_x H1 locs hp_x hPx hDx hS hz_x hk_x => ?_)
  have hPm := z_frame (q := qx) (n := 81) hPm hdis hk_x
  generalize H1 = H at hPm hPx hS ⊢
  refine lv_aload_n hx hb dL_law_1123 rfl (lv_at hl 2 rfl) ?_
  refine lv_aload_n hx hb dL_law_1124 rfl (lv_at hl 0 rfl) ?_
  refine lv_iload_n hx hb dL_law_1125 rfl (lv_at hl 3 rfl) ?_
  refine lv_iconst (v := nI 1) hx hb dL_law_1126 (by decide +kernel) ?_
  refine lv_iadd hx hb dL_law_1127 ?_
  refine z_eqi (y := nI 1) (by decide +kernel) ?_
  refine va_sld hx hb hX hbl hbA hS (vp_in_nI (by decide) (by decide)) dL_law_1128 ?_
  refine z_eqi (y := xs 1) rfl ?_
  refine z_callVi (k := 0) (As := [.int (xs 1)]) (rest := [.int (r_x)]) hx hb hml hown ht (kX11_fails l D qm cm (xs 1)) hw_7_193 hmX11_fails ⟨rfl, rfl⟩ (na := 1) rfl (by decide +kernel) ⟨Nat.le_of_ble_eq_true rfl, Nat.le_of_ble_eq_true rfl⟩ (by decide) rfl rfl hKm hPm hDm hS hA hl.1 rfl (Nat.le_of_ble_eq_true rfl) ⟨Nat.le_of_ble_eq_true rfl, Nat.le_of_ble_eq_true rfl⟩ dL_law_1129 (fun r_m I_m R_m J_m H1 locs hp_m hPm hDm hS hz_m hk_m => ?_)
  have heq : r_x = r_m := Eq.trans hp_x (Eq.symm hp_m)
  refine lv_icmp_eq (tgt := 1965) hx hb dL_law_1132 (by decide) (fun _ => ?_) (fun c_0 => absurd heq c_0)
  exact lc_end C0 hS (lv_sub hl [0, 3] rfl)
set_option maxHeartbeats 4000000 in
set_option maxRecDepth 100000 in
theorem lc_35 {p : Program} {e : Env} {s : State} {m : MethodId} {below : List Frame} {meth : Method} {c : Code} {l : Launch} {b : Nat} {xs : Nat → Int32} {D : va_G} {qx qm : Nat → Nat} {cx cm : Nat → ClassId} {H : Heap} {locs : List Loc} {ls : Array Slot} (C : zLaw p s m meth c b xs D qx qm cx cm) (hPx : va_P D vwCl (zw 81 qx (zXd qx cx) zXI0 zXR0 zXJ0) H) (hDx : va_D (zLA s) (zw 81 qx (zXd qx cx) zXI0 zXR0 zXJ0)) (hPm : va_P D vwCl (zw 25 qm (zMd qm cm) zMI0 zMR0 zMJ0) H) (hDm : va_D (zLA s) (zw 25 qm (zMd qm cm) zMI0 zMR0 zMJ0)) (hS : va_S (zLA s) s.heap H locs) (hl : lv_has ls 4 [(0, .ref b), (1, .ref (qx 0)), (2, .ref (qm 0)), (3, .int (nI 0))]) : W p l e room_1 s m #[Value.ref b] below meth c H locs 600000 7302250 (lw_Z below #[Value.ref b] s) (F0 m 1137 ls []) := by
  have C0 := C
  obtain ⟨⟨hx, hb, hr, hml, hown, hts, hX, hbl, hlocks, hgv⟩, hKx, hKm, hdis⟩ := C
  have hown : s.vm.findClass "ReceiptLeftLaw" = some m.cls := hown
  have ht : ∀ w ∈ zT, w.before #[Value.ref b] s = true := fun w h => hts w (zT_lw w h)
  have hA : ∀ a, s.heap.size ≤ a → zLA s a := fun _ h => h
  have hbA : ¬ zLA s b := Nat.not_le.mpr hbl
  refine lv_aload_n hx hb dL_law_1137 rfl (lv_at hl 1 rfl) ?_
  refine lv_aload_n hx hb dL_law_1138 rfl (lv_at hl 0 rfl) ?_
  refine lv_iload_n hx hb dL_law_1139 rfl (lv_at hl 3 rfl) ?_
  refine lv_iconst (v := nI 1) hx hb dL_law_1140 (by decide +kernel) ?_
  refine lv_iadd hx hb dL_law_1141 ?_
  refine z_eqi (y := nI 1) (by decide +kernel) ?_
  refine va_sld hx hb hX hbl hbA hS (vp_in_nI (by decide) (by decide)) dL_law_1142 ?_
  refine z_eqi (y := xs 1) rfl ?_
  refine lv_aload_n hx hb dL_law_1143 rfl (lv_at hl 0 rfl) ?_
  refine lv_iload_n hx hb dL_law_1144 rfl (lv_at hl 3 rfl) ?_
  refine lv_iconst (v := nI 2) hx hb dL_law_1145 (by decide +kernel) ?_
  refine lv_iadd hx hb dL_law_1146 ?_
  refine z_eqi (y := nI 2) (by decide +kernel) ?_
  refine va_sld hx hb hX hbl hbA hS (vp_in_nI (by decide) (by decide)) dL_law_1147 ?_
  refine z_eqi (y := xs 2) rfl ?_
  refine z_callVi (k := 0) (As := [.int (xs 1), .int (xs 2)]) (rest := []) hx hb hml hown ht (kX10_later l D qx cx (xs 1) (xs 2)) hw_4_177 hmX10_later ⟨rfl, rfl⟩ (na := 2) rfl (by decide +kernel) ⟨Nat.le_of_ble_eq_true rfl, Nat.le_of_ble_eq_true rfl⟩ (by decide) rfl rfl hKx hPx hDx hS hA hl.1 rfl (Nat.le_of_ble_eq_true rfl) ⟨Nat.le_of_ble_eq_true rfl, Nat.le_of_ble_eq_true rfl⟩ dL_law_1148 (fun r_x I_x R_x J_x H1 locs hp_x hPx hDx hS hz_x hk_x => ?_)
  have hPm := z_frame (q := qx) (n := 81) hPm hdis hk_x
  generalize H1 = H at hPm hPx hS ⊢
  refine lv_aload_n hx hb dL_law_1151 rfl (lv_at hl 2 rfl) ?_
  refine lv_aload_n hx hb dL_law_1152 rfl (lv_at hl 0 rfl) ?_
  refine lv_iload_n hx hb dL_law_1153 rfl (lv_at hl 3 rfl) ?_
  refine lv_iconst (v := nI 1) hx hb dL_law_1154 (by decide +kernel) ?_
  refine lv_iadd hx hb dL_law_1155 ?_
  refine z_eqi (y := nI 1) (by decide +kernel) ?_
  refine va_sld hx hb hX hbl hbA hS (vp_in_nI (by decide) (by decide)) dL_law_1156 ?_
  refine z_eqi (y := xs 1) rfl ?_
  refine lv_aload_n hx hb dL_law_1157 rfl (lv_at hl 0 rfl) ?_
  refine lv_iload_n hx hb dL_law_1158 rfl (lv_at hl 3 rfl) ?_
  refine lv_iconst (v := nI 2) hx hb dL_law_1159 (by decide +kernel) ?_
  refine lv_iadd hx hb dL_law_1160 ?_
  refine z_eqi (y := nI 2) (by decide +kernel) ?_
  refine va_sld hx hb hX hbl hbA hS (vp_in_nI (by decide) (by decide)) dL_law_1161 ?_
  refine z_eqi (y := xs 2) rfl ?_
  refine z_callVi (k := 0) (As := [.int (xs 1), .int (xs 2)]) (rest := [.int (r_x)]) hx hb hml hown ht (kX11_later l D qm cm (xs 1) (xs 2)) hw_7_208 hmX11_later ⟨rfl, rfl⟩ (na := 2) rfl (by decide +kernel) ⟨Nat.le_of_ble_eq_true rfl, Nat.le_of_ble_eq_true rfl⟩ (by decide) rfl rfl hKm hPm hDm hS hA hl.1 rfl (Nat.le_of_ble_eq_true rfl) ⟨Nat.le_of_ble_eq_true rfl, Nat.le_of_ble_eq_true rfl⟩ dL_law_1162 (fun r_m I_m R_m J_m H1 locs hp_m hPm hDm hS hz_m hk_m => ?_)
  have heq : r_x = r_m := Eq.trans hp_x (Eq.symm hp_m)
  refine lv_icmp_eq (tgt := 1965) hx hb dL_law_1165 (by decide) (fun _ => ?_) (fun c_0 => absurd heq c_0)
  exact lc_end C0 hS (lv_sub hl [0, 3] rfl)
set_option maxHeartbeats 4000000 in
set_option maxRecDepth 100000 in
theorem lc_36 {p : Program} {e : Env} {s : State} {m : MethodId} {below : List Frame} {meth : Method} {c : Code} {l : Launch} {b : Nat} {xs : Nat → Int32} {D : va_G} {qx qm : Nat → Nat} {cx cm : Nat → ClassId} {H : Heap} {locs : List Loc} {ls : Array Slot} (C : zLaw p s m meth c b xs D qx qm cx cm) (hPx : va_P D vwCl (zw 81 qx (zXd qx cx) zXI0 zXR0 zXJ0) H) (hDx : va_D (zLA s) (zw 81 qx (zXd qx cx) zXI0 zXR0 zXJ0)) (hPm : va_P D vwCl (zw 25 qm (zMd qm cm) zMI0 zMR0 zMJ0) H) (hDm : va_D (zLA s) (zw 25 qm (zMd qm cm) zMI0 zMR0 zMJ0)) (hS : va_S (zLA s) s.heap H locs) (hl : lv_has ls 4 [(0, .ref b), (1, .ref (qx 0)), (2, .ref (qm 0)), (3, .int (nI 0))]) : W p l e room_1 s m #[Value.ref b] below meth c H locs 600000 7302250 (lw_Z below #[Value.ref b] s) (F0 m 1170 ls []) := by
  have C0 := C
  obtain ⟨⟨hx, hb, hr, hml, hown, hts, hX, hbl, hlocks, hgv⟩, hKx, hKm, hdis⟩ := C
  have hown : s.vm.findClass "ReceiptLeftLaw" = some m.cls := hown
  have ht : ∀ w ∈ zT, w.before #[Value.ref b] s = true := fun w h => hts w (zT_lw w h)
  have hA : ∀ a, s.heap.size ≤ a → zLA s a := fun _ h => h
  have hbA : ¬ zLA s b := Nat.not_le.mpr hbl
  refine lv_aload_n hx hb dL_law_1170 rfl (lv_at hl 1 rfl) ?_
  refine lv_aload_n hx hb dL_law_1171 rfl (lv_at hl 0 rfl) ?_
  refine lv_iload_n hx hb dL_law_1172 rfl (lv_at hl 3 rfl) ?_
  refine lv_iconst (v := nI 1) hx hb dL_law_1173 (by decide +kernel) ?_
  refine lv_iadd hx hb dL_law_1174 ?_
  refine z_eqi (y := nI 1) (by decide +kernel) ?_
  refine va_sld hx hb hX hbl hbA hS (vp_in_nI (by decide) (by decide)) dL_law_1175 ?_
  refine z_eqi (y := xs 1) rfl ?_
  refine lv_aload_n hx hb dL_law_1176 rfl (lv_at hl 0 rfl) ?_
  refine lv_iload_n hx hb dL_law_1177 rfl (lv_at hl 3 rfl) ?_
  refine lv_iconst (v := nI 2) hx hb dL_law_1178 (by decide +kernel) ?_
  refine lv_iadd hx hb dL_law_1179 ?_
  refine z_eqi (y := nI 2) (by decide +kernel) ?_
  refine va_sld hx hb hX hbl hbA hS (vp_in_nI (by decide) (by decide)) dL_law_1180 ?_
  refine z_eqi (y := xs 2) rfl ?_
  refine z_callVi (k := 0) (As := [.int (xs 1), .int (xs 2)]) (rest := []) hx hb hml hown ht (kX10_purse l D qx cx (xs 1) (xs 2)) hw_4_181 hmX10_purse ⟨rfl, rfl⟩ (na := 2) rfl (by decide +kernel) ⟨Nat.le_of_ble_eq_true rfl, Nat.le_of_ble_eq_true rfl⟩ (by decide) rfl rfl hKx hPx hDx hS hA hl.1 rfl (Nat.le_of_ble_eq_true rfl) ⟨Nat.le_of_ble_eq_true rfl, Nat.le_of_ble_eq_true rfl⟩ dL_law_1181 (fun r_x I_x R_x J_x H1 locs hp_x hPx hDx hS hz_x hk_x => ?_)
  have hPm := z_frame (q := qx) (n := 81) hPm hdis hk_x
  generalize H1 = H at hPm hPx hS ⊢
  refine lv_aload_n hx hb dL_law_1184 rfl (lv_at hl 2 rfl) ?_
  refine lv_aload_n hx hb dL_law_1185 rfl (lv_at hl 0 rfl) ?_
  refine lv_iload_n hx hb dL_law_1186 rfl (lv_at hl 3 rfl) ?_
  refine lv_iconst (v := nI 1) hx hb dL_law_1187 (by decide +kernel) ?_
  refine lv_iadd hx hb dL_law_1188 ?_
  refine z_eqi (y := nI 1) (by decide +kernel) ?_
  refine va_sld hx hb hX hbl hbA hS (vp_in_nI (by decide) (by decide)) dL_law_1189 ?_
  refine z_eqi (y := xs 1) rfl ?_
  refine lv_aload_n hx hb dL_law_1190 rfl (lv_at hl 0 rfl) ?_
  refine lv_iload_n hx hb dL_law_1191 rfl (lv_at hl 3 rfl) ?_
  refine lv_iconst (v := nI 2) hx hb dL_law_1192 (by decide +kernel) ?_
  refine lv_iadd hx hb dL_law_1193 ?_
  refine z_eqi (y := nI 2) (by decide +kernel) ?_
  refine va_sld hx hb hX hbl hbA hS (vp_in_nI (by decide) (by decide)) dL_law_1194 ?_
  refine z_eqi (y := xs 2) rfl ?_
  refine z_callVi (k := 0) (As := [.int (xs 1), .int (xs 2)]) (rest := [.int (r_x)]) hx hb hml hown ht (kX11_purse l D qm cm (xs 1) (xs 2)) hw_7_212 hmX11_purse ⟨rfl, rfl⟩ (na := 2) rfl (by decide +kernel) ⟨Nat.le_of_ble_eq_true rfl, Nat.le_of_ble_eq_true rfl⟩ (by decide) rfl rfl hKm hPm hDm hS hA hl.1 rfl (Nat.le_of_ble_eq_true rfl) ⟨Nat.le_of_ble_eq_true rfl, Nat.le_of_ble_eq_true rfl⟩ dL_law_1195 (fun r_m I_m R_m J_m H1 locs hp_m hPm hDm hS hz_m hk_m => ?_)
  have heq : r_x = r_m := Eq.trans hp_x (Eq.symm hp_m)
  refine lv_icmp_eq (tgt := 1965) hx hb dL_law_1198 (by decide) (fun _ => ?_) (fun c_0 => absurd heq c_0)
  exact lc_end C0 hS (lv_sub hl [0, 3] rfl)
set_option maxHeartbeats 4000000 in
set_option maxRecDepth 100000 in
theorem lc_37 {p : Program} {e : Env} {s : State} {m : MethodId} {below : List Frame} {meth : Method} {c : Code} {l : Launch} {b : Nat} {xs : Nat → Int32} {D : va_G} {qx qm : Nat → Nat} {cx cm : Nat → ClassId} {H : Heap} {locs : List Loc} {ls : Array Slot} (C : zLaw p s m meth c b xs D qx qm cx cm) (hPx : va_P D vwCl (zw 81 qx (zXd qx cx) zXI0 zXR0 zXJ0) H) (hDx : va_D (zLA s) (zw 81 qx (zXd qx cx) zXI0 zXR0 zXJ0)) (hPm : va_P D vwCl (zw 25 qm (zMd qm cm) zMI0 zMR0 zMJ0) H) (hDm : va_D (zLA s) (zw 25 qm (zMd qm cm) zMI0 zMR0 zMJ0)) (hS : va_S (zLA s) s.heap H locs) (hl : lv_has ls 4 [(0, .ref b), (1, .ref (qx 0)), (2, .ref (qm 0)), (3, .int (nI 0))]) : W p l e room_1 s m #[Value.ref b] below meth c H locs 600000 7302250 (lw_Z below #[Value.ref b] s) (F0 m 1203 ls []) := by
  have C0 := C
  obtain ⟨⟨hx, hb, hr, hml, hown, hts, hX, hbl, hlocks, hgv⟩, hKx, hKm, hdis⟩ := C
  have hown : s.vm.findClass "ReceiptLeftLaw" = some m.cls := hown
  have ht : ∀ w ∈ zT, w.before #[Value.ref b] s = true := fun w h => hts w (zT_lw w h)
  have hA : ∀ a, s.heap.size ≤ a → zLA s a := fun _ h => h
  have hbA : ¬ zLA s b := Nat.not_le.mpr hbl
  refine lv_aload_n hx hb dL_law_1203 rfl (lv_at hl 1 rfl) ?_
  refine z_callVi (k := 0) (As := []) (rest := []) hx hb hml hown ht (kX10_run l D qx cx ) hw_4_185 hmX10_run ⟨rfl, rfl⟩ (na := 0) rfl (by decide +kernel) ⟨Nat.le_of_ble_eq_true rfl, Nat.le_of_ble_eq_true rfl⟩ (by decide) rfl rfl hKx hPx hDx hS hA hl.1 rfl (Nat.le_of_ble_eq_true rfl) ⟨Nat.le_of_ble_eq_true rfl, Nat.le_of_ble_eq_true rfl⟩ dL_law_1204 (fun r_x I_x R_x J_x H1 locs hp_x hPx hDx hS hz_x hk_x => ?_)
  have hPm := z_frame (q := qx) (n := 81) hPm hdis hk_x
  generalize H1 = H at hPm hPx hS ⊢
  refine lv_aload_n hx hb dL_law_1207 rfl (lv_at hl 2 rfl) ?_
  refine z_callVi (k := 0) (As := []) (rest := [.int (r_x)]) hx hb hml hown ht (kX11_run l D qm cm ) hw_7_216 hmX11_run ⟨rfl, rfl⟩ (na := 0) rfl (by decide +kernel) ⟨Nat.le_of_ble_eq_true rfl, Nat.le_of_ble_eq_true rfl⟩ (by decide) rfl rfl hKm hPm hDm hS hA hl.1 rfl (Nat.le_of_ble_eq_true rfl) ⟨Nat.le_of_ble_eq_true rfl, Nat.le_of_ble_eq_true rfl⟩ dL_law_1208 (fun r_m I_m R_m J_m H1 locs hp_m hPm hDm hS hz_m hk_m => ?_)
  have heq : r_x = r_m := Eq.trans hp_x (Eq.symm hp_m)
  refine lv_icmp_eq (tgt := 1965) hx hb dL_law_1211 (by decide) (fun _ => ?_) (fun c_0 => absurd heq c_0)
  exact lc_end C0 hS (lv_sub hl [0, 3] rfl)
set_option maxHeartbeats 4000000 in
set_option maxRecDepth 100000 in
theorem lc_38 {p : Program} {e : Env} {s : State} {m : MethodId} {below : List Frame} {meth : Method} {c : Code} {l : Launch} {b : Nat} {xs : Nat → Int32} {D : va_G} {qx qm : Nat → Nat} {cx cm : Nat → ClassId} {H : Heap} {locs : List Loc} {ls : Array Slot} (C : zLaw p s m meth c b xs D qx qm cx cm) (hPx : va_P D vwCl (zw 81 qx (zXd qx cx) zXI0 zXR0 zXJ0) H) (hDx : va_D (zLA s) (zw 81 qx (zXd qx cx) zXI0 zXR0 zXJ0)) (hPm : va_P D vwCl (zw 25 qm (zMd qm cm) zMI0 zMR0 zMJ0) H) (hDm : va_D (zLA s) (zw 25 qm (zMd qm cm) zMI0 zMR0 zMJ0)) (hS : va_S (zLA s) s.heap H locs) (hl : lv_has ls 4 [(0, .ref b), (1, .ref (qx 0)), (2, .ref (qm 0)), (3, .int (nI 0))]) : W p l e room_1 s m #[Value.ref b] below meth c H locs 600000 7302250 (lw_Z below #[Value.ref b] s) (F0 m 1216 ls []) := by
  have C0 := C
  obtain ⟨⟨hx, hb, hr, hml, hown, hts, hX, hbl, hlocks, hgv⟩, hKx, hKm, hdis⟩ := C
  have hown : s.vm.findClass "ReceiptLeftLaw" = some m.cls := hown
  have ht : ∀ w ∈ zT, w.before #[Value.ref b] s = true := fun w h => hts w (zT_lw w h)
  have hA : ∀ a, s.heap.size ≤ a → zLA s a := fun _ h => h
  have hbA : ¬ zLA s b := Nat.not_le.mpr hbl
  refine lv_aload_n hx hb dL_law_1216 rfl (lv_at hl 1 rfl) ?_
  refine lv_aload_n hx hb dL_law_1217 rfl (lv_at hl 0 rfl) ?_
  refine lv_iload_n hx hb dL_law_1218 rfl (lv_at hl 3 rfl) ?_
  refine lv_iconst (v := nI 1) hx hb dL_law_1219 (by decide +kernel) ?_
  refine lv_iadd hx hb dL_law_1220 ?_
  refine z_eqi (y := nI 1) (by decide +kernel) ?_
  refine va_sld hx hb hX hbl hbA hS (vp_in_nI (by decide) (by decide)) dL_law_1221 ?_
  refine z_eqi (y := xs 1) rfl ?_
  refine z_callVi (k := 0) (As := [.int (xs 1)]) (rest := []) hx hb hml hown ht (kX10_hit l D qx cx (xs 1)) hw_4_197 hmX10_hit ⟨rfl, rfl⟩ (na := 1) rfl (by decide +kernel) ⟨Nat.le_of_ble_eq_true rfl, Nat.le_of_ble_eq_true rfl⟩ (by decide) rfl rfl hKx hPx hDx hS hA hl.1 rfl (Nat.le_of_ble_eq_true rfl) ⟨Nat.le_of_ble_eq_true rfl, Nat.le_of_ble_eq_true rfl⟩ dL_law_1222 (fun r_x I_x R_x J_x H1 locs hp_x hPx hDx hS hz_x hk_x => ?_)
  have hPm := z_frame (q := qx) (n := 81) hPm hdis hk_x
  generalize H1 = H at hPm hPx hS ⊢
  refine lv_aload_n hx hb dL_law_1225 rfl (lv_at hl 2 rfl) ?_
  refine lv_aload_n hx hb dL_law_1226 rfl (lv_at hl 0 rfl) ?_
  refine lv_iload_n hx hb dL_law_1227 rfl (lv_at hl 3 rfl) ?_
  refine lv_iconst (v := nI 1) hx hb dL_law_1228 (by decide +kernel) ?_
  refine lv_iadd hx hb dL_law_1229 ?_
  refine z_eqi (y := nI 1) (by decide +kernel) ?_
  refine va_sld hx hb hX hbl hbA hS (vp_in_nI (by decide) (by decide)) dL_law_1230 ?_
  refine z_eqi (y := xs 1) rfl ?_
  refine z_callVi (k := 0) (As := [.int (xs 1)]) (rest := [.int (r_x)]) hx hb hml hown ht (kX11_hit l D qm cm (xs 1)) hw_7_223 hmX11_hit ⟨rfl, rfl⟩ (na := 1) rfl (by decide +kernel) ⟨Nat.le_of_ble_eq_true rfl, Nat.le_of_ble_eq_true rfl⟩ (by decide) rfl rfl hKm hPm hDm hS hA hl.1 rfl (Nat.le_of_ble_eq_true rfl) ⟨Nat.le_of_ble_eq_true rfl, Nat.le_of_ble_eq_true rfl⟩ dL_law_1231 (fun r_m I_m R_m J_m H1 locs hp_m hPm hDm hS hz_m hk_m => ?_)
  have heq : r_x = r_m := Eq.trans hp_x (Eq.symm hp_m)
  refine lv_icmp_eq (tgt := 1965) hx hb dL_law_1234 (by decide) (fun _ => ?_) (fun c_0 => absurd heq c_0)
  exact lc_end C0 hS (lv_sub hl [0, 3] rfl)
set_option maxHeartbeats 4000000 in
set_option maxRecDepth 100000 in
theorem lc_39 {p : Program} {e : Env} {s : State} {m : MethodId} {below : List Frame} {meth : Method} {c : Code} {l : Launch} {b : Nat} {xs : Nat → Int32} {D : va_G} {qx qm : Nat → Nat} {cx cm : Nat → ClassId} {H : Heap} {locs : List Loc} {ls : Array Slot} (C : zLaw p s m meth c b xs D qx qm cx cm) (hPx : va_P D vwCl (zw 81 qx (zXd qx cx) zXI0 zXR0 zXJ0) H) (hDx : va_D (zLA s) (zw 81 qx (zXd qx cx) zXI0 zXR0 zXJ0)) (hPm : va_P D vwCl (zw 25 qm (zMd qm cm) zMI0 zMR0 zMJ0) H) (hDm : va_D (zLA s) (zw 25 qm (zMd qm cm) zMI0 zMR0 zMJ0)) (hS : va_S (zLA s) s.heap H locs) (hl : lv_has ls 4 [(0, .ref b), (1, .ref (qx 0)), (2, .ref (qm 0)), (3, .int (nI 0))]) : W p l e room_1 s m #[Value.ref b] below meth c H locs 600000 7302250 (lw_Z below #[Value.ref b] s) (F0 m 1239 ls []) := by
  have C0 := C
  obtain ⟨⟨hx, hb, hr, hml, hown, hts, hX, hbl, hlocks, hgv⟩, hKx, hKm, hdis⟩ := C
  have hown : s.vm.findClass "ReceiptLeftLaw" = some m.cls := hown
  have ht : ∀ w ∈ zT, w.before #[Value.ref b] s = true := fun w h => hts w (zT_lw w h)
  have hA : ∀ a, s.heap.size ≤ a → zLA s a := fun _ h => h
  have hbA : ¬ zLA s b := Nat.not_le.mpr hbl
  refine lv_aload_n hx hb dL_law_1239 rfl (lv_at hl 1 rfl) ?_
  refine lv_aload_n hx hb dL_law_1240 rfl (lv_at hl 0 rfl) ?_
  refine lv_iload_n hx hb dL_law_1241 rfl (lv_at hl 3 rfl) ?_
  refine lv_iconst (v := nI 1) hx hb dL_law_1242 (by decide +kernel) ?_
  refine lv_iadd hx hb dL_law_1243 ?_
  refine z_eqi (y := nI 1) (by decide +kernel) ?_
  refine va_sld hx hb hX hbl hbA hS (vp_in_nI (by decide) (by decide)) dL_law_1244 ?_
  refine z_eqi (y := xs 1) rfl ?_
  refine z_callVi (k := 0) (As := [.int (xs 1)]) (rest := []) hx hb hml hown ht (kX10_hits l D qx cx (xs 1)) hw_4_209 hmX10_hits ⟨rfl, rfl⟩ (na := 1) rfl (by decide +kernel) ⟨Nat.le_of_ble_eq_true rfl, Nat.le_of_ble_eq_true rfl⟩ (by decide) rfl rfl hKx hPx hDx hS hA hl.1 rfl (Nat.le_of_ble_eq_true rfl) ⟨Nat.le_of_ble_eq_true rfl, Nat.le_of_ble_eq_true rfl⟩ dL_law_1245 (fun r_x I_x R_x J_x H1 locs hp_x hPx hDx hS hz_x hk_x => ?_)
  have hPm := z_frame (q := qx) (n := 81) hPm hdis hk_x
  generalize H1 = H at hPm hPx hS ⊢
  refine lv_aload_n hx hb dL_law_1248 rfl (lv_at hl 2 rfl) ?_
  refine lv_aload_n hx hb dL_law_1249 rfl (lv_at hl 0 rfl) ?_
  refine lv_iload_n hx hb dL_law_1250 rfl (lv_at hl 3 rfl) ?_
  refine lv_iconst (v := nI 1) hx hb dL_law_1251 (by decide +kernel) ?_
  refine lv_iadd hx hb dL_law_1252 ?_
  refine z_eqi (y := nI 1) (by decide +kernel) ?_
  refine va_sld hx hb hX hbl hbA hS (vp_in_nI (by decide) (by decide)) dL_law_1253 ?_
  refine z_eqi (y := xs 1) rfl ?_
  refine z_callVi (k := 0) (As := [.int (xs 1)]) (rest := [.int (r_x)]) hx hb hml hown ht (kX11_hits l D qm cm (xs 1)) hw_7_231 hmX11_hits ⟨rfl, rfl⟩ (na := 1) rfl (by decide +kernel) ⟨Nat.le_of_ble_eq_true rfl, Nat.le_of_ble_eq_true rfl⟩ (by decide) rfl rfl hKm hPm hDm hS hA hl.1 rfl (Nat.le_of_ble_eq_true rfl) ⟨Nat.le_of_ble_eq_true rfl, Nat.le_of_ble_eq_true rfl⟩ dL_law_1254 (fun r_m I_m R_m J_m H1 locs hp_m hPm hDm hS hz_m hk_m => ?_)
  have heq : r_x = r_m := Eq.trans hp_x (Eq.symm hp_m)
  refine lv_icmp_eq (tgt := 1965) hx hb dL_law_1257 (by decide) (fun _ => ?_) (fun c_0 => absurd heq c_0)
  exact lc_end C0 hS (lv_sub hl [0, 3] rfl)
