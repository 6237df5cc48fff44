set_option maxRecDepth 100000 in
set_option maxHeartbeats 4000000 in
theorem cs_sheet {X : XT} {Γ : Gam} (hX : OKX X Γ cL_law RL 12 438) (b M : Nat) (xs : Nat → Int32) (hB : SB X b M xs) (hM : M ≤ 3072) (i : Nat) (hi : i + 6 ≤ M) (G : GG) (hG : LR G) (K : ∀ G', LR G' → WP X Γ 1379 [some (.ref b), some (.ref (gad Γ 30)), some (.ref (gad Γ 47)), some (.int (nI i))] [] G') : WP X Γ 1099 [some (.ref b), some (.ref (gad Γ 30)), some (.ref (gad Γ 47)), some (.int (nI i))] [] G := by
  obtain ⟨μ, κ, B, Z, N, T, n, h⟩ := id hG
  obtain ⟨hC, hM, hV, hSp⟩ := id h.1
  obtain ⟨hS, hSm, hZ⟩ := id h.2.2.1
  obtain ⟨t1, t2, t3, t4⟩ := id h.2.2.2.1
  refine r_aload1 hX dL_law_1099 (q := 1100) rfl ?_
  refine r_aload0 hX dL_law_1100 (q := 1101) rfl ?_
  refine r_iload3 hX dL_law_1101 (q := 1102) rfl ?_
  refine r_iconst hX dL_law_1102 (q := 1103) rfl (v := nI 1) (by decide +kernel) ?_
  refine r_iadd hX dL_law_1103 (q := 1104) rfl ?_
  refine r_bld hX hB dL_law_1104 (q := 1105) rfl (e_add rfl rfl) (by omega) (by omega) ?_
  refine r_aload0 hX dL_law_1105 (q := 1106) rfl ?_
  refine r_iload3 hX dL_law_1106 (q := 1107) rfl ?_
  refine r_iconst hX dL_law_1107 (q := 1108) rfl (v := nI 2) (by decide +kernel) ?_
  refine r_iadd hX dL_law_1108 (q := 1109) rfl ?_
  refine r_bld hX hB dL_law_1109 (q := 1110) rfl (e_add rfl rfl) (by omega) (by omega) ?_
  refine r_aload0 hX dL_law_1110 (q := 1111) rfl ?_
  refine r_iload3 hX dL_law_1111 (q := 1112) rfl ?_
  refine r_iconst hX dL_law_1112 (q := 1113) rfl (v := nI 3) (by decide +kernel) ?_
  refine r_iadd hX dL_law_1113 (q := 1114) rfl ?_
  refine r_bld hX hB dL_law_1114 (q := 1115) rfl (e_add rfl rfl) (by omega) (by omega) ?_
  refine r_callV hX dL_law_1115 (q := 1118) rfl (c_X5_sheet _ Γ _ B Z N hS hZ _ _ _) kL_149 mlX5_sheet mvX5_sheet rfl rfl rfl ⟨by decide, rfl⟩ ⟨by decide, by decide⟩ (Nat.le_of_ble_eq_true rfl) (kpI (fun vA GA pA => ?_))
  have hSa : SRM GA B Z N := hSm.fr (so_c pA 53 (by omega)) (so_c pA 54 (by omega)) (so_c pA 55 (by omega))
  refine r_aload2 hX dL_law_1118 (q := 1119) rfl ?_
  refine r_aload0 hX dL_law_1119 (q := 1120) rfl ?_
  refine r_iload3 hX dL_law_1120 (q := 1121) rfl ?_
  refine r_iconst hX dL_law_1121 (q := 1122) rfl (v := nI 1) (by decide +kernel) ?_
  refine r_iadd hX dL_law_1122 (q := 1123) rfl ?_
  refine r_bld hX hB dL_law_1123 (q := 1124) rfl (e_add rfl rfl) (by omega) (by omega) ?_
  refine r_aload0 hX dL_law_1124 (q := 1125) rfl ?_
  refine r_iload3 hX dL_law_1125 (q := 1126) rfl ?_
  refine r_iconst hX dL_law_1126 (q := 1127) rfl (v := nI 2) (by decide +kernel) ?_
  refine r_iadd hX dL_law_1127 (q := 1128) rfl ?_
  refine r_bld hX hB dL_law_1128 (q := 1129) rfl (e_add rfl rfl) (by omega) (by omega) ?_
  refine r_aload0 hX dL_law_1129 (q := 1130) rfl ?_
  refine r_iload3 hX dL_law_1130 (q := 1131) rfl ?_
  refine r_iconst hX dL_law_1131 (q := 1132) rfl (v := nI 3) (by decide +kernel) ?_
  refine r_iadd hX dL_law_1132 (q := 1133) rfl ?_
  refine r_bld hX hB dL_law_1133 (q := 1134) rfl (e_add rfl rfl) (by omega) (by omega) ?_
  refine r_callV hX dL_law_1134 (q := 1137) rfl (c_X6_sheet _ Γ _ B Z N hSa hZ _ _ _) kL_152 mlX6_sheet mvX6_sheet rfl rfl rfl ⟨by decide, rfl⟩ ⟨by decide, by decide⟩ (Nat.le_of_ble_eq_true rfl) (kpI (fun vC GC pC => ?_))
  obtain ⟨hEq, hLR⟩ := lr_s h pA pC (iv_sheet hZ _ _ _)
  first | refine r_icmpN_eq hX dL_law_1137 (q := 1140) rfl (tgt := 1379) (by decide) (by first | decide | omega) (by first | decide | omega) (fun h1137 => ?_) (fun h1137 => ?_) | refine r_icmp_eq hX dL_law_1137 (q := 1140) rfl (tgt := 1379) (by decide) (fun h1137 => ?_) (fun h1137 => ?_)
  ·
    exact K _ hLR
  ·
    exact absurd hEq h1137 --end

set_option maxRecDepth 100000 in
set_option maxHeartbeats 4000000 in
theorem cs_write {X : XT} {Γ : Gam} (hX : OKX X Γ cL_law RL 12 438) (b M : Nat) (xs : Nat → Int32) (hB : SB X b M xs) (hM : M ≤ 3072) (i : Nat) (hi : i + 6 ≤ M) (G : GG) (hG : LR G) (K : ∀ G', LR G' → WP X Γ 1379 [some (.ref b), some (.ref (gad Γ 30)), some (.ref (gad Γ 47)), some (.int (nI i))] [] G') : WP X Γ 1142 [some (.ref b), some (.ref (gad Γ 30)), some (.ref (gad Γ 47)), some (.int (nI i))] [] G := by
  obtain ⟨μ, κ, B, Z, N, T, n, h⟩ := id hG
  obtain ⟨hC, hM, hV, hSp⟩ := id h.1
  obtain ⟨hS, hSm, hZ⟩ := id h.2.2.1
  obtain ⟨t1, t2, t3, t4⟩ := id h.2.2.2.1
  refine r_aload1 hX dL_law_1142 (q := 1143) rfl ?_
  refine r_aload0 hX dL_law_1143 (q := 1144) rfl ?_
  refine r_iload3 hX dL_law_1144 (q := 1145) rfl ?_
  refine r_iconst hX dL_law_1145 (q := 1146) rfl (v := nI 1) (by decide +kernel) ?_
  refine r_iadd hX dL_law_1146 (q := 1147) rfl ?_
  refine r_bld hX hB dL_law_1147 (q := 1148) rfl (e_add rfl rfl) (by omega) (by omega) ?_
  refine r_aload0 hX dL_law_1148 (q := 1149) rfl ?_
  refine r_iload3 hX dL_law_1149 (q := 1150) rfl ?_
  refine r_iconst hX dL_law_1150 (q := 1151) rfl (v := nI 2) (by decide +kernel) ?_
  refine r_iadd hX dL_law_1151 (q := 1152) rfl ?_
  refine r_bld hX hB dL_law_1152 (q := 1153) rfl (e_add rfl rfl) (by omega) (by omega) ?_
  refine r_aload0 hX dL_law_1153 (q := 1154) rfl ?_
  refine r_iload3 hX dL_law_1154 (q := 1155) rfl ?_
  refine r_iconst hX dL_law_1155 (q := 1156) rfl (v := nI 3) (by decide +kernel) ?_
  refine r_iadd hX dL_law_1156 (q := 1157) rfl ?_
  refine r_bld hX hB dL_law_1157 (q := 1158) rfl (e_add rfl rfl) (by omega) (by omega) ?_
  refine r_callV hX dL_law_1158 (q := 1161) rfl (c_X5_write _ Γ _ B Z N hS hZ _ _ _) kL_153 mlX5_write mvX5_write rfl rfl rfl ⟨by decide, rfl⟩ ⟨by decide, by decide⟩ (Nat.le_of_ble_eq_true rfl) (kpI (fun vA GA pA => ?_))
  have hSa : SRM GA B Z N := hSm.fr (so_c pA 53 (by omega)) (so_c pA 54 (by omega)) (so_c pA 55 (by omega))
  refine r_aload2 hX dL_law_1161 (q := 1162) rfl ?_
  refine r_aload0 hX dL_law_1162 (q := 1163) rfl ?_
  refine r_iload3 hX dL_law_1163 (q := 1164) rfl ?_
  refine r_iconst hX dL_law_1164 (q := 1165) rfl (v := nI 1) (by decide +kernel) ?_
  refine r_iadd hX dL_law_1165 (q := 1166) rfl ?_
  refine r_bld hX hB dL_law_1166 (q := 1167) rfl (e_add rfl rfl) (by omega) (by omega) ?_
  refine r_aload0 hX dL_law_1167 (q := 1168) rfl ?_
  refine r_iload3 hX dL_law_1168 (q := 1169) rfl ?_
  refine r_iconst hX dL_law_1169 (q := 1170) rfl (v := nI 2) (by decide +kernel) ?_
  refine r_iadd hX dL_law_1170 (q := 1171) rfl ?_
  refine r_bld hX hB dL_law_1171 (q := 1172) rfl (e_add rfl rfl) (by omega) (by omega) ?_
  refine r_aload0 hX dL_law_1172 (q := 1173) rfl ?_
  refine r_iload3 hX dL_law_1173 (q := 1174) rfl ?_
  refine r_iconst hX dL_law_1174 (q := 1175) rfl (v := nI 3) (by decide +kernel) ?_
  refine r_iadd hX dL_law_1175 (q := 1176) rfl ?_
  refine r_bld hX hB dL_law_1176 (q := 1177) rfl (e_add rfl rfl) (by omega) (by omega) ?_
  refine r_callV hX dL_law_1177 (q := 1180) rfl (c_X6_write _ Γ _ B Z N hSa hZ _ _ _) kL_156 mlX6_write mvX6_write rfl rfl rfl ⟨by decide, rfl⟩ ⟨by decide, by decide⟩ (Nat.le_of_ble_eq_true rfl) (kpI (fun vC GC pC => ?_))
  obtain ⟨hEq, hLR⟩ := lr_s h pA pC (iv_write hZ _ _ _)
  first | refine r_icmpN_eq hX dL_law_1180 (q := 1183) rfl (tgt := 1379) (by decide) (by first | decide | omega) (by first | decide | omega) (fun h1180 => ?_) (fun h1180 => ?_) | refine r_icmp_eq hX dL_law_1180 (q := 1183) rfl (tgt := 1379) (by decide) (fun h1180 => ?_) (fun h1180 => ?_)
  ·
    exact K _ hLR
  ·
    exact absurd hEq h1180 --end

set_option maxRecDepth 100000 in
set_option maxHeartbeats 4000000 in
theorem cs_copy {X : XT} {Γ : Gam} (hX : OKX X Γ cL_law RL 12 438) (b M : Nat) (xs : Nat → Int32) (hB : SB X b M xs) (hM : M ≤ 3072) (i : Nat) (hi : i + 6 ≤ M) (G : GG) (hG : LR G) (K : ∀ G', LR G' → WP X Γ 1379 [some (.ref b), some (.ref (gad Γ 30)), some (.ref (gad Γ 47)), some (.int (nI i))] [] G') : WP X Γ 1185 [some (.ref b), some (.ref (gad Γ 30)), some (.ref (gad Γ 47)), some (.int (nI i))] [] G := by
  obtain ⟨μ, κ, B, Z, N, T, n, h⟩ := id hG
  obtain ⟨hC, hM, hV, hSp⟩ := id h.1
  obtain ⟨hS, hSm, hZ⟩ := id h.2.2.1
  obtain ⟨t1, t2, t3, t4⟩ := id h.2.2.2.1
  refine r_aload1 hX dL_law_1185 (q := 1186) rfl ?_
  refine r_aload0 hX dL_law_1186 (q := 1187) rfl ?_
  refine r_iload3 hX dL_law_1187 (q := 1188) rfl ?_
  refine r_iconst hX dL_law_1188 (q := 1189) rfl (v := nI 1) (by decide +kernel) ?_
  refine r_iadd hX dL_law_1189 (q := 1190) rfl ?_
  refine r_bld hX hB dL_law_1190 (q := 1191) rfl (e_add rfl rfl) (by omega) (by omega) ?_
  refine r_aload0 hX dL_law_1191 (q := 1192) rfl ?_
  refine r_iload3 hX dL_law_1192 (q := 1193) rfl ?_
  refine r_iconst hX dL_law_1193 (q := 1194) rfl (v := nI 2) (by decide +kernel) ?_
  refine r_iadd hX dL_law_1194 (q := 1195) rfl ?_
  refine r_bld hX hB dL_law_1195 (q := 1196) rfl (e_add rfl rfl) (by omega) (by omega) ?_
  refine r_aload0 hX dL_law_1196 (q := 1197) rfl ?_
  refine r_iload3 hX dL_law_1197 (q := 1198) rfl ?_
  refine r_iconst hX dL_law_1198 (q := 1199) rfl (v := nI 3) (by decide +kernel) ?_
  refine r_iadd hX dL_law_1199 (q := 1200) rfl ?_
  refine r_bld hX hB dL_law_1200 (q := 1201) rfl (e_add rfl rfl) (by omega) (by omega) ?_
  refine r_aload0 hX dL_law_1201 (q := 1202) rfl ?_
  refine r_iload3 hX dL_law_1202 (q := 1203) rfl ?_
  refine r_iconst hX dL_law_1203 (q := 1204) rfl (v := nI 4) (by decide +kernel) ?_
  refine r_iadd hX dL_law_1204 (q := 1205) rfl ?_
  refine r_bld hX hB dL_law_1205 (q := 1206) rfl (e_add rfl rfl) (by omega) (by omega) ?_
  refine r_aload0 hX dL_law_1206 (q := 1207) rfl ?_
  refine r_iload3 hX dL_law_1207 (q := 1208) rfl ?_
  refine r_iconst hX dL_law_1208 (q := 1209) rfl (v := nI 5) (by decide +kernel) ?_
  refine r_iadd hX dL_law_1209 (q := 1210) rfl ?_
  refine r_bld hX hB dL_law_1210 (q := 1211) rfl (e_add rfl rfl) (by omega) (by omega) ?_
  refine r_callV hX dL_law_1211 (q := 1214) rfl (c_X5_copy _ Γ _ B Z N hS hZ _ _ _ _ _) kL_157 mlX5_copy mvX5_copy rfl rfl rfl ⟨by decide, rfl⟩ ⟨by decide, by decide⟩ (Nat.le_of_ble_eq_true rfl) (kpI (fun vA GA pA => ?_))
  have hSa : SRM GA B Z N := hSm.fr (so_c pA 53 (by omega)) (so_c pA 54 (by omega)) (so_c pA 55 (by omega))
  refine r_aload2 hX dL_law_1214 (q := 1215) rfl ?_
  refine r_aload0 hX dL_law_1215 (q := 1216) rfl ?_
  refine r_iload3 hX dL_law_1216 (q := 1217) rfl ?_
  refine r_iconst hX dL_law_1217 (q := 1218) rfl (v := nI 1) (by decide +kernel) ?_
  refine r_iadd hX dL_law_1218 (q := 1219) rfl ?_
  refine r_bld hX hB dL_law_1219 (q := 1220) rfl (e_add rfl rfl) (by omega) (by omega) ?_
  refine r_aload0 hX dL_law_1220 (q := 1221) rfl ?_
  refine r_iload3 hX dL_law_1221 (q := 1222) rfl ?_
  refine r_iconst hX dL_law_1222 (q := 1223) rfl (v := nI 2) (by decide +kernel) ?_
  refine r_iadd hX dL_law_1223 (q := 1224) rfl ?_
  refine r_bld hX hB dL_law_1224 (q := 1225) rfl (e_add rfl rfl) (by omega) (by omega) ?_
  refine r_aload0 hX dL_law_1225 (q := 1226) rfl ?_
  refine r_iload3 hX dL_law_1226 (q := 1227) rfl ?_
  refine r_iconst hX dL_law_1227 (q := 1228) rfl (v := nI 3) (by decide +kernel) ?_
  refine r_iadd hX dL_law_1228 (q := 1229) rfl ?_
  refine r_bld hX hB dL_law_1229 (q := 1230) rfl (e_add rfl rfl) (by omega) (by omega) ?_
  refine r_aload0 hX dL_law_1230 (q := 1231) rfl ?_
  refine r_iload3 hX dL_law_1231 (q := 1232) rfl ?_
  refine r_iconst hX dL_law_1232 (q := 1233) rfl (v := nI 4) (by decide +kernel) ?_
  refine r_iadd hX dL_law_1233 (q := 1234) rfl ?_
  refine r_bld hX hB dL_law_1234 (q := 1235) rfl (e_add rfl rfl) (by omega) (by omega) ?_
  refine r_aload0 hX dL_law_1235 (q := 1236) rfl ?_
  refine r_iload3 hX dL_law_1236 (q := 1237) rfl ?_
  refine r_iconst hX dL_law_1237 (q := 1238) rfl (v := nI 5) (by decide +kernel) ?_
  refine r_iadd hX dL_law_1238 (q := 1239) rfl ?_
  refine r_bld hX hB dL_law_1239 (q := 1240) rfl (e_add rfl rfl) (by omega) (by omega) ?_
  refine r_callV hX dL_law_1240 (q := 1243) rfl (c_X6_copy _ Γ _ B Z N hSa hZ _ _ _ _ _) kL_161 mlX6_copy mvX6_copy rfl rfl rfl ⟨by decide, rfl⟩ ⟨by decide, by decide⟩ (Nat.le_of_ble_eq_true rfl) (kpI (fun vC GC pC => ?_))
  obtain ⟨hEq, hLR⟩ := lr_s h pA pC (iv_copy hZ _ _ _ _ _)
  first | refine r_icmpN_eq hX dL_law_1243 (q := 1246) rfl (tgt := 1379) (by decide) (by first | decide | omega) (by first | decide | omega) (fun h1243 => ?_) (fun h1243 => ?_) | refine r_icmp_eq hX dL_law_1243 (q := 1246) rfl (tgt := 1379) (by decide) (fun h1243 => ?_) (fun h1243 => ?_)
  ·
    exact K _ hLR
  ·
    exact absurd hEq h1243 --end

set_option maxRecDepth 100000 in
set_option maxHeartbeats 4000000 in
theorem cs_load {X : XT} {Γ : Gam} (hX : OKX X Γ cL_law RL 12 438) (b M : Nat) (xs : Nat → Int32) (hB : SB X b M xs) (hM : M ≤ 3072) (i : Nat) (hi : i + 6 ≤ M) (G : GG) (hG : LR G) (K : ∀ G', LR G' → WP X Γ 1379 [some (.ref b), some (.ref (gad Γ 30)), some (.ref (gad Γ 47)), some (.int (nI i))] [] G') : WP X Γ 1248 [some (.ref b), some (.ref (gad Γ 30)), some (.ref (gad Γ 47)), some (.int (nI i))] [] G := by
  obtain ⟨μ, κ, B, Z, N, T, n, h⟩ := id hG
  obtain ⟨hC, hM, hV, hSp⟩ := id h.1
  obtain ⟨hS, hSm, hZ⟩ := id h.2.2.1
  obtain ⟨t1, t2, t3, t4⟩ := id h.2.2.2.1
  refine r_aload1 hX dL_law_1248 (q := 1249) rfl ?_
  refine r_aload0 hX dL_law_1249 (q := 1250) rfl ?_
  refine r_iload3 hX dL_law_1250 (q := 1251) rfl ?_
  refine r_iconst hX dL_law_1251 (q := 1252) rfl (v := nI 1) (by decide +kernel) ?_
  refine r_iadd hX dL_law_1252 (q := 1253) rfl ?_
  refine r_bld hX hB dL_law_1253 (q := 1254) rfl (e_add rfl rfl) (by omega) (by omega) ?_
  refine r_callV hX dL_law_1254 (q := 1257) rfl (c_X5_load _ Γ _ μ 99999 hC hV B Z N hS hZ _) kL_162 mlX5_load mvX5_load rfl rfl rfl ⟨by decide, rfl⟩ ⟨by decide, by decide⟩ (Nat.le_of_ble_eq_true rfl) (kpI (fun vA GA pA => ?_))
  have hMa := co_mr pA hM
  have hSa : SRM GA B Z N := hSm.fr (co_c pA 53 (by decide) (by decide)) (co_c pA 54 (by decide) (by decide)) (co_c pA 55 (by decide) (by decide))
  refine r_aload2 hX dL_law_1257 (q := 1258) rfl ?_
  refine r_aload0 hX dL_law_1258 (q := 1259) rfl ?_
  refine r_iload3 hX dL_law_1259 (q := 1260) rfl ?_
  refine r_iconst hX dL_law_1260 (q := 1261) rfl (v := nI 1) (by decide +kernel) ?_
  refine r_iadd hX dL_law_1261 (q := 1262) rfl ?_
  refine r_bld hX hB dL_law_1262 (q := 1263) rfl (e_add rfl rfl) (by omega) (by omega) ?_
  refine r_callV hX dL_law_1263 (q := 1266) rfl (c_X6_load _ Γ _ μ hMa 99999 hV B Z N hSa hZ _) kL_165 mlX6_load mvX6_load rfl rfl rfl ⟨by decide, rfl⟩ ⟨by decide, by decide⟩ (Nat.le_of_ble_eq_true rfl) (kpI (fun vC GC pC => ?_))
  obtain ⟨hEq, hLR⟩ := lr_o h pA pC (iv_load hV hSp B Z N _)
  first | refine r_icmpN_eq hX dL_law_1266 (q := 1269) rfl (tgt := 1379) (by decide) (by first | decide | omega) (by first | decide | omega) (fun h1266 => ?_) (fun h1266 => ?_) | refine r_icmp_eq hX dL_law_1266 (q := 1269) rfl (tgt := 1379) (by decide) (fun h1266 => ?_) (fun h1266 => ?_)
  ·
    exact K _ hLR
  ·
    exact absurd hEq h1266 --end

set_option maxRecDepth 100000 in
set_option maxHeartbeats 4000000 in
theorem cs_judge {X : XT} {Γ : Gam} (hX : OKX X Γ cL_law RL 12 438) (b M : Nat) (xs : Nat → Int32) (hB : SB X b M xs) (hM : M ≤ 3072) (i : Nat) (hi : i + 6 ≤ M) (G : GG) (hG : LR G) (K : ∀ G', LR G' → WP X Γ 1379 [some (.ref b), some (.ref (gad Γ 30)), some (.ref (gad Γ 47)), some (.int (nI i))] [] G') : WP X Γ 1271 [some (.ref b), some (.ref (gad Γ 30)), some (.ref (gad Γ 47)), some (.int (nI i))] [] G := by
  obtain ⟨μ, κ, B, Z, N, T, n, h⟩ := id hG
  obtain ⟨hC, hM, hV, hSp⟩ := id h.1
  obtain ⟨hS, hSm, hZ⟩ := id h.2.2.1
  obtain ⟨t1, t2, t3, t4⟩ := id h.2.2.2.1
  refine r_aload1 hX dL_law_1271 (q := 1272) rfl ?_
  refine r_aload0 hX dL_law_1272 (q := 1273) rfl ?_
  refine r_iload3 hX dL_law_1273 (q := 1274) rfl ?_
  refine r_iconst hX dL_law_1274 (q := 1275) rfl (v := nI 1) (by decide +kernel) ?_
  refine r_iadd hX dL_law_1275 (q := 1276) rfl ?_
  refine r_bld hX hB dL_law_1276 (q := 1277) rfl (e_add rfl rfl) (by omega) (by omega) ?_
  refine r_callV hX dL_law_1277 (q := 1280) rfl (c_X5_judge _ Γ _ μ 99999 hC hV (by decide) B Z N hS hZ _) kL_166 mlX5_judge mvX5_judge rfl rfl rfl ⟨by decide, rfl⟩ ⟨by decide, by decide⟩ (Nat.le_of_ble_eq_true rfl) (kpI (fun vA GA pA => ?_))
  have hMa := co_mr pA hM
  have hSa : SRM GA B Z N := hSm.fr (co_c pA 53 (by decide) (by decide)) (co_c pA 54 (by decide) (by decide)) (co_c pA 55 (by decide) (by decide))
  refine r_aload2 hX dL_law_1280 (q := 1281) rfl ?_
  refine r_aload0 hX dL_law_1281 (q := 1282) rfl ?_
  refine r_iload3 hX dL_law_1282 (q := 1283) rfl ?_
  refine r_iconst hX dL_law_1283 (q := 1284) rfl (v := nI 1) (by decide +kernel) ?_
  refine r_iadd hX dL_law_1284 (q := 1285) rfl ?_
  refine r_bld hX hB dL_law_1285 (q := 1286) rfl (e_add rfl rfl) (by omega) (by omega) ?_
  refine r_callV hX dL_law_1286 (q := 1289) rfl (c_X6_judge _ Γ _ μ hMa 99999 hV (by decide) B Z N hSa hZ _) kL_169 mlX6_judge mvX6_judge rfl rfl rfl ⟨by decide, rfl⟩ ⟨by decide, by decide⟩ (Nat.le_of_ble_eq_true rfl) (kpI (fun vC GC pC => ?_))
  obtain ⟨hEq, hLR⟩ := lr_o h pA pC (iv_judge hV hSp B Z N _)
  first | refine r_icmpN_eq hX dL_law_1289 (q := 1292) rfl (tgt := 1379) (by decide) (by first | decide | omega) (by first | decide | omega) (fun h1289 => ?_) (fun h1289 => ?_) | refine r_icmp_eq hX dL_law_1289 (q := 1292) rfl (tgt := 1379) (by decide) (fun h1289 => ?_) (fun h1289 => ?_)
  ·
    exact K _ hLR
  ·
    exact absurd hEq h1289 --end

set_option maxRecDepth 100000 in
set_option maxHeartbeats 4000000 in
theorem cs_image {X : XT} {Γ : Gam} (hX : OKX X Γ cL_law RL 12 438) (b M : Nat) (xs : Nat → Int32) (hB : SB X b M xs) (hM : M ≤ 3072) (i : Nat) (hi : i + 6 ≤ M) (G : GG) (hG : LR G) (K : ∀ G', LR G' → WP X Γ 1379 [some (.ref b), some (.ref (gad Γ 30)), some (.ref (gad Γ 47)), some (.int (nI i))] [] G') : WP X Γ 1294 [some (.ref b), some (.ref (gad Γ 30)), some (.ref (gad Γ 47)), some (.int (nI i))] [] G := by
  obtain ⟨μ, κ, B, Z, N, T, n, h⟩ := id hG
  obtain ⟨hC, hM, hV, hSp⟩ := id h.1
  obtain ⟨hS, hSm, hZ⟩ := id h.2.2.1
  obtain ⟨t1, t2, t3, t4⟩ := id h.2.2.2.1
  refine r_aload1 hX dL_law_1294 (q := 1295) rfl ?_
  refine r_callV hX dL_law_1295 (q := 1298) rfl (c_X5_image _ Γ _ μ hC) kL_170 mlX5_image mvX5_image rfl rfl rfl ⟨by decide, rfl⟩ ⟨by decide, by decide⟩ (Nat.le_of_ble_eq_true rfl) (kpI (fun vA GA pA => ?_))
  have hMa : MR GA μ := hM.fr (pA.2.2.2.2.2 48 (by omega))
  refine r_aload2 hX dL_law_1298 (q := 1299) rfl ?_
  refine r_callV hX dL_law_1299 (q := 1302) rfl (c_X6_image _ Γ _ μ hMa) kL_173 mlX6_image mvX6_image rfl rfl rfl ⟨by decide, rfl⟩ ⟨by decide, by decide⟩ (Nat.le_of_ble_eq_true rfl) (kpI (fun vC GC pC => ?_))
  obtain ⟨hEq, hLR⟩ := lr_image h pA pC
  first | refine r_icmpN_eq hX dL_law_1302 (q := 1305) rfl (tgt := 1379) (by decide) (by first | decide | omega) (by first | decide | omega) (fun h1302 => ?_) (fun h1302 => ?_) | refine r_icmp_eq hX dL_law_1302 (q := 1305) rfl (tgt := 1379) (by decide) (fun h1302 => ?_) (fun h1302 => ?_)
  ·
    exact K _ hLR
  ·
    exact absurd hEq h1302 --end

set_option maxRecDepth 100000 in
set_option maxHeartbeats 4000000 in
theorem cs_undo {X : XT} {Γ : Gam} (hX : OKX X Γ cL_law RL 12 438) (b M : Nat) (xs : Nat → Int32) (hB : SB X b M xs) (hM : M ≤ 3072) (i : Nat) (hi : i + 6 ≤ M) (G : GG) (hG : LR G) (K : ∀ G', LR G' → WP X Γ 1379 [some (.ref b), some (.ref (gad Γ 30)), some (.ref (gad Γ 47)), some (.int (nI i))] [] G') : WP X Γ 1307 [some (.ref b), some (.ref (gad Γ 30)), some (.ref (gad Γ 47)), some (.int (nI i))] [] G := by
  obtain ⟨μ, κ, B, Z, N, T, n, h⟩ := id hG
  obtain ⟨hC, hM, hV, hSp⟩ := id h.1
  obtain ⟨hS, hSm, hZ⟩ := id h.2.2.1
  obtain ⟨t1, t2, t3, t4⟩ := id h.2.2.2.1
  refine r_aload1 hX dL_law_1307 (q := 1308) rfl ?_
  refine r_callV hX dL_law_1308 (q := 1311) rfl (c_X5_undo _ Γ _ κ (lr_k30 h).1) kL_174 mlX5_undo mvX5_undo rfl rfl rfl ⟨by decide, rfl⟩ ⟨by decide, by decide⟩ (Nat.le_of_ble_eq_true rfl) (kpI (fun vA GA pA => ?_))
  have e47 : GA 47 = G 47 ∧ GA 49 = G 49 := by
    rcases pA with ⟨-, a⟩ | ⟨-, -, -, a⟩
    · rw [a.2]; exact ⟨funext (fun j => up_ne (by omega)), funext (fun j => up_ne (by omega))⟩
    · exact ⟨a 47 (by omega), a 49 (by omega)⟩
  have h47 : GA 47 3 = nI 0 ∨ (GA 47 3 = nI 1 ∧ KM GA κ) := by
    rw [e47.1]
    exact (lr_k30 h).2.imp id (fun z => ⟨z.1, fun k hk => by rw [e47.2]; exact z.2 k hk⟩)
  refine r_aload2 hX dL_law_1311 (q := 1312) rfl ?_
  refine r_callV hX dL_law_1312 (q := 1315) rfl (c_X6_undo _ Γ _ κ h47) kL_177 mlX6_undo mvX6_undo rfl rfl rfl ⟨by decide, rfl⟩ ⟨by decide, by decide⟩ (Nat.le_of_ble_eq_true rfl) (kpI (fun vC GC pC => ?_))
  obtain ⟨hEq, hLR⟩ := lr_undo h pA pC
  first | refine r_icmpN_eq hX dL_law_1315 (q := 1318) rfl (tgt := 1379) (by decide) (by first | decide | omega) (by first | decide | omega) (fun h1315 => ?_) (fun h1315 => ?_) | refine r_icmp_eq hX dL_law_1315 (q := 1318) rfl (tgt := 1379) (by decide) (fun h1315 => ?_) (fun h1315 => ?_)
  ·
    exact K _ hLR
  ·
    exact absurd hEq h1315 --end

set_option maxRecDepth 100000 in
set_option maxHeartbeats 4000000 in
theorem cs_tear {X : XT} {Γ : Gam} (hX : OKX X Γ cL_law RL 12 438) (b M : Nat) (xs : Nat → Int32) (hB : SB X b M xs) (hM : M ≤ 3072) (i : Nat) (hi : i + 6 ≤ M) (G : GG) (hG : LR G) (K : ∀ G', LR G' → WP X Γ 1379 [some (.ref b), some (.ref (gad Γ 30)), some (.ref (gad Γ 47)), some (.int (nI i))] [] G') : WP X Γ 1320 [some (.ref b), some (.ref (gad Γ 30)), some (.ref (gad Γ 47)), some (.int (nI i))] [] G := by
  obtain ⟨μ, κ, B, Z, N, T, n, h⟩ := id hG
  obtain ⟨hC, hM, hV, hSp⟩ := id h.1
  obtain ⟨hS, hSm, hZ⟩ := id h.2.2.1
  obtain ⟨t1, t2, t3, t4⟩ := id h.2.2.2.1
  have h30a := (lr_k30 h).1.imp id (fun z => z.1)
  refine r_aload1 hX dL_law_1320 (q := 1321) rfl ?_
  refine r_callV hX dL_law_1321 (q := 1324) rfl (c_X5_tear _ Γ _ (h30a)) kL_178 mlX5_tear mvX5_tear rfl rfl rfl ⟨by decide, rfl⟩ ⟨by decide, by decide⟩ (Nat.le_of_ble_eq_true rfl) (kpI (fun vA GA pA => ?_))
  have h47 : GA 47 3 = nI 0 ∨ GA 47 3 = nI 1 := by
    rw [pA.2, up_ne (by omega)]; exact (lr_k30 h).2.imp id (fun z => z.1)
  refine r_aload2 hX dL_law_1324 (q := 1325) rfl ?_
  refine r_callV hX dL_law_1325 (q := 1328) rfl (c_X6_tear _ Γ _ (h47)) kL_181 mlX6_tear mvX6_tear rfl rfl rfl ⟨by decide, rfl⟩ ⟨by decide, by decide⟩ (Nat.le_of_ble_eq_true rfl) (kpI (fun vC GC pC => ?_))
  obtain ⟨hEq, hLR⟩ := lr_tear h pA pC
  first | refine r_icmpN_eq hX dL_law_1328 (q := 1331) rfl (tgt := 1379) (by decide) (by first | decide | omega) (by first | decide | omega) (fun h1328 => ?_) (fun h1328 => ?_) | refine r_icmp_eq hX dL_law_1328 (q := 1331) rfl (tgt := 1379) (by decide) (fun h1328 => ?_) (fun h1328 => ?_)
  ·
    exact K _ hLR
  ·
    exact absurd hEq h1328 --end

set_option maxRecDepth 100000 in
set_option maxHeartbeats 4000000 in
theorem cs_count {X : XT} {Γ : Gam} (hX : OKX X Γ cL_law RL 12 438) (b M : Nat) (xs : Nat → Int32) (hB : SB X b M xs) (hM : M ≤ 3072) (i : Nat) (hi : i + 6 ≤ M) (G : GG) (hG : LR G) (K : ∀ G', LR G' → WP X Γ 1379 [some (.ref b), some (.ref (gad Γ 30)), some (.ref (gad Γ 47)), some (.int (nI i))] [] G') : WP X Γ 1333 [some (.ref b), some (.ref (gad Γ 30)), some (.ref (gad Γ 47)), some (.int (nI i))] [] G := by
  obtain ⟨μ, κ, B, Z, N, T, n, h⟩ := id hG
  obtain ⟨hC, hM, hV, hSp⟩ := id h.1
  obtain ⟨hS, hSm, hZ⟩ := id h.2.2.1
  obtain ⟨t1, t2, t3, t4⟩ := id h.2.2.2.1
  refine r_aload1 hX dL_law_1333 (q := 1334) rfl ?_
  refine r_aload0 hX dL_law_1334 (q := 1335) rfl ?_
  refine r_iload3 hX dL_law_1335 (q := 1336) rfl ?_
  refine r_iconst hX dL_law_1336 (q := 1337) rfl (v := nI 1) (by decide +kernel) ?_
  refine r_iadd hX dL_law_1337 (q := 1338) rfl ?_
  refine r_bld hX hB dL_law_1338 (q := 1339) rfl (e_add rfl rfl) (by omega) (by omega) ?_
  refine r_callV hX dL_law_1339 (q := 1342) rfl (c_X5_count _ Γ _ μ 99999 hC hV _) kL_182 mlX5_count mvX5_count rfl rfl rfl ⟨by decide, rfl⟩ ⟨by decide, by decide⟩ (Nat.le_of_ble_eq_true rfl) (kpI (fun vA GA pA => ?_))
  have hMa := co_mr pA hM
  refine r_aload2 hX dL_law_1342 (q := 1343) rfl ?_
  refine r_aload0 hX dL_law_1343 (q := 1344) rfl ?_
  refine r_iload3 hX dL_law_1344 (q := 1345) rfl ?_
  refine r_iconst hX dL_law_1345 (q := 1346) rfl (v := nI 1) (by decide +kernel) ?_
  refine r_iadd hX dL_law_1346 (q := 1347) rfl ?_
  refine r_bld hX hB dL_law_1347 (q := 1348) rfl (e_add rfl rfl) (by omega) (by omega) ?_
  refine r_callV hX dL_law_1348 (q := 1351) rfl (c_X6_count _ Γ _ μ hMa _) kL_185 mlX6_count mvX6_count rfl rfl rfl ⟨by decide, rfl⟩ ⟨by decide, by decide⟩ (Nat.le_of_ble_eq_true rfl) (kpI (fun vC GC pC => ?_))
  rw [t1] at pA
  rw [co_c pA 47 (by decide) (by decide), t2] at pC
  obtain ⟨hEq, hLR⟩ := lr_o h pA pC (iv_count hV hSp _ _)
  first | refine r_icmpN_eq hX dL_law_1351 (q := 1354) rfl (tgt := 1379) (by decide) (by first | decide | omega) (by first | decide | omega) (fun h1351 => ?_) (fun h1351 => ?_) | refine r_icmp_eq hX dL_law_1351 (q := 1354) rfl (tgt := 1379) (by decide) (fun h1351 => ?_) (fun h1351 => ?_)
  ·
    exact K _ hLR
  ·
    exact absurd hEq h1351 --end

set_option maxRecDepth 100000 in
set_option maxHeartbeats 4000000 in
theorem cs_status {X : XT} {Γ : Gam} (hX : OKX X Γ cL_law RL 12 438) (b M : Nat) (xs : Nat → Int32) (hB : SB X b M xs) (hM : M ≤ 3072) (i : Nat) (hi : i + 6 ≤ M) (G : GG) (hG : LR G) (K : ∀ G', LR G' → WP X Γ 1379 [some (.ref b), some (.ref (gad Γ 30)), some (.ref (gad Γ 47)), some (.int (nI i))] [] G') : WP X Γ 1356 [some (.ref b), some (.ref (gad Γ 30)), some (.ref (gad Γ 47)), some (.int (nI i))] [] G := by
  obtain ⟨μ, κ, B, Z, N, T, n, h⟩ := id hG
  obtain ⟨hC, hM, hV, hSp⟩ := id h.1
  obtain ⟨hS, hSm, hZ⟩ := id h.2.2.1
  obtain ⟨t1, t2, t3, t4⟩ := id h.2.2.2.1
  refine r_aload1 hX dL_law_1356 (q := 1357) rfl ?_
  refine r_aload0 hX dL_law_1357 (q := 1358) rfl ?_
  refine r_iload3 hX dL_law_1358 (q := 1359) rfl ?_
  refine r_iconst hX dL_law_1359 (q := 1360) rfl (v := nI 1) (by decide +kernel) ?_
  refine r_iadd hX dL_law_1360 (q := 1361) rfl ?_
  refine r_bld hX hB dL_law_1361 (q := 1362) rfl (e_add rfl rfl) (by omega) (by omega) ?_
  refine r_callV hX dL_law_1362 (q := 1365) rfl (c_X5_status _ Γ _ _) kL_186 mlX5_status mvX5_status rfl rfl rfl ⟨by decide, rfl⟩ ⟨by decide, by decide⟩ (Nat.le_of_ble_eq_true rfl) (kpI (fun vA GA pA => ?_))
  refine r_aload2 hX dL_law_1365 (q := 1366) rfl ?_
  refine r_aload0 hX dL_law_1366 (q := 1367) rfl ?_
  refine r_iload3 hX dL_law_1367 (q := 1368) rfl ?_
  refine r_iconst hX dL_law_1368 (q := 1369) rfl (v := nI 1) (by decide +kernel) ?_
  refine r_iadd hX dL_law_1369 (q := 1370) rfl ?_
  refine r_bld hX hB dL_law_1370 (q := 1371) rfl (e_add rfl rfl) (by omega) (by omega) ?_
  refine r_callV hX dL_law_1371 (q := 1374) rfl (c_X6_status _ Γ _ _) kL_189 mlX6_status mvX6_status rfl rfl rfl ⟨by decide, rfl⟩ ⟨by decide, by decide⟩ (Nat.le_of_ble_eq_true rfl) (kpI (fun vC GC pC => ?_))
  obtain ⟨hEq, hLR⟩ := lr_status h pA pC
  first | refine r_icmpN_eq hX dL_law_1374 (q := 1377) rfl (tgt := 1379) (by decide) (by first | decide | omega) (by first | decide | omega) (fun h1374 => ?_) (fun h1374 => ?_) | refine r_icmp_eq hX dL_law_1374 (q := 1377) rfl (tgt := 1379) (by decide) (fun h1374 => ?_) (fun h1374 => ?_)
  ·
    exact K _ hLR
  ·
    exact absurd hEq h1374 --end
