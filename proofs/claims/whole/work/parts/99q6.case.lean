theorem dW_law_1060 : decode code 1060 = .ok (.aload_n 1, 1) := by decide +kernel
theorem dW_law_1061 : decode code 1061 = .ok (.aload_n 0, 1) := by decide +kernel
theorem dW_law_1062 : decode code 1062 = .ok (.iload 4, 2) := by decide +kernel
theorem dW_law_1064 : decode code 1064 = .ok (.iconst 1, 1) := by decide +kernel
theorem dW_law_1065 : decode code 1065 = .ok (.iadd, 1) := by decide +kernel
theorem dW_law_1066 : decode code 1066 = .ok (.iaload, 1) := by decide +kernel
theorem dW_law_1067 : decode code 1067 = .ok (.invokevirtual 136, 3) := by decide +kernel
theorem dW_law_1070 : decode code 1070 = .ok (.aload_n 2, 1) := by decide +kernel
theorem dW_law_1071 : decode code 1071 = .ok (.aload_n 0, 1) := by decide +kernel
theorem dW_law_1072 : decode code 1072 = .ok (.iload 4, 2) := by decide +kernel
theorem dW_law_1074 : decode code 1074 = .ok (.iconst 1, 1) := by decide +kernel
theorem dW_law_1075 : decode code 1075 = .ok (.iadd, 1) := by decide +kernel
theorem dW_law_1076 : decode code 1076 = .ok (.iaload, 1) := by decide +kernel
theorem dW_law_1077 : decode code 1077 = .ok (.invokevirtual 139, 3) := by decide +kernel
theorem dW_law_1080 : decode code 1080 = .ok (.if_icmp .eq 572, 3) := by decide +kernel
theorem dW_law_1083 : decode code 1083 = .ok (.iconst 0, 1) := by decide +kernel
theorem dW_law_1084 : decode code 1084 = .ok (.ireturn, 1) := by decide +kernel
theorem dW_law_1085 : decode code 1085 = .ok (.aload_n 1, 1) := by decide +kernel
theorem dW_law_1086 : decode code 1086 = .ok (.aload_n 0, 1) := by decide +kernel
theorem dW_law_1087 : decode code 1087 = .ok (.iload 4, 2) := by decide +kernel
theorem dW_law_1089 : decode code 1089 = .ok (.iconst 1, 1) := by decide +kernel
theorem dW_law_1090 : decode code 1090 = .ok (.iadd, 1) := by decide +kernel
theorem dW_law_1091 : decode code 1091 = .ok (.iaload, 1) := by decide +kernel
theorem dW_law_1092 : decode code 1092 = .ok (.invokevirtual 140, 3) := by decide +kernel
theorem dW_law_1095 : decode code 1095 = .ok (.aload_n 2, 1) := by decide +kernel
theorem dW_law_1096 : decode code 1096 = .ok (.aload_n 0, 1) := by decide +kernel
theorem dW_law_1097 : decode code 1097 = .ok (.iload 4, 2) := by decide +kernel
theorem dW_law_1099 : decode code 1099 = .ok (.iconst 1, 1) := by decide +kernel
theorem dW_law_1100 : decode code 1100 = .ok (.iadd, 1) := by decide +kernel
theorem dW_law_1101 : decode code 1101 = .ok (.iaload, 1) := by decide +kernel
theorem dW_law_1102 : decode code 1102 = .ok (.invokevirtual 143, 3) := by decide +kernel
theorem dW_law_1105 : decode code 1105 = .ok (.if_icmp .eq 547, 3) := by decide +kernel
theorem dW_law_1108 : decode code 1108 = .ok (.iconst 0, 1) := by decide +kernel
theorem dW_law_1109 : decode code 1109 = .ok (.ireturn, 1) := by decide +kernel
theorem dW_law_1110 : decode code 1110 = .ok (.aload_n 1, 1) := by decide +kernel
theorem dW_law_1111 : decode code 1111 = .ok (.aload_n 0, 1) := by decide +kernel
theorem dW_law_1112 : decode code 1112 = .ok (.iload 4, 2) := by decide +kernel
theorem dW_law_1114 : decode code 1114 = .ok (.iconst 1, 1) := by decide +kernel
theorem dW_law_1115 : decode code 1115 = .ok (.iadd, 1) := by decide +kernel
theorem dW_law_1116 : decode code 1116 = .ok (.iaload, 1) := by decide +kernel
theorem dW_law_1117 : decode code 1117 = .ok (.aload_n 0, 1) := by decide +kernel
theorem dW_law_1118 : decode code 1118 = .ok (.iload 4, 2) := by decide +kernel
theorem dW_law_1120 : decode code 1120 = .ok (.iconst 2, 1) := by decide +kernel
theorem dW_law_1121 : decode code 1121 = .ok (.iadd, 1) := by decide +kernel
theorem dW_law_1122 : decode code 1122 = .ok (.iaload, 1) := by decide +kernel
theorem dW_law_1123 : decode code 1123 = .ok (.aload_n 0, 1) := by decide +kernel
theorem dW_law_1124 : decode code 1124 = .ok (.iload 4, 2) := by decide +kernel
theorem dW_law_1126 : decode code 1126 = .ok (.iconst 3, 1) := by decide +kernel
theorem dW_law_1127 : decode code 1127 = .ok (.iadd, 1) := by decide +kernel
theorem dW_law_1128 : decode code 1128 = .ok (.iaload, 1) := by decide +kernel
theorem dW_law_1129 : decode code 1129 = .ok (.ifCond .eq 7, 3) := by decide +kernel
theorem dW_law_1132 : decode code 1132 = .ok (.iconst 1, 1) := by decide +kernel
theorem dW_law_1133 : decode code 1133 = .ok (.goto 4, 3) := by decide +kernel
theorem dW_law_1136 : decode code 1136 = .ok (.iconst 0, 1) := by decide +kernel
theorem dW_law_1137 : decode code 1137 = .ok (.invokevirtual 144, 3) := by decide +kernel
theorem dW_law_1140 : decode code 1140 = .ok (.aload_n 2, 1) := by decide +kernel
theorem dW_law_1141 : decode code 1141 = .ok (.aload_n 0, 1) := by decide +kernel
theorem dW_law_1142 : decode code 1142 = .ok (.iload 4, 2) := by decide +kernel
theorem dW_law_1144 : decode code 1144 = .ok (.iconst 1, 1) := by decide +kernel
theorem dW_law_1145 : decode code 1145 = .ok (.iadd, 1) := by decide +kernel
theorem dW_law_1146 : decode code 1146 = .ok (.iaload, 1) := by decide +kernel
theorem dW_law_1147 : decode code 1147 = .ok (.aload_n 0, 1) := by decide +kernel
theorem dW_law_1148 : decode code 1148 = .ok (.iload 4, 2) := by decide +kernel
theorem dW_law_1150 : decode code 1150 = .ok (.iconst 2, 1) := by decide +kernel
theorem dW_law_1151 : decode code 1151 = .ok (.iadd, 1) := by decide +kernel
theorem dW_law_1152 : decode code 1152 = .ok (.iaload, 1) := by decide +kernel
theorem dW_law_1153 : decode code 1153 = .ok (.aload_n 0, 1) := by decide +kernel
theorem dW_law_1154 : decode code 1154 = .ok (.iload 4, 2) := by decide +kernel
theorem dW_law_1156 : decode code 1156 = .ok (.iconst 3, 1) := by decide +kernel
theorem dW_law_1157 : decode code 1157 = .ok (.iadd, 1) := by decide +kernel
theorem dW_law_1158 : decode code 1158 = .ok (.iaload, 1) := by decide +kernel
theorem dW_law_1159 : decode code 1159 = .ok (.ifCond .eq 7, 3) := by decide +kernel
theorem dW_law_1162 : decode code 1162 = .ok (.iconst 1, 1) := by decide +kernel
theorem dW_law_1163 : decode code 1163 = .ok (.goto 4, 3) := by decide +kernel
theorem dW_law_1166 : decode code 1166 = .ok (.iconst 0, 1) := by decide +kernel
theorem dW_law_1167 : decode code 1167 = .ok (.invokevirtual 148, 3) := by decide +kernel
theorem dW_law_1170 : decode code 1170 = .ok (.lcmp, 1) := by decide +kernel
theorem dW_law_1171 : decode code 1171 = .ok (.ifCond .eq 481, 3) := by decide +kernel
theorem dW_law_1174 : decode code 1174 = .ok (.iconst 0, 1) := by decide +kernel
theorem dW_law_1175 : decode code 1175 = .ok (.ireturn, 1) := by decide +kernel
theorem dW_law_1176 : decode code 1176 = .ok (.aload_n 1, 1) := by decide +kernel
theorem dW_law_1177 : decode code 1177 = .ok (.aload_n 0, 1) := by decide +kernel
theorem dW_law_1178 : decode code 1178 = .ok (.iload 4, 2) := by decide +kernel
theorem dW_law_1180 : decode code 1180 = .ok (.iconst 1, 1) := by decide +kernel
theorem dW_law_1181 : decode code 1181 = .ok (.iadd, 1) := by decide +kernel
theorem dW_law_1182 : decode code 1182 = .ok (.iaload, 1) := by decide +kernel
theorem dW_law_1183 : decode code 1183 = .ok (.aload_n 0, 1) := by decide +kernel
theorem dW_law_1184 : decode code 1184 = .ok (.iload 4, 2) := by decide +kernel
theorem dW_law_1186 : decode code 1186 = .ok (.iconst 2, 1) := by decide +kernel
theorem dW_law_1187 : decode code 1187 = .ok (.iadd, 1) := by decide +kernel
theorem dW_law_1188 : decode code 1188 = .ok (.iaload, 1) := by decide +kernel
theorem dW_law_1189 : decode code 1189 = .ok (.aload_n 0, 1) := by decide +kernel
theorem dW_law_1190 : decode code 1190 = .ok (.iload 4, 2) := by decide +kernel
theorem dW_law_1192 : decode code 1192 = .ok (.iconst 3, 1) := by decide +kernel
theorem dW_law_1193 : decode code 1193 = .ok (.iadd, 1) := by decide +kernel
theorem dW_law_1194 : decode code 1194 = .ok (.iaload, 1) := by decide +kernel
theorem dW_law_1195 : decode code 1195 = .ok (.ifCond .eq 7, 3) := by decide +kernel
theorem dW_law_1198 : decode code 1198 = .ok (.iconst 1, 1) := by decide +kernel
theorem dW_law_1199 : decode code 1199 = .ok (.goto 4, 3) := by decide +kernel
theorem dW_law_1202 : decode code 1202 = .ok (.iconst 0, 1) := by decide +kernel
theorem dW_law_1203 : decode code 1203 = .ok (.invokevirtual 149, 3) := by decide +kernel
theorem dW_law_1206 : decode code 1206 = .ok (.aload_n 2, 1) := by decide +kernel
theorem dW_law_1207 : decode code 1207 = .ok (.aload_n 0, 1) := by decide +kernel
theorem dW_law_1208 : decode code 1208 = .ok (.iload 4, 2) := by decide +kernel
theorem dW_law_1210 : decode code 1210 = .ok (.iconst 1, 1) := by decide +kernel
theorem dW_law_1211 : decode code 1211 = .ok (.iadd, 1) := by decide +kernel
theorem dW_law_1212 : decode code 1212 = .ok (.iaload, 1) := by decide +kernel
theorem dW_law_1213 : decode code 1213 = .ok (.aload_n 0, 1) := by decide +kernel
theorem dW_law_1214 : decode code 1214 = .ok (.iload 4, 2) := by decide +kernel
theorem dW_law_1216 : decode code 1216 = .ok (.iconst 2, 1) := by decide +kernel
theorem dW_law_1217 : decode code 1217 = .ok (.iadd, 1) := by decide +kernel
theorem dW_law_1218 : decode code 1218 = .ok (.iaload, 1) := by decide +kernel
theorem dW_law_1219 : decode code 1219 = .ok (.aload_n 0, 1) := by decide +kernel
theorem dW_law_1220 : decode code 1220 = .ok (.iload 4, 2) := by decide +kernel
theorem dW_law_1222 : decode code 1222 = .ok (.iconst 3, 1) := by decide +kernel
theorem dW_law_1223 : decode code 1223 = .ok (.iadd, 1) := by decide +kernel
theorem dW_law_1224 : decode code 1224 = .ok (.iaload, 1) := by decide +kernel
theorem dW_law_1225 : decode code 1225 = .ok (.ifCond .eq 7, 3) := by decide +kernel
theorem dW_law_1228 : decode code 1228 = .ok (.iconst 1, 1) := by decide +kernel
theorem dW_law_1229 : decode code 1229 = .ok (.goto 4, 3) := by decide +kernel
theorem dW_law_1232 : decode code 1232 = .ok (.iconst 0, 1) := by decide +kernel
theorem dW_law_1233 : decode code 1233 = .ok (.invokevirtual 152, 3) := by decide +kernel
theorem dW_law_1236 : decode code 1236 = .ok (.lcmp, 1) := by decide +kernel
theorem dW_law_1237 : decode code 1237 = .ok (.ifCond .eq 415, 3) := by decide +kernel
theorem dW_law_1240 : decode code 1240 = .ok (.iconst 0, 1) := by decide +kernel
theorem dW_law_1241 : decode code 1241 = .ok (.ireturn, 1) := by decide +kernel
theorem dW_law_1242 : decode code 1242 = .ok (.aload_n 1, 1) := by decide +kernel
theorem dW_law_1243 : decode code 1243 = .ok (.aload_n 0, 1) := by decide +kernel
theorem dW_law_1244 : decode code 1244 = .ok (.iload 4, 2) := by decide +kernel
theorem dW_law_1246 : decode code 1246 = .ok (.iconst 1, 1) := by decide +kernel
theorem dW_law_1247 : decode code 1247 = .ok (.iadd, 1) := by decide +kernel
theorem dW_law_1248 : decode code 1248 = .ok (.iaload, 1) := by decide +kernel
theorem dW_law_1249 : decode code 1249 = .ok (.aload_n 0, 1) := by decide +kernel
theorem dW_law_1250 : decode code 1250 = .ok (.iload 4, 2) := by decide +kernel
theorem dW_law_1252 : decode code 1252 = .ok (.iconst 2, 1) := by decide +kernel
theorem dW_law_1253 : decode code 1253 = .ok (.iadd, 1) := by decide +kernel
theorem dW_law_1254 : decode code 1254 = .ok (.iaload, 1) := by decide +kernel
theorem dW_law_1255 : decode code 1255 = .ok (.ifCond .eq 7, 3) := by decide +kernel
theorem dW_law_1258 : decode code 1258 = .ok (.iconst 1, 1) := by decide +kernel
theorem dW_law_1259 : decode code 1259 = .ok (.goto 4, 3) := by decide +kernel
theorem dW_law_1262 : decode code 1262 = .ok (.iconst 0, 1) := by decide +kernel
theorem dW_law_1263 : decode code 1263 = .ok (.invokevirtual 153, 3) := by decide +kernel
theorem dW_law_1266 : decode code 1266 = .ok (.aload_n 2, 1) := by decide +kernel
theorem dW_law_1267 : decode code 1267 = .ok (.aload_n 0, 1) := by decide +kernel
theorem dW_law_1268 : decode code 1268 = .ok (.iload 4, 2) := by decide +kernel
theorem dW_law_1270 : decode code 1270 = .ok (.iconst 1, 1) := by decide +kernel
theorem dW_law_1271 : decode code 1271 = .ok (.iadd, 1) := by decide +kernel
theorem dW_law_1272 : decode code 1272 = .ok (.iaload, 1) := by decide +kernel
theorem dW_law_1273 : decode code 1273 = .ok (.aload_n 0, 1) := by decide +kernel
theorem dW_law_1274 : decode code 1274 = .ok (.iload 4, 2) := by decide +kernel
theorem dW_law_1276 : decode code 1276 = .ok (.iconst 2, 1) := by decide +kernel
theorem dW_law_1277 : decode code 1277 = .ok (.iadd, 1) := by decide +kernel
theorem dW_law_1278 : decode code 1278 = .ok (.iaload, 1) := by decide +kernel
theorem dW_law_1279 : decode code 1279 = .ok (.ifCond .eq 7, 3) := by decide +kernel
theorem dW_law_1282 : decode code 1282 = .ok (.iconst 1, 1) := by decide +kernel
theorem dW_law_1283 : decode code 1283 = .ok (.goto 4, 3) := by decide +kernel
theorem dW_law_1286 : decode code 1286 = .ok (.iconst 0, 1) := by decide +kernel
theorem dW_law_1287 : decode code 1287 = .ok (.invokevirtual 157, 3) := by decide +kernel
theorem dW_law_1290 : decode code 1290 = .ok (.lcmp, 1) := by decide +kernel
theorem dW_law_1291 : decode code 1291 = .ok (.ifCond .eq 361, 3) := by decide +kernel
theorem dW_law_1294 : decode code 1294 = .ok (.iconst 0, 1) := by decide +kernel
theorem dW_law_1295 : decode code 1295 = .ok (.ireturn, 1) := by decide +kernel
section Casew
variable {X : CT} {b L : Nat} {xs : Nat → Int32} {V : Nat → Nat → Int} {σ : Shp} {ow : Nat → Nat} {y : Dy} {l : Nat} {S : PS} {kn : Bool} {k n c : Nat} {i : Int}
theorem ca_rests {nm : String} (hX : CX X nm b L xs) (hP : PX V σ ow y l S kn k n c i L) (nx : NX X i c) : AW X 1060 [some (vR (BG + 39)), some (vR 1), some (vR 53), some (vR 64), some (vI i), none, none] [] (V, σ) k n := by
  obtain ⟨F, hm, HS, hA, hL⟩ := hX
  obtain ⟨h, hk, hn, hc, h0, hi⟩ := hP
  have hBG : BG = 1000000000 := rfl
  have hcr : crd kn ≤ 95000 := crd_le kn
  have h1 := h.o1
  refine aw_sz hA (fun hz => ?_)
  have hz : sX σ ≤ k + 1 := hz
  refine aw_aload_1 (q := 1061) F dW_law_1060 rfl ?_
  refine aw_aload_0 (q := 1062) F dW_law_1061 rfl ?_
  refine aw_iload_4 (q := 1064) F dW_law_1062 rfl ?_
  refine aw_iconst (q := 1065) F dW_law_1064 rfl (by decide) ?_
  refine aw_iadd (q := 1066) F dW_law_1065 rfl (by constructor <;> omega) ?_
  refine aw_sld (q := 1067) F HS dW_law_1066 rfl (by omega) (by omega) ?_
  refine av_callV1 (q := 1070) (ci := 7) F hm mL_rests_i mL_rests_n lW_136 dW_law_1067 rfl rfl rfl (by first | exact h1 | exact hM.mo.o) (by decide) (by omega) (by omega) (Nat.le_of_ble_eq_true rfl) (wL_rests h.cw (fun v1067 sg1067 w1067 y1067 d1067 f1067 => ?_))
  have hM := h.m1 f1067
  refine aw_aload_2 (q := 1071) F dW_law_1070 rfl ?_
  refine aw_aload_0 (q := 1072) F dW_law_1071 rfl ?_
  refine aw_iload_4 (q := 1074) F dW_law_1072 rfl ?_
  refine aw_iconst (q := 1075) F dW_law_1074 rfl (by decide) ?_
  refine aw_iadd (q := 1076) F dW_law_1075 rfl (by constructor <;> omega) ?_
  refine aw_sld (q := 1077) F HS dW_law_1076 rfl (by omega) (by omega) ?_
  refine av_callV1 (q := 1080) (ci := 9) F hm mM_rests_i mM_rests_n lW_139 dW_law_1077 rfl rfl rfl (by first | exact h1 | exact hM.mo.o) (by decide) (by omega) (by omega) (Nat.le_of_ble_eq_true rfl) (wM_rests hM (fun v1077 m1077 r1077 => ?_))
  refine aw_icmp_eq (q := 1083) (t := 1652) F dW_law_1080 rfl (by decide) (fun c1080 => ?_) (fun c1080 => by exact absurd rfl c1080)
  exact nx _ _ _ _ _ _ _ _ _ (h.st d1067 f1067 m1077 r1077) (by omega) (by omega)
theorem ca_rest {nm : String} (hX : CX X nm b L xs) (hP : PX V σ ow y l S kn k n c i L) (nx : NX X i c) : AW X 1085 [some (vR (BG + 39)), some (vR 1), some (vR 53), some (vR 64), some (vI i), none, none] [] (V, σ) k n := by
  obtain ⟨F, hm, HS, hA, hL⟩ := hX
  obtain ⟨h, hk, hn, hc, h0, hi⟩ := hP
  have hBG : BG = 1000000000 := rfl
  have hcr : crd kn ≤ 95000 := crd_le kn
  have h1 := h.o1
  refine aw_sz hA (fun hz => ?_)
  have hz : sX σ ≤ k + 1 := hz
  refine aw_aload_1 (q := 1086) F dW_law_1085 rfl ?_
  refine aw_aload_0 (q := 1087) F dW_law_1086 rfl ?_
  refine aw_iload_4 (q := 1089) F dW_law_1087 rfl ?_
  refine aw_iconst (q := 1090) F dW_law_1089 rfl (by decide) ?_
  refine aw_iadd (q := 1091) F dW_law_1090 rfl (by constructor <;> omega) ?_
  refine aw_sld (q := 1092) F HS dW_law_1091 rfl (by omega) (by omega) ?_
  refine av_callV1 (q := 1095) (ci := 7) F hm mL_rest_i mL_rest_n lW_140 dW_law_1092 rfl rfl rfl (by first | exact h1 | exact hM.mo.o) (by decide) (by omega) (by omega) (Nat.le_of_ble_eq_true rfl) (wL_rest h.cw (fun v1092 sg1092 w1092 y1092 d1092 f1092 => ?_))
  have hM := h.m1 f1092
  refine aw_aload_2 (q := 1096) F dW_law_1095 rfl ?_
  refine aw_aload_0 (q := 1097) F dW_law_1096 rfl ?_
  refine aw_iload_4 (q := 1099) F dW_law_1097 rfl ?_
  refine aw_iconst (q := 1100) F dW_law_1099 rfl (by decide) ?_
  refine aw_iadd (q := 1101) F dW_law_1100 rfl (by constructor <;> omega) ?_
  refine aw_sld (q := 1102) F HS dW_law_1101 rfl (by omega) (by omega) ?_
  refine av_callV1 (q := 1105) (ci := 9) F hm mM_rest_i mM_rest_n lW_143 dW_law_1102 rfl rfl rfl (by first | exact h1 | exact hM.mo.o) (by decide) (by omega) (by omega) (Nat.le_of_ble_eq_true rfl) (wM_rest hM (fun v1102 m1102 r1102 => ?_))
  refine aw_icmp_eq (q := 1108) (t := 1652) F dW_law_1105 rfl (by decide) (fun c1105 => ?_) (fun c1105 => by exact absurd rfl c1105)
  exact nx _ _ _ _ _ _ _ _ _ (h.st d1092 f1092 m1102 r1102) (by omega) (by omega)
theorem ca_odds {nm : String} (hX : CX X nm b L xs) (hP : PX V σ ow y l S kn k n c i L) (nx : NX X i c) : AW X 1110 [some (vR (BG + 39)), some (vR 1), some (vR 53), some (vR 64), some (vI i), none, none] [] (V, σ) k n := by
  obtain ⟨F, hm, HS, hA, hL⟩ := hX
  obtain ⟨h, hk, hn, hc, h0, hi⟩ := hP
  have hBG : BG = 1000000000 := rfl
  have hcr : crd kn ≤ 95000 := crd_le kn
  have h1 := h.o1
  refine aw_sz hA (fun hz => ?_)
  have hz : sX σ ≤ k + 1 := hz
  refine aw_aload_1 (q := 1111) F dW_law_1110 rfl ?_
  refine aw_aload_0 (q := 1112) F dW_law_1111 rfl ?_
  refine aw_iload_4 (q := 1114) F dW_law_1112 rfl ?_
  refine aw_iconst (q := 1115) F dW_law_1114 rfl (by decide) ?_
  refine aw_iadd (q := 1116) F dW_law_1115 rfl (by constructor <;> omega) ?_
  refine aw_sld (q := 1117) F HS dW_law_1116 rfl (by omega) (by omega) ?_
  refine aw_aload_0 (q := 1118) F dW_law_1117 rfl ?_
  refine aw_iload_4 (q := 1120) F dW_law_1118 rfl ?_
  refine aw_iconst (q := 1121) F dW_law_1120 rfl (by decide) ?_
  refine aw_iadd (q := 1122) F dW_law_1121 rfl (by constructor <;> omega) ?_
  refine aw_sld (q := 1123) F HS dW_law_1122 rfl (by omega) (by omega) ?_
  refine aw_aload_0 (q := 1124) F dW_law_1123 rfl ?_
  refine aw_iload_4 (q := 1126) F dW_law_1124 rfl ?_
  refine aw_iconst (q := 1127) F dW_law_1126 rfl (by decide) ?_
  refine aw_iadd (q := 1128) F dW_law_1127 rfl (by constructor <;> omega) ?_
  refine aw_sld (q := 1129) F HS dW_law_1128 rfl (by omega) (by omega) ?_
  refine aw_bz (q := 1137) F dW_law_1129 dW_law_1132 dW_law_1133 dW_law_1136 rfl ?_
  refine av_callV3 (q := 1140) (ci := 7) F hm mL_odds_i mL_odds_n lW_144 dW_law_1137 rfl rfl rfl (by first | exact h1 | exact hM.mo.o) (by decide) (by omega) (by omega) (Nat.le_of_ble_eq_true rfl) (wL_odds rfl h.cw (fun v1137 sg1137 w1137 y1137 d1137 f1137 => ?_))
  have hM := h.m1 f1137
  refine aw_aload_2 (q := 1141) F dW_law_1140 rfl ?_
  refine aw_aload_0 (q := 1142) F dW_law_1141 rfl ?_
  refine aw_iload_4 (q := 1144) F dW_law_1142 rfl ?_
  refine aw_iconst (q := 1145) F dW_law_1144 rfl (by decide) ?_
  refine aw_iadd (q := 1146) F dW_law_1145 rfl (by constructor <;> omega) ?_
  refine aw_sld (q := 1147) F HS dW_law_1146 rfl (by omega) (by omega) ?_
  refine aw_aload_0 (q := 1148) F dW_law_1147 rfl ?_
  refine aw_iload_4 (q := 1150) F dW_law_1148 rfl ?_
  refine aw_iconst (q := 1151) F dW_law_1150 rfl (by decide) ?_
  refine aw_iadd (q := 1152) F dW_law_1151 rfl (by constructor <;> omega) ?_
  refine aw_sld (q := 1153) F HS dW_law_1152 rfl (by omega) (by omega) ?_
  refine aw_aload_0 (q := 1154) F dW_law_1153 rfl ?_
  refine aw_iload_4 (q := 1156) F dW_law_1154 rfl ?_
  refine aw_iconst (q := 1157) F dW_law_1156 rfl (by decide) ?_
  refine aw_iadd (q := 1158) F dW_law_1157 rfl (by constructor <;> omega) ?_
  refine aw_sld (q := 1159) F HS dW_law_1158 rfl (by omega) (by omega) ?_
  refine aw_bz (q := 1167) F dW_law_1159 dW_law_1162 dW_law_1163 dW_law_1166 rfl ?_
  refine av_callV3 (q := 1170) (ci := 9) F hm mM_odds_i mM_odds_n lW_148 dW_law_1167 rfl rfl rfl (by first | exact h1 | exact hM.mo.o) (by decide) (by omega) (by omega) (Nat.le_of_ble_eq_true rfl) (wM_odds rfl hM (fun v1167 m1167 r1167 => ?_))
  refine aw_lcmp (q := 1171) F dW_law_1170 rfl ?_
  refine aw_if_eq (q := 1174) (t := 1652) F dW_law_1171 rfl (by decide) (fun c1171 => ?_) (fun c1171 => by exact absurd (ycmpE.mpr rfl) c1171)
  exact nx _ _ _ _ _ _ _ _ _ (h.st d1137 f1137 m1167 r1167) (by omega) (by omega)
theorem ca_shutOdds {nm : String} (hX : CX X nm b L xs) (hP : PX V σ ow y l S kn k n c i L) (nx : NX X i c) : AW X 1176 [some (vR (BG + 39)), some (vR 1), some (vR 53), some (vR 64), some (vI i), none, none] [] (V, σ) k n := by
  obtain ⟨F, hm, HS, hA, hL⟩ := hX
  obtain ⟨h, hk, hn, hc, h0, hi⟩ := hP
  have hBG : BG = 1000000000 := rfl
  have hcr : crd kn ≤ 95000 := crd_le kn
  have h1 := h.o1
  refine aw_sz hA (fun hz => ?_)
  have hz : sX σ ≤ k + 1 := hz
  refine aw_aload_1 (q := 1177) F dW_law_1176 rfl ?_
  refine aw_aload_0 (q := 1178) F dW_law_1177 rfl ?_
  refine aw_iload_4 (q := 1180) F dW_law_1178 rfl ?_
  refine aw_iconst (q := 1181) F dW_law_1180 rfl (by decide) ?_
  refine aw_iadd (q := 1182) F dW_law_1181 rfl (by constructor <;> omega) ?_
  refine aw_sld (q := 1183) F HS dW_law_1182 rfl (by omega) (by omega) ?_
  refine aw_aload_0 (q := 1184) F dW_law_1183 rfl ?_
  refine aw_iload_4 (q := 1186) F dW_law_1184 rfl ?_
  refine aw_iconst (q := 1187) F dW_law_1186 rfl (by decide) ?_
  refine aw_iadd (q := 1188) F dW_law_1187 rfl (by constructor <;> omega) ?_
  refine aw_sld (q := 1189) F HS dW_law_1188 rfl (by omega) (by omega) ?_
  refine aw_aload_0 (q := 1190) F dW_law_1189 rfl ?_
  refine aw_iload_4 (q := 1192) F dW_law_1190 rfl ?_
  refine aw_iconst (q := 1193) F dW_law_1192 rfl (by decide) ?_
  refine aw_iadd (q := 1194) F dW_law_1193 rfl (by constructor <;> omega) ?_
  refine aw_sld (q := 1195) F HS dW_law_1194 rfl (by omega) (by omega) ?_
  refine aw_bz (q := 1203) F dW_law_1195 dW_law_1198 dW_law_1199 dW_law_1202 rfl ?_
  refine av_callV3 (q := 1206) (ci := 7) F hm mL_shutOdds_i mL_shutOdds_n lW_149 dW_law_1203 rfl rfl rfl (by first | exact h1 | exact hM.mo.o) (by decide) (by omega) (by omega) (Nat.le_of_ble_eq_true rfl) (wL_shutOdds rfl h.cw (fun v1203 sg1203 w1203 y1203 d1203 f1203 => ?_))
  have hM := h.m1 f1203
  refine aw_aload_2 (q := 1207) F dW_law_1206 rfl ?_
  refine aw_aload_0 (q := 1208) F dW_law_1207 rfl ?_
  refine aw_iload_4 (q := 1210) F dW_law_1208 rfl ?_
  refine aw_iconst (q := 1211) F dW_law_1210 rfl (by decide) ?_
  refine aw_iadd (q := 1212) F dW_law_1211 rfl (by constructor <;> omega) ?_
  refine aw_sld (q := 1213) F HS dW_law_1212 rfl (by omega) (by omega) ?_
  refine aw_aload_0 (q := 1214) F dW_law_1213 rfl ?_
  refine aw_iload_4 (q := 1216) F dW_law_1214 rfl ?_
  refine aw_iconst (q := 1217) F dW_law_1216 rfl (by decide) ?_
  refine aw_iadd (q := 1218) F dW_law_1217 rfl (by constructor <;> omega) ?_
  refine aw_sld (q := 1219) F HS dW_law_1218 rfl (by omega) (by omega) ?_
  refine aw_aload_0 (q := 1220) F dW_law_1219 rfl ?_
  refine aw_iload_4 (q := 1222) F dW_law_1220 rfl ?_
  refine aw_iconst (q := 1223) F dW_law_1222 rfl (by decide) ?_
  refine aw_iadd (q := 1224) F dW_law_1223 rfl (by constructor <;> omega) ?_
  refine aw_sld (q := 1225) F HS dW_law_1224 rfl (by omega) (by omega) ?_
  refine aw_bz (q := 1233) F dW_law_1225 dW_law_1228 dW_law_1229 dW_law_1232 rfl ?_
  refine av_callV3 (q := 1236) (ci := 9) F hm mM_shutOdds_i mM_shutOdds_n lW_152 dW_law_1233 rfl rfl rfl (by first | exact h1 | exact hM.mo.o) (by decide) (by omega) (by omega) (Nat.le_of_ble_eq_true rfl) (wM_shutOdds rfl hM (fun v1233 m1233 r1233 => ?_))
  refine aw_lcmp (q := 1237) F dW_law_1236 rfl ?_
  refine aw_if_eq (q := 1240) (t := 1652) F dW_law_1237 rfl (by decide) (fun c1237 => ?_) (fun c1237 => by exact absurd (ycmpE.mpr rfl) c1237)
  exact nx _ _ _ _ _ _ _ _ _ (h.st d1203 f1203 m1233 r1233) (by omega) (by omega)
theorem ca_mean {nm : String} (hX : CX X nm b L xs) (hP : PX V σ ow y l S kn k n c i L) (nx : NX X i c) : AW X 1242 [some (vR (BG + 39)), some (vR 1), some (vR 53), some (vR 64), some (vI i), none, none] [] (V, σ) k n := by
  obtain ⟨F, hm, HS, hA, hL⟩ := hX
  obtain ⟨h, hk, hn, hc, h0, hi⟩ := hP
  have hBG : BG = 1000000000 := rfl
  have hcr : crd kn ≤ 95000 := crd_le kn
  have h1 := h.o1
  refine aw_sz hA (fun hz => ?_)
  have hz : sX σ ≤ k + 1 := hz
  refine aw_aload_1 (q := 1243) F dW_law_1242 rfl ?_
  refine aw_aload_0 (q := 1244) F dW_law_1243 rfl ?_
  refine aw_iload_4 (q := 1246) F dW_law_1244 rfl ?_
  refine aw_iconst (q := 1247) F dW_law_1246 rfl (by decide) ?_
  refine aw_iadd (q := 1248) F dW_law_1247 rfl (by constructor <;> omega) ?_
  refine aw_sld (q := 1249) F HS dW_law_1248 rfl (by omega) (by omega) ?_
  refine aw_aload_0 (q := 1250) F dW_law_1249 rfl ?_
  refine aw_iload_4 (q := 1252) F dW_law_1250 rfl ?_
  refine aw_iconst (q := 1253) F dW_law_1252 rfl (by decide) ?_
  refine aw_iadd (q := 1254) F dW_law_1253 rfl (by constructor <;> omega) ?_
  refine aw_sld (q := 1255) F HS dW_law_1254 rfl (by omega) (by omega) ?_
  refine aw_bz (q := 1263) F dW_law_1255 dW_law_1258 dW_law_1259 dW_law_1262 rfl ?_
  refine av_callV2 (q := 1266) (ci := 7) F hm mL_mean_i mL_mean_n lW_153 dW_law_1263 rfl rfl rfl (by first | exact h1 | exact hM.mo.o) (by decide) (by omega) (by omega) (Nat.le_of_ble_eq_true rfl) (wL_mean rfl h.cw (fun v1263 sg1263 w1263 y1263 d1263 f1263 => ?_))
  have hM := h.m1 f1263
  refine aw_aload_2 (q := 1267) F dW_law_1266 rfl ?_
  refine aw_aload_0 (q := 1268) F dW_law_1267 rfl ?_
  refine aw_iload_4 (q := 1270) F dW_law_1268 rfl ?_
  refine aw_iconst (q := 1271) F dW_law_1270 rfl (by decide) ?_
  refine aw_iadd (q := 1272) F dW_law_1271 rfl (by constructor <;> omega) ?_
  refine aw_sld (q := 1273) F HS dW_law_1272 rfl (by omega) (by omega) ?_
  refine aw_aload_0 (q := 1274) F dW_law_1273 rfl ?_
  refine aw_iload_4 (q := 1276) F dW_law_1274 rfl ?_
  refine aw_iconst (q := 1277) F dW_law_1276 rfl (by decide) ?_
  refine aw_iadd (q := 1278) F dW_law_1277 rfl (by constructor <;> omega) ?_
  refine aw_sld (q := 1279) F HS dW_law_1278 rfl (by omega) (by omega) ?_
  refine aw_bz (q := 1287) F dW_law_1279 dW_law_1282 dW_law_1283 dW_law_1286 rfl ?_
  refine av_callV2 (q := 1290) (ci := 9) F hm mM_mean_i mM_mean_n lW_157 dW_law_1287 rfl rfl rfl (by first | exact h1 | exact hM.mo.o) (by decide) (by omega) (by omega) (Nat.le_of_ble_eq_true rfl) (wM_mean rfl hM (fun v1287 m1287 r1287 => ?_))
  refine aw_lcmp (q := 1291) F dW_law_1290 rfl ?_
  refine aw_if_eq (q := 1294) (t := 1652) F dW_law_1291 rfl (by decide) (fun c1291 => ?_) (fun c1291 => by exact absurd (ycmpE.mpr rfl) c1291)
  exact nx _ _ _ _ _ _ _ _ _ (h.st d1263 f1263 m1287 r1287) (by omega) (by omega)
end Casew
