set_option maxRecDepth 100000 in
set_option maxHeartbeats 4000000 in
theorem lc_34 {g : gT} {h : mh_T} {Q : Nat × Nat} (i : Int32) (k : Nat) (ei : i.toInt = (k : Int)) (hk : k + 7 ≤ gN g) (hN : gN g ≤ 3584) (hJ : JJ h) (he : RR h) (hq : Q.1 ≤ 601024 ∧ Q.2 ≤ 7293034) (K : ∀ h', JJ h' → RR h' → LE g uL 1583 [.ref 900, .ref 0, .ref 11, .ref 61, .int i, .retAddr 0, .retAddr 0] [] h' Q) : LE g uL 1088 [.ref 900, .ref 0, .ref 11, .ref 61, .int i, .retAddr 0, .retAddr 0] [] h Q := by
  have hin1 : vp_in (i + 1) (gN g) := l_in ei (c := 1) (d := 1) (by decide) (by omega) (by omega)
  have hin2 : vp_in (i + 2) (gN g) := l_in ei (c := 2) (d := 2) (by decide) (by omega) (by omega)
  have hin3 : vp_in (i + 3) (gN g) := l_in ei (c := 3) (d := 3) (by decide) (by omega) (by omega)
  refine l_aload_n dL_law_1088 rfl ?_
  refine l_aload_n dL_law_1089 rfl ?_
  refine l_iload dL_law_1090 rfl ?_
  refine l_iconst (v := 1) dL_law_1092 (by decide) ?_
  refine l_iadd dL_law_1093 ?_
  refine l_sld dL_law_1094 hin1 ?_
  refine l_aload_n dL_law_1095 rfl ?_
  refine l_iload dL_law_1096 rfl ?_
  refine l_iconst (v := 2) dL_law_1098 (by decide) ?_
  refine l_iadd dL_law_1099 ?_
  refine l_sld dL_law_1100 hin2 ?_
  refine l_aload_n dL_law_1101 rfl ?_
  refine l_iload dL_law_1102 rfl ?_
  refine l_iconst (v := 3) dL_law_1104 (by decide) ?_
  refine l_iadd dL_law_1105 ?_
  refine l_sld dL_law_1106 hin3 ?_
  suffices hj1 : ∀ v1 : Int32, v1 = (if (gx g (i + 3).toNatClampNeg) = 0 then 0 else 1) → LE g uL 1115 [.ref 900, .ref 0, .ref 11, .ref 61, .int i, .retAddr 0, .retAddr 0] [.int v1, .int (gx g (i + 2).toNatClampNeg), .int (gx g (i + 1).toNatClampNeg), .ref 0] h Q from l_if_eq 1114 dL_law_1107 (by decide) (fun z => l_iconst (v := 0) dL_law_1114 (by decide) (hj1 0 (if_pos z).symm)) (fun z => l_iconst (v := 1) dL_law_1110 (by decide) (l_goto 1115 dL_law_1111 (by decide) (hj1 1 (if_neg z).symm)))
  intro v1 hv1
  refine cl_L_161 dL_law_1115 hq (Nat.le_of_ble_eq_true rfl) (LCi_go (P := fun r h' => LE g uL 1118 [.ref 900, .ref 0, .ref 11, .ref 61, .int i, .retAddr 0, .retAddr 0] (.int r :: []) h' Q) ?_ (fun _ _ q => q))
  refine k_X10_machine (gx g (i + 1).toNatClampNeg) (gx g (i + 2).toNatClampNeg) v1 hJ (fun r1 h1 hJ1 s1 => ?_)
  refine l_pop dL_law_1118 rfl ?_
  refine l_aload_n dL_law_1119 rfl ?_
  refine l_aload_n dL_law_1120 rfl ?_
  refine l_iload dL_law_1121 rfl ?_
  refine l_iconst (v := 1) dL_law_1123 (by decide) ?_
  refine l_iadd dL_law_1124 ?_
  refine l_sld dL_law_1125 hin1 ?_
  refine l_aload_n dL_law_1126 rfl ?_
  refine l_iload dL_law_1127 rfl ?_
  refine l_iconst (v := 2) dL_law_1129 (by decide) ?_
  refine l_iadd dL_law_1130 ?_
  refine l_sld dL_law_1131 hin2 ?_
  refine l_aload_n dL_law_1132 rfl ?_
  refine l_iload dL_law_1133 rfl ?_
  refine l_iconst (v := 3) dL_law_1135 (by decide) ?_
  refine l_iadd dL_law_1136 ?_
  refine l_sld dL_law_1137 hin3 ?_
  suffices hj2 : ∀ v2 : Int32, v2 = (if (gx g (i + 3).toNatClampNeg) = 0 then 0 else 1) → LE g uL 1146 [.ref 900, .ref 0, .ref 11, .ref 61, .int i, .retAddr 0, .retAddr 0] [.int v2, .int (gx g (i + 2).toNatClampNeg), .int (gx g (i + 1).toNatClampNeg), .ref 11] h1 Q from l_if_eq 1145 dL_law_1138 (by decide) (fun z => l_iconst (v := 0) dL_law_1145 (by decide) (hj2 0 (if_pos z).symm)) (fun z => l_iconst (v := 1) dL_law_1141 (by decide) (l_goto 1146 dL_law_1142 (by decide) (hj2 1 (if_neg z).symm)))
  intro v2 hv2
  rw [show v2 = v1 from hv2.trans hv1.symm]
  refine cl_L_165 dL_law_1146 hq (Nat.le_of_ble_eq_true rfl) (LCi_go (P := fun r h' => LE g uL 1149 [.ref 900, .ref 0, .ref 11, .ref 61, .int i, .retAddr 0, .retAddr 0] (.int r :: []) h' Q) ?_ (fun _ _ q => q))
  refine k_X11_machine (gx g (i + 1).toNatClampNeg) (gx g (i + 2).toNatClampNeg) v1 hJ1 (fun r2 h2 hJ2 s2 => ?_)
  refine l_pop dL_law_1149 rfl ?_
  refine l_goto 1583 dL_law_1150 (by decide) ?_
  exact K h2 hJ2 (RR_s hJ1 s2 (RR_s hJ s1 he))
set_option maxRecDepth 100000 in
set_option maxHeartbeats 4000000 in
theorem lc_35 {g : gT} {h : mh_T} {Q : Nat × Nat} (i : Int32) (k : Nat) (ei : i.toInt = (k : Int)) (hk : k + 7 ≤ gN g) (hN : gN g ≤ 3584) (hJ : JJ h) (he : RR h) (hq : Q.1 ≤ 601024 ∧ Q.2 ≤ 7293034) (K : ∀ h', JJ h' → RR h' → LE g uL 1583 [.ref 900, .ref 0, .ref 11, .ref 61, .int i, .retAddr 0, .retAddr 0] [] h' Q) : LE g uL 1153 [.ref 900, .ref 0, .ref 11, .ref 61, .int i, .retAddr 0, .retAddr 0] [] h Q := by
  have hin1 : vp_in (i + 1) (gN g) := l_in ei (c := 1) (d := 1) (by decide) (by omega) (by omega)
  refine l_aload_n dL_law_1153 rfl ?_
  refine l_aload_n dL_law_1154 rfl ?_
  refine l_iload dL_law_1155 rfl ?_
  refine l_iconst (v := 1) dL_law_1157 (by decide) ?_
  refine l_iadd dL_law_1158 ?_
  refine l_sld dL_law_1159 hin1 ?_
  refine cl_L_166 dL_law_1160 hq (Nat.le_of_ble_eq_true rfl) (LCi_go (P := fun r h' => LE g uL 1163 [.ref 900, .ref 0, .ref 11, .ref 61, .int i, .retAddr 0, .retAddr 0] (.int r :: []) h' Q) ?_ (fun _ _ q => q))
  refine k_X10_flip (gx g (i + 1).toNatClampNeg) hJ (RH_pc he.2.2.2) (fun r1 h1 hJ1 s1 => ?_)
  refine l_pop dL_law_1163 rfl ?_
  refine l_aload_n dL_law_1164 rfl ?_
  refine l_aload_n dL_law_1165 rfl ?_
  refine l_iload dL_law_1166 rfl ?_
  refine l_iconst (v := 1) dL_law_1168 (by decide) ?_
  refine l_iadd dL_law_1169 ?_
  refine l_sld dL_law_1170 hin1 ?_
  refine cl_L_170 dL_law_1171 hq (Nat.le_of_ble_eq_true rfl) (LCi_go (P := fun r h' => LE g uL 1174 [.ref 900, .ref 0, .ref 11, .ref 61, .int i, .retAddr 0, .retAddr 0] (.int r :: []) h' Q) ?_ (fun _ _ q => q))
  refine k_X11_flip (gx g (i + 1).toNatClampNeg) hJ1 (PR_lr he.2.2.2 s1.2.1) (fun r2 h2 hJ2 s2 => ?_)
  refine l_pop dL_law_1174 rfl ?_
  refine l_goto 1583 dL_law_1175 (by decide) ?_
  exact K h2 hJ2 (flip_RR hJ hJ1 he s1 s2)
set_option maxRecDepth 100000 in
set_option maxHeartbeats 4000000 in
theorem lc_36 {g : gT} {h : mh_T} {Q : Nat × Nat} (i : Int32) (k : Nat) (ei : i.toInt = (k : Int)) (hk : k + 7 ≤ gN g) (hN : gN g ≤ 3584) (hJ : JJ h) (he : RR h) (hq : Q.1 ≤ 601024 ∧ Q.2 ≤ 7293034) (K : ∀ h', JJ h' → RR h' → LE g uL 1583 [.ref 900, .ref 0, .ref 11, .ref 61, .int i, .retAddr 0, .retAddr 0] [] h' Q) : LE g uL 1178 [.ref 900, .ref 0, .ref 11, .ref 61, .int i, .retAddr 0, .retAddr 0] [] h Q := by
  have hin1 : vp_in (i + 1) (gN g) := l_in ei (c := 1) (d := 1) (by decide) (by omega) (by omega)
  refine l_aload_n dL_law_1178 rfl ?_
  refine l_aload_n dL_law_1179 rfl ?_
  refine l_iload dL_law_1180 rfl ?_
  refine l_iconst (v := 1) dL_law_1182 (by decide) ?_
  refine l_iadd dL_law_1183 ?_
  refine l_sld dL_law_1184 hin1 ?_
  refine cl_L_171 dL_law_1185 hq (Nat.le_of_ble_eq_true rfl) (LCi_go (P := fun r h' => LE g uL 1188 [.ref 900, .ref 0, .ref 11, .ref 61, .int i, .retAddr 0, .retAddr 0] (.int r :: []) h' Q) ?_ (fun _ _ q => q))
  refine k_X10_drop (gx g (i + 1).toNatClampNeg) hJ (RH_pc he.2.2.2) (fun r1 h1 hJ1 s1 => ?_)
  refine l_pop dL_law_1188 rfl ?_
  refine l_aload_n dL_law_1189 rfl ?_
  refine l_aload_n dL_law_1190 rfl ?_
  refine l_iload dL_law_1191 rfl ?_
  refine l_iconst (v := 1) dL_law_1193 (by decide) ?_
  refine l_iadd dL_law_1194 ?_
  refine l_sld dL_law_1195 hin1 ?_
  refine cl_L_174 dL_law_1196 hq (Nat.le_of_ble_eq_true rfl) (LCi_go (P := fun r h' => LE g uL 1199 [.ref 900, .ref 0, .ref 11, .ref 61, .int i, .retAddr 0, .retAddr 0] (.int r :: []) h' Q) ?_ (fun _ _ q => q))
  refine k_X11_drop (gx g (i + 1).toNatClampNeg) hJ1 (PR_lr he.2.2.2 s1.2.1) (fun r2 h2 hJ2 s2 => ?_)
  refine l_pop dL_law_1199 rfl ?_
  refine l_goto 1583 dL_law_1200 (by decide) ?_
  exact K h2 hJ2 (drop_RR hJ hJ1 he s1 s2)
set_option maxRecDepth 100000 in
set_option maxHeartbeats 4000000 in
theorem lc_37 {g : gT} {h : mh_T} {Q : Nat × Nat} (i : Int32) (k : Nat) (ei : i.toInt = (k : Int)) (hk : k + 7 ≤ gN g) (hN : gN g ≤ 3584) (hJ : JJ h) (he : RR h) (hq : Q.1 ≤ 601024 ∧ Q.2 ≤ 7293034) (K : ∀ h', JJ h' → RR h' → LE g uL 1583 [.ref 900, .ref 0, .ref 11, .ref 61, .int i, .retAddr 0, .retAddr 0] [] h' Q) : LE g uL 1203 [.ref 900, .ref 0, .ref 11, .ref 61, .int i, .retAddr 0, .retAddr 0] [] h Q := by
  have hin1 : vp_in (i + 1) (gN g) := l_in ei (c := 1) (d := 1) (by decide) (by omega) (by omega)
  refine l_aload_n dL_law_1203 rfl ?_
  refine l_aload_n dL_law_1204 rfl ?_
  refine l_iload dL_law_1205 rfl ?_
  refine l_iconst (v := 1) dL_law_1207 (by decide) ?_
  refine l_iadd dL_law_1208 ?_
  refine l_sld dL_law_1209 hin1 ?_
  refine cl_L_175 dL_law_1210 hq (Nat.le_of_ble_eq_true rfl) (LCi_go (P := fun r h' => LE g uL 1213 [.ref 900, .ref 0, .ref 11, .ref 61, .int i, .retAddr 0, .retAddr 0] (.int r :: []) h' Q) ?_ (fun _ _ q => q))
  refine k_X10_forget (gx g (i + 1).toNatClampNeg) hJ (RH_pc he.2.2.2) (fun r1 h1 hJ1 s1 => ?_)
  refine l_pop dL_law_1213 rfl ?_
  refine l_aload_n dL_law_1214 rfl ?_
  refine l_aload_n dL_law_1215 rfl ?_
  refine l_iload dL_law_1216 rfl ?_
  refine l_iconst (v := 1) dL_law_1218 (by decide) ?_
  refine l_iadd dL_law_1219 ?_
  refine l_sld dL_law_1220 hin1 ?_
  refine cl_L_178 dL_law_1221 hq (Nat.le_of_ble_eq_true rfl) (LCi_go (P := fun r h' => LE g uL 1224 [.ref 900, .ref 0, .ref 11, .ref 61, .int i, .retAddr 0, .retAddr 0] (.int r :: []) h' Q) ?_ (fun _ _ q => q))
  refine k_X11_forget (gx g (i + 1).toNatClampNeg) hJ1 (PR_lr he.2.2.2 s1.2.1) (fun r2 h2 hJ2 s2 => ?_)
  refine l_pop dL_law_1224 rfl ?_
  refine l_goto 1583 dL_law_1225 (by decide) ?_
  exact K h2 hJ2 (forget_RR hJ hJ1 he s1 s2)
set_option maxRecDepth 100000 in
set_option maxHeartbeats 4000000 in
theorem lc_38 {g : gT} {h : mh_T} {Q : Nat × Nat} (i : Int32) (k : Nat) (ei : i.toInt = (k : Int)) (hk : k + 7 ≤ gN g) (hN : gN g ≤ 3584) (hJ : JJ h) (he : RR h) (hq : Q.1 ≤ 601024 ∧ Q.2 ≤ 7293034) (K : ∀ h', JJ h' → RR h' → LE g uL 1583 [.ref 900, .ref 0, .ref 11, .ref 61, .int i, .retAddr 0, .retAddr 0] [] h' Q) : LE g uL 1228 [.ref 900, .ref 0, .ref 11, .ref 61, .int i, .retAddr 0, .retAddr 0] [] h Q := by
  have hin1 : vp_in (i + 1) (gN g) := l_in ei (c := 1) (d := 1) (by decide) (by omega) (by omega)
  have hin2 : vp_in (i + 2) (gN g) := l_in ei (c := 2) (d := 2) (by decide) (by omega) (by omega)
  have hin3 : vp_in (i + 3) (gN g) := l_in ei (c := 3) (d := 3) (by decide) (by omega) (by omega)
  have hin4 : vp_in (i + 4) (gN g) := l_in ei (c := 4) (d := 4) (by decide) (by omega) (by omega)
  refine l_aload_n dL_law_1228 rfl ?_
  refine l_aload_n dL_law_1229 rfl ?_
  refine l_iload dL_law_1230 rfl ?_
  refine l_iconst (v := 1) dL_law_1232 (by decide) ?_
  refine l_iadd dL_law_1233 ?_
  refine l_sld dL_law_1234 hin1 ?_
  refine l_aload_n dL_law_1235 rfl ?_
  refine l_iload dL_law_1236 rfl ?_
  refine l_iconst (v := 2) dL_law_1238 (by decide) ?_
  refine l_iadd dL_law_1239 ?_
  refine l_sld dL_law_1240 hin2 ?_
  refine l_aload_n dL_law_1241 rfl ?_
  refine l_iload dL_law_1242 rfl ?_
  refine l_iconst (v := 3) dL_law_1244 (by decide) ?_
  refine l_iadd dL_law_1245 ?_
  refine l_sld dL_law_1246 hin3 ?_
  refine l_aload_n dL_law_1247 rfl ?_
  refine l_iload dL_law_1248 rfl ?_
  refine l_iconst (v := 4) dL_law_1250 (by decide) ?_
  refine l_iadd dL_law_1251 ?_
  refine l_sld dL_law_1252 hin4 ?_
  refine cl_L_179 dL_law_1253 hq (Nat.le_of_ble_eq_true rfl) (LCi_go (P := fun r h' => LE g uL 1256 [.ref 900, .ref 0, .ref 11, .ref 61, .int i, .retAddr 0, .retAddr 0] (.int r :: []) h' Q) ?_ (fun _ _ q => q))
  refine k_X10_shift (gx g (i + 1).toNatClampNeg) (gx g (i + 2).toNatClampNeg) (gx g (i + 3).toNatClampNeg) (gx g (i + 4).toNatClampNeg) hJ (RH_pc he.2.2.2) (fun r1 h1 hJ1 s1 => ?_)
  refine l_pop dL_law_1256 rfl ?_
  refine l_aload_n dL_law_1257 rfl ?_
  refine l_aload_n dL_law_1258 rfl ?_
  refine l_iload dL_law_1259 rfl ?_
  refine l_iconst (v := 1) dL_law_1261 (by decide) ?_
  refine l_iadd dL_law_1262 ?_
  refine l_sld dL_law_1263 hin1 ?_
  refine l_aload_n dL_law_1264 rfl ?_
  refine l_iload dL_law_1265 rfl ?_
  refine l_iconst (v := 2) dL_law_1267 (by decide) ?_
  refine l_iadd dL_law_1268 ?_
  refine l_sld dL_law_1269 hin2 ?_
  refine l_aload_n dL_law_1270 rfl ?_
  refine l_iload dL_law_1271 rfl ?_
  refine l_iconst (v := 3) dL_law_1273 (by decide) ?_
  refine l_iadd dL_law_1274 ?_
  refine l_sld dL_law_1275 hin3 ?_
  refine l_aload_n dL_law_1276 rfl ?_
  refine l_iload dL_law_1277 rfl ?_
  refine l_iconst (v := 4) dL_law_1279 (by decide) ?_
  refine l_iadd dL_law_1280 ?_
  refine l_sld dL_law_1281 hin4 ?_
  refine cl_L_183 dL_law_1282 hq (Nat.le_of_ble_eq_true rfl) (LCi_go (P := fun r h' => LE g uL 1285 [.ref 900, .ref 0, .ref 11, .ref 61, .int i, .retAddr 0, .retAddr 0] (.int r :: []) h' Q) ?_ (fun _ _ q => q))
  refine k_X11_shift (gx g (i + 1).toNatClampNeg) (gx g (i + 2).toNatClampNeg) (gx g (i + 3).toNatClampNeg) (gx g (i + 4).toNatClampNeg) hJ1 (PR_lr he.2.2.2 s1.2.1) (fun r2 h2 hJ2 s2 => ?_)
  refine l_pop dL_law_1285 rfl ?_
  refine l_goto 1583 dL_law_1286 (by decide) ?_
  exact K h2 hJ2 (shift_RR hJ hJ1 he s1 s2)
set_option maxRecDepth 100000 in
set_option maxHeartbeats 4000000 in
theorem lc_39 {g : gT} {h : mh_T} {Q : Nat × Nat} (i : Int32) (k : Nat) (ei : i.toInt = (k : Int)) (hk : k + 7 ≤ gN g) (hN : gN g ≤ 3584) (hJ : JJ h) (he : RR h) (hq : Q.1 ≤ 601024 ∧ Q.2 ≤ 7293034) (K : ∀ h', JJ h' → RR h' → LE g uL 1583 [.ref 900, .ref 0, .ref 11, .ref 61, .int i, .retAddr 0, .retAddr 0] [] h' Q) : LE g uL 1289 [.ref 900, .ref 0, .ref 11, .ref 61, .int i, .retAddr 0, .retAddr 0] [] h Q := by
  refine l_aload_n dL_law_1289 rfl ?_
  refine cl_L_184 dL_law_1290 hq (Nat.le_of_ble_eq_true rfl) (LCi_go (P := fun r h' => LE g uL 1293 [.ref 900, .ref 0, .ref 11, .ref 61, .int i, .retAddr 0, .retAddr 0] (.int r :: []) h' Q) ?_ (fun _ _ q => q))
  refine k_X10_undo  hJ (RH_pc he.2.2.2) (fun r1 h1 hJ1 s1 => ?_)
  refine l_aload_n dL_law_1293 rfl ?_
  refine cl_L_188 dL_law_1294 hq (Nat.le_of_ble_eq_true rfl) (LCi_go (P := fun r h' => LE g uL 1297 [.ref 900, .ref 0, .ref 11, .ref 61, .int i, .retAddr 0, .retAddr 0] (.int r :: [.int r1]) h' Q) ?_ (fun _ _ q => q))
  refine k_X11_undo  hJ1 (PR_lr he.2.2.2 s1.2.1) (fun r2 h2 hJ2 s2 => ?_)
  have heq := undo_r hJ he s1 s2
  refine l_icmp_eq 1583 dL_law_1297 (by decide) (fun _ => ?_) (fun ne => absurd heq ne)
  exact K h2 hJ2 (undo_RR hJ hJ1 he s1 s2)
set_option maxRecDepth 100000 in
set_option maxHeartbeats 4000000 in
theorem lc_40 {g : gT} {h : mh_T} {Q : Nat × Nat} (i : Int32) (k : Nat) (ei : i.toInt = (k : Int)) (hk : k + 7 ≤ gN g) (hN : gN g ≤ 3584) (hJ : JJ h) (he : RR h) (hq : Q.1 ≤ 601024 ∧ Q.2 ≤ 7293034) (K : ∀ h', JJ h' → RR h' → LE g uL 1583 [.ref 900, .ref 0, .ref 11, .ref 61, .int i, .retAddr 0, .retAddr 0] [] h' Q) : LE g uL 1302 [.ref 900, .ref 0, .ref 11, .ref 61, .int i, .retAddr 0, .retAddr 0] [] h Q := by
  refine l_aload_n dL_law_1302 rfl ?_
  refine cl_L_189 dL_law_1303 hq (Nat.le_of_ble_eq_true rfl) (LCi_go (P := fun r h' => LE g uL 1306 [.ref 900, .ref 0, .ref 11, .ref 61, .int i, .retAddr 0, .retAddr 0] (.int r :: []) h' Q) ?_ (fun _ _ q => q))
  refine k_X10_redo  hJ (RH_pc he.2.2.2) (fun r1 h1 hJ1 s1 => ?_)
  refine l_pop dL_law_1306 rfl ?_
  refine l_aload_n dL_law_1307 rfl ?_
  refine cl_L_192 dL_law_1308 hq (Nat.le_of_ble_eq_true rfl) (LCi_go (P := fun r h' => LE g uL 1311 [.ref 900, .ref 0, .ref 11, .ref 61, .int i, .retAddr 0, .retAddr 0] (.int r :: []) h' Q) ?_ (fun _ _ q => q))
  refine k_X11_redo  hJ1 (PR_lr he.2.2.2 s1.2.1) (fun r2 h2 hJ2 s2 => ?_)
  refine l_pop dL_law_1311 rfl ?_
  refine l_goto 1583 dL_law_1312 (by decide) ?_
  exact K h2 hJ2 (redo_RR hJ hJ1 he s1 s2)
set_option maxRecDepth 100000 in
set_option maxHeartbeats 4000000 in
theorem lc_41 {g : gT} {h : mh_T} {Q : Nat × Nat} (i : Int32) (k : Nat) (ei : i.toInt = (k : Int)) (hk : k + 7 ≤ gN g) (hN : gN g ≤ 3584) (hJ : JJ h) (he : RR h) (hq : Q.1 ≤ 601024 ∧ Q.2 ≤ 7293034) (K : ∀ h', JJ h' → RR h' → LE g uL 1583 [.ref 900, .ref 0, .ref 11, .ref 61, .int i, .retAddr 0, .retAddr 0] [] h' Q) : LE g uL 1315 [.ref 900, .ref 0, .ref 11, .ref 61, .int i, .retAddr 0, .retAddr 0] [] h Q := by
  refine l_aload_n dL_law_1315 rfl ?_
  refine cl_L_193 dL_law_1316 hq (Nat.le_of_ble_eq_true rfl) (LCi_go (P := fun r h' => LE g uL 1319 [.ref 900, .ref 0, .ref 11, .ref 61, .int i, .retAddr 0, .retAddr 0] (.int r :: []) h' Q) ?_ (fun _ _ q => q))
  refine k_X10_mark  hJ (RH_pc he.2.2.2) (fun r1 h1 hJ1 s1 => ?_)
  refine l_pop dL_law_1319 rfl ?_
  refine l_aload_n dL_law_1320 rfl ?_
  refine cl_L_196 dL_law_1321 hq (Nat.le_of_ble_eq_true rfl) (LCi_go (P := fun r h' => LE g uL 1324 [.ref 900, .ref 0, .ref 11, .ref 61, .int i, .retAddr 0, .retAddr 0] (.int r :: []) h' Q) ?_ (fun _ _ q => q))
  refine k_X11_mark  hJ1 (PR_lr he.2.2.2 s1.2.1) (fun r2 h2 hJ2 s2 => ?_)
  refine l_pop dL_law_1324 rfl ?_
  refine l_goto 1583 dL_law_1325 (by decide) ?_
  exact K h2 hJ2 (mark_RR hJ hJ1 he s1 s2)
set_option maxRecDepth 100000 in
set_option maxHeartbeats 4000000 in
theorem lc_42 {g : gT} {h : mh_T} {Q : Nat × Nat} (i : Int32) (k : Nat) (ei : i.toInt = (k : Int)) (hk : k + 7 ≤ gN g) (hN : gN g ≤ 3584) (hJ : JJ h) (he : RR h) (hq : Q.1 ≤ 601024 ∧ Q.2 ≤ 7293034) (K : ∀ h', JJ h' → RR h' → LE g uL 1583 [.ref 900, .ref 0, .ref 11, .ref 61, .int i, .retAddr 0, .retAddr 0] [] h' Q) : LE g uL 1328 [.ref 900, .ref 0, .ref 11, .ref 61, .int i, .retAddr 0, .retAddr 0] [] h Q := by
  have hin1 : vp_in (i + 1) (gN g) := l_in ei (c := 1) (d := 1) (by decide) (by omega) (by omega)
  refine l_aload_n dL_law_1328 rfl ?_
  refine l_aload_n dL_law_1329 rfl ?_
  refine l_iload dL_law_1330 rfl ?_
  refine l_iconst (v := 1) dL_law_1332 (by decide) ?_
  refine l_iadd dL_law_1333 ?_
  refine l_sld dL_law_1334 hin1 ?_
  refine cl_L_197 dL_law_1335 hq (Nat.le_of_ble_eq_true rfl) (LCi_go (P := fun r h' => LE g uL 1338 [.ref 900, .ref 0, .ref 11, .ref 61, .int i, .retAddr 0, .retAddr 0] (.int r :: []) h' Q) ?_ (fun _ _ q => q))
  refine k_X10_back (gx g (i + 1).toNatClampNeg) hJ (RH_pc he.2.2.2) (fun r1 h1 hJ1 s1 => ?_)
  refine l_pop dL_law_1338 rfl ?_
  refine l_aload_n dL_law_1339 rfl ?_
  refine l_aload_n dL_law_1340 rfl ?_
  refine l_iload dL_law_1341 rfl ?_
  refine l_iconst (v := 1) dL_law_1343 (by decide) ?_
  refine l_iadd dL_law_1344 ?_
  refine l_sld dL_law_1345 hin1 ?_
  refine cl_L_200 dL_law_1346 hq (Nat.le_of_ble_eq_true rfl) (LCi_go (P := fun r h' => LE g uL 1349 [.ref 900, .ref 0, .ref 11, .ref 61, .int i, .retAddr 0, .retAddr 0] (.int r :: []) h' Q) ?_ (fun _ _ q => q))
  refine k_X11_back (gx g (i + 1).toNatClampNeg) hJ1 (PR_lr he.2.2.2 s1.2.1) (fun r2 h2 hJ2 s2 => ?_)
  refine l_pop dL_law_1349 rfl ?_
  refine l_goto 1583 dL_law_1350 (by decide) ?_
  exact K h2 hJ2 (back_RR hJ hJ1 he s1 s2)
set_option maxRecDepth 100000 in
set_option maxHeartbeats 4000000 in
theorem lc_43 {g : gT} {h : mh_T} {Q : Nat × Nat} (i : Int32) (k : Nat) (ei : i.toInt = (k : Int)) (hk : k + 7 ≤ gN g) (hN : gN g ≤ 3584) (hJ : JJ h) (he : RR h) (hq : Q.1 ≤ 601024 ∧ Q.2 ≤ 7293034) (K : ∀ h', JJ h' → RR h' → LE g uL 1583 [.ref 900, .ref 0, .ref 11, .ref 61, .int i, .retAddr 0, .retAddr 0] [] h' Q) : LE g uL 1353 [.ref 900, .ref 0, .ref 11, .ref 61, .int i, .retAddr 0, .retAddr 0] [] h Q := by
  have hin1 : vp_in (i + 1) (gN g) := l_in ei (c := 1) (d := 1) (by decide) (by omega) (by omega)
  have hin2 : vp_in (i + 2) (gN g) := l_in ei (c := 2) (d := 2) (by decide) (by omega) (by omega)
  refine l_aload_n dL_law_1353 rfl ?_
  refine l_aload_n dL_law_1354 rfl ?_
  refine l_iload dL_law_1355 rfl ?_
  refine l_iconst (v := 1) dL_law_1357 (by decide) ?_
  refine l_iadd dL_law_1358 ?_
  refine l_sld dL_law_1359 hin1 ?_
  refine l_aload_n dL_law_1360 rfl ?_
  refine l_iload dL_law_1361 rfl ?_
  refine l_iconst (v := 2) dL_law_1363 (by decide) ?_
  refine l_iadd dL_law_1364 ?_
  refine l_sld dL_law_1365 hin2 ?_
  refine cl_L_201 dL_law_1366 hq (Nat.le_of_ble_eq_true rfl) (LCi_go (P := fun r h' => LE g uL 1369 [.ref 900, .ref 0, .ref 11, .ref 61, .int i, .retAddr 0, .retAddr 0] (.int r :: []) h' Q) ?_ (fun _ _ q => q))
  refine k_X10_act (gx g (i + 1).toNatClampNeg) (gx g (i + 2).toNatClampNeg) hJ (fun r1 h1 hJ1 s1 => ?_)
  refine l_pop dL_law_1369 rfl ?_
  refine l_aload_n dL_law_1370 rfl ?_
  refine l_aload_n dL_law_1371 rfl ?_
  refine l_iload dL_law_1372 rfl ?_
  refine l_iconst (v := 1) dL_law_1374 (by decide) ?_
  refine l_iadd dL_law_1375 ?_
  refine l_sld dL_law_1376 hin1 ?_
  refine l_aload_n dL_law_1377 rfl ?_
  refine l_iload dL_law_1378 rfl ?_
  refine l_iconst (v := 2) dL_law_1380 (by decide) ?_
  refine l_iadd dL_law_1381 ?_
  refine l_sld dL_law_1382 hin2 ?_
  refine cl_L_204 dL_law_1383 hq (Nat.le_of_ble_eq_true rfl) (LCi_go (P := fun r h' => LE g uL 1386 [.ref 900, .ref 0, .ref 11, .ref 61, .int i, .retAddr 0, .retAddr 0] (.int r :: []) h' Q) ?_ (fun _ _ q => q))
  refine k_X11_act (gx g (i + 1).toNatClampNeg) (gx g (i + 2).toNatClampNeg) hJ1 (fun r2 h2 hJ2 s2 => ?_)
  refine l_pop dL_law_1386 rfl ?_
  refine l_goto 1583 dL_law_1387 (by decide) ?_
  exact K h2 hJ2 (RR_s hJ1 s2 (RR_s hJ s1 he))
set_option maxRecDepth 100000 in
set_option maxHeartbeats 4000000 in
theorem lc_44 {g : gT} {h : mh_T} {Q : Nat × Nat} (i : Int32) (k : Nat) (ei : i.toInt = (k : Int)) (hk : k + 7 ≤ gN g) (hN : gN g ≤ 3584) (hJ : JJ h) (he : RR h) (hq : Q.1 ≤ 601024 ∧ Q.2 ≤ 7293034) (K : ∀ h', JJ h' → RR h' → LE g uL 1583 [.ref 900, .ref 0, .ref 11, .ref 61, .int i, .retAddr 0, .retAddr 0] [] h' Q) : LE g uL 1390 [.ref 900, .ref 0, .ref 11, .ref 61, .int i, .retAddr 0, .retAddr 0] [] h Q := by
  have hin1 : vp_in (i + 1) (gN g) := l_in ei (c := 1) (d := 1) (by decide) (by omega) (by omega)
  have hin2 : vp_in (i + 2) (gN g) := l_in ei (c := 2) (d := 2) (by decide) (by omega) (by omega)
  refine l_aload_n dL_law_1390 rfl ?_
  refine l_aload_n dL_law_1391 rfl ?_
  refine l_iload dL_law_1392 rfl ?_
  refine l_iconst (v := 1) dL_law_1394 (by decide) ?_
  refine l_iadd dL_law_1395 ?_
  refine l_sld dL_law_1396 hin1 ?_
  refine l_aload_n dL_law_1397 rfl ?_
  refine l_iload dL_law_1398 rfl ?_
  refine l_iconst (v := 2) dL_law_1400 (by decide) ?_
  refine l_iadd dL_law_1401 ?_
  refine l_sld dL_law_1402 hin2 ?_
  refine cl_L_205 dL_law_1403 hq (Nat.le_of_ble_eq_true rfl) (LCi_go (P := fun r h' => LE g uL 1406 [.ref 900, .ref 0, .ref 11, .ref 61, .int i, .retAddr 0, .retAddr 0] (.int r :: []) h' Q) ?_ (fun _ _ q => q))
  refine k_X10_times (gx g (i + 1).toNatClampNeg) (gx g (i + 2).toNatClampNeg) hJ (fun r1 h1 hJ1 s1 => ?_)
  refine l_pop dL_law_1406 rfl ?_
  refine l_aload_n dL_law_1407 rfl ?_
  refine l_aload_n dL_law_1408 rfl ?_
  refine l_iload dL_law_1409 rfl ?_
  refine l_iconst (v := 1) dL_law_1411 (by decide) ?_
  refine l_iadd dL_law_1412 ?_
  refine l_sld dL_law_1413 hin1 ?_
  refine l_aload_n dL_law_1414 rfl ?_
  refine l_iload dL_law_1415 rfl ?_
  refine l_iconst (v := 2) dL_law_1417 (by decide) ?_
  refine l_iadd dL_law_1418 ?_
  refine l_sld dL_law_1419 hin2 ?_
  refine cl_L_208 dL_law_1420 hq (Nat.le_of_ble_eq_true rfl) (LCi_go (P := fun r h' => LE g uL 1423 [.ref 900, .ref 0, .ref 11, .ref 61, .int i, .retAddr 0, .retAddr 0] (.int r :: []) h' Q) ?_ (fun _ _ q => q))
  refine k_X11_times (gx g (i + 1).toNatClampNeg) (gx g (i + 2).toNatClampNeg) hJ1 (fun r2 h2 hJ2 s2 => ?_)
  refine l_pop dL_law_1423 rfl ?_
  refine l_goto 1583 dL_law_1424 (by decide) ?_
  exact K h2 hJ2 (RR_s hJ1 s2 (RR_s hJ s1 he))
set_option maxRecDepth 100000 in
set_option maxHeartbeats 4000000 in
theorem lc_45 {g : gT} {h : mh_T} {Q : Nat × Nat} (i : Int32) (k : Nat) (ei : i.toInt = (k : Int)) (hk : k + 7 ≤ gN g) (hN : gN g ≤ 3584) (hJ : JJ h) (he : RR h) (hq : Q.1 ≤ 601024 ∧ Q.2 ≤ 7293034) (K : ∀ h', JJ h' → RR h' → LE g uL 1583 [.ref 900, .ref 0, .ref 11, .ref 61, .int i, .retAddr 0, .retAddr 0] [] h' Q) : LE g uL 1427 [.ref 900, .ref 0, .ref 11, .ref 61, .int i, .retAddr 0, .retAddr 0] [] h Q := by
  have hin1 : vp_in (i + 1) (gN g) := l_in ei (c := 1) (d := 1) (by decide) (by omega) (by omega)
  have hin2 : vp_in (i + 2) (gN g) := l_in ei (c := 2) (d := 2) (by decide) (by omega) (by omega)
  refine l_aload_n dL_law_1427 rfl ?_
  refine l_aload_n dL_law_1428 rfl ?_
  refine l_iload dL_law_1429 rfl ?_
  refine l_iconst (v := 1) dL_law_1431 (by decide) ?_
  refine l_iadd dL_law_1432 ?_
  refine l_sld dL_law_1433 hin1 ?_
  refine l_aload_n dL_law_1434 rfl ?_
  refine l_iload dL_law_1435 rfl ?_
  refine l_iconst (v := 2) dL_law_1437 (by decide) ?_
  refine l_iadd dL_law_1438 ?_
  refine l_sld dL_law_1439 hin2 ?_
  suffices hj1 : ∀ v1 : Int32, v1 = (if (gx g (i + 2).toNatClampNeg) = 0 then 0 else 1) → LE g uL 1448 [.ref 900, .ref 0, .ref 11, .ref 61, .int i, .retAddr 0, .retAddr 0] [.int v1, .int (gx g (i + 1).toNatClampNeg), .ref 0] h Q from l_if_eq 1447 dL_law_1440 (by decide) (fun z => l_iconst (v := 0) dL_law_1447 (by decide) (hj1 0 (if_pos z).symm)) (fun z => l_iconst (v := 1) dL_law_1443 (by decide) (l_goto 1448 dL_law_1444 (by decide) (hj1 1 (if_neg z).symm)))
  intro v1 hv1
  refine cl_L_209 dL_law_1448 hq (Nat.le_of_ble_eq_true rfl) (LCi_go (P := fun r h' => LE g uL 1451 [.ref 900, .ref 0, .ref 11, .ref 61, .int i, .retAddr 0, .retAddr 0] (.int r :: []) h' Q) ?_ (fun _ _ q => q))
  refine k_X10_look (gx g (i + 1).toNatClampNeg) v1 hJ (fun r1 h1 hJ1 s1 => ?_)
  refine l_pop dL_law_1451 rfl ?_
  refine l_aload_n dL_law_1452 rfl ?_
  refine l_aload_n dL_law_1453 rfl ?_
  refine l_iload dL_law_1454 rfl ?_
  refine l_iconst (v := 1) dL_law_1456 (by decide) ?_
  refine l_iadd dL_law_1457 ?_
  refine l_sld dL_law_1458 hin1 ?_
  refine l_aload_n dL_law_1459 rfl ?_
  refine l_iload dL_law_1460 rfl ?_
  refine l_iconst (v := 2) dL_law_1462 (by decide) ?_
  refine l_iadd dL_law_1463 ?_
  refine l_sld dL_law_1464 hin2 ?_
  suffices hj2 : ∀ v2 : Int32, v2 = (if (gx g (i + 2).toNatClampNeg) = 0 then 0 else 1) → LE g uL 1473 [.ref 900, .ref 0, .ref 11, .ref 61, .int i, .retAddr 0, .retAddr 0] [.int v2, .int (gx g (i + 1).toNatClampNeg), .ref 11] h1 Q from l_if_eq 1472 dL_law_1465 (by decide) (fun z => l_iconst (v := 0) dL_law_1472 (by decide) (hj2 0 (if_pos z).symm)) (fun z => l_iconst (v := 1) dL_law_1468 (by decide) (l_goto 1473 dL_law_1469 (by decide) (hj2 1 (if_neg z).symm)))
  intro v2 hv2
  rw [show v2 = v1 from hv2.trans hv1.symm]
  refine cl_L_213 dL_law_1473 hq (Nat.le_of_ble_eq_true rfl) (LCi_go (P := fun r h' => LE g uL 1476 [.ref 900, .ref 0, .ref 11, .ref 61, .int i, .retAddr 0, .retAddr 0] (.int r :: []) h' Q) ?_ (fun _ _ q => q))
  refine k_X11_look (gx g (i + 1).toNatClampNeg) v1 hJ1 (fun r2 h2 hJ2 s2 => ?_)
  refine l_pop dL_law_1476 rfl ?_
  refine l_goto 1583 dL_law_1477 (by decide) ?_
  exact K h2 hJ2 (RR_s hJ1 s2 (RR_s hJ s1 he))
set_option maxRecDepth 100000 in
set_option maxHeartbeats 4000000 in
theorem lc_46 {g : gT} {h : mh_T} {Q : Nat × Nat} (i : Int32) (k : Nat) (ei : i.toInt = (k : Int)) (hk : k + 7 ≤ gN g) (hN : gN g ≤ 3584) (hJ : JJ h) (he : RR h) (hq : Q.1 ≤ 601024 ∧ Q.2 ≤ 7293034) (K : ∀ h', JJ h' → RR h' → LE g uL 1583 [.ref 900, .ref 0, .ref 11, .ref 61, .int i, .retAddr 0, .retAddr 0] [] h' Q) : LE g uL 1480 [.ref 900, .ref 0, .ref 11, .ref 61, .int i, .retAddr 0, .retAddr 0] [] h Q := by
  have hin1 : vp_in (i + 1) (gN g) := l_in ei (c := 1) (d := 1) (by decide) (by omega) (by omega)
  have hin2 : vp_in (i + 2) (gN g) := l_in ei (c := 2) (d := 2) (by decide) (by omega) (by omega)
  refine l_aload_n dL_law_1480 rfl ?_
  refine l_aload_n dL_law_1481 rfl ?_
  refine l_iload dL_law_1482 rfl ?_
  refine l_iconst (v := 1) dL_law_1484 (by decide) ?_
  refine l_iadd dL_law_1485 ?_
  refine l_sld dL_law_1486 hin1 ?_
  refine l_aload_n dL_law_1487 rfl ?_
  refine l_iload dL_law_1488 rfl ?_
  refine l_iconst (v := 2) dL_law_1490 (by decide) ?_
  refine l_iadd dL_law_1491 ?_
  refine l_sld dL_law_1492 hin2 ?_
  refine cl_L_214 dL_law_1493 hq (Nat.le_of_ble_eq_true rfl) (LCi_go (P := fun r h' => LE g uL 1496 [.ref 900, .ref 0, .ref 11, .ref 61, .int i, .retAddr 0, .retAddr 0] (.int r :: []) h' Q) ?_ (fun _ _ q => q))
  refine k_X10_coins (gx g (i + 1).toNatClampNeg) (gx g (i + 2).toNatClampNeg) hJ (fun r1 h1 hJ1 s1 => ?_)
  refine l_pop dL_law_1496 rfl ?_
  refine l_aload_n dL_law_1497 rfl ?_
  refine l_aload_n dL_law_1498 rfl ?_
  refine l_iload dL_law_1499 rfl ?_
  refine l_iconst (v := 1) dL_law_1501 (by decide) ?_
  refine l_iadd dL_law_1502 ?_
  refine l_sld dL_law_1503 hin1 ?_
  refine l_aload_n dL_law_1504 rfl ?_
  refine l_iload dL_law_1505 rfl ?_
  refine l_iconst (v := 2) dL_law_1507 (by decide) ?_
  refine l_iadd dL_law_1508 ?_
  refine l_sld dL_law_1509 hin2 ?_
  refine cl_L_217 dL_law_1510 hq (Nat.le_of_ble_eq_true rfl) (LCi_go (P := fun r h' => LE g uL 1513 [.ref 900, .ref 0, .ref 11, .ref 61, .int i, .retAddr 0, .retAddr 0] (.int r :: []) h' Q) ?_ (fun _ _ q => q))
  refine k_X11_coins (gx g (i + 1).toNatClampNeg) (gx g (i + 2).toNatClampNeg) hJ1 (fun r2 h2 hJ2 s2 => ?_)
  refine l_pop dL_law_1513 rfl ?_
  refine l_goto 1583 dL_law_1514 (by decide) ?_
  exact K h2 hJ2 (RR_s hJ1 s2 (RR_s hJ s1 he))
set_option maxRecDepth 100000 in
set_option maxHeartbeats 4000000 in
theorem lc_48 {g : gT} {h : mh_T} {Q : Nat × Nat} (i : Int32) (k : Nat) (ei : i.toInt = (k : Int)) (hk : k + 7 ≤ gN g) (hN : gN g ≤ 3584) (hJ : JJ h) (he : RR h) (hq : Q.1 ≤ 601024 ∧ Q.2 ≤ 7293034) (K : ∀ h', JJ h' → RR h' → LE g uL 1583 [.ref 900, .ref 0, .ref 11, .ref 61, .int i, .retAddr 0, .retAddr 0] [] h' Q) : LE g uL 1545 [.ref 900, .ref 0, .ref 11, .ref 61, .int i, .retAddr 0, .retAddr 0] [] h Q := by
  have hin1 : vp_in (i + 1) (gN g) := l_in ei (c := 1) (d := 1) (by decide) (by omega) (by omega)
  refine l_aload_n dL_law_1545 rfl ?_
  refine l_aload_n dL_law_1546 rfl ?_
  refine l_iload dL_law_1547 rfl ?_
  refine l_iconst (v := 1) dL_law_1549 (by decide) ?_
  refine l_iadd dL_law_1550 ?_
  refine l_sld dL_law_1551 hin1 ?_
  refine cl_L_224 dL_law_1552 hq (Nat.le_of_ble_eq_true rfl) (LCi_go (P := fun r h' => LE g uL 1555 [.ref 900, .ref 0, .ref 11, .ref 61, .int i, .retAddr 0, .retAddr 0] (.int r :: []) h' Q) ?_ (fun _ _ q => q))
  refine k_X10_size (gx g (i + 1).toNatClampNeg) hJ (fun r1 h1 hJ1 s1 => ?_)
  refine l_pop dL_law_1555 rfl ?_
  refine l_aload_n dL_law_1556 rfl ?_
  refine l_aload_n dL_law_1557 rfl ?_
  refine l_iload dL_law_1558 rfl ?_
  refine l_iconst (v := 1) dL_law_1560 (by decide) ?_
  refine l_iadd dL_law_1561 ?_
  refine l_sld dL_law_1562 hin1 ?_
  refine cl_L_227 dL_law_1563 hq (Nat.le_of_ble_eq_true rfl) (LCi_go (P := fun r h' => LE g uL 1566 [.ref 900, .ref 0, .ref 11, .ref 61, .int i, .retAddr 0, .retAddr 0] (.int r :: []) h' Q) ?_ (fun _ _ q => q))
  refine k_X11_size (gx g (i + 1).toNatClampNeg) hJ1 (fun r2 h2 hJ2 s2 => ?_)
  refine l_pop dL_law_1566 rfl ?_
  refine l_goto 1583 dL_law_1567 (by decide) ?_
  exact K h2 hJ2 (RR_s hJ1 s2 (RR_s hJ s1 he))
set_option maxRecDepth 100000 in
set_option maxHeartbeats 4000000 in
theorem lc_49 {g : gT} {h : mh_T} {Q : Nat × Nat} (i : Int32) (k : Nat) (ei : i.toInt = (k : Int)) (hk : k + 7 ≤ gN g) (hN : gN g ≤ 3584) (hJ : JJ h) (he : RR h) (hq : Q.1 ≤ 601024 ∧ Q.2 ≤ 7293034) (K : ∀ h', JJ h' → RR h' → LE g uL 1583 [.ref 900, .ref 0, .ref 11, .ref 61, .int i, .retAddr 0, .retAddr 0] [] h' Q) : LE g uL 1570 [.ref 900, .ref 0, .ref 11, .ref 61, .int i, .retAddr 0, .retAddr 0] [] h Q := by
  refine l_aload_n dL_law_1570 rfl ?_
  refine cl_L_228 dL_law_1571 hq (Nat.le_of_ble_eq_true rfl) (LCi_go (P := fun r h' => LE g uL 1574 [.ref 900, .ref 0, .ref 11, .ref 61, .int i, .retAddr 0, .retAddr 0] (.int r :: []) h' Q) ?_ (fun _ _ q => q))
  refine k_X10_trouble  hJ (fun r1 h1 hJ1 s1 => ?_)
  refine l_pop dL_law_1574 rfl ?_
  refine l_aload_n dL_law_1575 rfl ?_
  refine cl_L_231 dL_law_1576 hq (Nat.le_of_ble_eq_true rfl) (LCi_go (P := fun r h' => LE g uL 1579 [.ref 900, .ref 0, .ref 11, .ref 61, .int i, .retAddr 0, .retAddr 0] (.int r :: []) h' Q) ?_ (fun _ _ q => q))
  refine k_X11_trouble  hJ1 (fun r2 h2 hJ2 s2 => ?_)
  refine l_pop dL_law_1579 rfl ?_
  refine l_goto 1583 dL_law_1580 (by decide) ?_
  exact K h2 hJ2 (RR_s hJ1 s2 (RR_s hJ s1 he))
