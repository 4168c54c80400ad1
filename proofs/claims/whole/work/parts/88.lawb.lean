set_option maxHeartbeats 4000000 in
theorem lc_15 {p : Program} {l : Launch} {e : Env} {s : State} {m : MethodId} {below : List Frame} {meth : Method} {c : Code} {H : Heap} {locs : List Loc} {cells slots : Nat} {Q : State → Prop} {ls : Array Slot} {D : va_G} {x q b L i : Nat} {xs : Nat → Int32} {μ ν : Mem} {w : Int64} (F : CallFix p m c code 7 s #[Value.ref b] wsL_law RL) (hlt : l.stackTraces = false) (hK : va_K D vwCl (tyX D) s) (hG : SGA (bge x) s s.heap) (hX : va_X b L xs s s.heap) (hbl : b < s.heap.size) (hbx : b < x) (hLb : L ≤ 2560) (hq : x + 357 ≤ q) (hik : i + 4 < L) (hL : LSx D x q μ ν w H) (hR : Rel μ ν) (hS : va_S (bge x) s.heap H locs) (hl : lv_has ls 7 (lwl b x q i)) (hc : cells ≤ 600000) (hs : slots ≤ 7000000)
    (kk : ∀ (μ' ν' : Mem) (w' : Int64) (H1 : Heap) (locs1 : List Loc) (ls1 : Array Slot), LSx D x q μ' ν' w' H1 → Rel μ' ν' → va_S (bge x) s.heap H1 locs1 → lv_has ls1 7 (lwl b x q i) → W p l e room_1 s m #[Value.ref b] below meth c H1 locs1 (cells + 4) (slots + 24) Q (F0 m 1984 ls1 [])) : W p l e room_1 s m #[Value.ref b] below meth c H locs cells slots Q (F0 m 1010 ls []) := by
  obtain ⟨k, v, μ', b0, ν', h4, h5, hres, hR2⟩ := call_fence (xs (i + 1)) (xs (i + 2)) hR
  obtain ⟨cd, w2, hcd, hthr, hans⟩ := res2 (w := w) hres
  refine lv_aload_n F.1 F.2.1 dL_law_1010 rfl (lv_at hl 1 rfl) ?_
  refine g_arg F (k := 1) hX hbl hbx hS hLb (by omega) (lv_at hl 0 rfl) (lv_at hl 4 rfl) (by decide) dL_law_1011 dL_law_1012 dL_law_1014 dL_law_1015 dL_law_1016 ?_
  refine g_arg F (k := 2) hX hbl hbx hS hLb (by omega) (lv_at hl 0 rfl) (lv_at hl 4 rfl) (by decide) dL_law_1017 dL_law_1018 dL_law_1020 dL_law_1021 dL_law_1022 ?_
  refine lv_aload_n F.1 F.2.1 dL_law_1023 rfl (lv_at hl 3 rfl) ?_
  refine g_H F hK hG hq hL hS (c_L_fence hlt (q_not hq) (xs (i + 1)) (xs (i + 2)) h4 hcd) (vx_cwSW 4 F.2.2.2.2 gL_law_L_fence rfl rfl rfl hd_L_fence ⟨(Nat.le_of_ble_eq_true rfl), (Nat.le_of_ble_eq_true rfl)⟩) rfl (rest := []) rfl hl.1 (Nat.le_of_ble_eq_true rfl) dL_law_1024 ⟨by show cells + 1 ≤ 601024; omega, by show slots + 6 ≤ 7293034; omega⟩ (fun H locs hL hS => ?_)
  refine lv_istore F.1 F.2.1 dL_law_1027 hl (Nat.le_of_ble_eq_true rfl) rfl (fun ls hl => ?_)
  have hl : lv_has ls 7 ((5, .int cd) :: lwl b x q i) := hl
  refine lv_aload_n F.1 F.2.1 dL_law_1029 rfl (lv_at hl 3 rfl) ?_
  refine g_arg F (k := 1) hX hbl hbx hS hLb (by omega) (lv_at hl 1 rfl) (lv_at hl 5 rfl) (by decide) dL_law_1030 dL_law_1031 dL_law_1033 dL_law_1034 dL_law_1035 ?_
  refine g_arg F (k := 2) hX hbl hbx hS hLb (by omega) (lv_at hl 1 rfl) (lv_at hl 5 rfl) (by decide) dL_law_1036 dL_law_1037 dL_law_1039 dL_law_1040 dL_law_1041 ?_
  refine g_M F hK hq hL hS (As := [.int (xs (i + 1)), .int (xs (i + 2))]) (c_X5_fence (xs (i + 1)) (xs (i + 2)) h5) (cwV 2 F.2.2.2.2 gL_law_X5_fence rfl rfl rfl ⟨rfl, hd_X5_fence⟩ ⟨(Nat.le_of_ble_eq_true rfl), (Nat.le_of_ble_eq_true rfl)⟩) rfl (rest := []) rfl hl.1 (Nat.le_of_ble_eq_true rfl) dL_law_1042 ⟨by show cells + 1 ≤ 601024; omega, by show slots + 6 ≤ 7293034; omega⟩ (fun H locs hL hS => ?_)
  refine lv_istore F.1 F.2.1 dL_law_1045 hl (Nat.le_of_ble_eq_true rfl) rfl (fun ls hl => ?_)
  have hl : lv_has ls 7 ((6, .int b0) :: (5, .int cd) :: lwl b x q i) := hl
  refine g_tail F hK hq hL hS hl hthr hans ⟨by show cells + 1 ≤ 601024; omega, by show slots + 6 ≤ 7293034; omega⟩ (cwV 0 F.2.2.2.2 gL_law_X5_thrown rfl rfl rfl ⟨rfl, hd_X5_thrown⟩ ⟨(Nat.le_of_ble_eq_true rfl), (Nat.le_of_ble_eq_true rfl)⟩) rfl dL_law_1047 dL_law_1048 dL_law_1051 dL_law_1053 dL_law_1058 dL_law_1060 dL_law_1063 dL_law_1064 dL_law_1065 dL_law_1066 dL_law_1068 dL_law_1069 dL_law_1070 dL_law_1075 (fun H locs hL hS => ?_)
  exact W.widen (k := cells + 4) (n := slots + 24) (by omega) (by omega) (kk _ _ _ H locs ls hL hR2 hS (lv_sub hl [2, 3, 4, 5, 6] rfl))
set_option maxHeartbeats 4000000 in
theorem lc_16 {p : Program} {l : Launch} {e : Env} {s : State} {m : MethodId} {below : List Frame} {meth : Method} {c : Code} {H : Heap} {locs : List Loc} {cells slots : Nat} {Q : State → Prop} {ls : Array Slot} {D : va_G} {x q b L i : Nat} {xs : Nat → Int32} {μ ν : Mem} {w : Int64} (F : CallFix p m c code 7 s #[Value.ref b] wsL_law RL) (hlt : l.stackTraces = false) (hK : va_K D vwCl (tyX D) s) (hG : SGA (bge x) s s.heap) (hX : va_X b L xs s s.heap) (hbl : b < s.heap.size) (hbx : b < x) (hLb : L ≤ 2560) (hq : x + 357 ≤ q) (hik : i + 4 < L) (hL : LSx D x q μ ν w H) (hR : Rel μ ν) (hS : va_S (bge x) s.heap H locs) (hl : lv_has ls 7 (lwl b x q i)) (hc : cells ≤ 600000) (hs : slots ≤ 7000000)
    (kk : ∀ (μ' ν' : Mem) (w' : Int64) (H1 : Heap) (locs1 : List Loc) (ls1 : Array Slot), LSx D x q μ' ν' w' H1 → Rel μ' ν' → va_S (bge x) s.heap H1 locs1 → lv_has ls1 7 (lwl b x q i) → W p l e room_1 s m #[Value.ref b] below meth c H1 locs1 (cells + 4) (slots + 24) Q (F0 m 1984 ls1 [])) : W p l e room_1 s m #[Value.ref b] below meth c H locs cells slots Q (F0 m 1078 ls []) := by
  obtain ⟨k, v, μ', b0, ν', h4, h5, hres, hR2⟩ := call_shovel (xs (i + 1)) hR
  obtain ⟨cd, w2, hcd, hthr, hans⟩ := res1 (w := w) hres
  refine lv_aload_n F.1 F.2.1 dL_law_1078 rfl (lv_at hl 1 rfl) ?_
  refine g_arg F (k := 1) hX hbl hbx hS hLb (by omega) (lv_at hl 0 rfl) (lv_at hl 4 rfl) (by decide) dL_law_1079 dL_law_1080 dL_law_1082 dL_law_1083 dL_law_1084 ?_
  refine lv_aload_n F.1 F.2.1 dL_law_1085 rfl (lv_at hl 3 rfl) ?_
  refine g_H F hK hG hq hL hS (c_L_shovel hlt (q_not hq) (xs (i + 1)) h4 hcd) (vx_cwSW 3 F.2.2.2.2 gL_law_L_shovel rfl rfl rfl hd_L_shovel ⟨(Nat.le_of_ble_eq_true rfl), (Nat.le_of_ble_eq_true rfl)⟩) rfl (rest := []) rfl hl.1 (Nat.le_of_ble_eq_true rfl) dL_law_1086 ⟨by show cells + 1 ≤ 601024; omega, by show slots + 6 ≤ 7293034; omega⟩ (fun H locs hL hS => ?_)
  refine lv_istore F.1 F.2.1 dL_law_1089 hl (Nat.le_of_ble_eq_true rfl) rfl (fun ls hl => ?_)
  have hl : lv_has ls 7 ((5, .int cd) :: lwl b x q i) := hl
  refine lv_aload_n F.1 F.2.1 dL_law_1091 rfl (lv_at hl 3 rfl) ?_
  refine g_arg F (k := 1) hX hbl hbx hS hLb (by omega) (lv_at hl 1 rfl) (lv_at hl 5 rfl) (by decide) dL_law_1092 dL_law_1093 dL_law_1095 dL_law_1096 dL_law_1097 ?_
  refine g_M F hK hq hL hS (As := [.int (xs (i + 1))]) (c_X5_shovel (xs (i + 1)) h5) (cwV 1 F.2.2.2.2 gL_law_X5_shovel rfl rfl rfl ⟨rfl, hd_X5_shovel⟩ ⟨(Nat.le_of_ble_eq_true rfl), (Nat.le_of_ble_eq_true rfl)⟩) rfl (rest := []) rfl hl.1 (Nat.le_of_ble_eq_true rfl) dL_law_1098 ⟨by show cells + 1 ≤ 601024; omega, by show slots + 6 ≤ 7293034; omega⟩ (fun H locs hL hS => ?_)
  refine lv_istore F.1 F.2.1 dL_law_1101 hl (Nat.le_of_ble_eq_true rfl) rfl (fun ls hl => ?_)
  have hl : lv_has ls 7 ((6, .int b0) :: (5, .int cd) :: lwl b x q i) := hl
  refine g_tail F hK hq hL hS hl hthr hans ⟨by show cells + 1 ≤ 601024; omega, by show slots + 6 ≤ 7293034; omega⟩ (cwV 0 F.2.2.2.2 gL_law_X5_thrown rfl rfl rfl ⟨rfl, hd_X5_thrown⟩ ⟨(Nat.le_of_ble_eq_true rfl), (Nat.le_of_ble_eq_true rfl)⟩) rfl dL_law_1103 dL_law_1104 dL_law_1107 dL_law_1109 dL_law_1114 dL_law_1116 dL_law_1119 dL_law_1120 dL_law_1121 dL_law_1122 dL_law_1124 dL_law_1125 dL_law_1126 dL_law_1131 (fun H locs hL hS => ?_)
  exact W.widen (k := cells + 4) (n := slots + 24) (by omega) (by omega) (kk _ _ _ H locs ls hL hR2 hS (lv_sub hl [2, 3, 4, 5, 6] rfl))
set_option maxHeartbeats 4000000 in
theorem lc_17 {p : Program} {l : Launch} {e : Env} {s : State} {m : MethodId} {below : List Frame} {meth : Method} {c : Code} {H : Heap} {locs : List Loc} {cells slots : Nat} {Q : State → Prop} {ls : Array Slot} {D : va_G} {x q b L i : Nat} {xs : Nat → Int32} {μ ν : Mem} {w : Int64} (F : CallFix p m c code 7 s #[Value.ref b] wsL_law RL) (hlt : l.stackTraces = false) (hK : va_K D vwCl (tyX D) s) (hG : SGA (bge x) s s.heap) (hX : va_X b L xs s s.heap) (hbl : b < s.heap.size) (hbx : b < x) (hLb : L ≤ 2560) (hq : x + 357 ≤ q) (hik : i + 4 < L) (hL : LSx D x q μ ν w H) (hR : Rel μ ν) (hS : va_S (bge x) s.heap H locs) (hl : lv_has ls 7 (lwl b x q i)) (hc : cells ≤ 600000) (hs : slots ≤ 7000000)
    (kk : ∀ (μ' ν' : Mem) (w' : Int64) (H1 : Heap) (locs1 : List Loc) (ls1 : Array Slot), LSx D x q μ' ν' w' H1 → Rel μ' ν' → va_S (bge x) s.heap H1 locs1 → lv_has ls1 7 (lwl b x q i) → W p l e room_1 s m #[Value.ref b] below meth c H1 locs1 (cells + 4) (slots + 24) Q (F0 m 1984 ls1 [])) : W p l e room_1 s m #[Value.ref b] below meth c H locs cells slots Q (F0 m 1134 ls []) := by
  obtain ⟨k, v, μ', b0, ν', h4, h5, hres, hR2⟩ := call_days (xs (i + 1)) (xs (i + 2)) (xs (i + 3)) hR
  obtain ⟨cd, w2, hcd, hthr, hans⟩ := res2 (w := w) hres
  refine lv_aload_n F.1 F.2.1 dL_law_1134 rfl (lv_at hl 1 rfl) ?_
  refine g_arg F (k := 1) hX hbl hbx hS hLb (by omega) (lv_at hl 0 rfl) (lv_at hl 4 rfl) (by decide) dL_law_1135 dL_law_1136 dL_law_1138 dL_law_1139 dL_law_1140 ?_
  refine g_arg F (k := 2) hX hbl hbx hS hLb (by omega) (lv_at hl 0 rfl) (lv_at hl 4 rfl) (by decide) dL_law_1141 dL_law_1142 dL_law_1144 dL_law_1145 dL_law_1146 ?_
  refine g_arg F (k := 3) hX hbl hbx hS hLb (by omega) (lv_at hl 0 rfl) (lv_at hl 4 rfl) (by decide) dL_law_1147 dL_law_1148 dL_law_1150 dL_law_1151 dL_law_1152 ?_
  refine lv_aload_n F.1 F.2.1 dL_law_1153 rfl (lv_at hl 3 rfl) ?_
  refine g_H F hK hG hq hL hS (c_L_days hlt (q_not hq) (xs (i + 1)) (xs (i + 2)) (xs (i + 3)) h4 hcd) (vx_cwSW 5 F.2.2.2.2 gL_law_L_days rfl rfl rfl hd_L_days ⟨(Nat.le_of_ble_eq_true rfl), (Nat.le_of_ble_eq_true rfl)⟩) rfl (rest := []) rfl hl.1 (Nat.le_of_ble_eq_true rfl) dL_law_1154 ⟨by show cells + 1 ≤ 601024; omega, by show slots + 6 ≤ 7293034; omega⟩ (fun H locs hL hS => ?_)
  refine lv_istore F.1 F.2.1 dL_law_1157 hl (Nat.le_of_ble_eq_true rfl) rfl (fun ls hl => ?_)
  have hl : lv_has ls 7 ((5, .int cd) :: lwl b x q i) := hl
  refine lv_aload_n F.1 F.2.1 dL_law_1159 rfl (lv_at hl 3 rfl) ?_
  refine g_arg F (k := 1) hX hbl hbx hS hLb (by omega) (lv_at hl 1 rfl) (lv_at hl 5 rfl) (by decide) dL_law_1160 dL_law_1161 dL_law_1163 dL_law_1164 dL_law_1165 ?_
  refine g_arg F (k := 2) hX hbl hbx hS hLb (by omega) (lv_at hl 1 rfl) (lv_at hl 5 rfl) (by decide) dL_law_1166 dL_law_1167 dL_law_1169 dL_law_1170 dL_law_1171 ?_
  refine g_arg F (k := 3) hX hbl hbx hS hLb (by omega) (lv_at hl 1 rfl) (lv_at hl 5 rfl) (by decide) dL_law_1172 dL_law_1173 dL_law_1175 dL_law_1176 dL_law_1177 ?_
  refine g_M F hK hq hL hS (As := [.int (xs (i + 1)), .int (xs (i + 2)), .int (xs (i + 3))]) (c_X5_days (xs (i + 1)) (xs (i + 2)) (xs (i + 3)) h5) (cwV 3 F.2.2.2.2 gL_law_X5_days rfl rfl rfl ⟨rfl, hd_X5_days⟩ ⟨(Nat.le_of_ble_eq_true rfl), (Nat.le_of_ble_eq_true rfl)⟩) rfl (rest := []) rfl hl.1 (Nat.le_of_ble_eq_true rfl) dL_law_1178 ⟨by show cells + 1 ≤ 601024; omega, by show slots + 6 ≤ 7293034; omega⟩ (fun H locs hL hS => ?_)
  refine lv_istore F.1 F.2.1 dL_law_1181 hl (Nat.le_of_ble_eq_true rfl) rfl (fun ls hl => ?_)
  have hl : lv_has ls 7 ((6, .int b0) :: (5, .int cd) :: lwl b x q i) := hl
  refine g_tail F hK hq hL hS hl hthr hans ⟨by show cells + 1 ≤ 601024; omega, by show slots + 6 ≤ 7293034; omega⟩ (cwV 0 F.2.2.2.2 gL_law_X5_thrown rfl rfl rfl ⟨rfl, hd_X5_thrown⟩ ⟨(Nat.le_of_ble_eq_true rfl), (Nat.le_of_ble_eq_true rfl)⟩) rfl dL_law_1183 dL_law_1184 dL_law_1187 dL_law_1189 dL_law_1194 dL_law_1196 dL_law_1199 dL_law_1200 dL_law_1201 dL_law_1202 dL_law_1204 dL_law_1205 dL_law_1206 dL_law_1211 (fun H locs hL hS => ?_)
  exact W.widen (k := cells + 4) (n := slots + 24) (by omega) (by omega) (kk _ _ _ H locs ls hL hR2 hS (lv_sub hl [2, 3, 4, 5, 6] rfl))
set_option maxHeartbeats 4000000 in
theorem lc_18 {p : Program} {l : Launch} {e : Env} {s : State} {m : MethodId} {below : List Frame} {meth : Method} {c : Code} {H : Heap} {locs : List Loc} {cells slots : Nat} {Q : State → Prop} {ls : Array Slot} {D : va_G} {x q b L i : Nat} {xs : Nat → Int32} {μ ν : Mem} {w : Int64} (F : CallFix p m c code 7 s #[Value.ref b] wsL_law RL) (hlt : l.stackTraces = false) (hK : va_K D vwCl (tyX D) s) (hG : SGA (bge x) s s.heap) (hX : va_X b L xs s s.heap) (hbl : b < s.heap.size) (hbx : b < x) (hLb : L ≤ 2560) (hq : x + 357 ≤ q) (hik : i + 4 < L) (hL : LSx D x q μ ν w H) (hR : Rel μ ν) (hS : va_S (bge x) s.heap H locs) (hl : lv_has ls 7 (lwl b x q i)) (hc : cells ≤ 600000) (hs : slots ≤ 7000000)
    (kk : ∀ (μ' ν' : Mem) (w' : Int64) (H1 : Heap) (locs1 : List Loc) (ls1 : Array Slot), LSx D x q μ' ν' w' H1 → Rel μ' ν' → va_S (bge x) s.heap H1 locs1 → lv_has ls1 7 (lwl b x q i) → W p l e room_1 s m #[Value.ref b] below meth c H1 locs1 (cells + 4) (slots + 24) Q (F0 m 1984 ls1 [])) : W p l e room_1 s m #[Value.ref b] below meth c H locs cells slots Q (F0 m 1214 ls []) := by
  obtain ⟨k, v, μ', b0, ν', h4, h5, hres, hR2⟩ := call_winter hR
  have hk : k = 0 ∧ v = b0 := by
    rcases hres with ⟨h1, _, h3⟩ | ⟨i, h1, _⟩
    · exact ⟨h1, h3⟩
    · simp at h1
  obtain ⟨rfl, rfl⟩ := hk
  refine lv_aload_n F.1 F.2.1 dL_law_1214 rfl (lv_at hl 1 rfl) ?_
  refine g_T F hK hG hq hL hS (As := []) (c_X4_winter hlt h4) (cwV 0 F.2.2.2.2 gL_law_X4_winter rfl rfl rfl ⟨rfl, hd_X4_winter⟩ ⟨(Nat.le_of_ble_eq_true rfl), (Nat.le_of_ble_eq_true rfl)⟩) rfl rfl hl.1 (rest := []) (Nat.le_of_ble_eq_true rfl) dL_law_1215 ⟨by show cells + 1 ≤ 601024; omega, by show slots + 6 ≤ 7293034; omega⟩ (fun H locs hL hS => ?_)
  refine lv_aload_n F.1 F.2.1 dL_law_1218 rfl (lv_at hl 2 rfl) ?_
  refine g_M F hK hq hL hS (As := []) (c_X5_winter h5) (cwV 0 F.2.2.2.2 gL_law_X5_winter rfl rfl rfl ⟨rfl, hd_X5_winter⟩ ⟨(Nat.le_of_ble_eq_true rfl), (Nat.le_of_ble_eq_true rfl)⟩) rfl rfl hl.1 (Nat.le_of_ble_eq_true rfl) dL_law_1219 ⟨by show cells + 1 ≤ 601024; omega, by show slots + 6 ≤ 7293034; omega⟩ (fun H locs hL hS => ?_)
  refine lv_icmp_eq (tgt := 1984) F.1 F.2.1 dL_law_1222 rfl (fun _ => ?_) (fun h => absurd rfl h)
  exact W.widen (k := cells + 4) (n := slots + 24) (by omega) (by omega) (kk _ _ _ H locs ls hL hR2 hS hl)
set_option maxHeartbeats 4000000 in
theorem lc_19 {p : Program} {l : Launch} {e : Env} {s : State} {m : MethodId} {below : List Frame} {meth : Method} {c : Code} {H : Heap} {locs : List Loc} {cells slots : Nat} {Q : State → Prop} {ls : Array Slot} {D : va_G} {x q b L i : Nat} {xs : Nat → Int32} {μ ν : Mem} {w : Int64} (F : CallFix p m c code 7 s #[Value.ref b] wsL_law RL) (hlt : l.stackTraces = false) (hK : va_K D vwCl (tyX D) s) (hG : SGA (bge x) s s.heap) (hX : va_X b L xs s s.heap) (hbl : b < s.heap.size) (hbx : b < x) (hLb : L ≤ 2560) (hq : x + 357 ≤ q) (hik : i + 4 < L) (hL : LSx D x q μ ν w H) (hR : Rel μ ν) (hS : va_S (bge x) s.heap H locs) (hl : lv_has ls 7 (lwl b x q i)) (hc : cells ≤ 600000) (hs : slots ≤ 7000000)
    (kk : ∀ (μ' ν' : Mem) (w' : Int64) (H1 : Heap) (locs1 : List Loc) (ls1 : Array Slot), LSx D x q μ' ν' w' H1 → Rel μ' ν' → va_S (bge x) s.heap H1 locs1 → lv_has ls1 7 (lwl b x q i) → W p l e room_1 s m #[Value.ref b] below meth c H1 locs1 (cells + 4) (slots + 24) Q (F0 m 1984 ls1 [])) : W p l e room_1 s m #[Value.ref b] below meth c H locs cells slots Q (F0 m 1227 ls []) := by
  obtain ⟨k, v, μ', b0, ν', h4, h5, hres, hR2⟩ := call_set (xs (i + 1)) (xs (i + 2)) hR
  obtain ⟨cd, w2, hcd, hthr, hans⟩ := res1 (w := w) hres
  refine lv_aload_n F.1 F.2.1 dL_law_1227 rfl (lv_at hl 1 rfl) ?_
  refine g_arg F (k := 1) hX hbl hbx hS hLb (by omega) (lv_at hl 0 rfl) (lv_at hl 4 rfl) (by decide) dL_law_1228 dL_law_1229 dL_law_1231 dL_law_1232 dL_law_1233 ?_
  refine g_arg F (k := 2) hX hbl hbx hS hLb (by omega) (lv_at hl 0 rfl) (lv_at hl 4 rfl) (by decide) dL_law_1234 dL_law_1235 dL_law_1237 dL_law_1238 dL_law_1239 ?_
  refine lv_aload_n F.1 F.2.1 dL_law_1240 rfl (lv_at hl 3 rfl) ?_
  refine g_H F hK hG hq hL hS (c_L_set hlt (q_not hq) (xs (i + 1)) (xs (i + 2)) h4 hcd) (vx_cwSW 4 F.2.2.2.2 gL_law_L_set rfl rfl rfl hd_L_set ⟨(Nat.le_of_ble_eq_true rfl), (Nat.le_of_ble_eq_true rfl)⟩) rfl (rest := []) rfl hl.1 (Nat.le_of_ble_eq_true rfl) dL_law_1241 ⟨by show cells + 1 ≤ 601024; omega, by show slots + 6 ≤ 7293034; omega⟩ (fun H locs hL hS => ?_)
  refine lv_istore F.1 F.2.1 dL_law_1244 hl (Nat.le_of_ble_eq_true rfl) rfl (fun ls hl => ?_)
  have hl : lv_has ls 7 ((5, .int cd) :: lwl b x q i) := hl
  refine lv_aload_n F.1 F.2.1 dL_law_1246 rfl (lv_at hl 3 rfl) ?_
  refine g_arg F (k := 1) hX hbl hbx hS hLb (by omega) (lv_at hl 1 rfl) (lv_at hl 5 rfl) (by decide) dL_law_1247 dL_law_1248 dL_law_1250 dL_law_1251 dL_law_1252 ?_
  refine g_arg F (k := 2) hX hbl hbx hS hLb (by omega) (lv_at hl 1 rfl) (lv_at hl 5 rfl) (by decide) dL_law_1253 dL_law_1254 dL_law_1256 dL_law_1257 dL_law_1258 ?_
  refine g_M F hK hq hL hS (As := [.int (xs (i + 1)), .int (xs (i + 2))]) (c_X5_set (xs (i + 1)) (xs (i + 2)) h5) (cwV 2 F.2.2.2.2 gL_law_X5_set rfl rfl rfl ⟨rfl, hd_X5_set⟩ ⟨(Nat.le_of_ble_eq_true rfl), (Nat.le_of_ble_eq_true rfl)⟩) rfl (rest := []) rfl hl.1 (Nat.le_of_ble_eq_true rfl) dL_law_1259 ⟨by show cells + 1 ≤ 601024; omega, by show slots + 6 ≤ 7293034; omega⟩ (fun H locs hL hS => ?_)
  refine lv_istore F.1 F.2.1 dL_law_1262 hl (Nat.le_of_ble_eq_true rfl) rfl (fun ls hl => ?_)
  have hl : lv_has ls 7 ((6, .int b0) :: (5, .int cd) :: lwl b x q i) := hl
  refine g_tail F hK hq hL hS hl hthr hans ⟨by show cells + 1 ≤ 601024; omega, by show slots + 6 ≤ 7293034; omega⟩ (cwV 0 F.2.2.2.2 gL_law_X5_thrown rfl rfl rfl ⟨rfl, hd_X5_thrown⟩ ⟨(Nat.le_of_ble_eq_true rfl), (Nat.le_of_ble_eq_true rfl)⟩) rfl dL_law_1264 dL_law_1265 dL_law_1268 dL_law_1270 dL_law_1275 dL_law_1277 dL_law_1280 dL_law_1281 dL_law_1282 dL_law_1283 dL_law_1285 dL_law_1286 dL_law_1287 dL_law_1292 (fun H locs hL hS => ?_)
  exact W.widen (k := cells + 4) (n := slots + 24) (by omega) (by omega) (kk _ _ _ H locs ls hL hR2 hS (lv_sub hl [2, 3, 4, 5, 6] rfl))
set_option maxHeartbeats 4000000 in
theorem lc_20 {p : Program} {l : Launch} {e : Env} {s : State} {m : MethodId} {below : List Frame} {meth : Method} {c : Code} {H : Heap} {locs : List Loc} {cells slots : Nat} {Q : State → Prop} {ls : Array Slot} {D : va_G} {x q b L i : Nat} {xs : Nat → Int32} {μ ν : Mem} {w : Int64} (F : CallFix p m c code 7 s #[Value.ref b] wsL_law RL) (hlt : l.stackTraces = false) (hK : va_K D vwCl (tyX D) s) (hG : SGA (bge x) s s.heap) (hX : va_X b L xs s s.heap) (hbl : b < s.heap.size) (hbx : b < x) (hLb : L ≤ 2560) (hq : x + 357 ≤ q) (hik : i + 4 < L) (hL : LSx D x q μ ν w H) (hR : Rel μ ν) (hS : va_S (bge x) s.heap H locs) (hl : lv_has ls 7 (lwl b x q i)) (hc : cells ≤ 600000) (hs : slots ≤ 7000000)
    (kk : ∀ (μ' ν' : Mem) (w' : Int64) (H1 : Heap) (locs1 : List Loc) (ls1 : Array Slot), LSx D x q μ' ν' w' H1 → Rel μ' ν' → va_S (bge x) s.heap H1 locs1 → lv_has ls1 7 (lwl b x q i) → W p l e room_1 s m #[Value.ref b] below meth c H1 locs1 (cells + 4) (slots + 24) Q (F0 m 1984 ls1 [])) : W p l e room_1 s m #[Value.ref b] below meth c H locs cells slots Q (F0 m 1295 ls []) := by
  obtain ⟨k, v, μ', b0, ν', h4, h5, hres, hR2⟩ := call_undo  hR
  obtain ⟨cd, w2, hcd, hthr, hans⟩ := res1 (w := w) hres
  refine lv_aload_n F.1 F.2.1 dL_law_1295 rfl (lv_at hl 1 rfl) ?_
  refine lv_aload_n F.1 F.2.1 dL_law_1296 rfl (lv_at hl 3 rfl) ?_
  refine g_H F hK hG hq hL hS (c_L_undo hlt (q_not hq)  h4 hcd) (vx_cwSW 2 F.2.2.2.2 gL_law_L_undo rfl rfl rfl hd_L_undo ⟨(Nat.le_of_ble_eq_true rfl), (Nat.le_of_ble_eq_true rfl)⟩) rfl (rest := []) rfl hl.1 (Nat.le_of_ble_eq_true rfl) dL_law_1297 ⟨by show cells + 1 ≤ 601024; omega, by show slots + 6 ≤ 7293034; omega⟩ (fun H locs hL hS => ?_)
  refine lv_istore F.1 F.2.1 dL_law_1300 hl (Nat.le_of_ble_eq_true rfl) rfl (fun ls hl => ?_)
  have hl : lv_has ls 7 ((5, .int cd) :: lwl b x q i) := hl
  refine lv_aload_n F.1 F.2.1 dL_law_1302 rfl (lv_at hl 3 rfl) ?_
  refine g_M F hK hq hL hS (As := []) (c_X5_undo  h5) (cwV 0 F.2.2.2.2 gL_law_X5_undo rfl rfl rfl ⟨rfl, hd_X5_undo⟩ ⟨(Nat.le_of_ble_eq_true rfl), (Nat.le_of_ble_eq_true rfl)⟩) rfl (rest := []) rfl hl.1 (Nat.le_of_ble_eq_true rfl) dL_law_1303 ⟨by show cells + 1 ≤ 601024; omega, by show slots + 6 ≤ 7293034; omega⟩ (fun H locs hL hS => ?_)
  refine lv_istore F.1 F.2.1 dL_law_1306 hl (Nat.le_of_ble_eq_true rfl) rfl (fun ls hl => ?_)
  have hl : lv_has ls 7 ((6, .int b0) :: (5, .int cd) :: lwl b x q i) := hl
  refine g_tail F hK hq hL hS hl hthr hans ⟨by show cells + 1 ≤ 601024; omega, by show slots + 6 ≤ 7293034; omega⟩ (cwV 0 F.2.2.2.2 gL_law_X5_thrown rfl rfl rfl ⟨rfl, hd_X5_thrown⟩ ⟨(Nat.le_of_ble_eq_true rfl), (Nat.le_of_ble_eq_true rfl)⟩) rfl dL_law_1308 dL_law_1309 dL_law_1312 dL_law_1314 dL_law_1319 dL_law_1321 dL_law_1324 dL_law_1325 dL_law_1326 dL_law_1327 dL_law_1329 dL_law_1330 dL_law_1331 dL_law_1336 (fun H locs hL hS => ?_)
  exact W.widen (k := cells + 4) (n := slots + 24) (by omega) (by omega) (kk _ _ _ H locs ls hL hR2 hS (lv_sub hl [2, 3, 4, 5, 6] rfl))
set_option maxHeartbeats 4000000 in
theorem lc_21 {p : Program} {l : Launch} {e : Env} {s : State} {m : MethodId} {below : List Frame} {meth : Method} {c : Code} {H : Heap} {locs : List Loc} {cells slots : Nat} {Q : State → Prop} {ls : Array Slot} {D : va_G} {x q b L i : Nat} {xs : Nat → Int32} {μ ν : Mem} {w : Int64} (F : CallFix p m c code 7 s #[Value.ref b] wsL_law RL) (hlt : l.stackTraces = false) (hK : va_K D vwCl (tyX D) s) (hG : SGA (bge x) s s.heap) (hX : va_X b L xs s s.heap) (hbl : b < s.heap.size) (hbx : b < x) (hLb : L ≤ 2560) (hq : x + 357 ≤ q) (hik : i + 4 < L) (hL : LSx D x q μ ν w H) (hR : Rel μ ν) (hS : va_S (bge x) s.heap H locs) (hl : lv_has ls 7 (lwl b x q i)) (hc : cells ≤ 600000) (hs : slots ≤ 7000000)
    (kk : ∀ (μ' ν' : Mem) (w' : Int64) (H1 : Heap) (locs1 : List Loc) (ls1 : Array Slot), LSx D x q μ' ν' w' H1 → Rel μ' ν' → va_S (bge x) s.heap H1 locs1 → lv_has ls1 7 (lwl b x q i) → W p l e room_1 s m #[Value.ref b] below meth c H1 locs1 (cells + 4) (slots + 24) Q (F0 m 1984 ls1 [])) : W p l e room_1 s m #[Value.ref b] below meth c H locs cells slots Q (F0 m 1339 ls []) := by
  obtain ⟨k, v, μ', b0, ν', h4, h5, hres, hR2⟩ := call_goneIn (xs (i + 1)) (xs (i + 2)) hR
  obtain ⟨cd, w2, hcd, hthr, hans⟩ := res2 (w := w) hres
  refine lv_aload_n F.1 F.2.1 dL_law_1339 rfl (lv_at hl 1 rfl) ?_
  refine g_arg F (k := 1) hX hbl hbx hS hLb (by omega) (lv_at hl 0 rfl) (lv_at hl 4 rfl) (by decide) dL_law_1340 dL_law_1341 dL_law_1343 dL_law_1344 dL_law_1345 ?_
  refine g_arg F (k := 2) hX hbl hbx hS hLb (by omega) (lv_at hl 0 rfl) (lv_at hl 4 rfl) (by decide) dL_law_1346 dL_law_1347 dL_law_1349 dL_law_1350 dL_law_1351 ?_
  refine lv_aload_n F.1 F.2.1 dL_law_1352 rfl (lv_at hl 3 rfl) ?_
  refine g_H F hK hG hq hL hS (c_L_goneIn hlt (q_not hq) (xs (i + 1)) (xs (i + 2)) h4 hcd) (vx_cwSW 4 F.2.2.2.2 gL_law_L_goneIn rfl rfl rfl hd_L_goneIn ⟨(Nat.le_of_ble_eq_true rfl), (Nat.le_of_ble_eq_true rfl)⟩) rfl (rest := []) rfl hl.1 (Nat.le_of_ble_eq_true rfl) dL_law_1353 ⟨by show cells + 2 ≤ 601024; omega, by show slots + 12 ≤ 7293034; omega⟩ (fun H locs hL hS => ?_)
  refine lv_istore F.1 F.2.1 dL_law_1356 hl (Nat.le_of_ble_eq_true rfl) rfl (fun ls hl => ?_)
  have hl : lv_has ls 7 ((5, .int cd) :: lwl b x q i) := hl
  refine lv_aload_n F.1 F.2.1 dL_law_1358 rfl (lv_at hl 3 rfl) ?_
  refine g_arg F (k := 1) hX hbl hbx hS hLb (by omega) (lv_at hl 1 rfl) (lv_at hl 5 rfl) (by decide) dL_law_1359 dL_law_1360 dL_law_1362 dL_law_1363 dL_law_1364 ?_
  refine g_arg F (k := 2) hX hbl hbx hS hLb (by omega) (lv_at hl 1 rfl) (lv_at hl 5 rfl) (by decide) dL_law_1365 dL_law_1366 dL_law_1368 dL_law_1369 dL_law_1370 ?_
  refine g_M F hK hq hL hS (As := [.int (xs (i + 1)), .int (xs (i + 2))]) (c_X5_goneIn (xs (i + 1)) (xs (i + 2)) h5) (cwV 2 F.2.2.2.2 gL_law_X5_goneIn rfl rfl rfl ⟨rfl, hd_X5_goneIn⟩ ⟨(Nat.le_of_ble_eq_true rfl), (Nat.le_of_ble_eq_true rfl)⟩) rfl (rest := []) rfl hl.1 (Nat.le_of_ble_eq_true rfl) dL_law_1371 ⟨by show cells + 2 ≤ 601024; omega, by show slots + 12 ≤ 7293034; omega⟩ (fun H locs hL hS => ?_)
  refine lv_istore F.1 F.2.1 dL_law_1374 hl (Nat.le_of_ble_eq_true rfl) rfl (fun ls hl => ?_)
  have hl : lv_has ls 7 ((6, .int b0) :: (5, .int cd) :: lwl b x q i) := hl
  refine g_tail F hK hq hL hS hl hthr hans ⟨by show cells + 2 ≤ 601024; omega, by show slots + 12 ≤ 7293034; omega⟩ (cwV 0 F.2.2.2.2 gL_law_X5_thrown rfl rfl rfl ⟨rfl, hd_X5_thrown⟩ ⟨(Nat.le_of_ble_eq_true rfl), (Nat.le_of_ble_eq_true rfl)⟩) rfl dL_law_1376 dL_law_1377 dL_law_1380 dL_law_1382 dL_law_1387 dL_law_1389 dL_law_1392 dL_law_1393 dL_law_1394 dL_law_1395 dL_law_1397 dL_law_1398 dL_law_1399 dL_law_1404 (fun H locs hL hS => ?_)
  exact W.widen (k := cells + 4) (n := slots + 24) (by omega) (by omega) (kk _ _ _ H locs ls hL hR2 hS (lv_sub hl [2, 3, 4, 5, 6] rfl))
set_option maxHeartbeats 4000000 in
theorem lc_22 {p : Program} {l : Launch} {e : Env} {s : State} {m : MethodId} {below : List Frame} {meth : Method} {c : Code} {H : Heap} {locs : List Loc} {cells slots : Nat} {Q : State → Prop} {ls : Array Slot} {D : va_G} {x q b L i : Nat} {xs : Nat → Int32} {μ ν : Mem} {w : Int64} (F : CallFix p m c code 7 s #[Value.ref b] wsL_law RL) (hlt : l.stackTraces = false) (hK : va_K D vwCl (tyX D) s) (hG : SGA (bge x) s s.heap) (hX : va_X b L xs s s.heap) (hbl : b < s.heap.size) (hbx : b < x) (hLb : L ≤ 2560) (hq : x + 357 ≤ q) (hik : i + 4 < L) (hL : LSx D x q μ ν w H) (hR : Rel μ ν) (hS : va_S (bge x) s.heap H locs) (hl : lv_has ls 7 (lwl b x q i)) (hc : cells ≤ 600000) (hs : slots ≤ 7000000)
    (kk : ∀ (μ' ν' : Mem) (w' : Int64) (H1 : Heap) (locs1 : List Loc) (ls1 : Array Slot), LSx D x q μ' ν' w' H1 → Rel μ' ν' → va_S (bge x) s.heap H1 locs1 → lv_has ls1 7 (lwl b x q i) → W p l e room_1 s m #[Value.ref b] below meth c H1 locs1 (cells + 4) (slots + 24) Q (F0 m 1984 ls1 [])) : W p l e room_1 s m #[Value.ref b] below meth c H locs cells slots Q (F0 m 1407 ls []) := by
  obtain ⟨k, v, μ', b0, ν', h4, h5, hres, hR2⟩ := call_reachedIn (xs (i + 1)) (xs (i + 2)) (xs (i + 3)) hR
  obtain ⟨cd, w2, hcd, hthr, hans⟩ := res2 (w := w) hres
  refine lv_aload_n F.1 F.2.1 dL_law_1407 rfl (lv_at hl 1 rfl) ?_
  refine g_arg F (k := 1) hX hbl hbx hS hLb (by omega) (lv_at hl 0 rfl) (lv_at hl 4 rfl) (by decide) dL_law_1408 dL_law_1409 dL_law_1411 dL_law_1412 dL_law_1413 ?_
  refine g_arg F (k := 2) hX hbl hbx hS hLb (by omega) (lv_at hl 0 rfl) (lv_at hl 4 rfl) (by decide) dL_law_1414 dL_law_1415 dL_law_1417 dL_law_1418 dL_law_1419 ?_
  refine g_arg F (k := 3) hX hbl hbx hS hLb (by omega) (lv_at hl 0 rfl) (lv_at hl 4 rfl) (by decide) dL_law_1420 dL_law_1421 dL_law_1423 dL_law_1424 dL_law_1425 ?_
  refine lv_aload_n F.1 F.2.1 dL_law_1426 rfl (lv_at hl 3 rfl) ?_
  refine g_H F hK hG hq hL hS (c_L_reachedIn hlt (q_not hq) (xs (i + 1)) (xs (i + 2)) (xs (i + 3)) h4 hcd) (vx_cwSW 5 F.2.2.2.2 gL_law_L_reachedIn rfl rfl rfl hd_L_reachedIn ⟨(Nat.le_of_ble_eq_true rfl), (Nat.le_of_ble_eq_true rfl)⟩) rfl (rest := []) rfl hl.1 (Nat.le_of_ble_eq_true rfl) dL_law_1427 ⟨by show cells + 3 ≤ 601024; omega, by show slots + 18 ≤ 7293034; omega⟩ (fun H locs hL hS => ?_)
  refine lv_istore F.1 F.2.1 dL_law_1430 hl (Nat.le_of_ble_eq_true rfl) rfl (fun ls hl => ?_)
  have hl : lv_has ls 7 ((5, .int cd) :: lwl b x q i) := hl
  refine lv_aload_n F.1 F.2.1 dL_law_1432 rfl (lv_at hl 3 rfl) ?_
  refine g_arg F (k := 1) hX hbl hbx hS hLb (by omega) (lv_at hl 1 rfl) (lv_at hl 5 rfl) (by decide) dL_law_1433 dL_law_1434 dL_law_1436 dL_law_1437 dL_law_1438 ?_
  refine g_arg F (k := 2) hX hbl hbx hS hLb (by omega) (lv_at hl 1 rfl) (lv_at hl 5 rfl) (by decide) dL_law_1439 dL_law_1440 dL_law_1442 dL_law_1443 dL_law_1444 ?_
  refine g_arg F (k := 3) hX hbl hbx hS hLb (by omega) (lv_at hl 1 rfl) (lv_at hl 5 rfl) (by decide) dL_law_1445 dL_law_1446 dL_law_1448 dL_law_1449 dL_law_1450 ?_
  refine g_M F hK hq hL hS (As := [.int (xs (i + 1)), .int (xs (i + 2)), .int (xs (i + 3))]) (c_X5_reachedIn (xs (i + 1)) (xs (i + 2)) (xs (i + 3)) h5) (cwV 3 F.2.2.2.2 gL_law_X5_reachedIn rfl rfl rfl ⟨rfl, hd_X5_reachedIn⟩ ⟨(Nat.le_of_ble_eq_true rfl), (Nat.le_of_ble_eq_true rfl)⟩) rfl (rest := []) rfl hl.1 (Nat.le_of_ble_eq_true rfl) dL_law_1451 ⟨by show cells + 3 ≤ 601024; omega, by show slots + 18 ≤ 7293034; omega⟩ (fun H locs hL hS => ?_)
  refine lv_istore F.1 F.2.1 dL_law_1454 hl (Nat.le_of_ble_eq_true rfl) rfl (fun ls hl => ?_)
  have hl : lv_has ls 7 ((6, .int b0) :: (5, .int cd) :: lwl b x q i) := hl
  refine g_tail F hK hq hL hS hl hthr hans ⟨by show cells + 3 ≤ 601024; omega, by show slots + 18 ≤ 7293034; omega⟩ (cwV 0 F.2.2.2.2 gL_law_X5_thrown rfl rfl rfl ⟨rfl, hd_X5_thrown⟩ ⟨(Nat.le_of_ble_eq_true rfl), (Nat.le_of_ble_eq_true rfl)⟩) rfl dL_law_1456 dL_law_1457 dL_law_1460 dL_law_1462 dL_law_1467 dL_law_1469 dL_law_1472 dL_law_1473 dL_law_1474 dL_law_1475 dL_law_1477 dL_law_1478 dL_law_1479 dL_law_1484 (fun H locs hL hS => ?_)
  exact W.widen (k := cells + 4) (n := slots + 24) (by omega) (by omega) (kk _ _ _ H locs ls hL hR2 hS (lv_sub hl [2, 3, 4, 5, 6] rfl))
set_option maxHeartbeats 4000000 in
theorem lc_23 {p : Program} {l : Launch} {e : Env} {s : State} {m : MethodId} {below : List Frame} {meth : Method} {c : Code} {H : Heap} {locs : List Loc} {cells slots : Nat} {Q : State → Prop} {ls : Array Slot} {D : va_G} {x q b L i : Nat} {xs : Nat → Int32} {μ ν : Mem} {w : Int64} (F : CallFix p m c code 7 s #[Value.ref b] wsL_law RL) (hlt : l.stackTraces = false) (hK : va_K D vwCl (tyX D) s) (hG : SGA (bge x) s s.heap) (hX : va_X b L xs s s.heap) (hbl : b < s.heap.size) (hbx : b < x) (hLb : L ≤ 2560) (hq : x + 357 ≤ q) (hik : i + 4 < L) (hL : LSx D x q μ ν w H) (hR : Rel μ ν) (hS : va_S (bge x) s.heap H locs) (hl : lv_has ls 7 (lwl b x q i)) (hc : cells ≤ 600000) (hs : slots ≤ 7000000)
    (kk : ∀ (μ' ν' : Mem) (w' : Int64) (H1 : Heap) (locs1 : List Loc) (ls1 : Array Slot), LSx D x q μ' ν' w' H1 → Rel μ' ν' → va_S (bge x) s.heap H1 locs1 → lv_has ls1 7 (lwl b x q i) → W p l e room_1 s m #[Value.ref b] below meth c H1 locs1 (cells + 4) (slots + 24) Q (F0 m 1984 ls1 [])) : W p l e room_1 s m #[Value.ref b] below meth c H locs cells slots Q (F0 m 1487 ls []) := by
  obtain ⟨k, v, μ', b0, ν', h4, h5, hres, hR2⟩ := call_bestFence (xs (i + 1)) (xs (i + 2)) (xs (i + 3)) (xs (i + 4)) hR
  obtain ⟨cd, w2, hcd, hthr, hans⟩ := res2 (w := w) hres
  refine lv_aload_n F.1 F.2.1 dL_law_1487 rfl (lv_at hl 1 rfl) ?_
  refine g_arg F (k := 1) hX hbl hbx hS hLb (by omega) (lv_at hl 0 rfl) (lv_at hl 4 rfl) (by decide) dL_law_1488 dL_law_1489 dL_law_1491 dL_law_1492 dL_law_1493 ?_
  refine g_arg F (k := 2) hX hbl hbx hS hLb (by omega) (lv_at hl 0 rfl) (lv_at hl 4 rfl) (by decide) dL_law_1494 dL_law_1495 dL_law_1497 dL_law_1498 dL_law_1499 ?_
  refine g_arg F (k := 3) hX hbl hbx hS hLb (by omega) (lv_at hl 0 rfl) (lv_at hl 4 rfl) (by decide) dL_law_1500 dL_law_1501 dL_law_1503 dL_law_1504 dL_law_1505 ?_
  refine g_arg F (k := 4) hX hbl hbx hS hLb (by omega) (lv_at hl 0 rfl) (lv_at hl 4 rfl) (by decide) dL_law_1506 dL_law_1507 dL_law_1509 dL_law_1510 dL_law_1511 ?_
  refine lv_aload_n F.1 F.2.1 dL_law_1512 rfl (lv_at hl 3 rfl) ?_
  refine g_H F hK hG hq hL hS (c_L_bestFence hlt (q_not hq) (xs (i + 1)) (xs (i + 2)) (xs (i + 3)) (xs (i + 4)) h4 hcd) (vx_cwSW 6 F.2.2.2.2 gL_law_L_bestFence rfl rfl rfl hd_L_bestFence ⟨(Nat.le_of_ble_eq_true rfl), (Nat.le_of_ble_eq_true rfl)⟩) rfl (rest := []) rfl hl.1 (Nat.le_of_ble_eq_true rfl) dL_law_1513 ⟨by show cells + 4 ≤ 601024; omega, by show slots + 24 ≤ 7293034; omega⟩ (fun H locs hL hS => ?_)
  refine lv_istore F.1 F.2.1 dL_law_1516 hl (Nat.le_of_ble_eq_true rfl) rfl (fun ls hl => ?_)
  have hl : lv_has ls 7 ((5, .int cd) :: lwl b x q i) := hl
  refine lv_aload_n F.1 F.2.1 dL_law_1518 rfl (lv_at hl 3 rfl) ?_
  refine g_arg F (k := 1) hX hbl hbx hS hLb (by omega) (lv_at hl 1 rfl) (lv_at hl 5 rfl) (by decide) dL_law_1519 dL_law_1520 dL_law_1522 dL_law_1523 dL_law_1524 ?_
  refine g_arg F (k := 2) hX hbl hbx hS hLb (by omega) (lv_at hl 1 rfl) (lv_at hl 5 rfl) (by decide) dL_law_1525 dL_law_1526 dL_law_1528 dL_law_1529 dL_law_1530 ?_
  refine g_arg F (k := 3) hX hbl hbx hS hLb (by omega) (lv_at hl 1 rfl) (lv_at hl 5 rfl) (by decide) dL_law_1531 dL_law_1532 dL_law_1534 dL_law_1535 dL_law_1536 ?_
  refine g_arg F (k := 4) hX hbl hbx hS hLb (by omega) (lv_at hl 1 rfl) (lv_at hl 5 rfl) (by decide) dL_law_1537 dL_law_1538 dL_law_1540 dL_law_1541 dL_law_1542 ?_
  refine g_M F hK hq hL hS (As := [.int (xs (i + 1)), .int (xs (i + 2)), .int (xs (i + 3)), .int (xs (i + 4))]) (c_X5_bestFence (xs (i + 1)) (xs (i + 2)) (xs (i + 3)) (xs (i + 4)) h5) (cwV 4 F.2.2.2.2 gL_law_X5_bestFence rfl rfl rfl ⟨rfl, hd_X5_bestFence⟩ ⟨(Nat.le_of_ble_eq_true rfl), (Nat.le_of_ble_eq_true rfl)⟩) rfl (rest := []) rfl hl.1 (Nat.le_of_ble_eq_true rfl) dL_law_1543 ⟨by show cells + 4 ≤ 601024; omega, by show slots + 24 ≤ 7293034; omega⟩ (fun H locs hL hS => ?_)
  refine lv_istore F.1 F.2.1 dL_law_1546 hl (Nat.le_of_ble_eq_true rfl) rfl (fun ls hl => ?_)
  have hl : lv_has ls 7 ((6, .int b0) :: (5, .int cd) :: lwl b x q i) := hl
  refine g_tail F hK hq hL hS hl hthr hans ⟨by show cells + 4 ≤ 601024; omega, by show slots + 24 ≤ 7293034; omega⟩ (cwV 0 F.2.2.2.2 gL_law_X5_thrown rfl rfl rfl ⟨rfl, hd_X5_thrown⟩ ⟨(Nat.le_of_ble_eq_true rfl), (Nat.le_of_ble_eq_true rfl)⟩) rfl dL_law_1548 dL_law_1549 dL_law_1552 dL_law_1554 dL_law_1559 dL_law_1561 dL_law_1564 dL_law_1565 dL_law_1566 dL_law_1567 dL_law_1569 dL_law_1570 dL_law_1571 dL_law_1576 (fun H locs hL hS => ?_)
  exact W.widen (k := cells + 4) (n := slots + 24) (by omega) (by omega) (kk _ _ _ H locs ls hL hR2 hS (lv_sub hl [2, 3, 4, 5, 6] rfl))
set_option maxHeartbeats 4000000 in
theorem lc_24 {p : Program} {l : Launch} {e : Env} {s : State} {m : MethodId} {below : List Frame} {meth : Method} {c : Code} {H : Heap} {locs : List Loc} {cells slots : Nat} {Q : State → Prop} {ls : Array Slot} {D : va_G} {x q b L i : Nat} {xs : Nat → Int32} {μ ν : Mem} {w : Int64} (F : CallFix p m c code 7 s #[Value.ref b] wsL_law RL) (hlt : l.stackTraces = false) (hK : va_K D vwCl (tyX D) s) (hG : SGA (bge x) s s.heap) (hX : va_X b L xs s s.heap) (hbl : b < s.heap.size) (hbx : b < x) (hLb : L ≤ 2560) (hq : x + 357 ≤ q) (hik : i + 4 < L) (hL : LSx D x q μ ν w H) (hR : Rel μ ν) (hS : va_S (bge x) s.heap H locs) (hl : lv_has ls 7 (lwl b x q i)) (hc : cells ≤ 600000) (hs : slots ≤ 7000000)
    (kk : ∀ (μ' ν' : Mem) (w' : Int64) (H1 : Heap) (locs1 : List Loc) (ls1 : Array Slot), LSx D x q μ' ν' w' H1 → Rel μ' ν' → va_S (bge x) s.heap H1 locs1 → lv_has ls1 7 (lwl b x q i) → W p l e room_1 s m #[Value.ref b] below meth c H1 locs1 (cells + 4) (slots + 24) Q (F0 m 1984 ls1 [])) : W p l e room_1 s m #[Value.ref b] below meth c H locs cells slots Q (F0 m 1579 ls []) := by
  obtain ⟨k, v, μ', b0, ν', h4, h5, hres, hR2⟩ := call_heaveIn (xs (i + 1)) (xs (i + 2)) (xs (i + 3)) hR
  obtain ⟨cd, w2, hcd, hthr, hans⟩ := res2 (w := w) hres
  refine lv_aload_n F.1 F.2.1 dL_law_1579 rfl (lv_at hl 1 rfl) ?_
  refine g_arg F (k := 1) hX hbl hbx hS hLb (by omega) (lv_at hl 0 rfl) (lv_at hl 4 rfl) (by decide) dL_law_1580 dL_law_1581 dL_law_1583 dL_law_1584 dL_law_1585 ?_
  refine g_arg F (k := 2) hX hbl hbx hS hLb (by omega) (lv_at hl 0 rfl) (lv_at hl 4 rfl) (by decide) dL_law_1586 dL_law_1587 dL_law_1589 dL_law_1590 dL_law_1591 ?_
  refine g_arg F (k := 3) hX hbl hbx hS hLb (by omega) (lv_at hl 0 rfl) (lv_at hl 4 rfl) (by decide) dL_law_1592 dL_law_1593 dL_law_1595 dL_law_1596 dL_law_1597 ?_
  refine lv_aload_n F.1 F.2.1 dL_law_1598 rfl (lv_at hl 3 rfl) ?_
  refine g_H F hK hG hq hL hS (c_L_heaveIn hlt (q_not hq) (xs (i + 1)) (xs (i + 2)) (xs (i + 3)) h4 hcd) (vx_cwSW 5 F.2.2.2.2 gL_law_L_heaveIn rfl rfl rfl hd_L_heaveIn ⟨(Nat.le_of_ble_eq_true rfl), (Nat.le_of_ble_eq_true rfl)⟩) rfl (rest := []) rfl hl.1 (Nat.le_of_ble_eq_true rfl) dL_law_1599 ⟨by show cells + 3 ≤ 601024; omega, by show slots + 18 ≤ 7293034; omega⟩ (fun H locs hL hS => ?_)
  refine lv_istore F.1 F.2.1 dL_law_1602 hl (Nat.le_of_ble_eq_true rfl) rfl (fun ls hl => ?_)
  have hl : lv_has ls 7 ((5, .int cd) :: lwl b x q i) := hl
  refine lv_aload_n F.1 F.2.1 dL_law_1604 rfl (lv_at hl 3 rfl) ?_
  refine g_arg F (k := 1) hX hbl hbx hS hLb (by omega) (lv_at hl 1 rfl) (lv_at hl 5 rfl) (by decide) dL_law_1605 dL_law_1606 dL_law_1608 dL_law_1609 dL_law_1610 ?_
  refine g_arg F (k := 2) hX hbl hbx hS hLb (by omega) (lv_at hl 1 rfl) (lv_at hl 5 rfl) (by decide) dL_law_1611 dL_law_1612 dL_law_1614 dL_law_1615 dL_law_1616 ?_
  refine g_arg F (k := 3) hX hbl hbx hS hLb (by omega) (lv_at hl 1 rfl) (lv_at hl 5 rfl) (by decide) dL_law_1617 dL_law_1618 dL_law_1620 dL_law_1621 dL_law_1622 ?_
  refine g_M F hK hq hL hS (As := [.int (xs (i + 1)), .int (xs (i + 2)), .int (xs (i + 3))]) (c_X5_heaveIn (xs (i + 1)) (xs (i + 2)) (xs (i + 3)) h5) (cwV 3 F.2.2.2.2 gL_law_X5_heaveIn rfl rfl rfl ⟨rfl, hd_X5_heaveIn⟩ ⟨(Nat.le_of_ble_eq_true rfl), (Nat.le_of_ble_eq_true rfl)⟩) rfl (rest := []) rfl hl.1 (Nat.le_of_ble_eq_true rfl) dL_law_1623 ⟨by show cells + 3 ≤ 601024; omega, by show slots + 18 ≤ 7293034; omega⟩ (fun H locs hL hS => ?_)
  refine lv_istore F.1 F.2.1 dL_law_1626 hl (Nat.le_of_ble_eq_true rfl) rfl (fun ls hl => ?_)
  have hl : lv_has ls 7 ((6, .int b0) :: (5, .int cd) :: lwl b x q i) := hl
  refine g_tail F hK hq hL hS hl hthr hans ⟨by show cells + 3 ≤ 601024; omega, by show slots + 18 ≤ 7293034; omega⟩ (cwV 0 F.2.2.2.2 gL_law_X5_thrown rfl rfl rfl ⟨rfl, hd_X5_thrown⟩ ⟨(Nat.le_of_ble_eq_true rfl), (Nat.le_of_ble_eq_true rfl)⟩) rfl dL_law_1628 dL_law_1629 dL_law_1632 dL_law_1634 dL_law_1639 dL_law_1641 dL_law_1644 dL_law_1645 dL_law_1646 dL_law_1647 dL_law_1649 dL_law_1650 dL_law_1651 dL_law_1656 (fun H locs hL hS => ?_)
  exact W.widen (k := cells + 4) (n := slots + 24) (by omega) (by omega) (kk _ _ _ H locs ls hL hR2 hS (lv_sub hl [2, 3, 4, 5, 6] rfl))
set_option maxHeartbeats 4000000 in
theorem lc_25 {p : Program} {l : Launch} {e : Env} {s : State} {m : MethodId} {below : List Frame} {meth : Method} {c : Code} {H : Heap} {locs : List Loc} {cells slots : Nat} {Q : State → Prop} {ls : Array Slot} {D : va_G} {x q b L i : Nat} {xs : Nat → Int32} {μ ν : Mem} {w : Int64} (F : CallFix p m c code 7 s #[Value.ref b] wsL_law RL) (hlt : l.stackTraces = false) (hK : va_K D vwCl (tyX D) s) (hG : SGA (bge x) s s.heap) (hX : va_X b L xs s s.heap) (hbl : b < s.heap.size) (hbx : b < x) (hLb : L ≤ 2560) (hq : x + 357 ≤ q) (hik : i + 4 < L) (hL : LSx D x q μ ν w H) (hR : Rel μ ν) (hS : va_S (bge x) s.heap H locs) (hl : lv_has ls 7 (lwl b x q i)) (hc : cells ≤ 600000) (hs : slots ≤ 7000000)
    (kk : ∀ (μ' ν' : Mem) (w' : Int64) (H1 : Heap) (locs1 : List Loc) (ls1 : Array Slot), LSx D x q μ' ν' w' H1 → Rel μ' ν' → va_S (bge x) s.heap H1 locs1 → lv_has ls1 7 (lwl b x q i) → W p l e room_1 s m #[Value.ref b] below meth c H1 locs1 (cells + 4) (slots + 24) Q (F0 m 1984 ls1 [])) : W p l e room_1 s m #[Value.ref b] below meth c H locs cells slots Q (F0 m 1659 ls []) := by
  obtain ⟨v, ν', h4, h5, hR2⟩ := call_deepest hR
  refine lv_aload_n F.1 F.2.1 dL_law_1659 rfl (lv_at hl 1 rfl) ?_
  refine g_X F hK hG hq hL hS (As := []) (c_X4_deepest h4) (cwV 0 F.2.2.2.2 gL_law_X4_deepest rfl rfl rfl ⟨rfl, hd_X4_deepest⟩ ⟨(Nat.le_of_ble_eq_true rfl), (Nat.le_of_ble_eq_true rfl)⟩) rfl rfl hl.1 (rest := []) (Nat.le_of_ble_eq_true rfl) dL_law_1660 ⟨by show cells + 0 ≤ 601024; omega, by show slots + 0 ≤ 7293034; omega⟩ (fun H locs hL hS => ?_)
  refine lv_aload_n F.1 F.2.1 dL_law_1663 rfl (lv_at hl 2 rfl) ?_
  refine g_M F hK hq hL hS (As := []) (c_X5_deepest h5) (cwV 0 F.2.2.2.2 gL_law_X5_deepest rfl rfl rfl ⟨rfl, hd_X5_deepest⟩ ⟨(Nat.le_of_ble_eq_true rfl), (Nat.le_of_ble_eq_true rfl)⟩) rfl rfl hl.1 (Nat.le_of_ble_eq_true rfl) dL_law_1664 ⟨by show cells + 0 ≤ 601024; omega, by show slots + 0 ≤ 7293034; omega⟩ (fun H locs hL hS => ?_)
  refine lv_icmp_eq (tgt := 1984) F.1 F.2.1 dL_law_1667 rfl (fun _ => ?_) (fun h => absurd rfl h)
  exact W.widen (k := cells + 4) (n := slots + 24) (by omega) (by omega) (kk _ _ _ H locs ls hL hR2 hS hl)
set_option maxHeartbeats 4000000 in
theorem lc_26 {p : Program} {l : Launch} {e : Env} {s : State} {m : MethodId} {below : List Frame} {meth : Method} {c : Code} {H : Heap} {locs : List Loc} {cells slots : Nat} {Q : State → Prop} {ls : Array Slot} {D : va_G} {x q b L i : Nat} {xs : Nat → Int32} {μ ν : Mem} {w : Int64} (F : CallFix p m c code 7 s #[Value.ref b] wsL_law RL) (hlt : l.stackTraces = false) (hK : va_K D vwCl (tyX D) s) (hG : SGA (bge x) s s.heap) (hX : va_X b L xs s s.heap) (hbl : b < s.heap.size) (hbx : b < x) (hLb : L ≤ 2560) (hq : x + 357 ≤ q) (hik : i + 4 < L) (hL : LSx D x q μ ν w H) (hR : Rel μ ν) (hS : va_S (bge x) s.heap H locs) (hl : lv_has ls 7 (lwl b x q i)) (hc : cells ≤ 600000) (hs : slots ≤ 7000000)
    (kk : ∀ (μ' ν' : Mem) (w' : Int64) (H1 : Heap) (locs1 : List Loc) (ls1 : Array Slot), LSx D x q μ' ν' w' H1 → Rel μ' ν' → va_S (bge x) s.heap H1 locs1 → lv_has ls1 7 (lwl b x q i) → W p l e room_1 s m #[Value.ref b] below meth c H1 locs1 (cells + 4) (slots + 24) Q (F0 m 1984 ls1 [])) : W p l e room_1 s m #[Value.ref b] below meth c H locs cells slots Q (F0 m 1672 ls []) := by
  obtain ⟨k, v, μ', b0, ν', h4, h5, hres, hR2⟩ := call_runScript (xs (i + 1)) (lw_lg (xs (i + 2)) (xs (i + 3))) hR
  obtain ⟨cd, w2, hcd, hthr, hans⟩ := res1 (w := w) hres
  refine lv_aload_n F.1 F.2.1 dL_law_1672 rfl (lv_at hl 1 rfl) ?_
  refine g_arg F (k := 1) hX hbl hbx hS hLb (by omega) (lv_at hl 0 rfl) (lv_at hl 4 rfl) (by decide) dL_law_1673 dL_law_1674 dL_law_1676 dL_law_1677 dL_law_1678 ?_
  refine g_lng F (k := 2) (k2 := 3) hX hbl hbx hS hLb (by omega) (by omega) (lv_at hl 0 rfl) (lv_at hl 4 rfl) (by decide) (by decide) cL196 dL_law_1679 dL_law_1680 dL_law_1682 dL_law_1683 dL_law_1684 dL_law_1685 dL_law_1686 dL_law_1688 dL_law_1689 dL_law_1690 dL_law_1692 dL_law_1693 dL_law_1694 dL_law_1695 dL_law_1696 dL_law_1699 dL_law_1700 ?_
  refine lv_aload_n F.1 F.2.1 dL_law_1701 rfl (lv_at hl 3 rfl) ?_
  refine g_H F hK hG hq hL hS (c_L_runScript hlt (q_not hq) (xs (i + 1)) (lw_lg (xs (i + 2)) (xs (i + 3))) h4 hcd) (vx_cwSW 4 F.2.2.2.2 gL_law_L_runScript rfl rfl rfl hd_L_runScript ⟨(Nat.le_of_ble_eq_true rfl), (Nat.le_of_ble_eq_true rfl)⟩) rfl (rest := []) rfl hl.1 (Nat.le_of_ble_eq_true rfl) dL_law_1702 ⟨by show cells + 2 ≤ 601024; omega, by show slots + 12 ≤ 7293034; omega⟩ (fun H locs hL hS => ?_)
  refine lv_istore F.1 F.2.1 dL_law_1705 hl (Nat.le_of_ble_eq_true rfl) rfl (fun ls hl => ?_)
  have hl : lv_has ls 7 ((5, .int cd) :: lwl b x q i) := hl
  refine lv_aload_n F.1 F.2.1 dL_law_1707 rfl (lv_at hl 3 rfl) ?_
  refine g_arg F (k := 1) hX hbl hbx hS hLb (by omega) (lv_at hl 1 rfl) (lv_at hl 5 rfl) (by decide) dL_law_1708 dL_law_1709 dL_law_1711 dL_law_1712 dL_law_1713 ?_
  refine g_lng F (k := 2) (k2 := 3) hX hbl hbx hS hLb (by omega) (by omega) (lv_at hl 1 rfl) (lv_at hl 5 rfl) (by decide) (by decide) cL196 dL_law_1714 dL_law_1715 dL_law_1717 dL_law_1718 dL_law_1719 dL_law_1720 dL_law_1721 dL_law_1723 dL_law_1724 dL_law_1725 dL_law_1727 dL_law_1728 dL_law_1729 dL_law_1730 dL_law_1731 dL_law_1734 dL_law_1735 ?_
  refine g_M F hK hq hL hS (As := [.int (xs (i + 1)), .long (lw_lg (xs (i + 2)) (xs (i + 3)))]) (c_X5_runScript (xs (i + 1)) (lw_lg (xs (i + 2)) (xs (i + 3))) h5) (cwV 2 F.2.2.2.2 gL_law_X5_runScript rfl rfl rfl ⟨rfl, hd_X5_runScript⟩ ⟨(Nat.le_of_ble_eq_true rfl), (Nat.le_of_ble_eq_true rfl)⟩) rfl (rest := []) rfl hl.1 (Nat.le_of_ble_eq_true rfl) dL_law_1736 ⟨by show cells + 2 ≤ 601024; omega, by show slots + 12 ≤ 7293034; omega⟩ (fun H locs hL hS => ?_)
  refine lv_istore F.1 F.2.1 dL_law_1739 hl (Nat.le_of_ble_eq_true rfl) rfl (fun ls hl => ?_)
  have hl : lv_has ls 7 ((6, .int b0) :: (5, .int cd) :: lwl b x q i) := hl
  refine g_tail F hK hq hL hS hl hthr hans ⟨by show cells + 2 ≤ 601024; omega, by show slots + 12 ≤ 7293034; omega⟩ (cwV 0 F.2.2.2.2 gL_law_X5_thrown rfl rfl rfl ⟨rfl, hd_X5_thrown⟩ ⟨(Nat.le_of_ble_eq_true rfl), (Nat.le_of_ble_eq_true rfl)⟩) rfl dL_law_1741 dL_law_1742 dL_law_1745 dL_law_1747 dL_law_1752 dL_law_1754 dL_law_1757 dL_law_1758 dL_law_1759 dL_law_1760 dL_law_1762 dL_law_1763 dL_law_1764 dL_law_1769 (fun H locs hL hS => ?_)
  exact W.widen (k := cells + 4) (n := slots + 24) (by omega) (by omega) (kk _ _ _ H locs ls hL hR2 hS (lv_sub hl [2, 3, 4, 5, 6] rfl))
set_option maxHeartbeats 4000000 in
theorem lc_27 {p : Program} {l : Launch} {e : Env} {s : State} {m : MethodId} {below : List Frame} {meth : Method} {c : Code} {H : Heap} {locs : List Loc} {cells slots : Nat} {Q : State → Prop} {ls : Array Slot} {D : va_G} {x q b L i : Nat} {xs : Nat → Int32} {μ ν : Mem} {w : Int64} (F : CallFix p m c code 7 s #[Value.ref b] wsL_law RL) (hlt : l.stackTraces = false) (hK : va_K D vwCl (tyX D) s) (hG : SGA (bge x) s s.heap) (hX : va_X b L xs s s.heap) (hbl : b < s.heap.size) (hbx : b < x) (hLb : L ≤ 2560) (hq : x + 357 ≤ q) (hik : i + 4 < L) (hL : LSx D x q μ ν w H) (hR : Rel μ ν) (hS : va_S (bge x) s.heap H locs) (hl : lv_has ls 7 (lwl b x q i)) (hc : cells ≤ 600000) (hs : slots ≤ 7000000)
    (kk : ∀ (μ' ν' : Mem) (w' : Int64) (H1 : Heap) (locs1 : List Loc) (ls1 : Array Slot), LSx D x q μ' ν' w' H1 → Rel μ' ν' → va_S (bge x) s.heap H1 locs1 → lv_has ls1 7 (lwl b x q i) → W p l e room_1 s m #[Value.ref b] below meth c H1 locs1 (cells + 4) (slots + 24) Q (F0 m 1984 ls1 [])) : W p l e room_1 s m #[Value.ref b] below meth c H locs cells slots Q (F0 m 1772 ls []) := by
  obtain ⟨k, v, μ', b0, ν', h4, h5, hres, hR2⟩ := call_simulate (lw_lg (xs (i + 1)) (xs (i + 2))) (xs (i + 3)) hR
  obtain ⟨cd, w2, hcd, hthr, hans⟩ := res1 (w := w) hres
  refine lv_aload_n F.1 F.2.1 dL_law_1772 rfl (lv_at hl 1 rfl) ?_
  refine g_lng F (k := 1) (k2 := 2) hX hbl hbx hS hLb (by omega) (by omega) (lv_at hl 0 rfl) (lv_at hl 4 rfl) (by decide) (by decide) cL196 dL_law_1773 dL_law_1774 dL_law_1776 dL_law_1777 dL_law_1778 dL_law_1779 dL_law_1780 dL_law_1782 dL_law_1783 dL_law_1784 dL_law_1786 dL_law_1787 dL_law_1788 dL_law_1789 dL_law_1790 dL_law_1793 dL_law_1794 ?_
  refine g_arg F (k := 3) hX hbl hbx hS hLb (by omega) (lv_at hl 0 rfl) (lv_at hl 4 rfl) (by decide) dL_law_1795 dL_law_1796 dL_law_1798 dL_law_1799 dL_law_1800 ?_
  refine lv_aload_n F.1 F.2.1 dL_law_1801 rfl (lv_at hl 3 rfl) ?_
  refine g_H F hK hG hq hL hS (c_L_simulate hlt (q_not hq) (lw_lg (xs (i + 1)) (xs (i + 2))) (xs (i + 3)) h4 hcd) (vx_cwSW 4 F.2.2.2.2 gL_law_L_simulate rfl rfl rfl hd_L_simulate ⟨(Nat.le_of_ble_eq_true rfl), (Nat.le_of_ble_eq_true rfl)⟩) rfl (rest := []) rfl hl.1 (Nat.le_of_ble_eq_true rfl) dL_law_1802 ⟨by show cells + 1 ≤ 601024; omega, by show slots + 6 ≤ 7293034; omega⟩ (fun H locs hL hS => ?_)
  refine lv_istore F.1 F.2.1 dL_law_1805 hl (Nat.le_of_ble_eq_true rfl) rfl (fun ls hl => ?_)
  have hl : lv_has ls 7 ((5, .int cd) :: lwl b x q i) := hl
  refine lv_aload_n F.1 F.2.1 dL_law_1807 rfl (lv_at hl 3 rfl) ?_
  refine g_lng F (k := 1) (k2 := 2) hX hbl hbx hS hLb (by omega) (by omega) (lv_at hl 1 rfl) (lv_at hl 5 rfl) (by decide) (by decide) cL196 dL_law_1808 dL_law_1809 dL_law_1811 dL_law_1812 dL_law_1813 dL_law_1814 dL_law_1815 dL_law_1817 dL_law_1818 dL_law_1819 dL_law_1821 dL_law_1822 dL_law_1823 dL_law_1824 dL_law_1825 dL_law_1828 dL_law_1829 ?_
  refine g_arg F (k := 3) hX hbl hbx hS hLb (by omega) (lv_at hl 1 rfl) (lv_at hl 5 rfl) (by decide) dL_law_1830 dL_law_1831 dL_law_1833 dL_law_1834 dL_law_1835 ?_
  refine g_M F hK hq hL hS (As := [.long (lw_lg (xs (i + 1)) (xs (i + 2))), .int (xs (i + 3))]) (c_X5_simulate (lw_lg (xs (i + 1)) (xs (i + 2))) (xs (i + 3)) h5) (cwV 2 F.2.2.2.2 gL_law_X5_simulate rfl rfl rfl ⟨rfl, hd_X5_simulate⟩ ⟨(Nat.le_of_ble_eq_true rfl), (Nat.le_of_ble_eq_true rfl)⟩) rfl (rest := []) rfl hl.1 (Nat.le_of_ble_eq_true rfl) dL_law_1836 ⟨by show cells + 1 ≤ 601024; omega, by show slots + 6 ≤ 7293034; omega⟩ (fun H locs hL hS => ?_)
  refine lv_istore F.1 F.2.1 dL_law_1839 hl (Nat.le_of_ble_eq_true rfl) rfl (fun ls hl => ?_)
  have hl : lv_has ls 7 ((6, .int b0) :: (5, .int cd) :: lwl b x q i) := hl
  refine g_tail F hK hq hL hS hl hthr hans ⟨by show cells + 1 ≤ 601024; omega, by show slots + 6 ≤ 7293034; omega⟩ (cwV 0 F.2.2.2.2 gL_law_X5_thrown rfl rfl rfl ⟨rfl, hd_X5_thrown⟩ ⟨(Nat.le_of_ble_eq_true rfl), (Nat.le_of_ble_eq_true rfl)⟩) rfl dL_law_1841 dL_law_1842 dL_law_1845 dL_law_1847 dL_law_1852 dL_law_1854 dL_law_1857 dL_law_1858 dL_law_1859 dL_law_1860 dL_law_1862 dL_law_1863 dL_law_1864 dL_law_1869 (fun H locs hL hS => ?_)
  exact W.widen (k := cells + 4) (n := slots + 24) (by omega) (by omega) (kk _ _ _ H locs ls hL hR2 hS (lv_sub hl [2, 3, 4, 5, 6] rfl))
set_option maxHeartbeats 4000000 in
theorem lc_28 {p : Program} {l : Launch} {e : Env} {s : State} {m : MethodId} {below : List Frame} {meth : Method} {c : Code} {H : Heap} {locs : List Loc} {cells slots : Nat} {Q : State → Prop} {ls : Array Slot} {D : va_G} {x q b L i : Nat} {xs : Nat → Int32} {μ ν : Mem} {w : Int64} (F : CallFix p m c code 7 s #[Value.ref b] wsL_law RL) (hlt : l.stackTraces = false) (hK : va_K D vwCl (tyX D) s) (hG : SGA (bge x) s s.heap) (hX : va_X b L xs s s.heap) (hbl : b < s.heap.size) (hbx : b < x) (hLb : L ≤ 2560) (hq : x + 357 ≤ q) (hik : i + 4 < L) (hL : LSx D x q μ ν w H) (hR : Rel μ ν) (hS : va_S (bge x) s.heap H locs) (hl : lv_has ls 7 (lwl b x q i)) (hc : cells ≤ 600000) (hs : slots ≤ 7000000)
    (kk : ∀ (μ' ν' : Mem) (w' : Int64) (H1 : Heap) (locs1 : List Loc) (ls1 : Array Slot), LSx D x q μ' ν' w' H1 → Rel μ' ν' → va_S (bge x) s.heap H1 locs1 → lv_has ls1 7 (lwl b x q i) → W p l e room_1 s m #[Value.ref b] below meth c H1 locs1 (cells + 4) (slots + 24) Q (F0 m 1984 ls1 [])) : W p l e room_1 s m #[Value.ref b] below meth c H locs cells slots Q (F0 m 1872 ls []) := by
  obtain ⟨k, v, μ', b0, ν', h4, h5, hres, hR2⟩ := call_save (xs (i + 1)) hR
  obtain ⟨cd, w2, hcd, hthr, hans⟩ := res1 (w := w) hres
  refine lv_aload_n F.1 F.2.1 dL_law_1872 rfl (lv_at hl 1 rfl) ?_
  refine g_arg F (k := 1) hX hbl hbx hS hLb (by omega) (lv_at hl 0 rfl) (lv_at hl 4 rfl) (by decide) dL_law_1873 dL_law_1874 dL_law_1876 dL_law_1877 dL_law_1878 ?_
  refine lv_aload_n F.1 F.2.1 dL_law_1879 rfl (lv_at hl 3 rfl) ?_
  refine g_H F hK hG hq hL hS (c_L_save hlt (q_not hq) (xs (i + 1)) h4 hcd) (vx_cwSW 3 F.2.2.2.2 gL_law_L_save rfl rfl rfl hd_L_save ⟨(Nat.le_of_ble_eq_true rfl), (Nat.le_of_ble_eq_true rfl)⟩) rfl (rest := []) rfl hl.1 (Nat.le_of_ble_eq_true rfl) dL_law_1880 ⟨by show cells + 1 ≤ 601024; omega, by show slots + 6 ≤ 7293034; omega⟩ (fun H locs hL hS => ?_)
  refine lv_istore F.1 F.2.1 dL_law_1883 hl (Nat.le_of_ble_eq_true rfl) rfl (fun ls hl => ?_)
  have hl : lv_has ls 7 ((5, .int cd) :: lwl b x q i) := hl
  refine lv_aload_n F.1 F.2.1 dL_law_1885 rfl (lv_at hl 3 rfl) ?_
  refine g_arg F (k := 1) hX hbl hbx hS hLb (by omega) (lv_at hl 1 rfl) (lv_at hl 5 rfl) (by decide) dL_law_1886 dL_law_1887 dL_law_1889 dL_law_1890 dL_law_1891 ?_
  refine g_M F hK hq hL hS (As := [.int (xs (i + 1))]) (c_X5_save (xs (i + 1)) h5) (cwV 1 F.2.2.2.2 gL_law_X5_save rfl rfl rfl ⟨rfl, hd_X5_save⟩ ⟨(Nat.le_of_ble_eq_true rfl), (Nat.le_of_ble_eq_true rfl)⟩) rfl (rest := []) rfl hl.1 (Nat.le_of_ble_eq_true rfl) dL_law_1892 ⟨by show cells + 1 ≤ 601024; omega, by show slots + 6 ≤ 7293034; omega⟩ (fun H locs hL hS => ?_)
  refine lv_istore F.1 F.2.1 dL_law_1895 hl (Nat.le_of_ble_eq_true rfl) rfl (fun ls hl => ?_)
  have hl : lv_has ls 7 ((6, .int b0) :: (5, .int cd) :: lwl b x q i) := hl
  refine g_tail F hK hq hL hS hl hthr hans ⟨by show cells + 1 ≤ 601024; omega, by show slots + 6 ≤ 7293034; omega⟩ (cwV 0 F.2.2.2.2 gL_law_X5_thrown rfl rfl rfl ⟨rfl, hd_X5_thrown⟩ ⟨(Nat.le_of_ble_eq_true rfl), (Nat.le_of_ble_eq_true rfl)⟩) rfl dL_law_1897 dL_law_1898 dL_law_1901 dL_law_1903 dL_law_1908 dL_law_1910 dL_law_1913 dL_law_1914 dL_law_1915 dL_law_1916 dL_law_1918 dL_law_1919 dL_law_1920 dL_law_1925 (fun H locs hL hS => ?_)
  exact W.widen (k := cells + 4) (n := slots + 24) (by omega) (by omega) (kk _ _ _ H locs ls hL hR2 hS (lv_sub hl [2, 3, 4, 5, 6] rfl))
set_option maxHeartbeats 4000000 in
theorem lc_29 {p : Program} {l : Launch} {e : Env} {s : State} {m : MethodId} {below : List Frame} {meth : Method} {c : Code} {H : Heap} {locs : List Loc} {cells slots : Nat} {Q : State → Prop} {ls : Array Slot} {D : va_G} {x q b L i : Nat} {xs : Nat → Int32} {μ ν : Mem} {w : Int64} (F : CallFix p m c code 7 s #[Value.ref b] wsL_law RL) (hlt : l.stackTraces = false) (hK : va_K D vwCl (tyX D) s) (hG : SGA (bge x) s s.heap) (hX : va_X b L xs s s.heap) (hbl : b < s.heap.size) (hbx : b < x) (hLb : L ≤ 2560) (hq : x + 357 ≤ q) (hik : i + 4 < L) (hL : LSx D x q μ ν w H) (hR : Rel μ ν) (hS : va_S (bge x) s.heap H locs) (hl : lv_has ls 7 (lwl b x q i)) (hc : cells ≤ 600000) (hs : slots ≤ 7000000)
    (kk : ∀ (μ' ν' : Mem) (w' : Int64) (H1 : Heap) (locs1 : List Loc) (ls1 : Array Slot), LSx D x q μ' ν' w' H1 → Rel μ' ν' → va_S (bge x) s.heap H1 locs1 → lv_has ls1 7 (lwl b x q i) → W p l e room_1 s m #[Value.ref b] below meth c H1 locs1 (cells + 4) (slots + 24) Q (F0 m 1984 ls1 [])) : W p l e room_1 s m #[Value.ref b] below meth c H locs cells slots Q (F0 m 1928 ls []) := by
  obtain ⟨k, v, μ', b0, ν', h4, h5, hres, hR2⟩ := call_restore (xs (i + 1)) hR
  obtain ⟨cd, w2, hcd, hthr, hans⟩ := res2 (w := w) hres
  refine lv_aload_n F.1 F.2.1 dL_law_1928 rfl (lv_at hl 1 rfl) ?_
  refine g_arg F (k := 1) hX hbl hbx hS hLb (by omega) (lv_at hl 0 rfl) (lv_at hl 4 rfl) (by decide) dL_law_1929 dL_law_1930 dL_law_1932 dL_law_1933 dL_law_1934 ?_
  refine lv_aload_n F.1 F.2.1 dL_law_1935 rfl (lv_at hl 3 rfl) ?_
  refine g_H F hK hG hq hL hS (c_L_restore hlt (q_not hq) (xs (i + 1)) h4 hcd) (vx_cwSW 3 F.2.2.2.2 gL_law_L_restore rfl rfl rfl hd_L_restore ⟨(Nat.le_of_ble_eq_true rfl), (Nat.le_of_ble_eq_true rfl)⟩) rfl (rest := []) rfl hl.1 (Nat.le_of_ble_eq_true rfl) dL_law_1936 ⟨by show cells + 2 ≤ 601024; omega, by show slots + 12 ≤ 7293034; omega⟩ (fun H locs hL hS => ?_)
  refine lv_istore F.1 F.2.1 dL_law_1939 hl (Nat.le_of_ble_eq_true rfl) rfl (fun ls hl => ?_)
  have hl : lv_has ls 7 ((5, .int cd) :: lwl b x q i) := hl
  refine lv_aload_n F.1 F.2.1 dL_law_1941 rfl (lv_at hl 3 rfl) ?_
  refine g_arg F (k := 1) hX hbl hbx hS hLb (by omega) (lv_at hl 1 rfl) (lv_at hl 5 rfl) (by decide) dL_law_1942 dL_law_1943 dL_law_1945 dL_law_1946 dL_law_1947 ?_
  refine g_M F hK hq hL hS (As := [.int (xs (i + 1))]) (c_X5_restore (xs (i + 1)) h5) (cwV 1 F.2.2.2.2 gL_law_X5_restore rfl rfl rfl ⟨rfl, hd_X5_restore⟩ ⟨(Nat.le_of_ble_eq_true rfl), (Nat.le_of_ble_eq_true rfl)⟩) rfl (rest := []) rfl hl.1 (Nat.le_of_ble_eq_true rfl) dL_law_1948 ⟨by show cells + 2 ≤ 601024; omega, by show slots + 12 ≤ 7293034; omega⟩ (fun H locs hL hS => ?_)
  refine lv_istore F.1 F.2.1 dL_law_1951 hl (Nat.le_of_ble_eq_true rfl) rfl (fun ls hl => ?_)
  have hl : lv_has ls 7 ((6, .int b0) :: (5, .int cd) :: lwl b x q i) := hl
  refine g_tail F hK hq hL hS hl hthr hans ⟨by show cells + 2 ≤ 601024; omega, by show slots + 12 ≤ 7293034; omega⟩ (cwV 0 F.2.2.2.2 gL_law_X5_thrown rfl rfl rfl ⟨rfl, hd_X5_thrown⟩ ⟨(Nat.le_of_ble_eq_true rfl), (Nat.le_of_ble_eq_true rfl)⟩) rfl dL_law_1953 dL_law_1954 dL_law_1957 dL_law_1959 dL_law_1964 dL_law_1966 dL_law_1969 dL_law_1970 dL_law_1971 dL_law_1972 dL_law_1974 dL_law_1975 dL_law_1976 dL_law_1981 (fun H locs hL hS => ?_)
  exact W.widen (k := cells + 4) (n := slots + 24) (by omega) (by omega) (kk _ _ _ H locs ls hL hR2 hS (lv_sub hl [2, 3, 4, 5, 6] rfl))
