/-! the law, case by case -/
theorem cL196 : Cond.constantLong RL 196 4294967295 ∈ wsL_law := List.mem_of_getElem? (i := 7) (by decide +kernel)
set_option maxHeartbeats 4000000 in
theorem lc_0 {p : Program} {l : Launch} {e : Env} {s : State} {m : MethodId} {below : List Frame} {meth : Method} {c : Code} {H : Heap} {locs : List Loc} {cells slots : Nat} {Q : State → Prop} {ls : Array Slot} {D : va_G} {x q b L i : Nat} {xs : Nat → Int32} {μ ν : Mem} {w : Int64} (F : CallFix p m c code 7 s #[Value.ref b] wsL_law RL) (hlt : l.stackTraces = false) (hK : va_K D vwCl (tyX D) s) (hG : SGA (bge x) s s.heap) (hX : va_X b L xs s s.heap) (hbl : b < s.heap.size) (hbx : b < x) (hLb : L ≤ 2560) (hq : x + 357 ≤ q) (hik : i + 4 < L) (hL : LSx D x q μ ν w H) (hR : Rel μ ν) (hS : va_S (bge x) s.heap H locs) (hl : lv_has ls 7 (lwl b x q i)) (hc : cells ≤ 600000) (hs : slots ≤ 7000000)
    (kk : ∀ (μ' ν' : Mem) (w' : Int64) (H1 : Heap) (locs1 : List Loc) (ls1 : Array Slot), LSx D x q μ' ν' w' H1 → Rel μ' ν' → va_S (bge x) s.heap H1 locs1 → lv_has ls1 7 (lwl b x q i) → W p l e room_1 s m #[Value.ref b] below meth c H1 locs1 (cells + 4) (slots + 24) Q (F0 m 1984 ls1 [])) : W p l e room_1 s m #[Value.ref b] below meth c H locs cells slots Q (F0 m 172 ls []) := by
  obtain ⟨k, v, μ', b0, ν', h4, h5, hres, hR2⟩ := call_append (xs (i + 1)) hR
  obtain ⟨cd, w2, hcd, hthr, hans⟩ := res2 (w := w) hres
  refine lv_aload_n F.1 F.2.1 dL_law_172 rfl (lv_at hl 1 rfl) ?_
  refine g_arg F (k := 1) hX hbl hbx hS hLb (by omega) (lv_at hl 0 rfl) (lv_at hl 4 rfl) (by decide) dL_law_173 dL_law_174 dL_law_176 dL_law_177 dL_law_178 ?_
  refine lv_aload_n F.1 F.2.1 dL_law_179 rfl (lv_at hl 3 rfl) ?_
  refine g_H F hK hG hq hL hS (c_L_append hlt (q_not hq) (xs (i + 1)) h4 hcd) (vx_cwSW 3 F.2.2.2.2 gL_law_L_append rfl rfl rfl hd_L_append ⟨(Nat.le_of_ble_eq_true rfl), (Nat.le_of_ble_eq_true rfl)⟩) rfl (rest := []) rfl hl.1 (Nat.le_of_ble_eq_true rfl) dL_law_180 ⟨by show cells + 2 ≤ 601024; omega, by show slots + 12 ≤ 7293034; omega⟩ (fun H locs hL hS => ?_)
  refine lv_istore F.1 F.2.1 dL_law_183 hl (Nat.le_of_ble_eq_true rfl) rfl (fun ls hl => ?_)
  have hl : lv_has ls 7 ((5, .int cd) :: lwl b x q i) := hl
  refine lv_aload_n F.1 F.2.1 dL_law_185 rfl (lv_at hl 3 rfl) ?_
  refine g_arg F (k := 1) hX hbl hbx hS hLb (by omega) (lv_at hl 1 rfl) (lv_at hl 5 rfl) (by decide) dL_law_186 dL_law_187 dL_law_189 dL_law_190 dL_law_191 ?_
  refine g_M F hK hq hL hS (As := [.int (xs (i + 1))]) (c_X5_append (xs (i + 1)) h5) (cwV 1 F.2.2.2.2 gL_law_X5_append rfl rfl rfl ⟨rfl, hd_X5_append⟩ ⟨(Nat.le_of_ble_eq_true rfl), (Nat.le_of_ble_eq_true rfl)⟩) rfl (rest := []) rfl hl.1 (Nat.le_of_ble_eq_true rfl) dL_law_192 ⟨by show cells + 2 ≤ 601024; omega, by show slots + 12 ≤ 7293034; omega⟩ (fun H locs hL hS => ?_)
  refine lv_istore F.1 F.2.1 dL_law_195 hl (Nat.le_of_ble_eq_true rfl) rfl (fun ls hl => ?_)
  have hl : lv_has ls 7 ((6, .int b0) :: (5, .int cd) :: lwl b x q i) := hl
  refine g_tail F hK hq hL hS hl hthr hans ⟨by show cells + 2 ≤ 601024; omega, by show slots + 12 ≤ 7293034; omega⟩ (cwV 0 F.2.2.2.2 gL_law_X5_thrown rfl rfl rfl ⟨rfl, hd_X5_thrown⟩ ⟨(Nat.le_of_ble_eq_true rfl), (Nat.le_of_ble_eq_true rfl)⟩) rfl dL_law_197 dL_law_198 dL_law_201 dL_law_203 dL_law_208 dL_law_210 dL_law_213 dL_law_214 dL_law_215 dL_law_216 dL_law_218 dL_law_219 dL_law_220 dL_law_225 (fun H locs hL hS => ?_)
  exact W.widen (k := cells + 4) (n := slots + 24) (by omega) (by omega) (kk _ _ _ H locs ls hL hR2 hS (lv_sub hl [2, 3, 4, 5, 6] rfl))
set_option maxHeartbeats 4000000 in
theorem lc_1 {p : Program} {l : Launch} {e : Env} {s : State} {m : MethodId} {below : List Frame} {meth : Method} {c : Code} {H : Heap} {locs : List Loc} {cells slots : Nat} {Q : State → Prop} {ls : Array Slot} {D : va_G} {x q b L i : Nat} {xs : Nat → Int32} {μ ν : Mem} {w : Int64} (F : CallFix p m c code 7 s #[Value.ref b] wsL_law RL) (hlt : l.stackTraces = false) (hK : va_K D vwCl (tyX D) s) (hG : SGA (bge x) s s.heap) (hX : va_X b L xs s s.heap) (hbl : b < s.heap.size) (hbx : b < x) (hLb : L ≤ 2560) (hq : x + 357 ≤ q) (hik : i + 4 < L) (hL : LSx D x q μ ν w H) (hR : Rel μ ν) (hS : va_S (bge x) s.heap H locs) (hl : lv_has ls 7 (lwl b x q i)) (hc : cells ≤ 600000) (hs : slots ≤ 7000000)
    (kk : ∀ (μ' ν' : Mem) (w' : Int64) (H1 : Heap) (locs1 : List Loc) (ls1 : Array Slot), LSx D x q μ' ν' w' H1 → Rel μ' ν' → va_S (bge x) s.heap H1 locs1 → lv_has ls1 7 (lwl b x q i) → W p l e room_1 s m #[Value.ref b] below meth c H1 locs1 (cells + 4) (slots + 24) Q (F0 m 1984 ls1 [])) : W p l e room_1 s m #[Value.ref b] below meth c H locs cells slots Q (F0 m 228 ls []) := by
  obtain ⟨v, μ', ν', h4, h5, hR2⟩ := call_clearText hR
  refine lv_aload_n F.1 F.2.1 dL_law_228 rfl (lv_at hl 1 rfl) ?_
  refine g_X F hK hG hq hL hS (As := []) (c_X4_clearText h4) (cwV 0 F.2.2.2.2 gL_law_X4_clearText rfl rfl rfl ⟨rfl, hd_X4_clearText⟩ ⟨(Nat.le_of_ble_eq_true rfl), (Nat.le_of_ble_eq_true rfl)⟩) rfl rfl hl.1 (rest := []) (Nat.le_of_ble_eq_true rfl) dL_law_229 ⟨by show cells + 0 ≤ 601024; omega, by show slots + 0 ≤ 7293034; omega⟩ (fun H locs hL hS => ?_)
  refine lv_aload_n F.1 F.2.1 dL_law_232 rfl (lv_at hl 2 rfl) ?_
  refine g_M F hK hq hL hS (As := []) (c_X5_clearText h5) (cwV 0 F.2.2.2.2 gL_law_X5_clearText rfl rfl rfl ⟨rfl, hd_X5_clearText⟩ ⟨(Nat.le_of_ble_eq_true rfl), (Nat.le_of_ble_eq_true rfl)⟩) rfl rfl hl.1 (Nat.le_of_ble_eq_true rfl) dL_law_233 ⟨by show cells + 0 ≤ 601024; omega, by show slots + 0 ≤ 7293034; omega⟩ (fun H locs hL hS => ?_)
  refine lv_icmp_eq (tgt := 1984) F.1 F.2.1 dL_law_236 rfl (fun _ => ?_) (fun h => absurd rfl h)
  exact W.widen (k := cells + 4) (n := slots + 24) (by omega) (by omega) (kk _ _ _ H locs ls hL hR2 hS hl)
set_option maxHeartbeats 4000000 in
theorem lc_2 {p : Program} {l : Launch} {e : Env} {s : State} {m : MethodId} {below : List Frame} {meth : Method} {c : Code} {H : Heap} {locs : List Loc} {cells slots : Nat} {Q : State → Prop} {ls : Array Slot} {D : va_G} {x q b L i : Nat} {xs : Nat → Int32} {μ ν : Mem} {w : Int64} (F : CallFix p m c code 7 s #[Value.ref b] wsL_law RL) (hlt : l.stackTraces = false) (hK : va_K D vwCl (tyX D) s) (hG : SGA (bge x) s s.heap) (hX : va_X b L xs s s.heap) (hbl : b < s.heap.size) (hbx : b < x) (hLb : L ≤ 2560) (hq : x + 357 ≤ q) (hik : i + 4 < L) (hL : LSx D x q μ ν w H) (hR : Rel μ ν) (hS : va_S (bge x) s.heap H locs) (hl : lv_has ls 7 (lwl b x q i)) (hc : cells ≤ 600000) (hs : slots ≤ 7000000)
    (kk : ∀ (μ' ν' : Mem) (w' : Int64) (H1 : Heap) (locs1 : List Loc) (ls1 : Array Slot), LSx D x q μ' ν' w' H1 → Rel μ' ν' → va_S (bge x) s.heap H1 locs1 → lv_has ls1 7 (lwl b x q i) → W p l e room_1 s m #[Value.ref b] below meth c H1 locs1 (cells + 4) (slots + 24) Q (F0 m 1984 ls1 [])) : W p l e room_1 s m #[Value.ref b] below meth c H locs cells slots Q (F0 m 241 ls []) := by
  obtain ⟨v, μ', ν', h4, h5, hR2⟩ := call_errorPosition hR
  refine lv_aload_n F.1 F.2.1 dL_law_241 rfl (lv_at hl 1 rfl) ?_
  refine g_X F hK hG hq hL hS (As := []) (c_X4_errorPosition h4) (cwV 0 F.2.2.2.2 gL_law_X4_errorPosition rfl rfl rfl ⟨rfl, hd_X4_errorPosition⟩ ⟨(Nat.le_of_ble_eq_true rfl), (Nat.le_of_ble_eq_true rfl)⟩) rfl rfl hl.1 (rest := []) (Nat.le_of_ble_eq_true rfl) dL_law_242 ⟨by show cells + 0 ≤ 601024; omega, by show slots + 0 ≤ 7293034; omega⟩ (fun H locs hL hS => ?_)
  refine lv_aload_n F.1 F.2.1 dL_law_245 rfl (lv_at hl 2 rfl) ?_
  refine g_M F hK hq hL hS (As := []) (c_X5_errorPosition h5) (cwV 0 F.2.2.2.2 gL_law_X5_errorPosition rfl rfl rfl ⟨rfl, hd_X5_errorPosition⟩ ⟨(Nat.le_of_ble_eq_true rfl), (Nat.le_of_ble_eq_true rfl)⟩) rfl rfl hl.1 (Nat.le_of_ble_eq_true rfl) dL_law_246 ⟨by show cells + 0 ≤ 601024; omega, by show slots + 0 ≤ 7293034; omega⟩ (fun H locs hL hS => ?_)
  refine lv_icmp_eq (tgt := 1984) F.1 F.2.1 dL_law_249 rfl (fun _ => ?_) (fun h => absurd rfl h)
  exact W.widen (k := cells + 4) (n := slots + 24) (by omega) (by omega) (kk _ _ _ H locs ls hL hR2 hS hl)
set_option maxHeartbeats 4000000 in
theorem lc_3 {p : Program} {l : Launch} {e : Env} {s : State} {m : MethodId} {below : List Frame} {meth : Method} {c : Code} {H : Heap} {locs : List Loc} {cells slots : Nat} {Q : State → Prop} {ls : Array Slot} {D : va_G} {x q b L i : Nat} {xs : Nat → Int32} {μ ν : Mem} {w : Int64} (F : CallFix p m c code 7 s #[Value.ref b] wsL_law RL) (hlt : l.stackTraces = false) (hK : va_K D vwCl (tyX D) s) (hG : SGA (bge x) s s.heap) (hX : va_X b L xs s s.heap) (hbl : b < s.heap.size) (hbx : b < x) (hLb : L ≤ 2560) (hq : x + 357 ≤ q) (hik : i + 4 < L) (hL : LSx D x q μ ν w H) (hR : Rel μ ν) (hS : va_S (bge x) s.heap H locs) (hl : lv_has ls 7 (lwl b x q i)) (hc : cells ≤ 600000) (hs : slots ≤ 7000000)
    (kk : ∀ (μ' ν' : Mem) (w' : Int64) (H1 : Heap) (locs1 : List Loc) (ls1 : Array Slot), LSx D x q μ' ν' w' H1 → Rel μ' ν' → va_S (bge x) s.heap H1 locs1 → lv_has ls1 7 (lwl b x q i) → W p l e room_1 s m #[Value.ref b] below meth c H1 locs1 (cells + 4) (slots + 24) Q (F0 m 1984 ls1 [])) : W p l e room_1 s m #[Value.ref b] below meth c H locs cells slots Q (F0 m 254 ls []) := by
  obtain ⟨k, v, μ', b0, ν', h4, h5, hres, hR2⟩ := call_load  hR
  obtain ⟨cd, w2, hcd, hthr, hans⟩ := res1 (w := w) hres
  refine lv_aload_n F.1 F.2.1 dL_law_254 rfl (lv_at hl 1 rfl) ?_
  refine lv_aload_n F.1 F.2.1 dL_law_255 rfl (lv_at hl 3 rfl) ?_
  refine g_H F hK hG hq hL hS (c_L_load hlt (q_not hq)  h4 hcd) (vx_cwSW 2 F.2.2.2.2 gL_law_L_load rfl rfl rfl hd_L_load ⟨(Nat.le_of_ble_eq_true rfl), (Nat.le_of_ble_eq_true rfl)⟩) rfl (rest := []) rfl hl.1 (Nat.le_of_ble_eq_true rfl) dL_law_256 ⟨by show cells + 1 ≤ 601024; omega, by show slots + 6 ≤ 7293034; omega⟩ (fun H locs hL hS => ?_)
  refine lv_istore F.1 F.2.1 dL_law_259 hl (Nat.le_of_ble_eq_true rfl) rfl (fun ls hl => ?_)
  have hl : lv_has ls 7 ((5, .int cd) :: lwl b x q i) := hl
  refine lv_aload_n F.1 F.2.1 dL_law_261 rfl (lv_at hl 3 rfl) ?_
  refine g_M F hK hq hL hS (As := []) (c_X5_load  h5) (cwV 0 F.2.2.2.2 gL_law_X5_load rfl rfl rfl ⟨rfl, hd_X5_load⟩ ⟨(Nat.le_of_ble_eq_true rfl), (Nat.le_of_ble_eq_true rfl)⟩) rfl (rest := []) rfl hl.1 (Nat.le_of_ble_eq_true rfl) dL_law_262 ⟨by show cells + 1 ≤ 601024; omega, by show slots + 6 ≤ 7293034; omega⟩ (fun H locs hL hS => ?_)
  refine lv_istore F.1 F.2.1 dL_law_265 hl (Nat.le_of_ble_eq_true rfl) rfl (fun ls hl => ?_)
  have hl : lv_has ls 7 ((6, .int b0) :: (5, .int cd) :: lwl b x q i) := hl
  refine g_tail F hK hq hL hS hl hthr hans ⟨by show cells + 1 ≤ 601024; omega, by show slots + 6 ≤ 7293034; omega⟩ (cwV 0 F.2.2.2.2 gL_law_X5_thrown rfl rfl rfl ⟨rfl, hd_X5_thrown⟩ ⟨(Nat.le_of_ble_eq_true rfl), (Nat.le_of_ble_eq_true rfl)⟩) rfl dL_law_267 dL_law_268 dL_law_271 dL_law_273 dL_law_278 dL_law_280 dL_law_283 dL_law_284 dL_law_285 dL_law_286 dL_law_288 dL_law_289 dL_law_290 dL_law_295 (fun H locs hL hS => ?_)
  exact W.widen (k := cells + 4) (n := slots + 24) (by omega) (by omega) (kk _ _ _ H locs ls hL hR2 hS (lv_sub hl [2, 3, 4, 5, 6] rfl))
set_option maxHeartbeats 4000000 in
theorem lc_4 {p : Program} {l : Launch} {e : Env} {s : State} {m : MethodId} {below : List Frame} {meth : Method} {c : Code} {H : Heap} {locs : List Loc} {cells slots : Nat} {Q : State → Prop} {ls : Array Slot} {D : va_G} {x q b L i : Nat} {xs : Nat → Int32} {μ ν : Mem} {w : Int64} (F : CallFix p m c code 7 s #[Value.ref b] wsL_law RL) (hlt : l.stackTraces = false) (hK : va_K D vwCl (tyX D) s) (hG : SGA (bge x) s s.heap) (hX : va_X b L xs s s.heap) (hbl : b < s.heap.size) (hbx : b < x) (hLb : L ≤ 2560) (hq : x + 357 ≤ q) (hik : i + 4 < L) (hL : LSx D x q μ ν w H) (hR : Rel μ ν) (hS : va_S (bge x) s.heap H locs) (hl : lv_has ls 7 (lwl b x q i)) (hc : cells ≤ 600000) (hs : slots ≤ 7000000)
    (kk : ∀ (μ' ν' : Mem) (w' : Int64) (H1 : Heap) (locs1 : List Loc) (ls1 : Array Slot), LSx D x q μ' ν' w' H1 → Rel μ' ν' → va_S (bge x) s.heap H1 locs1 → lv_has ls1 7 (lwl b x q i) → W p l e room_1 s m #[Value.ref b] below meth c H1 locs1 (cells + 4) (slots + 24) Q (F0 m 1984 ls1 [])) : W p l e room_1 s m #[Value.ref b] below meth c H locs cells slots Q (F0 m 298 ls []) := by
  obtain ⟨k, v, b0, ν', h4, h5, hres, hR2⟩ := call_about (xs (i + 1)) hR
  obtain ⟨cd, w2, hcd, hthr, hans⟩ := res1 (w := w) hres
  refine lv_aload_n F.1 F.2.1 dL_law_298 rfl (lv_at hl 1 rfl) ?_
  refine g_arg F (k := 1) hX hbl hbx hS hLb (by omega) (lv_at hl 0 rfl) (lv_at hl 4 rfl) (by decide) dL_law_299 dL_law_300 dL_law_302 dL_law_303 dL_law_304 ?_
  refine lv_aload_n F.1 F.2.1 dL_law_305 rfl (lv_at hl 3 rfl) ?_
  refine g_H F hK hG hq hL hS (c_L_about hlt (q_not hq) (xs (i + 1)) h4 hcd) (vx_cwSW 3 F.2.2.2.2 gL_law_L_about rfl rfl rfl hd_L_about ⟨(Nat.le_of_ble_eq_true rfl), (Nat.le_of_ble_eq_true rfl)⟩) rfl (rest := []) rfl hl.1 (Nat.le_of_ble_eq_true rfl) dL_law_306 ⟨by show cells + 1 ≤ 601024; omega, by show slots + 6 ≤ 7293034; omega⟩ (fun H locs hL hS => ?_)
  refine lv_istore F.1 F.2.1 dL_law_309 hl (Nat.le_of_ble_eq_true rfl) rfl (fun ls hl => ?_)
  have hl : lv_has ls 7 ((5, .int cd) :: lwl b x q i) := hl
  refine lv_aload_n F.1 F.2.1 dL_law_311 rfl (lv_at hl 3 rfl) ?_
  refine g_arg F (k := 1) hX hbl hbx hS hLb (by omega) (lv_at hl 1 rfl) (lv_at hl 5 rfl) (by decide) dL_law_312 dL_law_313 dL_law_315 dL_law_316 dL_law_317 ?_
  refine g_M F hK hq hL hS (As := [.int (xs (i + 1))]) (c_X5_about (xs (i + 1)) h5) (cwV 1 F.2.2.2.2 gL_law_X5_about rfl rfl rfl ⟨rfl, hd_X5_about⟩ ⟨(Nat.le_of_ble_eq_true rfl), (Nat.le_of_ble_eq_true rfl)⟩) rfl (rest := []) rfl hl.1 (Nat.le_of_ble_eq_true rfl) dL_law_318 ⟨by show cells + 1 ≤ 601024; omega, by show slots + 6 ≤ 7293034; omega⟩ (fun H locs hL hS => ?_)
  refine lv_istore F.1 F.2.1 dL_law_321 hl (Nat.le_of_ble_eq_true rfl) rfl (fun ls hl => ?_)
  have hl : lv_has ls 7 ((6, .int b0) :: (5, .int cd) :: lwl b x q i) := hl
  refine g_tail F hK hq hL hS hl hthr hans ⟨by show cells + 1 ≤ 601024; omega, by show slots + 6 ≤ 7293034; omega⟩ (cwV 0 F.2.2.2.2 gL_law_X5_thrown rfl rfl rfl ⟨rfl, hd_X5_thrown⟩ ⟨(Nat.le_of_ble_eq_true rfl), (Nat.le_of_ble_eq_true rfl)⟩) rfl dL_law_323 dL_law_324 dL_law_327 dL_law_329 dL_law_334 dL_law_336 dL_law_339 dL_law_340 dL_law_341 dL_law_342 dL_law_344 dL_law_345 dL_law_346 dL_law_351 (fun H locs hL hS => ?_)
  exact W.widen (k := cells + 4) (n := slots + 24) (by omega) (by omega) (kk _ _ _ H locs ls hL hR2 hS (lv_sub hl [2, 3, 4, 5, 6] rfl))
set_option maxHeartbeats 4000000 in
theorem lc_5 {p : Program} {l : Launch} {e : Env} {s : State} {m : MethodId} {below : List Frame} {meth : Method} {c : Code} {H : Heap} {locs : List Loc} {cells slots : Nat} {Q : State → Prop} {ls : Array Slot} {D : va_G} {x q b L i : Nat} {xs : Nat → Int32} {μ ν : Mem} {w : Int64} (F : CallFix p m c code 7 s #[Value.ref b] wsL_law RL) (hlt : l.stackTraces = false) (hK : va_K D vwCl (tyX D) s) (hG : SGA (bge x) s s.heap) (hX : va_X b L xs s s.heap) (hbl : b < s.heap.size) (hbx : b < x) (hLb : L ≤ 2560) (hq : x + 357 ≤ q) (hik : i + 4 < L) (hL : LSx D x q μ ν w H) (hR : Rel μ ν) (hS : va_S (bge x) s.heap H locs) (hl : lv_has ls 7 (lwl b x q i)) (hc : cells ≤ 600000) (hs : slots ≤ 7000000)
    (kk : ∀ (μ' ν' : Mem) (w' : Int64) (H1 : Heap) (locs1 : List Loc) (ls1 : Array Slot), LSx D x q μ' ν' w' H1 → Rel μ' ν' → va_S (bge x) s.heap H1 locs1 → lv_has ls1 7 (lwl b x q i) → W p l e room_1 s m #[Value.ref b] below meth c H1 locs1 (cells + 4) (slots + 24) Q (F0 m 1984 ls1 [])) : W p l e room_1 s m #[Value.ref b] below meth c H locs cells slots Q (F0 m 354 ls []) := by
  obtain ⟨k, v, b0, ν', h4, h5, hres, hR2⟩ := call_siteOf (xs (i + 1)) (xs (i + 2)) hR
  obtain ⟨cd, w2, hcd, hthr, hans⟩ := res2 (w := w) hres
  refine lv_aload_n F.1 F.2.1 dL_law_354 rfl (lv_at hl 1 rfl) ?_
  refine g_arg F (k := 1) hX hbl hbx hS hLb (by omega) (lv_at hl 0 rfl) (lv_at hl 4 rfl) (by decide) dL_law_355 dL_law_356 dL_law_358 dL_law_359 dL_law_360 ?_
  refine g_arg F (k := 2) hX hbl hbx hS hLb (by omega) (lv_at hl 0 rfl) (lv_at hl 4 rfl) (by decide) dL_law_361 dL_law_362 dL_law_364 dL_law_365 dL_law_366 ?_
  refine lv_aload_n F.1 F.2.1 dL_law_367 rfl (lv_at hl 3 rfl) ?_
  refine g_H F hK hG hq hL hS (c_L_siteOf hlt (q_not hq) (xs (i + 1)) (xs (i + 2)) h4 hcd) (vx_cwSW 4 F.2.2.2.2 gL_law_L_siteOf rfl rfl rfl hd_L_siteOf ⟨(Nat.le_of_ble_eq_true rfl), (Nat.le_of_ble_eq_true rfl)⟩) rfl (rest := []) rfl hl.1 (Nat.le_of_ble_eq_true rfl) dL_law_368 ⟨by show cells + 2 ≤ 601024; omega, by show slots + 12 ≤ 7293034; omega⟩ (fun H locs hL hS => ?_)
  refine lv_istore F.1 F.2.1 dL_law_371 hl (Nat.le_of_ble_eq_true rfl) rfl (fun ls hl => ?_)
  have hl : lv_has ls 7 ((5, .int cd) :: lwl b x q i) := hl
  refine lv_aload_n F.1 F.2.1 dL_law_373 rfl (lv_at hl 3 rfl) ?_
  refine g_arg F (k := 1) hX hbl hbx hS hLb (by omega) (lv_at hl 1 rfl) (lv_at hl 5 rfl) (by decide) dL_law_374 dL_law_375 dL_law_377 dL_law_378 dL_law_379 ?_
  refine g_arg F (k := 2) hX hbl hbx hS hLb (by omega) (lv_at hl 1 rfl) (lv_at hl 5 rfl) (by decide) dL_law_380 dL_law_381 dL_law_383 dL_law_384 dL_law_385 ?_
  refine g_M F hK hq hL hS (As := [.int (xs (i + 1)), .int (xs (i + 2))]) (c_X5_siteOf (xs (i + 1)) (xs (i + 2)) h5) (cwV 2 F.2.2.2.2 gL_law_X5_siteOf rfl rfl rfl ⟨rfl, hd_X5_siteOf⟩ ⟨(Nat.le_of_ble_eq_true rfl), (Nat.le_of_ble_eq_true rfl)⟩) rfl (rest := []) rfl hl.1 (Nat.le_of_ble_eq_true rfl) dL_law_386 ⟨by show cells + 2 ≤ 601024; omega, by show slots + 12 ≤ 7293034; omega⟩ (fun H locs hL hS => ?_)
  refine lv_istore F.1 F.2.1 dL_law_389 hl (Nat.le_of_ble_eq_true rfl) rfl (fun ls hl => ?_)
  have hl : lv_has ls 7 ((6, .int b0) :: (5, .int cd) :: lwl b x q i) := hl
  refine g_tail F hK hq hL hS hl hthr hans ⟨by show cells + 2 ≤ 601024; omega, by show slots + 12 ≤ 7293034; omega⟩ (cwV 0 F.2.2.2.2 gL_law_X5_thrown rfl rfl rfl ⟨rfl, hd_X5_thrown⟩ ⟨(Nat.le_of_ble_eq_true rfl), (Nat.le_of_ble_eq_true rfl)⟩) rfl dL_law_391 dL_law_392 dL_law_395 dL_law_397 dL_law_402 dL_law_404 dL_law_407 dL_law_408 dL_law_409 dL_law_410 dL_law_412 dL_law_413 dL_law_414 dL_law_419 (fun H locs hL hS => ?_)
  exact W.widen (k := cells + 4) (n := slots + 24) (by omega) (by omega) (kk _ _ _ H locs ls hL hR2 hS (lv_sub hl [2, 3, 4, 5, 6] rfl))
set_option maxHeartbeats 4000000 in
theorem lc_6 {p : Program} {l : Launch} {e : Env} {s : State} {m : MethodId} {below : List Frame} {meth : Method} {c : Code} {H : Heap} {locs : List Loc} {cells slots : Nat} {Q : State → Prop} {ls : Array Slot} {D : va_G} {x q b L i : Nat} {xs : Nat → Int32} {μ ν : Mem} {w : Int64} (F : CallFix p m c code 7 s #[Value.ref b] wsL_law RL) (hlt : l.stackTraces = false) (hK : va_K D vwCl (tyX D) s) (hG : SGA (bge x) s s.heap) (hX : va_X b L xs s s.heap) (hbl : b < s.heap.size) (hbx : b < x) (hLb : L ≤ 2560) (hq : x + 357 ≤ q) (hik : i + 4 < L) (hL : LSx D x q μ ν w H) (hR : Rel μ ν) (hS : va_S (bge x) s.heap H locs) (hl : lv_has ls 7 (lwl b x q i)) (hc : cells ≤ 600000) (hs : slots ≤ 7000000)
    (kk : ∀ (μ' ν' : Mem) (w' : Int64) (H1 : Heap) (locs1 : List Loc) (ls1 : Array Slot), LSx D x q μ' ν' w' H1 → Rel μ' ν' → va_S (bge x) s.heap H1 locs1 → lv_has ls1 7 (lwl b x q i) → W p l e room_1 s m #[Value.ref b] below meth c H1 locs1 (cells + 4) (slots + 24) Q (F0 m 1984 ls1 [])) : W p l e room_1 s m #[Value.ref b] below meth c H locs cells slots Q (F0 m 422 ls []) := by
  obtain ⟨k, v, b0, ν', h4, h5, hres, hR2⟩ := call_since (xs (i + 1)) (xs (i + 2)) hR
  obtain ⟨cd, w2, hcd, hthr, hans⟩ := res1 (w := w) hres
  refine lv_aload_n F.1 F.2.1 dL_law_422 rfl (lv_at hl 1 rfl) ?_
  refine g_arg F (k := 1) hX hbl hbx hS hLb (by omega) (lv_at hl 0 rfl) (lv_at hl 4 rfl) (by decide) dL_law_423 dL_law_424 dL_law_426 dL_law_427 dL_law_428 ?_
  refine g_arg F (k := 2) hX hbl hbx hS hLb (by omega) (lv_at hl 0 rfl) (lv_at hl 4 rfl) (by decide) dL_law_429 dL_law_430 dL_law_432 dL_law_433 dL_law_434 ?_
  refine lv_aload_n F.1 F.2.1 dL_law_435 rfl (lv_at hl 3 rfl) ?_
  refine g_H F hK hG hq hL hS (c_L_since hlt (q_not hq) (xs (i + 1)) (xs (i + 2)) h4 hcd) (vx_cwSW 4 F.2.2.2.2 gL_law_L_since rfl rfl rfl hd_L_since ⟨(Nat.le_of_ble_eq_true rfl), (Nat.le_of_ble_eq_true rfl)⟩) rfl (rest := []) rfl hl.1 (Nat.le_of_ble_eq_true rfl) dL_law_436 ⟨by show cells + 2 ≤ 601024; omega, by show slots + 12 ≤ 7293034; omega⟩ (fun H locs hL hS => ?_)
  refine lv_istore F.1 F.2.1 dL_law_439 hl (Nat.le_of_ble_eq_true rfl) rfl (fun ls hl => ?_)
  have hl : lv_has ls 7 ((5, .int cd) :: lwl b x q i) := hl
  refine lv_aload_n F.1 F.2.1 dL_law_441 rfl (lv_at hl 3 rfl) ?_
  refine g_arg F (k := 1) hX hbl hbx hS hLb (by omega) (lv_at hl 1 rfl) (lv_at hl 5 rfl) (by decide) dL_law_442 dL_law_443 dL_law_445 dL_law_446 dL_law_447 ?_
  refine g_arg F (k := 2) hX hbl hbx hS hLb (by omega) (lv_at hl 1 rfl) (lv_at hl 5 rfl) (by decide) dL_law_448 dL_law_449 dL_law_451 dL_law_452 dL_law_453 ?_
  refine g_M F hK hq hL hS (As := [.int (xs (i + 1)), .int (xs (i + 2))]) (c_X5_since (xs (i + 1)) (xs (i + 2)) h5) (cwV 2 F.2.2.2.2 gL_law_X5_since rfl rfl rfl ⟨rfl, hd_X5_since⟩ ⟨(Nat.le_of_ble_eq_true rfl), (Nat.le_of_ble_eq_true rfl)⟩) rfl (rest := []) rfl hl.1 (Nat.le_of_ble_eq_true rfl) dL_law_454 ⟨by show cells + 2 ≤ 601024; omega, by show slots + 12 ≤ 7293034; omega⟩ (fun H locs hL hS => ?_)
  refine lv_istore F.1 F.2.1 dL_law_457 hl (Nat.le_of_ble_eq_true rfl) rfl (fun ls hl => ?_)
  have hl : lv_has ls 7 ((6, .int b0) :: (5, .int cd) :: lwl b x q i) := hl
  refine g_tail F hK hq hL hS hl hthr hans ⟨by show cells + 2 ≤ 601024; omega, by show slots + 12 ≤ 7293034; omega⟩ (cwV 0 F.2.2.2.2 gL_law_X5_thrown rfl rfl rfl ⟨rfl, hd_X5_thrown⟩ ⟨(Nat.le_of_ble_eq_true rfl), (Nat.le_of_ble_eq_true rfl)⟩) rfl dL_law_459 dL_law_460 dL_law_463 dL_law_465 dL_law_470 dL_law_472 dL_law_475 dL_law_476 dL_law_477 dL_law_478 dL_law_480 dL_law_481 dL_law_482 dL_law_487 (fun H locs hL hS => ?_)
  exact W.widen (k := cells + 4) (n := slots + 24) (by omega) (by omega) (kk _ _ _ H locs ls hL hR2 hS (lv_sub hl [2, 3, 4, 5, 6] rfl))
set_option maxHeartbeats 4000000 in
theorem lc_7 {p : Program} {l : Launch} {e : Env} {s : State} {m : MethodId} {below : List Frame} {meth : Method} {c : Code} {H : Heap} {locs : List Loc} {cells slots : Nat} {Q : State → Prop} {ls : Array Slot} {D : va_G} {x q b L i : Nat} {xs : Nat → Int32} {μ ν : Mem} {w : Int64} (F : CallFix p m c code 7 s #[Value.ref b] wsL_law RL) (hlt : l.stackTraces = false) (hK : va_K D vwCl (tyX D) s) (hG : SGA (bge x) s s.heap) (hX : va_X b L xs s s.heap) (hbl : b < s.heap.size) (hbx : b < x) (hLb : L ≤ 2560) (hq : x + 357 ≤ q) (hik : i + 4 < L) (hL : LSx D x q μ ν w H) (hR : Rel μ ν) (hS : va_S (bge x) s.heap H locs) (hl : lv_has ls 7 (lwl b x q i)) (hc : cells ≤ 600000) (hs : slots ≤ 7000000)
    (kk : ∀ (μ' ν' : Mem) (w' : Int64) (H1 : Heap) (locs1 : List Loc) (ls1 : Array Slot), LSx D x q μ' ν' w' H1 → Rel μ' ν' → va_S (bge x) s.heap H1 locs1 → lv_has ls1 7 (lwl b x q i) → W p l e room_1 s m #[Value.ref b] below meth c H1 locs1 (cells + 4) (slots + 24) Q (F0 m 1984 ls1 [])) : W p l e room_1 s m #[Value.ref b] below meth c H locs cells slots Q (F0 m 490 ls []) := by
  obtain ⟨k, v, b0, ν', h4, h5, hres, hR2⟩ := call_layerOf (xs (i + 1)) (xs (i + 2)) (xs (i + 3)) hR
  obtain ⟨cd, w2, hcd, hthr, hans⟩ := res2 (w := w) hres
  refine lv_aload_n F.1 F.2.1 dL_law_490 rfl (lv_at hl 1 rfl) ?_
  refine g_arg F (k := 1) hX hbl hbx hS hLb (by omega) (lv_at hl 0 rfl) (lv_at hl 4 rfl) (by decide) dL_law_491 dL_law_492 dL_law_494 dL_law_495 dL_law_496 ?_
  refine g_arg F (k := 2) hX hbl hbx hS hLb (by omega) (lv_at hl 0 rfl) (lv_at hl 4 rfl) (by decide) dL_law_497 dL_law_498 dL_law_500 dL_law_501 dL_law_502 ?_
  refine g_arg F (k := 3) hX hbl hbx hS hLb (by omega) (lv_at hl 0 rfl) (lv_at hl 4 rfl) (by decide) dL_law_503 dL_law_504 dL_law_506 dL_law_507 dL_law_508 ?_
  refine lv_aload_n F.1 F.2.1 dL_law_509 rfl (lv_at hl 3 rfl) ?_
  refine g_H F hK hG hq hL hS (c_L_layerOf hlt (q_not hq) (xs (i + 1)) (xs (i + 2)) (xs (i + 3)) h4 hcd) (vx_cwSW 5 F.2.2.2.2 gL_law_L_layerOf rfl rfl rfl hd_L_layerOf ⟨(Nat.le_of_ble_eq_true rfl), (Nat.le_of_ble_eq_true rfl)⟩) rfl (rest := []) rfl hl.1 (Nat.le_of_ble_eq_true rfl) dL_law_510 ⟨by show cells + 2 ≤ 601024; omega, by show slots + 12 ≤ 7293034; omega⟩ (fun H locs hL hS => ?_)
  refine lv_istore F.1 F.2.1 dL_law_513 hl (Nat.le_of_ble_eq_true rfl) rfl (fun ls hl => ?_)
  have hl : lv_has ls 7 ((5, .int cd) :: lwl b x q i) := hl
  refine lv_aload_n F.1 F.2.1 dL_law_515 rfl (lv_at hl 3 rfl) ?_
  refine g_arg F (k := 1) hX hbl hbx hS hLb (by omega) (lv_at hl 1 rfl) (lv_at hl 5 rfl) (by decide) dL_law_516 dL_law_517 dL_law_519 dL_law_520 dL_law_521 ?_
  refine g_arg F (k := 2) hX hbl hbx hS hLb (by omega) (lv_at hl 1 rfl) (lv_at hl 5 rfl) (by decide) dL_law_522 dL_law_523 dL_law_525 dL_law_526 dL_law_527 ?_
  refine g_arg F (k := 3) hX hbl hbx hS hLb (by omega) (lv_at hl 1 rfl) (lv_at hl 5 rfl) (by decide) dL_law_528 dL_law_529 dL_law_531 dL_law_532 dL_law_533 ?_
  refine g_M F hK hq hL hS (As := [.int (xs (i + 1)), .int (xs (i + 2)), .int (xs (i + 3))]) (c_X5_layerOf (xs (i + 1)) (xs (i + 2)) (xs (i + 3)) h5) (cwV 3 F.2.2.2.2 gL_law_X5_layerOf rfl rfl rfl ⟨rfl, hd_X5_layerOf⟩ ⟨(Nat.le_of_ble_eq_true rfl), (Nat.le_of_ble_eq_true rfl)⟩) rfl (rest := []) rfl hl.1 (Nat.le_of_ble_eq_true rfl) dL_law_534 ⟨by show cells + 2 ≤ 601024; omega, by show slots + 12 ≤ 7293034; omega⟩ (fun H locs hL hS => ?_)
  refine lv_istore F.1 F.2.1 dL_law_537 hl (Nat.le_of_ble_eq_true rfl) rfl (fun ls hl => ?_)
  have hl : lv_has ls 7 ((6, .int b0) :: (5, .int cd) :: lwl b x q i) := hl
  refine g_tail F hK hq hL hS hl hthr hans ⟨by show cells + 2 ≤ 601024; omega, by show slots + 12 ≤ 7293034; omega⟩ (cwV 0 F.2.2.2.2 gL_law_X5_thrown rfl rfl rfl ⟨rfl, hd_X5_thrown⟩ ⟨(Nat.le_of_ble_eq_true rfl), (Nat.le_of_ble_eq_true rfl)⟩) rfl dL_law_539 dL_law_540 dL_law_543 dL_law_545 dL_law_550 dL_law_552 dL_law_555 dL_law_556 dL_law_557 dL_law_558 dL_law_560 dL_law_561 dL_law_562 dL_law_567 (fun H locs hL hS => ?_)
  exact W.widen (k := cells + 4) (n := slots + 24) (by omega) (by omega) (kk _ _ _ H locs ls hL hR2 hS (lv_sub hl [2, 3, 4, 5, 6] rfl))
set_option maxHeartbeats 4000000 in
theorem lc_8 {p : Program} {l : Launch} {e : Env} {s : State} {m : MethodId} {below : List Frame} {meth : Method} {c : Code} {H : Heap} {locs : List Loc} {cells slots : Nat} {Q : State → Prop} {ls : Array Slot} {D : va_G} {x q b L i : Nat} {xs : Nat → Int32} {μ ν : Mem} {w : Int64} (F : CallFix p m c code 7 s #[Value.ref b] wsL_law RL) (hlt : l.stackTraces = false) (hK : va_K D vwCl (tyX D) s) (hG : SGA (bge x) s s.heap) (hX : va_X b L xs s s.heap) (hbl : b < s.heap.size) (hbx : b < x) (hLb : L ≤ 2560) (hq : x + 357 ≤ q) (hik : i + 4 < L) (hL : LSx D x q μ ν w H) (hR : Rel μ ν) (hS : va_S (bge x) s.heap H locs) (hl : lv_has ls 7 (lwl b x q i)) (hc : cells ≤ 600000) (hs : slots ≤ 7000000)
    (kk : ∀ (μ' ν' : Mem) (w' : Int64) (H1 : Heap) (locs1 : List Loc) (ls1 : Array Slot), LSx D x q μ' ν' w' H1 → Rel μ' ν' → va_S (bge x) s.heap H1 locs1 → lv_has ls1 7 (lwl b x q i) → W p l e room_1 s m #[Value.ref b] below meth c H1 locs1 (cells + 4) (slots + 24) Q (F0 m 1984 ls1 [])) : W p l e room_1 s m #[Value.ref b] below meth c H locs cells slots Q (F0 m 570 ls []) := by
  obtain ⟨k, v, b0, ν', h4, h5, hres, hR2⟩ := call_tubeOf (xs (i + 1)) (xs (i + 2)) hR
  obtain ⟨cd, w2, hcd, hthr, hans⟩ := res2 (w := w) hres
  refine lv_aload_n F.1 F.2.1 dL_law_570 rfl (lv_at hl 1 rfl) ?_
  refine g_arg F (k := 1) hX hbl hbx hS hLb (by omega) (lv_at hl 0 rfl) (lv_at hl 4 rfl) (by decide) dL_law_571 dL_law_572 dL_law_574 dL_law_575 dL_law_576 ?_
  refine g_arg F (k := 2) hX hbl hbx hS hLb (by omega) (lv_at hl 0 rfl) (lv_at hl 4 rfl) (by decide) dL_law_577 dL_law_578 dL_law_580 dL_law_581 dL_law_582 ?_
  refine lv_aload_n F.1 F.2.1 dL_law_583 rfl (lv_at hl 3 rfl) ?_
  refine g_H F hK hG hq hL hS (c_L_tubeOf hlt (q_not hq) (xs (i + 1)) (xs (i + 2)) h4 hcd) (vx_cwSW 4 F.2.2.2.2 gL_law_L_tubeOf rfl rfl rfl hd_L_tubeOf ⟨(Nat.le_of_ble_eq_true rfl), (Nat.le_of_ble_eq_true rfl)⟩) rfl (rest := []) rfl hl.1 (Nat.le_of_ble_eq_true rfl) dL_law_584 ⟨by show cells + 1 ≤ 601024; omega, by show slots + 6 ≤ 7293034; omega⟩ (fun H locs hL hS => ?_)
  refine lv_istore F.1 F.2.1 dL_law_587 hl (Nat.le_of_ble_eq_true rfl) rfl (fun ls hl => ?_)
  have hl : lv_has ls 7 ((5, .int cd) :: lwl b x q i) := hl
  refine lv_aload_n F.1 F.2.1 dL_law_589 rfl (lv_at hl 3 rfl) ?_
  refine g_arg F (k := 1) hX hbl hbx hS hLb (by omega) (lv_at hl 1 rfl) (lv_at hl 5 rfl) (by decide) dL_law_590 dL_law_591 dL_law_593 dL_law_594 dL_law_595 ?_
  refine g_arg F (k := 2) hX hbl hbx hS hLb (by omega) (lv_at hl 1 rfl) (lv_at hl 5 rfl) (by decide) dL_law_596 dL_law_597 dL_law_599 dL_law_600 dL_law_601 ?_
  refine g_M F hK hq hL hS (As := [.int (xs (i + 1)), .int (xs (i + 2))]) (c_X5_tubeOf (xs (i + 1)) (xs (i + 2)) h5) (cwV 2 F.2.2.2.2 gL_law_X5_tubeOf rfl rfl rfl ⟨rfl, hd_X5_tubeOf⟩ ⟨(Nat.le_of_ble_eq_true rfl), (Nat.le_of_ble_eq_true rfl)⟩) rfl (rest := []) rfl hl.1 (Nat.le_of_ble_eq_true rfl) dL_law_602 ⟨by show cells + 1 ≤ 601024; omega, by show slots + 6 ≤ 7293034; omega⟩ (fun H locs hL hS => ?_)
  refine lv_istore F.1 F.2.1 dL_law_605 hl (Nat.le_of_ble_eq_true rfl) rfl (fun ls hl => ?_)
  have hl : lv_has ls 7 ((6, .int b0) :: (5, .int cd) :: lwl b x q i) := hl
  refine g_tail F hK hq hL hS hl hthr hans ⟨by show cells + 1 ≤ 601024; omega, by show slots + 6 ≤ 7293034; omega⟩ (cwV 0 F.2.2.2.2 gL_law_X5_thrown rfl rfl rfl ⟨rfl, hd_X5_thrown⟩ ⟨(Nat.le_of_ble_eq_true rfl), (Nat.le_of_ble_eq_true rfl)⟩) rfl dL_law_607 dL_law_608 dL_law_611 dL_law_613 dL_law_618 dL_law_620 dL_law_623 dL_law_624 dL_law_625 dL_law_626 dL_law_628 dL_law_629 dL_law_630 dL_law_635 (fun H locs hL hS => ?_)
  exact W.widen (k := cells + 4) (n := slots + 24) (by omega) (by omega) (kk _ _ _ H locs ls hL hR2 hS (lv_sub hl [2, 3, 4, 5, 6] rfl))
set_option maxHeartbeats 4000000 in
theorem lc_9 {p : Program} {l : Launch} {e : Env} {s : State} {m : MethodId} {below : List Frame} {meth : Method} {c : Code} {H : Heap} {locs : List Loc} {cells slots : Nat} {Q : State → Prop} {ls : Array Slot} {D : va_G} {x q b L i : Nat} {xs : Nat → Int32} {μ ν : Mem} {w : Int64} (F : CallFix p m c code 7 s #[Value.ref b] wsL_law RL) (hlt : l.stackTraces = false) (hK : va_K D vwCl (tyX D) s) (hG : SGA (bge x) s s.heap) (hX : va_X b L xs s s.heap) (hbl : b < s.heap.size) (hbx : b < x) (hLb : L ≤ 2560) (hq : x + 357 ≤ q) (hik : i + 4 < L) (hL : LSx D x q μ ν w H) (hR : Rel μ ν) (hS : va_S (bge x) s.heap H locs) (hl : lv_has ls 7 (lwl b x q i)) (hc : cells ≤ 600000) (hs : slots ≤ 7000000)
    (kk : ∀ (μ' ν' : Mem) (w' : Int64) (H1 : Heap) (locs1 : List Loc) (ls1 : Array Slot), LSx D x q μ' ν' w' H1 → Rel μ' ν' → va_S (bge x) s.heap H1 locs1 → lv_has ls1 7 (lwl b x q i) → W p l e room_1 s m #[Value.ref b] below meth c H1 locs1 (cells + 4) (slots + 24) Q (F0 m 1984 ls1 [])) : W p l e room_1 s m #[Value.ref b] below meth c H locs cells slots Q (F0 m 638 ls []) := by
  obtain ⟨k, v, b0, ν', h4, h5, hres, hR2⟩ := call_pipeOf (xs (i + 1)) (xs (i + 2)) hR
  obtain ⟨cd, w2, hcd, hthr, hans⟩ := res2 (w := w) hres
  refine lv_aload_n F.1 F.2.1 dL_law_638 rfl (lv_at hl 1 rfl) ?_
  refine g_arg F (k := 1) hX hbl hbx hS hLb (by omega) (lv_at hl 0 rfl) (lv_at hl 4 rfl) (by decide) dL_law_639 dL_law_640 dL_law_642 dL_law_643 dL_law_644 ?_
  refine g_arg F (k := 2) hX hbl hbx hS hLb (by omega) (lv_at hl 0 rfl) (lv_at hl 4 rfl) (by decide) dL_law_645 dL_law_646 dL_law_648 dL_law_649 dL_law_650 ?_
  refine lv_aload_n F.1 F.2.1 dL_law_651 rfl (lv_at hl 3 rfl) ?_
  refine g_H F hK hG hq hL hS (c_L_pipeOf hlt (q_not hq) (xs (i + 1)) (xs (i + 2)) h4 hcd) (vx_cwSW 4 F.2.2.2.2 gL_law_L_pipeOf rfl rfl rfl hd_L_pipeOf ⟨(Nat.le_of_ble_eq_true rfl), (Nat.le_of_ble_eq_true rfl)⟩) rfl (rest := []) rfl hl.1 (Nat.le_of_ble_eq_true rfl) dL_law_652 ⟨by show cells + 2 ≤ 601024; omega, by show slots + 12 ≤ 7293034; omega⟩ (fun H locs hL hS => ?_)
  refine lv_istore F.1 F.2.1 dL_law_655 hl (Nat.le_of_ble_eq_true rfl) rfl (fun ls hl => ?_)
  have hl : lv_has ls 7 ((5, .int cd) :: lwl b x q i) := hl
  refine lv_aload_n F.1 F.2.1 dL_law_657 rfl (lv_at hl 3 rfl) ?_
  refine g_arg F (k := 1) hX hbl hbx hS hLb (by omega) (lv_at hl 1 rfl) (lv_at hl 5 rfl) (by decide) dL_law_658 dL_law_659 dL_law_661 dL_law_662 dL_law_663 ?_
  refine g_arg F (k := 2) hX hbl hbx hS hLb (by omega) (lv_at hl 1 rfl) (lv_at hl 5 rfl) (by decide) dL_law_664 dL_law_665 dL_law_667 dL_law_668 dL_law_669 ?_
  refine g_M F hK hq hL hS (As := [.int (xs (i + 1)), .int (xs (i + 2))]) (c_X5_pipeOf (xs (i + 1)) (xs (i + 2)) h5) (cwV 2 F.2.2.2.2 gL_law_X5_pipeOf rfl rfl rfl ⟨rfl, hd_X5_pipeOf⟩ ⟨(Nat.le_of_ble_eq_true rfl), (Nat.le_of_ble_eq_true rfl)⟩) rfl (rest := []) rfl hl.1 (Nat.le_of_ble_eq_true rfl) dL_law_670 ⟨by show cells + 2 ≤ 601024; omega, by show slots + 12 ≤ 7293034; omega⟩ (fun H locs hL hS => ?_)
  refine lv_istore F.1 F.2.1 dL_law_673 hl (Nat.le_of_ble_eq_true rfl) rfl (fun ls hl => ?_)
  have hl : lv_has ls 7 ((6, .int b0) :: (5, .int cd) :: lwl b x q i) := hl
  refine g_tail F hK hq hL hS hl hthr hans ⟨by show cells + 2 ≤ 601024; omega, by show slots + 12 ≤ 7293034; omega⟩ (cwV 0 F.2.2.2.2 gL_law_X5_thrown rfl rfl rfl ⟨rfl, hd_X5_thrown⟩ ⟨(Nat.le_of_ble_eq_true rfl), (Nat.le_of_ble_eq_true rfl)⟩) rfl dL_law_675 dL_law_676 dL_law_679 dL_law_681 dL_law_686 dL_law_688 dL_law_691 dL_law_692 dL_law_693 dL_law_694 dL_law_696 dL_law_697 dL_law_698 dL_law_703 (fun H locs hL hS => ?_)
  exact W.widen (k := cells + 4) (n := slots + 24) (by omega) (by omega) (kk _ _ _ H locs ls hL hR2 hS (lv_sub hl [2, 3, 4, 5, 6] rfl))
set_option maxHeartbeats 4000000 in
theorem lc_10 {p : Program} {l : Launch} {e : Env} {s : State} {m : MethodId} {below : List Frame} {meth : Method} {c : Code} {H : Heap} {locs : List Loc} {cells slots : Nat} {Q : State → Prop} {ls : Array Slot} {D : va_G} {x q b L i : Nat} {xs : Nat → Int32} {μ ν : Mem} {w : Int64} (F : CallFix p m c code 7 s #[Value.ref b] wsL_law RL) (hlt : l.stackTraces = false) (hK : va_K D vwCl (tyX D) s) (hG : SGA (bge x) s s.heap) (hX : va_X b L xs s s.heap) (hbl : b < s.heap.size) (hbx : b < x) (hLb : L ≤ 2560) (hq : x + 357 ≤ q) (hik : i + 4 < L) (hL : LSx D x q μ ν w H) (hR : Rel μ ν) (hS : va_S (bge x) s.heap H locs) (hl : lv_has ls 7 (lwl b x q i)) (hc : cells ≤ 600000) (hs : slots ≤ 7000000)
    (kk : ∀ (μ' ν' : Mem) (w' : Int64) (H1 : Heap) (locs1 : List Loc) (ls1 : Array Slot), LSx D x q μ' ν' w' H1 → Rel μ' ν' → va_S (bge x) s.heap H1 locs1 → lv_has ls1 7 (lwl b x q i) → W p l e room_1 s m #[Value.ref b] below meth c H1 locs1 (cells + 4) (slots + 24) Q (F0 m 1984 ls1 [])) : W p l e room_1 s m #[Value.ref b] below meth c H locs cells slots Q (F0 m 706 ls []) := by
  obtain ⟨k, v, b0, ν', h4, h5, hres, hR2⟩ := call_layers (xs (i + 1)) (xs (i + 2)) hR
  obtain ⟨cd, w2, hcd, hthr, hans⟩ := res2 (w := w) hres
  refine lv_aload_n F.1 F.2.1 dL_law_706 rfl (lv_at hl 1 rfl) ?_
  refine g_arg F (k := 1) hX hbl hbx hS hLb (by omega) (lv_at hl 0 rfl) (lv_at hl 4 rfl) (by decide) dL_law_707 dL_law_708 dL_law_710 dL_law_711 dL_law_712 ?_
  refine g_arg F (k := 2) hX hbl hbx hS hLb (by omega) (lv_at hl 0 rfl) (lv_at hl 4 rfl) (by decide) dL_law_713 dL_law_714 dL_law_716 dL_law_717 dL_law_718 ?_
  refine lv_aload_n F.1 F.2.1 dL_law_719 rfl (lv_at hl 3 rfl) ?_
  refine g_H F hK hG hq hL hS (c_L_layers hlt (q_not hq) (xs (i + 1)) (xs (i + 2)) h4 hcd) (vx_cwSW 4 F.2.2.2.2 gL_law_L_layers rfl rfl rfl hd_L_layers ⟨(Nat.le_of_ble_eq_true rfl), (Nat.le_of_ble_eq_true rfl)⟩) rfl (rest := []) rfl hl.1 (Nat.le_of_ble_eq_true rfl) dL_law_720 ⟨by show cells + 2 ≤ 601024; omega, by show slots + 12 ≤ 7293034; omega⟩ (fun H locs hL hS => ?_)
  refine lv_istore F.1 F.2.1 dL_law_723 hl (Nat.le_of_ble_eq_true rfl) rfl (fun ls hl => ?_)
  have hl : lv_has ls 7 ((5, .int cd) :: lwl b x q i) := hl
  refine lv_aload_n F.1 F.2.1 dL_law_725 rfl (lv_at hl 3 rfl) ?_
  refine g_arg F (k := 1) hX hbl hbx hS hLb (by omega) (lv_at hl 1 rfl) (lv_at hl 5 rfl) (by decide) dL_law_726 dL_law_727 dL_law_729 dL_law_730 dL_law_731 ?_
  refine g_arg F (k := 2) hX hbl hbx hS hLb (by omega) (lv_at hl 1 rfl) (lv_at hl 5 rfl) (by decide) dL_law_732 dL_law_733 dL_law_735 dL_law_736 dL_law_737 ?_
  refine g_M F hK hq hL hS (As := [.int (xs (i + 1)), .int (xs (i + 2))]) (c_X5_layers (xs (i + 1)) (xs (i + 2)) h5) (cwV 2 F.2.2.2.2 gL_law_X5_layers rfl rfl rfl ⟨rfl, hd_X5_layers⟩ ⟨(Nat.le_of_ble_eq_true rfl), (Nat.le_of_ble_eq_true rfl)⟩) rfl (rest := []) rfl hl.1 (Nat.le_of_ble_eq_true rfl) dL_law_738 ⟨by show cells + 2 ≤ 601024; omega, by show slots + 12 ≤ 7293034; omega⟩ (fun H locs hL hS => ?_)
  refine lv_istore F.1 F.2.1 dL_law_741 hl (Nat.le_of_ble_eq_true rfl) rfl (fun ls hl => ?_)
  have hl : lv_has ls 7 ((6, .int b0) :: (5, .int cd) :: lwl b x q i) := hl
  refine g_tail F hK hq hL hS hl hthr hans ⟨by show cells + 2 ≤ 601024; omega, by show slots + 12 ≤ 7293034; omega⟩ (cwV 0 F.2.2.2.2 gL_law_X5_thrown rfl rfl rfl ⟨rfl, hd_X5_thrown⟩ ⟨(Nat.le_of_ble_eq_true rfl), (Nat.le_of_ble_eq_true rfl)⟩) rfl dL_law_743 dL_law_744 dL_law_747 dL_law_749 dL_law_754 dL_law_756 dL_law_759 dL_law_760 dL_law_761 dL_law_762 dL_law_764 dL_law_765 dL_law_766 dL_law_771 (fun H locs hL hS => ?_)
  exact W.widen (k := cells + 4) (n := slots + 24) (by omega) (by omega) (kk _ _ _ H locs ls hL hR2 hS (lv_sub hl [2, 3, 4, 5, 6] rfl))
set_option maxHeartbeats 4000000 in
theorem lc_11 {p : Program} {l : Launch} {e : Env} {s : State} {m : MethodId} {below : List Frame} {meth : Method} {c : Code} {H : Heap} {locs : List Loc} {cells slots : Nat} {Q : State → Prop} {ls : Array Slot} {D : va_G} {x q b L i : Nat} {xs : Nat → Int32} {μ ν : Mem} {w : Int64} (F : CallFix p m c code 7 s #[Value.ref b] wsL_law RL) (hlt : l.stackTraces = false) (hK : va_K D vwCl (tyX D) s) (hG : SGA (bge x) s s.heap) (hX : va_X b L xs s s.heap) (hbl : b < s.heap.size) (hbx : b < x) (hLb : L ≤ 2560) (hq : x + 357 ≤ q) (hik : i + 4 < L) (hL : LSx D x q μ ν w H) (hR : Rel μ ν) (hS : va_S (bge x) s.heap H locs) (hl : lv_has ls 7 (lwl b x q i)) (hc : cells ≤ 600000) (hs : slots ≤ 7000000)
    (kk : ∀ (μ' ν' : Mem) (w' : Int64) (H1 : Heap) (locs1 : List Loc) (ls1 : Array Slot), LSx D x q μ' ν' w' H1 → Rel μ' ν' → va_S (bge x) s.heap H1 locs1 → lv_has ls1 7 (lwl b x q i) → W p l e room_1 s m #[Value.ref b] below meth c H1 locs1 (cells + 4) (slots + 24) Q (F0 m 1984 ls1 [])) : W p l e room_1 s m #[Value.ref b] below meth c H locs cells slots Q (F0 m 774 ls []) := by
  obtain ⟨k, v, b0, ν', h4, h5, hres, hR2⟩ := call_oldest (xs (i + 1)) hR
  obtain ⟨cd, w2, hcd, hthr, hans⟩ := res1 (w := w) hres
  refine lv_aload_n F.1 F.2.1 dL_law_774 rfl (lv_at hl 1 rfl) ?_
  refine g_arg F (k := 1) hX hbl hbx hS hLb (by omega) (lv_at hl 0 rfl) (lv_at hl 4 rfl) (by decide) dL_law_775 dL_law_776 dL_law_778 dL_law_779 dL_law_780 ?_
  refine lv_aload_n F.1 F.2.1 dL_law_781 rfl (lv_at hl 3 rfl) ?_
  refine g_H F hK hG hq hL hS (c_L_oldest hlt (q_not hq) (xs (i + 1)) h4 hcd) (vx_cwSW 3 F.2.2.2.2 gL_law_L_oldest rfl rfl rfl hd_L_oldest ⟨(Nat.le_of_ble_eq_true rfl), (Nat.le_of_ble_eq_true rfl)⟩) rfl (rest := []) rfl hl.1 (Nat.le_of_ble_eq_true rfl) dL_law_782 ⟨by show cells + 1 ≤ 601024; omega, by show slots + 6 ≤ 7293034; omega⟩ (fun H locs hL hS => ?_)
  refine lv_istore F.1 F.2.1 dL_law_785 hl (Nat.le_of_ble_eq_true rfl) rfl (fun ls hl => ?_)
  have hl : lv_has ls 7 ((5, .int cd) :: lwl b x q i) := hl
  refine lv_aload_n F.1 F.2.1 dL_law_787 rfl (lv_at hl 3 rfl) ?_
  refine g_arg F (k := 1) hX hbl hbx hS hLb (by omega) (lv_at hl 1 rfl) (lv_at hl 5 rfl) (by decide) dL_law_788 dL_law_789 dL_law_791 dL_law_792 dL_law_793 ?_
  refine g_M F hK hq hL hS (As := [.int (xs (i + 1))]) (c_X5_oldest (xs (i + 1)) h5) (cwV 1 F.2.2.2.2 gL_law_X5_oldest rfl rfl rfl ⟨rfl, hd_X5_oldest⟩ ⟨(Nat.le_of_ble_eq_true rfl), (Nat.le_of_ble_eq_true rfl)⟩) rfl (rest := []) rfl hl.1 (Nat.le_of_ble_eq_true rfl) dL_law_794 ⟨by show cells + 1 ≤ 601024; omega, by show slots + 6 ≤ 7293034; omega⟩ (fun H locs hL hS => ?_)
  refine lv_istore F.1 F.2.1 dL_law_797 hl (Nat.le_of_ble_eq_true rfl) rfl (fun ls hl => ?_)
  have hl : lv_has ls 7 ((6, .int b0) :: (5, .int cd) :: lwl b x q i) := hl
  refine g_tail F hK hq hL hS hl hthr hans ⟨by show cells + 1 ≤ 601024; omega, by show slots + 6 ≤ 7293034; omega⟩ (cwV 0 F.2.2.2.2 gL_law_X5_thrown rfl rfl rfl ⟨rfl, hd_X5_thrown⟩ ⟨(Nat.le_of_ble_eq_true rfl), (Nat.le_of_ble_eq_true rfl)⟩) rfl dL_law_799 dL_law_800 dL_law_803 dL_law_805 dL_law_810 dL_law_812 dL_law_815 dL_law_816 dL_law_817 dL_law_818 dL_law_820 dL_law_821 dL_law_822 dL_law_827 (fun H locs hL hS => ?_)
  exact W.widen (k := cells + 4) (n := slots + 24) (by omega) (by omega) (kk _ _ _ H locs ls hL hR2 hS (lv_sub hl [2, 3, 4, 5, 6] rfl))
set_option maxHeartbeats 4000000 in
theorem lc_12 {p : Program} {l : Launch} {e : Env} {s : State} {m : MethodId} {below : List Frame} {meth : Method} {c : Code} {H : Heap} {locs : List Loc} {cells slots : Nat} {Q : State → Prop} {ls : Array Slot} {D : va_G} {x q b L i : Nat} {xs : Nat → Int32} {μ ν : Mem} {w : Int64} (F : CallFix p m c code 7 s #[Value.ref b] wsL_law RL) (hlt : l.stackTraces = false) (hK : va_K D vwCl (tyX D) s) (hG : SGA (bge x) s s.heap) (hX : va_X b L xs s s.heap) (hbl : b < s.heap.size) (hbx : b < x) (hLb : L ≤ 2560) (hq : x + 357 ≤ q) (hik : i + 4 < L) (hL : LSx D x q μ ν w H) (hR : Rel μ ν) (hS : va_S (bge x) s.heap H locs) (hl : lv_has ls 7 (lwl b x q i)) (hc : cells ≤ 600000) (hs : slots ≤ 7000000)
    (kk : ∀ (μ' ν' : Mem) (w' : Int64) (H1 : Heap) (locs1 : List Loc) (ls1 : Array Slot), LSx D x q μ' ν' w' H1 → Rel μ' ν' → va_S (bge x) s.heap H1 locs1 → lv_has ls1 7 (lwl b x q i) → W p l e room_1 s m #[Value.ref b] below meth c H1 locs1 (cells + 4) (slots + 24) Q (F0 m 1984 ls1 [])) : W p l e room_1 s m #[Value.ref b] below meth c H locs cells slots Q (F0 m 830 ls []) := by
  obtain ⟨k, v, μ', b0, ν', h4, h5, hres, hR2⟩ := call_site  hR
  obtain ⟨cd, w2, hcd, hthr, hans⟩ := res1 (w := w) hres
  refine lv_aload_n F.1 F.2.1 dL_law_830 rfl (lv_at hl 1 rfl) ?_
  refine lv_aload_n F.1 F.2.1 dL_law_831 rfl (lv_at hl 3 rfl) ?_
  refine g_H F hK hG hq hL hS (c_L_site hlt (q_not hq)  h4 hcd) (vx_cwSW 2 F.2.2.2.2 gL_law_L_site rfl rfl rfl hd_L_site ⟨(Nat.le_of_ble_eq_true rfl), (Nat.le_of_ble_eq_true rfl)⟩) rfl (rest := []) rfl hl.1 (Nat.le_of_ble_eq_true rfl) dL_law_832 ⟨by show cells + 1 ≤ 601024; omega, by show slots + 6 ≤ 7293034; omega⟩ (fun H locs hL hS => ?_)
  refine lv_istore F.1 F.2.1 dL_law_835 hl (Nat.le_of_ble_eq_true rfl) rfl (fun ls hl => ?_)
  have hl : lv_has ls 7 ((5, .int cd) :: lwl b x q i) := hl
  refine lv_aload_n F.1 F.2.1 dL_law_837 rfl (lv_at hl 3 rfl) ?_
  refine g_M F hK hq hL hS (As := []) (c_X5_site  h5) (cwV 0 F.2.2.2.2 gL_law_X5_site rfl rfl rfl ⟨rfl, hd_X5_site⟩ ⟨(Nat.le_of_ble_eq_true rfl), (Nat.le_of_ble_eq_true rfl)⟩) rfl (rest := []) rfl hl.1 (Nat.le_of_ble_eq_true rfl) dL_law_838 ⟨by show cells + 1 ≤ 601024; omega, by show slots + 6 ≤ 7293034; omega⟩ (fun H locs hL hS => ?_)
  refine lv_istore F.1 F.2.1 dL_law_841 hl (Nat.le_of_ble_eq_true rfl) rfl (fun ls hl => ?_)
  have hl : lv_has ls 7 ((6, .int b0) :: (5, .int cd) :: lwl b x q i) := hl
  refine g_tail F hK hq hL hS hl hthr hans ⟨by show cells + 1 ≤ 601024; omega, by show slots + 6 ≤ 7293034; omega⟩ (cwV 0 F.2.2.2.2 gL_law_X5_thrown rfl rfl rfl ⟨rfl, hd_X5_thrown⟩ ⟨(Nat.le_of_ble_eq_true rfl), (Nat.le_of_ble_eq_true rfl)⟩) rfl dL_law_843 dL_law_844 dL_law_847 dL_law_849 dL_law_854 dL_law_856 dL_law_859 dL_law_860 dL_law_861 dL_law_862 dL_law_864 dL_law_865 dL_law_866 dL_law_871 (fun H locs hL hS => ?_)
  exact W.widen (k := cells + 4) (n := slots + 24) (by omega) (by omega) (kk _ _ _ H locs ls hL hR2 hS (lv_sub hl [2, 3, 4, 5, 6] rfl))
set_option maxHeartbeats 4000000 in
theorem lc_13 {p : Program} {l : Launch} {e : Env} {s : State} {m : MethodId} {below : List Frame} {meth : Method} {c : Code} {H : Heap} {locs : List Loc} {cells slots : Nat} {Q : State → Prop} {ls : Array Slot} {D : va_G} {x q b L i : Nat} {xs : Nat → Int32} {μ ν : Mem} {w : Int64} (F : CallFix p m c code 7 s #[Value.ref b] wsL_law RL) (hlt : l.stackTraces = false) (hK : va_K D vwCl (tyX D) s) (hG : SGA (bge x) s s.heap) (hX : va_X b L xs s s.heap) (hbl : b < s.heap.size) (hbx : b < x) (hLb : L ≤ 2560) (hq : x + 357 ≤ q) (hik : i + 4 < L) (hL : LSx D x q μ ν w H) (hR : Rel μ ν) (hS : va_S (bge x) s.heap H locs) (hl : lv_has ls 7 (lwl b x q i)) (hc : cells ≤ 600000) (hs : slots ≤ 7000000)
    (kk : ∀ (μ' ν' : Mem) (w' : Int64) (H1 : Heap) (locs1 : List Loc) (ls1 : Array Slot), LSx D x q μ' ν' w' H1 → Rel μ' ν' → va_S (bge x) s.heap H1 locs1 → lv_has ls1 7 (lwl b x q i) → W p l e room_1 s m #[Value.ref b] below meth c H1 locs1 (cells + 4) (slots + 24) Q (F0 m 1984 ls1 [])) : W p l e room_1 s m #[Value.ref b] below meth c H locs cells slots Q (F0 m 874 ls []) := by
  obtain ⟨k, v, μ', b0, ν', h4, h5, hres, hR2⟩ := call_tube (xs (i + 1)) (xs (i + 2)) hR
  obtain ⟨cd, w2, hcd, hthr, hans⟩ := res3 (w := w) hres
  refine lv_aload_n F.1 F.2.1 dL_law_874 rfl (lv_at hl 1 rfl) ?_
  refine g_arg F (k := 1) hX hbl hbx hS hLb (by omega) (lv_at hl 0 rfl) (lv_at hl 4 rfl) (by decide) dL_law_875 dL_law_876 dL_law_878 dL_law_879 dL_law_880 ?_
  refine g_arg F (k := 2) hX hbl hbx hS hLb (by omega) (lv_at hl 0 rfl) (lv_at hl 4 rfl) (by decide) dL_law_881 dL_law_882 dL_law_884 dL_law_885 dL_law_886 ?_
  refine lv_aload_n F.1 F.2.1 dL_law_887 rfl (lv_at hl 3 rfl) ?_
  refine g_H F hK hG hq hL hS (c_L_tube hlt (q_not hq) (xs (i + 1)) (xs (i + 2)) h4 hcd) (vx_cwSW 4 F.2.2.2.2 gL_law_L_tube rfl rfl rfl hd_L_tube ⟨(Nat.le_of_ble_eq_true rfl), (Nat.le_of_ble_eq_true rfl)⟩) rfl (rest := []) rfl hl.1 (Nat.le_of_ble_eq_true rfl) dL_law_888 ⟨by show cells + 1 ≤ 601024; omega, by show slots + 6 ≤ 7293034; omega⟩ (fun H locs hL hS => ?_)
  refine lv_istore F.1 F.2.1 dL_law_891 hl (Nat.le_of_ble_eq_true rfl) rfl (fun ls hl => ?_)
  have hl : lv_has ls 7 ((5, .int cd) :: lwl b x q i) := hl
  refine lv_aload_n F.1 F.2.1 dL_law_893 rfl (lv_at hl 3 rfl) ?_
  refine g_arg F (k := 1) hX hbl hbx hS hLb (by omega) (lv_at hl 1 rfl) (lv_at hl 5 rfl) (by decide) dL_law_894 dL_law_895 dL_law_897 dL_law_898 dL_law_899 ?_
  refine g_arg F (k := 2) hX hbl hbx hS hLb (by omega) (lv_at hl 1 rfl) (lv_at hl 5 rfl) (by decide) dL_law_900 dL_law_901 dL_law_903 dL_law_904 dL_law_905 ?_
  refine g_M F hK hq hL hS (As := [.int (xs (i + 1)), .int (xs (i + 2))]) (c_X5_tube (xs (i + 1)) (xs (i + 2)) h5) (cwV 2 F.2.2.2.2 gL_law_X5_tube rfl rfl rfl ⟨rfl, hd_X5_tube⟩ ⟨(Nat.le_of_ble_eq_true rfl), (Nat.le_of_ble_eq_true rfl)⟩) rfl (rest := []) rfl hl.1 (Nat.le_of_ble_eq_true rfl) dL_law_906 ⟨by show cells + 1 ≤ 601024; omega, by show slots + 6 ≤ 7293034; omega⟩ (fun H locs hL hS => ?_)
  refine lv_istore F.1 F.2.1 dL_law_909 hl (Nat.le_of_ble_eq_true rfl) rfl (fun ls hl => ?_)
  have hl : lv_has ls 7 ((6, .int b0) :: (5, .int cd) :: lwl b x q i) := hl
  refine g_tail F hK hq hL hS hl hthr hans ⟨by show cells + 1 ≤ 601024; omega, by show slots + 6 ≤ 7293034; omega⟩ (cwV 0 F.2.2.2.2 gL_law_X5_thrown rfl rfl rfl ⟨rfl, hd_X5_thrown⟩ ⟨(Nat.le_of_ble_eq_true rfl), (Nat.le_of_ble_eq_true rfl)⟩) rfl dL_law_911 dL_law_912 dL_law_915 dL_law_917 dL_law_922 dL_law_924 dL_law_927 dL_law_928 dL_law_929 dL_law_930 dL_law_932 dL_law_933 dL_law_934 dL_law_939 (fun H locs hL hS => ?_)
  exact W.widen (k := cells + 4) (n := slots + 24) (by omega) (by omega) (kk _ _ _ H locs ls hL hR2 hS (lv_sub hl [2, 3, 4, 5, 6] rfl))
set_option maxHeartbeats 4000000 in
theorem lc_14 {p : Program} {l : Launch} {e : Env} {s : State} {m : MethodId} {below : List Frame} {meth : Method} {c : Code} {H : Heap} {locs : List Loc} {cells slots : Nat} {Q : State → Prop} {ls : Array Slot} {D : va_G} {x q b L i : Nat} {xs : Nat → Int32} {μ ν : Mem} {w : Int64} (F : CallFix p m c code 7 s #[Value.ref b] wsL_law RL) (hlt : l.stackTraces = false) (hK : va_K D vwCl (tyX D) s) (hG : SGA (bge x) s s.heap) (hX : va_X b L xs s s.heap) (hbl : b < s.heap.size) (hbx : b < x) (hLb : L ≤ 2560) (hq : x + 357 ≤ q) (hik : i + 4 < L) (hL : LSx D x q μ ν w H) (hR : Rel μ ν) (hS : va_S (bge x) s.heap H locs) (hl : lv_has ls 7 (lwl b x q i)) (hc : cells ≤ 600000) (hs : slots ≤ 7000000)
    (kk : ∀ (μ' ν' : Mem) (w' : Int64) (H1 : Heap) (locs1 : List Loc) (ls1 : Array Slot), LSx D x q μ' ν' w' H1 → Rel μ' ν' → va_S (bge x) s.heap H1 locs1 → lv_has ls1 7 (lwl b x q i) → W p l e room_1 s m #[Value.ref b] below meth c H1 locs1 (cells + 4) (slots + 24) Q (F0 m 1984 ls1 [])) : W p l e room_1 s m #[Value.ref b] below meth c H locs cells slots Q (F0 m 942 ls []) := by
  obtain ⟨k, v, μ', b0, ν', h4, h5, hres, hR2⟩ := call_pipe (xs (i + 1)) (xs (i + 2)) hR
  obtain ⟨cd, w2, hcd, hthr, hans⟩ := res2 (w := w) hres
  refine lv_aload_n F.1 F.2.1 dL_law_942 rfl (lv_at hl 1 rfl) ?_
  refine g_arg F (k := 1) hX hbl hbx hS hLb (by omega) (lv_at hl 0 rfl) (lv_at hl 4 rfl) (by decide) dL_law_943 dL_law_944 dL_law_946 dL_law_947 dL_law_948 ?_
  refine g_arg F (k := 2) hX hbl hbx hS hLb (by omega) (lv_at hl 0 rfl) (lv_at hl 4 rfl) (by decide) dL_law_949 dL_law_950 dL_law_952 dL_law_953 dL_law_954 ?_
  refine lv_aload_n F.1 F.2.1 dL_law_955 rfl (lv_at hl 3 rfl) ?_
  refine g_H F hK hG hq hL hS (c_L_pipe hlt (q_not hq) (xs (i + 1)) (xs (i + 2)) h4 hcd) (vx_cwSW 4 F.2.2.2.2 gL_law_L_pipe rfl rfl rfl hd_L_pipe ⟨(Nat.le_of_ble_eq_true rfl), (Nat.le_of_ble_eq_true rfl)⟩) rfl (rest := []) rfl hl.1 (Nat.le_of_ble_eq_true rfl) dL_law_956 ⟨by show cells + 1 ≤ 601024; omega, by show slots + 6 ≤ 7293034; omega⟩ (fun H locs hL hS => ?_)
  refine lv_istore F.1 F.2.1 dL_law_959 hl (Nat.le_of_ble_eq_true rfl) rfl (fun ls hl => ?_)
  have hl : lv_has ls 7 ((5, .int cd) :: lwl b x q i) := hl
  refine lv_aload_n F.1 F.2.1 dL_law_961 rfl (lv_at hl 3 rfl) ?_
  refine g_arg F (k := 1) hX hbl hbx hS hLb (by omega) (lv_at hl 1 rfl) (lv_at hl 5 rfl) (by decide) dL_law_962 dL_law_963 dL_law_965 dL_law_966 dL_law_967 ?_
  refine g_arg F (k := 2) hX hbl hbx hS hLb (by omega) (lv_at hl 1 rfl) (lv_at hl 5 rfl) (by decide) dL_law_968 dL_law_969 dL_law_971 dL_law_972 dL_law_973 ?_
  refine g_M F hK hq hL hS (As := [.int (xs (i + 1)), .int (xs (i + 2))]) (c_X5_pipe (xs (i + 1)) (xs (i + 2)) h5) (cwV 2 F.2.2.2.2 gL_law_X5_pipe rfl rfl rfl ⟨rfl, hd_X5_pipe⟩ ⟨(Nat.le_of_ble_eq_true rfl), (Nat.le_of_ble_eq_true rfl)⟩) rfl (rest := []) rfl hl.1 (Nat.le_of_ble_eq_true rfl) dL_law_974 ⟨by show cells + 1 ≤ 601024; omega, by show slots + 6 ≤ 7293034; omega⟩ (fun H locs hL hS => ?_)
  refine lv_istore F.1 F.2.1 dL_law_977 hl (Nat.le_of_ble_eq_true rfl) rfl (fun ls hl => ?_)
  have hl : lv_has ls 7 ((6, .int b0) :: (5, .int cd) :: lwl b x q i) := hl
  refine g_tail F hK hq hL hS hl hthr hans ⟨by show cells + 1 ≤ 601024; omega, by show slots + 6 ≤ 7293034; omega⟩ (cwV 0 F.2.2.2.2 gL_law_X5_thrown rfl rfl rfl ⟨rfl, hd_X5_thrown⟩ ⟨(Nat.le_of_ble_eq_true rfl), (Nat.le_of_ble_eq_true rfl)⟩) rfl dL_law_979 dL_law_980 dL_law_983 dL_law_985 dL_law_990 dL_law_992 dL_law_995 dL_law_996 dL_law_997 dL_law_998 dL_law_1000 dL_law_1001 dL_law_1002 dL_law_1007 (fun H locs hL hS => ?_)
  exact W.widen (k := cells + 4) (n := slots + 24) (by omega) (by omega) (kk _ _ _ H locs ls hL hR2 hS (lv_sub hl [2, 3, 4, 5, 6] rfl))
