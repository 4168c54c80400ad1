/-! THE CLAIM OUT OF ONE WALK OF THE LAW'S BODY. Your part is whole_start (and what it stands on); all else here is the same for every law, but numbers. -/
def R_law : String := "FrostTubesLaw"
def lw_P (b : Addr) (xs : List Int32) (args : Array Value) (s : State) : Prop := args = #[.ref b] ∧ s.IntsAt b xs ∧ xs.length ≤ 260 ∧ (Jvm.Cond.and given_1 narrow_1).before args s = true
def lw_Q (_ : Array Value) (s : State) (o : Outcome) (t : State) : Prop := o = .returned (some (.int 1)) ∧ Framed s o t [] 600104 7301314
def lw_Z (below : List Frame) (a : Array Value) (s : State) : State → Prop := fun t => ∃ o, t.status = .running ∧ Ended t below o ∧ lw_Q a s o t
/-- the law's own end, with 1 on the stack, nothing written that was there before, its room as the claim has it -/
theorem lw_ret {p : Program} {l : Launch} {e : Env} {s : State} {m : MethodId} {below : List Frame} {meth : Method} {c : Code} {b : Nat} (hx : p.tables.exec = Jvm.exec) (hb : c.code = code) (hr : meth.sig.returnType = ret) (hlocks : meth.locks = false) {pc : Nat} {H : Heap} {ls : Array Slot} (hdg : decode code pc = .ok (.ireturn, 1)) : W p l e room_1 s m #[Value.ref b] below meth c H [] 600104 7301314 (lw_Z below #[Value.ref b] s) (F0 m pc ls [.int 1]) := by
  intro T hT X
  obtain ⟨fs, hret, hrun, hended, hW, hframe⟩ := X.leave (v := some (.int 1)) (hlocks := hlocks) (fun h => by rw [hr] at h; cases h)
  have hmeth' : T.vm.method? m = some meth := X.method'
  refine ⟨T.setFrames fs, ?_, .returned (some (.int 1)), hrun, hended, rfl, ⟨_, rfl⟩, hW, hframe⟩
  jvm_step X.here [X.here.top, hx, hb, hdg, hmeth', hr, ret, narrow_b1]
  (try refine ⟨rfl, ?_⟩); (try refine ⟨rfl, ?_⟩)
  first | (intro acts; rw [hret _ acts rfl rfl rfl]) | rw [hret _ _ rfl rfl rfl]
  exact Steps.refl _
/-- what holds at the law's entry: the machine, the code, the tables' words (any of lw_tbl by 'hts w (by decide +kernel)'), the script of L ints xs at the cell b, what the Statement gives of the start (any of its parts by flat_of_before) -/
def lw_At (p : Program) (s : State) (m : MethodId) (meth : Method) (c : Code) (b L : Nat) (xs : Nat → Int32) : Prop :=
  p.tables.exec = Jvm.exec ∧ c.code = code ∧ meth.sig.returnType = ret ∧ c.maxLocals = 7 ∧ s.vm.findClass R_law = some m.cls ∧ (∀ w ∈ lw_tbl, w.before #[Value.ref b] s = true) ∧ va_X b L xs s s.heap ∧ b < s.heap.size ∧ meth.locks = false ∧ (Jvm.Cond.and given_1 narrow_1).before #[Value.ref b] s = true
def lq (X b k : Nat) : List (Nat × Value) := [(4, .int (nI k)), (3, .int 1), (2, .ref (X + 349 + 0)), (1, .ref (X + 0)), (0, .ref b)]
def lq6 (X b k : Nat) (u v : Int32) : List (Nat × Value) := [(3, .int 1), (6, .int v), (5, .int u), (4, .int (nI k)), (2, .ref (X + 349 + 0)), (1, .ref (X + 0)), (0, .ref b)]
/-- how many cells may be gone when the k-th round begins -/
def bd (k : Nat) : Nat := 60000 + 1000 * k + 38700 * ((k + 4) / 8) + 31400 * (k / 12) + 2500 * ((k + 9) / 10)
theorem bx_x (X : Nat) : ∀ a, rng X a → bge X a := fun _ h => h.1
theorem bx_y (X : Nat) : ∀ a, rng (X + 349) a → bge X a := fun a h => by
  have h1 := h.1
  show X ≤ a
  omega
theorem bx_2 (X : Nat) : ∀ a, rng2 X (X + 349) a → bge X a := fun a h => h.elim (bx_x X a) (bx_y X a)
theorem bx_d (X : Nat) : ∀ a, rng X a → ¬ rng (X + 349) a := fun a h1 h2 => by
  have h3 := h1.2
  have h4 := h2.1
  omega
theorem bx_d' (X : Nat) : ∀ a, rng (X + 349) a → ¬ rng X a := fun a h1 h2 => bx_d X a h2 h1
section LQ
variable {p : Program} {l : Launch} {e : Env} {s : State} {m : MethodId} {below : List Frame} {meth : Method} {c : Code} {D : va_G} {b L : Nat} {xs : Nat → Int32}
theorem law_tail (F : CallFix p m c code 7 s #[Value.ref b] wsL_law RL) (hlt : l.stackTraces = false) (hK : va_K D vwCl (tyX D) s) (hG : SGA (bge s.heap.size) s s.heap) {k CB : Nat} {u v : Int32} (hk36 : k < 36) {μ ν : Mem} {H : Heap} {locs : List Loc} {ls : Array Slot} {cells slots : Nat} (hpq : PQ μ ν) (hP : va_P D vwCl (WL D s.heap.size μ) H) (hR : va_P D vwCl (WL D (s.heap.size + 349) ν) H) (hS : va_S (bge s.heap.size) s.heap H locs) (hl : lv_has ls 7 (lq6 s.heap.size b k u v)) (h1 : k % 10 = 0 → cells + 2420 ≤ CB ∧ slots + 14520 ≤ 6 * CB) (h2 : cells ≤ CB ∧ slots ≤ 6 * CB) (hCB : CB ≤ 500000)
    (kk : (∀ (μ ν : Mem) (H : Heap) (locs : List Loc) (ls : Array Slot) (cells slots : Nat), PQ μ ν → va_P D vwCl (WL D s.heap.size μ) H → va_P D vwCl (WL D (s.heap.size + 349) ν) H → va_S (bge s.heap.size) s.heap H locs → lv_has ls 7 (lq s.heap.size b (k + 1)) → cells ≤ CB → slots ≤ 6 * CB → W p l e room_1 s m #[Value.ref b] below meth c H locs cells slots (lw_Z below #[Value.ref b] s) (F0 m 52 ls []))) : W p l e room_1 s m #[Value.ref b] below meth c H locs cells slots (lw_Z below #[Value.ref b] s) (F0 m 237 ls []) := by
  have fin : ∀ (μ ν : Mem) (H : Heap) (locs : List Loc) (cells slots : Nat), PQ μ ν → va_P D vwCl (WL D s.heap.size μ) H → va_P D vwCl (WL D (s.heap.size + 349) ν) H → va_S (bge s.heap.size) s.heap H locs → cells ≤ CB → slots ≤ 6 * CB → W p l e room_1 s m #[Value.ref b] below meth c H locs cells slots (lw_Z below #[Value.ref b] s) (F0 m 259 ls []) := by
    intro μ ν H locs cells slots hpq hP hR hS c1 c2
    refine lv_iconst (v := (1 : Int32)) F.1 F.2.1 dL_law_259 (by decide) ?_
    refine lv_goto (tgt := 264) F.1 F.2.1 dL_law_260 rfl ?_
    refine lv_istore_n F.1 F.2.1 dL_law_264 rfl hl (Nat.le_of_ble_eq_true rfl) rfl (fun ls hl => ?_)
    refine lv_iinc (v := nI (k + 1)) F.1 F.2.1 dL_law_265 hl (k := 3) rfl (add_nI k 1) (Nat.le_of_ble_eq_true rfl) rfl (fun ls hl => ?_)
    refine lv_goto (tgt := 52) F.1 F.2.1 dL_law_268 rfl ?_
    exact kk μ ν H locs ls cells slots hpq hP hR hS (lv_sub hl [0, 1, 4, 5, 6] rfl) c1 c2
  have e10 : nI k - nI k / (10 : Int32) * (10 : Int32) = nI (k % 10) := rem_nI (k := 10) (by omega) (by omega) (by omega)
  refine lv_iload_n F.1 F.2.1 dL_law_237 rfl (lv_at hl 0 rfl) ?_
  refine lv_if_eq (tgt := 263) F.1 F.2.1 dL_law_238 rfl (fun h => absurd h i10) (fun _ => ?_)
  refine lv_iload F.1 F.2.1 dL_law_241 (lv_at hl 3 rfl) ?_
  refine lv_bipush (v := (10 : Int32)) F.1 F.2.1 dL_law_243 (by decide) ?_
  refine lv_irem F.1 F.2.1 dL_law_245 (by decide) ?_
  rw [e10]
  refine lv_if_gt (tgt := 259) F.1 F.2.1 dL_law_246 rfl (fun _ => fin μ ν H locs cells slots hpq hP hR hS h2.1 h2.2) (fun h => ?_)
  have hk0 : k % 10 = 0 := by
    have h3 : ¬ nI 0 < nI (k % 10) := h
    rw [lt_nI (by omega) (by omega)] at h3
    omega
  obtain ⟨h4, h5⟩ := h1 hk0
  obtain ⟨μ', ν', hq, hM⟩ := c_L_alike hlt (D := D) (bx_d s.heap.size) v hpq
  refine lv_aload_n F.1 F.2.1 dL_law_249 rfl (lv_at hl 5 rfl) ?_
  refine lv_aload_n F.1 F.2.1 dL_law_250 rfl (lv_at hl 4 rfl) ?_
  refine lv_iload F.1 F.2.1 dL_law_251 (lv_at hl 1 rfl) ?_
  refine a_A F hK hG (bx_2 _) hP hR hS hM (va_cwS 3 F.2.2.2.2 gW_alike rfl rfl rfl hd_L_alike ⟨(Nat.le_of_ble_eq_true rfl), (Nat.le_of_ble_eq_true rfl)⟩) rfl hl.1 (rest := []) (Nat.le_of_ble_eq_true rfl) dL_law_253 ⟨(by show _ ≤ 600104; omega), (by show _ ≤ 7301314; omega)⟩ (fun H locs hP hR hS => ?_)
  refine lv_if_eq (tgt := 263) F.1 F.2.1 dL_law_256 rfl (fun h => absurd h i10) (fun _ => ?_)
  exact fin μ' ν' H locs _ _ hq hP hR hS h4 h5
set_option maxHeartbeats 2000000 in
set_option maxRecDepth 100000 in
theorem law_mid2 (F : CallFix p m c code 7 s #[Value.ref b] wsL_law RL) (hlt : l.stackTraces = false) (hK : va_K D vwCl (tyX D) s) (hG : SGA (bge s.heap.size) s s.heap) {k CB v : Nat} {u : Int32} (hv : v < 2147483648) (hk36 : k < 36) {μ ν : Mem} {H : Heap} {locs : List Loc} {ls : Array Slot} {cells slots : Nat} (hpq : PQ μ ν) (hP : va_P D vwCl (WL D s.heap.size μ) H) (hR : va_P D vwCl (WL D (s.heap.size + 349) ν) H) (hS : va_S (bge s.heap.size) s.heap H locs) (hl : lv_has ls 7 (lq6 s.heap.size b k u (nI v))) (h1 : k % 12 = 11 → cells + 31333 ≤ CB ∧ slots + 187998 ≤ 6 * CB) (h2 : cells ≤ CB ∧ slots ≤ 6 * CB) (hCB : CB ≤ 500000)
    (kk : (∀ (μ ν : Mem) (H : Heap) (locs : List Loc) (ls : Array Slot) (cells slots : Nat), PQ μ ν → va_P D vwCl (WL D s.heap.size μ) H → va_P D vwCl (WL D (s.heap.size + 349) ν) H → va_S (bge s.heap.size) s.heap H locs → lv_has ls 7 (lq6 s.heap.size b k u (nI v)) → cells ≤ CB → slots ≤ 6 * CB → W p l e room_1 s m #[Value.ref b] below meth c H locs cells slots (lw_Z below #[Value.ref b] s) (F0 m 237 ls []))) : W p l e room_1 s m #[Value.ref b] below meth c H locs cells slots (lw_Z below #[Value.ref b] s) (F0 m 188 ls []) := by
  have e12 : nI k - nI k / (12 : Int32) * (12 : Int32) = nI (k % 12) := rem_nI (k := 12) (by omega) (by omega) (by omega)
  refine lv_iload F.1 F.2.1 dL_law_188 (lv_at hl 3 rfl) ?_
  refine lv_bipush (v := (12 : Int32)) F.1 F.2.1 dL_law_190 (by decide) ?_
  refine lv_irem F.1 F.2.1 dL_law_192 (by decide) ?_
  rw [e12]
  refine lv_bipush (v := (11 : Int32)) F.1 F.2.1 dL_law_193 (by decide) ?_
  refine lv_icmp_ne (tgt := 237) F.1 F.2.1 dL_law_195 rfl (fun _ => kk μ ν H locs ls cells slots hpq hP hR hS hl h2.1 h2.2) (fun h => ?_)
  have hk11 : k % 12 = 11 := (eq_nI (b := 11) (by omega) (by omega)).mp h
  obtain ⟨h4, h5⟩ := h1 hk11
  obtain ⟨q', p2, p3, a1, a2, f1, f2, f3, f4, f5, hq⟩ := pq_follows hv hpq
  refine lv_iload_n F.1 F.2.1 dL_law_198 rfl (lv_at hl 0 rfl) ?_
  refine lv_if_eq (tgt := 235) F.1 F.2.1 dL_law_199 rfl (fun h => absurd h i10) (fun _ => ?_)
  refine lv_aload_n F.1 F.2.1 dL_law_202 rfl (lv_at hl 4 rfl) ?_
  refine lv_iload F.1 F.2.1 dL_law_203 (lv_at hl 1 rfl) ?_
  refine a_S F hK (a_sl hG hS (bx_y _)) (bx_y _) hR hS (c_L_follows hlt _ f1) (va_cwS 2 F.2.2.2.2 gW_follows rfl rfl rfl hd_L_follows ⟨(Nat.le_of_ble_eq_true rfl), (Nat.le_of_ble_eq_true rfl)⟩) rfl rfl hl.1 (Nat.le_of_ble_eq_true rfl) dL_law_205 ⟨(by show _ ≤ 600104; omega), (by show _ ≤ 7301314; omega)⟩ (rest := []) (fun H locs hR hS hk => ?_)
  have hP := w_keep (bx_d _) hP hk
  clear hk
  refine W.eq (g2 := F0 m 208 ls [.int 1]) rfl ?_
  refine lv_if_eq (tgt := 235) F.1 F.2.1 dL_law_208 rfl (fun h => absurd h i10) (fun _ => ?_)
  refine lv_aload_n F.1 F.2.1 dL_law_211 rfl (lv_at hl 5 rfl) ?_
  refine lv_iconst (v := (1 : Int32)) F.1 F.2.1 dL_law_212 (by decide) ?_
  refine a_H F hK (a_sl hG hS (bx_x _)) (bx_x _) hP hS (c_L_save hlt _ f2) (vx_cwSW 2 F.2.2.2.2 gW_save rfl rfl rfl hd_L_save ⟨(Nat.le_of_ble_eq_true rfl), (Nat.le_of_ble_eq_true rfl)⟩) rfl rfl hl.1 (Nat.le_of_ble_eq_true rfl) dL_law_213 ⟨(by show _ ≤ 600104; omega), (by show _ ≤ 7301314; omega)⟩ (rest := []) (fun H locs hP hS hk => ?_)
  have hR := w_keep (bx_d' _) hR hk
  clear hk
  refine W.eq (g2 := F0 m 216 ls [.long (nL a1)]) rfl ?_
  refine lv_lconst (v := (0 : Int64)) F.1 F.2.1 dL_law_216 rfl ?_
  refine W.lcmp F.1 F.2.1 dL_law_217 ?_
  refine lv_if_lt (tgt := 235) F.1 F.2.1 dL_law_218 rfl (fun h => absurd h (nlt0 (by omega))) (fun _ => ?_)
  refine lv_aload_n F.1 F.2.1 dL_law_221 rfl (lv_at hl 5 rfl) ?_
  refine lv_iconst (v := (1 : Int32)) F.1 F.2.1 dL_law_222 (by decide) ?_
  refine a_H F hK (a_sl hG hS (bx_x _)) (bx_x _) hP hS (c_L_restore hlt _ f3) (vx_cwSW 2 F.2.2.2.2 gW_restore rfl rfl rfl hd_L_restore ⟨(Nat.le_of_ble_eq_true rfl), (Nat.le_of_ble_eq_true rfl)⟩) rfl rfl hl.1 (Nat.le_of_ble_eq_true rfl) dL_law_223 ⟨(by show _ ≤ 600104; omega), (by show _ ≤ 7301314; omega)⟩ (rest := []) (fun H locs hP hS hk => ?_)
  have hR := w_keep (bx_d' _) hR hk
  clear hk
  refine W.eq (g2 := F0 m 226 ls [.long (nL a2)]) rfl ?_
  refine lv_lconst (v := (0 : Int64)) F.1 F.2.1 dL_law_226 rfl ?_
  refine W.lcmp F.1 F.2.1 dL_law_227 ?_
  refine lv_if_lt (tgt := 235) F.1 F.2.1 dL_law_228 rfl (fun h => absurd h (nlt0 (by omega))) (fun _ => ?_)
  refine lv_iconst (v := (1 : Int32)) F.1 F.2.1 dL_law_231 (by decide) ?_
  refine lv_goto (tgt := 236) F.1 F.2.1 dL_law_232 rfl ?_
  refine lv_istore_n F.1 F.2.1 dL_law_236 rfl hl (Nat.le_of_ble_eq_true rfl) rfl (fun ls hl => ?_)
  exact kk _ _ H locs ls _ _ hq hP hR hS (lv_sub hl [0, 1, 2, 3, 4, 5, 6] rfl) (by omega) (by omega)
set_option maxHeartbeats 2000000 in
set_option maxRecDepth 100000 in
theorem law_mid1 (F : CallFix p m c code 7 s #[Value.ref b] wsL_law RL) (hlt : l.stackTraces = false) (hK : va_K D vwCl (tyX D) s) (hG : SGA (bge s.heap.size) s s.heap) {k CB : Nat} {u v : Int32} (hk36 : k < 36) {μ ν : Mem} {H : Heap} {locs : List Loc} {ls : Array Slot} {cells slots : Nat} (hpq : PQ μ ν) (hP : va_P D vwCl (WL D s.heap.size μ) H) (hR : va_P D vwCl (WL D (s.heap.size + 349) ν) H) (hS : va_S (bge s.heap.size) s.heap H locs) (hl : lv_has ls 7 (lq6 s.heap.size b k u v)) (h1 : k % 8 = 3 → cells + 38657 ≤ CB ∧ slots + 231942 ≤ 6 * CB) (h2 : cells ≤ CB ∧ slots ≤ 6 * CB) (hCB : CB ≤ 500000)
    (kk : (∀ (μ ν : Mem) (H : Heap) (locs : List Loc) (ls : Array Slot) (cells slots : Nat), PQ μ ν → va_P D vwCl (WL D s.heap.size μ) H → va_P D vwCl (WL D (s.heap.size + 349) ν) H → va_S (bge s.heap.size) s.heap H locs → lv_has ls 7 (lq6 s.heap.size b k u v) → cells ≤ CB → slots ≤ 6 * CB → W p l e room_1 s m #[Value.ref b] below meth c H locs cells slots (lw_Z below #[Value.ref b] s) (F0 m 188 ls []))) : W p l e room_1 s m #[Value.ref b] below meth c H locs cells slots (lw_Z below #[Value.ref b] s) (F0 m 155 ls []) := by
  have e8 : nI k - nI k / (8 : Int32) * (8 : Int32) = nI (k % 8) := rem_nI (k := 8) (by omega) (by omega) (by omega)
  refine lv_iload F.1 F.2.1 dL_law_155 (lv_at hl 3 rfl) ?_
  refine lv_bipush (v := (8 : Int32)) F.1 F.2.1 dL_law_157 (by decide) ?_
  refine lv_irem F.1 F.2.1 dL_law_159 (by decide) ?_
  rw [e8]
  refine lv_iconst (v := (3 : Int32)) F.1 F.2.1 dL_law_160 (by decide) ?_
  refine lv_icmp_ne (tgt := 188) F.1 F.2.1 dL_law_161 rfl (fun _ => kk μ ν H locs ls cells slots hpq hP hR hS hl h2.1 h2.2) (fun h => ?_)
  have hk3 : k % 8 = 3 := (eq_nI (b := 3) (by omega) (by omega)).mp h
  obtain ⟨h4, h5⟩ := h1 hk3
  have hpq2 := hpq
  obtain ⟨ρ, r1, r2, j1, j2⟩ := hpq2
  have f1 := errors_1 r2
  have f2 := kept_1 (mj_0 j2)
  refine lv_iload_n F.1 F.2.1 dL_law_164 rfl (lv_at hl 0 rfl) ?_
  refine lv_if_eq (tgt := 186) F.1 F.2.1 dL_law_165 rfl (fun h => absurd h i10) (fun _ => ?_)
  refine lv_aload_n F.1 F.2.1 dL_law_168 rfl (lv_at hl 4 rfl) ?_
  refine a_S F hK (a_sl hG hS (bx_y _)) (bx_y _) hR hS (c_L_errors hlt f1) (va_cwS 1 F.2.2.2.2 gW_errors rfl rfl rfl hd_L_errors ⟨(Nat.le_of_ble_eq_true rfl), (Nat.le_of_ble_eq_true rfl)⟩) rfl rfl hl.1 (Nat.le_of_ble_eq_true rfl) dL_law_169 ⟨(by show _ ≤ 600104; omega), (by show _ ≤ 7301314; omega)⟩ (rest := []) (fun H locs hR hS hk => ?_)
  have hP := w_keep (bx_d _) hP hk
  clear hk
  refine W.eq (g2 := F0 m 172 ls [.int 1]) rfl ?_
  refine lv_if_eq (tgt := 186) F.1 F.2.1 dL_law_172 rfl (fun h => absurd h i10) (fun _ => ?_)
  refine lv_aload_n F.1 F.2.1 dL_law_175 rfl (lv_at hl 4 rfl) ?_
  refine a_S F hK (a_sl hG hS (bx_y _)) (bx_y _) hR hS (c_L_kept hlt f2) (va_cwS 1 F.2.2.2.2 gW_kept rfl rfl rfl hd_L_kept ⟨(Nat.le_of_ble_eq_true rfl), (Nat.le_of_ble_eq_true rfl)⟩) rfl rfl hl.1 (Nat.le_of_ble_eq_true rfl) dL_law_176 ⟨(by show _ ≤ 600104; omega), (by show _ ≤ 7301314; omega)⟩ (rest := []) (fun H locs hR hS hk => ?_)
  have hP := w_keep (bx_d _) hP hk
  clear hk
  refine W.eq (g2 := F0 m 179 ls [.int 1]) rfl ?_
  refine lv_if_eq (tgt := 186) F.1 F.2.1 dL_law_179 rfl (fun h => absurd h i10) (fun _ => ?_)
  refine lv_iconst (v := (1 : Int32)) F.1 F.2.1 dL_law_182 (by decide) ?_
  refine lv_goto (tgt := 187) F.1 F.2.1 dL_law_183 rfl ?_
  refine lv_istore_n F.1 F.2.1 dL_law_187 rfl hl (Nat.le_of_ble_eq_true rfl) rfl (fun ls hl => ?_)
  exact kk μ ν H locs ls _ _ hpq hP hR hS (lv_sub hl [0, 1, 2, 3, 4, 5, 6] rfl) (by omega) (by omega)
end LQ
