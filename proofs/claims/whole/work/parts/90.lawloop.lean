/-! words, the loop (its frame: the skeleton of the kit, a starting text) -/
theorem lwd_n0 : Cond.instantiable RX0 15 ∈ wsL_law := List.mem_of_getElem? (i := 19) (by decide +kernel)
theorem lwd_n1 : Cond.instantiable RX1 3 ∈ wsL_law := List.mem_of_getElem? (i := 25) (by decide +kernel)
theorem lwd_n2 : Cond.instantiable RX2 6 ∈ wsL_law := List.mem_of_getElem? (i := 50) (by decide +kernel)
theorem lwd_n3 : Cond.instantiable RX3 8 ∈ wsL_law := List.mem_of_getElem? (i := 15) (by decide +kernel)
theorem lwd_n4 : Cond.instantiable RX4 7 ∈ wsL_law := List.mem_of_getElem? (i := 1) (by decide +kernel)
theorem lwd_n5 : Cond.instantiable RX5 13 ∈ wsL_law := List.mem_of_getElem? (i := 4) (by decide +kernel)
theorem lwd_i4 : Cond.initialized RX4 ∈ wsL_law := List.mem_of_getElem? (i := 2) (by decide +kernel)
theorem lwd_i5 : Cond.initialized RX5 ∈ wsL_law := List.mem_of_getElem? (i := 5) (by decide +kernel)
theorem lwd_c4 : Cond.classLink RL 8 RX4 ∈ wsL_law := List.mem_of_getElem? (i := 0) (by decide +kernel)
theorem lwd_c5 : Cond.classLink RL 101 RX5 ∈ wsL_law := List.mem_of_getElem? (i := 3) (by decide +kernel)
theorem lwd_m4 : Cond.methodLink RL 100 yX4_init ∈ wsL_law := List.mem_of_getElem? (i := 8) (by decide +kernel)
theorem lwd_m5 : Cond.methodLink RL 103 yX5_init ∈ wsL_law := List.mem_of_getElem? (i := 68) (by decide +kernel)
theorem lwd_s4 : Cond.instanceMethod yX4_init ∈ wsL_law := List.mem_of_getElem? (i := 9) (by decide +kernel)
theorem lwd_s5 : Cond.instanceMethod yX5_init ∈ wsL_law := List.mem_of_getElem? (i := 69) (by decide +kernel)
/-! THE CLAIM OUT OF ONE WALK OF THE LAW'S BODY. Your part is whole_start (and what it stands on); all else here is the same for every law, but numbers. -/
def R_law : String := "FrostTubesLaw"
def lw_P (b : Addr) (xs : List Int32) (args : Array Value) (s : State) : Prop := args = #[.ref b] ∧ s.IntsAt b xs ∧ xs.length ≤ 2560 ∧ (Jvm.Cond.and given_1 narrow_1).before args s = true
def lw_Q (_ : Array Value) (s : State) (o : Outcome) (t : State) : Prop := o = .returned (some (.int 1)) ∧ Framed s o t [] 601024 7293034
def lw_Z (below : List Frame) (a : Array Value) (s : State) : State → Prop := fun t => ∃ o, t.status = .running ∧ Ended t below o ∧ lw_Q a s o t
/-- the law's own end, with 1 on the stack, nothing written that was there before, its room as the claim has it -/
theorem lw_ret {p : Program} {l : Launch} {e : Env} {s : State} {m : MethodId} {below : List Frame} {meth : Method} {c : Code} {b : Nat} (hx : p.tables.exec = Jvm.exec) (hb : c.code = code) (hr : meth.sig.returnType = ret) (hlocks : meth.locks = false) {pc : Nat} {H : Heap} {ls : Array Slot} (hdg : decode code pc = .ok (.ireturn, 1)) : W p l e room_1 s m #[Value.ref b] below meth c H [] 601024 7293034 (lw_Z below #[Value.ref b] s) (F0 m pc ls [.int 1]) := by
  intro T hT X
  obtain ⟨fs, hret, hrun, hended, hW, hframe⟩ := X.leave (v := some (.int 1)) (hlocks := hlocks) (fun h => by rw [hr] at h; cases h)
  have hmeth' : T.vm.method? m = some meth := X.method'
  refine ⟨T.setFrames fs, ?_, .returned (some (.int 1)), hrun, hended, rfl, ⟨_, rfl⟩, hW, hframe⟩
  jvm_step X.here [X.here.top, hx, hb, hdg, hmeth', hr, ret, narrow_b1]
  (try refine ⟨rfl, ?_⟩); (try refine ⟨rfl, ?_⟩)
  first | (intro acts; rw [hret _ acts rfl rfl rfl]) | rw [hret _ _ rfl rfl rfl]
  exact Steps.refl _
/-- what holds at the law's entry: the machine, the code, the tables' words (any of lw_tbl by 'hts w (by decide +kernel)'), the script of L ints xs at the cell b, what the Statement gives of the start (any of its parts by flat_of_before) -/
def lw_At (p : Program) (s : State) (m : MethodId) (meth : Method) (c : Code) (b L : Nat) (xs : Nat → Int32) : Prop :=
  p.tables.exec = Jvm.exec ∧ c.code = code ∧ meth.sig.returnType = ret ∧ c.maxLocals = 7 ∧ s.vm.findClass R_law = some m.cls ∧ (∀ w ∈ lw_tbl, w.before #[Value.ref b] s = true) ∧ va_X b L xs s s.heap ∧ b < s.heap.size ∧ meth.locks = false ∧ (Jvm.Cond.and given_1 narrow_1).before #[Value.ref b] s = true
theorem law_loop {p : Program} {l : Launch} {e : Env} {s : State} {m : MethodId} {below : List Frame} {meth : Method} {c : Code} {D : va_G} {q b L : Nat} {xs : Nat → Int32} (F : CallFix p m c code 7 s #[Value.ref b] wsL_law RL) (hlt : l.stackTraces = false) (hK : va_K D vwCl (tyX D) s) (hG : SGA (bge s.heap.size) s s.heap) (hX : va_X b L xs s s.heap) (hbl : b < s.heap.size) (hLb : L ≤ 2560) (hq : s.heap.size + 357 ≤ q) (hr : meth.sig.returnType = ret) (hlk : meth.locks = false) :
    ∀ (n i : Nat) (μ ν : Mem) (w : Int64) (H : Heap) (locs : List Loc) (ls : Array Slot) (cells slots : Nat), L < i + 5 + n → i ≤ 3000 → cells + 4 * n ≤ 600000 → slots + 24 * n ≤ 7000000 → LSx D s.heap.size q μ ν w H → Rel μ ν → va_S (bge s.heap.size) s.heap H locs → lv_has ls 7 (lwl b s.heap.size q i) → W p l e room_1 s m #[Value.ref b] below meth c H locs cells slots (lw_Z below #[Value.ref b] s) (F0 m 23 ls []) := by
  have hbA : ¬ bge s.heap.size b := fun h => by
    have : s.heap.size ≤ b := h
    omega
  intro n
  induction n with
  | zero =>
    intro i μ ν w H locs ls cells slots hn hi hc hs hL hR hS hl
    refine lv_iload F.1 F.2.1 dL_law_23 (lv_at hl 4 rfl) ?_
    refine lv_aload_n F.1 F.2.1 dL_law_25 rfl (lv_at hl 0 rfl) ?_
    refine va_slen F.1 F.2.1 hX hbl hbA hS dL_law_26 ?_
    refine lv_iconst (v := nI 5) F.1 F.2.1 dL_law_27 (by decide) ?_
    refine lv_isub F.1 F.2.1 dL_law_28 ?_
    have hsub : (Int32.ofNat L - nI 5).toInt = (L : Int) - 5 := pk_sub_toInt (a := L) (b := 5) (by omega) (by omega)
    have hii : (nI i).toInt = (i : Int) := nI_toInt (by omega)
    refine lv_icmp_gt (tgt := 1990) F.1 F.2.1 dL_law_29 rfl (fun _ => ?_) (fun h => absurd (by rw [Int32.lt_iff_toInt_lt, hsub, hii]; omega) h)
    refine lv_iconst (v := (1 : Int32)) F.1 F.2.1 dL_law_1990 (by decide) ?_
    refine va_forget (fun z hz => hS.2.2 z hz) ?_
    refine W.widen (k := 601024) (n := 7293034) (by omega) (by omega) ?_
    exact lw_ret F.1 F.2.1 hr hlk dL_law_1991
  | succ n ih =>
    intro i μ ν w H locs ls cells slots hn hi hc hs hL hR hS hl
    refine lv_iload F.1 F.2.1 dL_law_23 (lv_at hl 4 rfl) ?_
    refine lv_aload_n F.1 F.2.1 dL_law_25 rfl (lv_at hl 0 rfl) ?_
    refine va_slen F.1 F.2.1 hX hbl hbA hS dL_law_26 ?_
    refine lv_iconst (v := nI 5) F.1 F.2.1 dL_law_27 (by decide) ?_
    refine lv_isub F.1 F.2.1 dL_law_28 ?_
    have hsub : (Int32.ofNat L - nI 5).toInt = (L : Int) - 5 := pk_sub_toInt (a := L) (b := 5) (by omega) (by omega)
    have hii : (nI i).toInt = (i : Int) := nI_toInt (by omega)
    refine lv_icmp_gt (tgt := 1990) F.1 F.2.1 dL_law_29 rfl (fun _ => ?_) (fun h => ?_)
    · skip
      refine lv_iconst (v := (1 : Int32)) F.1 F.2.1 dL_law_1990 (by decide) ?_
      refine va_forget (fun z hz => hS.2.2 z hz) ?_
      refine W.widen (k := 601024) (n := 7293034) (by omega) (by omega) ?_
      exact lw_ret F.1 F.2.1 hr hlk dL_law_1991
    · have hik : i + 4 < L := by
        rw [Int32.lt_iff_toInt_lt, hsub, hii] at h
        omega
      have cont : ∀ (μ' ν' : Mem) (w' : Int64) (H1 : Heap) (locs1 : List Loc) (ls1 : Array Slot), LSx D s.heap.size q μ' ν' w' H1 → Rel μ' ν' → va_S (bge s.heap.size) s.heap H1 locs1 → lv_has ls1 7 (lwl b s.heap.size q i) → W p l e room_1 s m #[Value.ref b] below meth c H1 locs1 (cells + 4) (slots + 24) (lw_Z below #[Value.ref b] s) (F0 m 1984 ls1 []) := by
        intro μ' ν' w' H1 locs1 ls1 hL1 hR1 hS1 hl1
        refine lv_iinc (v := nI (i + 5)) F.1 F.2.1 dL_law_1984 hl1 (k := 4) rfl (add_nI i 5) (Nat.le_of_ble_eq_true rfl) rfl (fun ls hl => ?_)
        refine lv_goto (tgt := 23) F.1 F.2.1 dL_law_1987 rfl ?_
        exact ih (i + 5) μ' ν' w' H1 locs1 ls _ _ (by omega) (by omega) (by omega) (by omega) hL1 hR1 hS1 (lv_sub hl [1, 2, 3, 4, 0] rfl)
      refine lv_aload_n F.1 F.2.1 dL_law_32 rfl (lv_at hl 0 rfl) ?_
      refine lv_iload F.1 F.2.1 dL_law_33 (lv_at hl 4 rfl) ?_
      refine va_sld F.1 F.2.1 hX hbl hbA hS (i := nI i) (vp_in_nI (by omega) (by omega)) dL_law_35 ?_
      refine lv_bipush (v := (31 : Int32)) F.1 F.2.1 dL_law_36 (by decide) ?_
      refine lv_iand F.1 F.2.1 dL_law_38 ?_
      obtain ⟨j, hj, hv⟩ := pk_andE (xs (nI i).toNatClampNeg) (m := 31) 5 (by decide)
      rw [hv]
      have hbx : b < s.heap.size := hbl
      have h32 : j < 32 := hj
      match j, h32 with
      | 0, _ => exact lv_tableIn (off := 133) (tgt := 172) F.1 F.2.1 dL_law_39 (by decide) (by decide) (by decide) rfl (lc_0 F hlt hK hG hX hbl hbx hLb hq hik hL hR hS hl (by omega) (by omega) cont)
      | 1, _ => exact lv_tableIn (off := 189) (tgt := 228) F.1 F.2.1 dL_law_39 (by decide) (by decide) (by decide) rfl (lc_1 F hlt hK hG hX hbl hbx hLb hq hik hL hR hS hl (by omega) (by omega) cont)
      | 2, _ => exact lv_tableIn (off := 202) (tgt := 241) F.1 F.2.1 dL_law_39 (by decide) (by decide) (by decide) rfl (lc_2 F hlt hK hG hX hbl hbx hLb hq hik hL hR hS hl (by omega) (by omega) cont)
      | 3, _ => exact lv_tableIn (off := 215) (tgt := 254) F.1 F.2.1 dL_law_39 (by decide) (by decide) (by decide) rfl (lc_3 F hlt hK hG hX hbl hbx hLb hq hik hL hR hS hl (by omega) (by omega) cont)
      | 4, _ => exact lv_tableIn (off := 259) (tgt := 298) F.1 F.2.1 dL_law_39 (by decide) (by decide) (by decide) rfl (lc_4 F hlt hK hG hX hbl hbx hLb hq hik hL hR hS hl (by omega) (by omega) cont)
      | 5, _ => exact lv_tableIn (off := 315) (tgt := 354) F.1 F.2.1 dL_law_39 (by decide) (by decide) (by decide) rfl (lc_5 F hlt hK hG hX hbl hbx hLb hq hik hL hR hS hl (by omega) (by omega) cont)
      | 6, _ => exact lv_tableIn (off := 383) (tgt := 422) F.1 F.2.1 dL_law_39 (by decide) (by decide) (by decide) rfl (lc_6 F hlt hK hG hX hbl hbx hLb hq hik hL hR hS hl (by omega) (by omega) cont)
      | 7, _ => exact lv_tableIn (off := 451) (tgt := 490) F.1 F.2.1 dL_law_39 (by decide) (by decide) (by decide) rfl (lc_7 F hlt hK hG hX hbl hbx hLb hq hik hL hR hS hl (by omega) (by omega) cont)
      | 8, _ => exact lv_tableIn (off := 531) (tgt := 570) F.1 F.2.1 dL_law_39 (by decide) (by decide) (by decide) rfl (lc_8 F hlt hK hG hX hbl hbx hLb hq hik hL hR hS hl (by omega) (by omega) cont)
      | 9, _ => exact lv_tableIn (off := 599) (tgt := 638) F.1 F.2.1 dL_law_39 (by decide) (by decide) (by decide) rfl (lc_9 F hlt hK hG hX hbl hbx hLb hq hik hL hR hS hl (by omega) (by omega) cont)
      | 10, _ => exact lv_tableIn (off := 667) (tgt := 706) F.1 F.2.1 dL_law_39 (by decide) (by decide) (by decide) rfl (lc_10 F hlt hK hG hX hbl hbx hLb hq hik hL hR hS hl (by omega) (by omega) cont)
      | 11, _ => exact lv_tableIn (off := 735) (tgt := 774) F.1 F.2.1 dL_law_39 (by decide) (by decide) (by decide) rfl (lc_11 F hlt hK hG hX hbl hbx hLb hq hik hL hR hS hl (by omega) (by omega) cont)
      | 12, _ => exact lv_tableIn (off := 791) (tgt := 830) F.1 F.2.1 dL_law_39 (by decide) (by decide) (by decide) rfl (lc_12 F hlt hK hG hX hbl hbx hLb hq hik hL hR hS hl (by omega) (by omega) cont)
      | 13, _ => exact lv_tableIn (off := 835) (tgt := 874) F.1 F.2.1 dL_law_39 (by decide) (by decide) (by decide) rfl (lc_13 F hlt hK hG hX hbl hbx hLb hq hik hL hR hS hl (by omega) (by omega) cont)
      | 14, _ => exact lv_tableIn (off := 903) (tgt := 942) F.1 F.2.1 dL_law_39 (by decide) (by decide) (by decide) rfl (lc_14 F hlt hK hG hX hbl hbx hLb hq hik hL hR hS hl (by omega) (by omega) cont)
      | 15, _ => exact lv_tableIn (off := 971) (tgt := 1010) F.1 F.2.1 dL_law_39 (by decide) (by decide) (by decide) rfl (lc_15 F hlt hK hG hX hbl hbx hLb hq hik hL hR hS hl (by omega) (by omega) cont)
      | 16, _ => exact lv_tableIn (off := 1039) (tgt := 1078) F.1 F.2.1 dL_law_39 (by decide) (by decide) (by decide) rfl (lc_16 F hlt hK hG hX hbl hbx hLb hq hik hL hR hS hl (by omega) (by omega) cont)
      | 17, _ => exact lv_tableIn (off := 1095) (tgt := 1134) F.1 F.2.1 dL_law_39 (by decide) (by decide) (by decide) rfl (lc_17 F hlt hK hG hX hbl hbx hLb hq hik hL hR hS hl (by omega) (by omega) cont)
      | 18, _ => exact lv_tableIn (off := 1175) (tgt := 1214) F.1 F.2.1 dL_law_39 (by decide) (by decide) (by decide) rfl (lc_18 F hlt hK hG hX hbl hbx hLb hq hik hL hR hS hl (by omega) (by omega) cont)
      | 19, _ => exact lv_tableIn (off := 1188) (tgt := 1227) F.1 F.2.1 dL_law_39 (by decide) (by decide) (by decide) rfl (lc_19 F hlt hK hG hX hbl hbx hLb hq hik hL hR hS hl (by omega) (by omega) cont)
      | 20, _ => exact lv_tableIn (off := 1256) (tgt := 1295) F.1 F.2.1 dL_law_39 (by decide) (by decide) (by decide) rfl (lc_20 F hlt hK hG hX hbl hbx hLb hq hik hL hR hS hl (by omega) (by omega) cont)
      | 21, _ => exact lv_tableIn (off := 1300) (tgt := 1339) F.1 F.2.1 dL_law_39 (by decide) (by decide) (by decide) rfl (lc_21 F hlt hK hG hX hbl hbx hLb hq hik hL hR hS hl (by omega) (by omega) cont)
      | 22, _ => exact lv_tableIn (off := 1368) (tgt := 1407) F.1 F.2.1 dL_law_39 (by decide) (by decide) (by decide) rfl (lc_22 F hlt hK hG hX hbl hbx hLb hq hik hL hR hS hl (by omega) (by omega) cont)
      | 23, _ => exact lv_tableIn (off := 1448) (tgt := 1487) F.1 F.2.1 dL_law_39 (by decide) (by decide) (by decide) rfl (lc_23 F hlt hK hG hX hbl hbx hLb hq hik hL hR hS hl (by omega) (by omega) cont)
      | 24, _ => exact lv_tableIn (off := 1540) (tgt := 1579) F.1 F.2.1 dL_law_39 (by decide) (by decide) (by decide) rfl (lc_24 F hlt hK hG hX hbl hbx hLb hq hik hL hR hS hl (by omega) (by omega) cont)
      | 25, _ => exact lv_tableIn (off := 1620) (tgt := 1659) F.1 F.2.1 dL_law_39 (by decide) (by decide) (by decide) rfl (lc_25 F hlt hK hG hX hbl hbx hLb hq hik hL hR hS hl (by omega) (by omega) cont)
      | 26, _ => exact lv_tableIn (off := 1633) (tgt := 1672) F.1 F.2.1 dL_law_39 (by decide) (by decide) (by decide) rfl (lc_26 F hlt hK hG hX hbl hbx hLb hq hik hL hR hS hl (by omega) (by omega) cont)
      | 27, _ => exact lv_tableIn (off := 1733) (tgt := 1772) F.1 F.2.1 dL_law_39 (by decide) (by decide) (by decide) rfl (lc_27 F hlt hK hG hX hbl hbx hLb hq hik hL hR hS hl (by omega) (by omega) cont)
      | 28, _ => exact lv_tableIn (off := 1833) (tgt := 1872) F.1 F.2.1 dL_law_39 (by decide) (by decide) (by decide) rfl (lc_28 F hlt hK hG hX hbl hbx hLb hq hik hL hR hS hl (by omega) (by omega) cont)
      | 29, _ => exact lv_tableIn (off := 1889) (tgt := 1928) F.1 F.2.1 dL_law_39 (by decide) (by decide) (by decide) rfl (lc_29 F hlt hK hG hX hbl hbx hLb hq hik hL hR hS hl (by omega) (by omega) cont)
      | 30, _ => exact lv_tableOut (tgt := 1984) F.1 F.2.1 dL_law_39 (Or.inr (by decide)) rfl (W.widen (k := cells + 4) (n := slots + 24) (by omega) (by omega) (cont μ ν w H locs ls hL hR hS hl))
      | 31, _ => exact lv_tableOut (tgt := 1984) F.1 F.2.1 dL_law_39 (Or.inr (by decide)) rfl (W.widen (k := cells + 4) (n := slots + 24) (by omega) (by omega) (cont μ ν w H locs ls hL hR hS hl))
      | k + 32, h => exact absurd h (by omega)
