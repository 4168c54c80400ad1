/-! the script's numbers -/
def dw (xs : Nat → Int32) (L k : Nat) : Int32 := (if k < L then xs k else (15594247 : Int32) * nI k + 10847) &&& 2147483647
theorem dw_n (xs : Nat → Int32) (L k : Nat) : ∃ n, n < 2147483648 ∧ dw xs L k = nI n := pk_andE _ (m := 2147483647) 31 (by decide)
def KD (b L : Nat) (xs : Nat → Int32) (U : State) : Prop := va_X b L xs U U.heap ∧ b < U.heap.size
theorem KD.blind {as : List Value} {b L : Nat} {xs : Nat → Int32} : FrameBlind (va_Pc as (KD b L xs)) := fun a U g mk h => by
  obtain ⟨q0, qX, qb⟩ := h
  exact ⟨q0, va_X.moved (u := U) (U := U.calling g mk a) (Vm.Alike.refl U.vm) qX, qb⟩
def QD (v : Int32) : Array Value → State → Outcome → State → Prop := fun _ st o t => o = .returned (some (.int v)) ∧ va_F (fun _ => False) st t
def rmL_draw : Room := { frames := 0, cells := 0, slots := 0, locals := 0 }
theorem hd_L_draw : yL_draw.cls ≠ "java/lang/invoke/MethodHandle" ∧ yL_draw.cls ≠ "java/lang/invoke/VarHandle" ∧ (parseMethodDescriptor yL_draw.desc).map (fun d => d.parameters.length) = some 2 := by decide +kernel
set_option maxRecDepth 100000 in
theorem c_L_draw {l : Launch} {b L k : Nat} {xs : Nat → Int32} (hk : k < 1000) (hL : L ≤ 260) : vx_Met l yL_draw wsB_draw rmL_draw (va_Pc [.ref b, .int (nI k)] (KD b L xs)) (QD (dw xs L k)) XF 0 0 (fun _ => False) := by
  refine vm_of (cc := cL_draw) (maxL := 2) (ret := some .int) (by decide +kernel) rfl (Nat.le_of_ble_eq_true rfl) ?_
  intro p e s m args below meth c F hr hlk hKD ls hl
  obtain ⟨hX, hbl⟩ := hKD
  have hl : lv_has ls 2 [(0, .ref b), (1, .int (nI k))] := hl
  have hS : va_S (fun _ => False) s.heap s.heap [] := va_S.rf
  have fin : ∀ v : Int32, v &&& 2147483647 = dw xs L k → W p l e rmL_draw s m args below meth c s.heap [] 0 0 (vx_MQ below (QD (dw xs L k)) XF args s 0 0 (fun _ => False)) (F0 m 20 ls [.int v]) := fun v hv => by
    refine lv_ldc (v := (2147483647 : Int32)) F.1 F.2.1 F.2.2.2.1 (F.2.2.2.2 _ (List.mem_of_getElem? (i := 69) rfl)) dL_draw_20 ?_
    refine lv_iand F.1 F.2.1 dL_draw_22 ?_
    rw [hv]
    exact vx_ret (W.iret (v := dw xs L k) F.1 F.2.1 hr (fun t ht hW => ⟨rfl, hS.F ht⟩) hS.2.2 dL_draw_23 hlk)
  refine lv_iload_n F.1 F.2.1 dL_draw_0 rfl (lv_at hl 1 rfl) ?_
  refine lv_aload_n F.1 F.2.1 dL_draw_1 rfl (lv_at hl 0 rfl) ?_
  refine va_slen F.1 F.2.1 hX hbl (fun h => h) hS dL_draw_2 ?_
  refine lv_icmp_ge (tgt := 12) F.1 F.2.1 dL_draw_3 rfl (fun hc => ?_) (fun hc => ?_)
  · have hc' : ¬ k < L := fun h => by
      have h2 : nI L ≤ nI k := hc
      rw [le_nI (by omega) (by omega)] at h2
      omega
    refine lv_ldc (v := (15594247 : Int32)) F.1 F.2.1 F.2.2.2.1 (F.2.2.2.2 _ (List.mem_of_getElem? (i := 68) rfl)) dL_draw_12 ?_
    refine lv_iload_n F.1 F.2.1 dL_draw_14 rfl (lv_at hl 1 rfl) ?_
    refine lv_imul F.1 F.2.1 dL_draw_15 ?_
    refine lv_sipush (v := (10847 : Int32)) F.1 F.2.1 dL_draw_16 (by decide) ?_
    refine lv_iadd F.1 F.2.1 dL_draw_19 ?_
    exact fin _ (by unfold dw; rw [if_neg hc'])
  · have hc' : k < L := by
      have h2 : ¬ nI L ≤ nI k := hc
      rw [le_nI (by omega) (by omega)] at h2
      omega
    refine lv_aload_n F.1 F.2.1 dL_draw_6 rfl (lv_at hl 0 rfl) ?_
    refine lv_iload_n F.1 F.2.1 dL_draw_7 rfl (lv_at hl 1 rfl) ?_
    refine va_sld F.1 F.2.1 hX hbl (fun h => h) hS (i := nI k) (vp_in_nI hc' (by omega)) dL_draw_8 ?_
    rw [cl_nI (by omega)]
    refine lv_goto (tgt := 20) F.1 F.2.1 dL_draw_9 rfl ?_
    exact fin _ (by unfold dw; rw [if_pos hc'])
section LW
variable {p : Program} {l : Launch} {e : Env} {R : Room} {s : State} {m : MethodId} {args : Array Value} {below : List Frame} {meth : Method} {c : Code} {H : Heap} {locs : List Loc} {cells slots : Nat} {Q : State → Prop}
variable {cc : ByteArray} {pc : Nat} {ls : Array Slot} {rest : List Value} {D : va_G} {own : String} {Ts : List Cond} {nL : Nat}
theorem a_draw {A : Nat → Prop} {b L k : Nat} {xs : Nat → Int32} (F : CallFix p m c cc nL s args Ts own) (hX : va_X b L xs s s.heap) (hbl : b < s.heap.size) (hbA : ¬ A b) (hS : va_S A s.heap H locs) (hk : k < 1000) (hL : L ≤ 260) {index : Nat}
    (cw : CallB R s args own index yL_draw cL_draw 2 (some .int) wsB_draw rmL_draw 0 0 2 ∧ (Cond.static yL_draw).before args s = true) {st : List Value} (hst : st = .int (nI k) :: .ref b :: rest) (hsz : ls.size = nL) (hW : (rest.map fun v => v.category).sum ≤ 8) (hdg : decode cc pc = .ok (.invokestatic index, 3)) (hf : cells + 0 ≤ R.cells ∧ slots + 0 ≤ R.slots)
    (kk : ∀ (H1 : Heap) (locs1 : List Loc), va_S A s.heap H1 locs1 → (∀ a : Nat, a < H.size → ¬ False → H1[a]? = H[a]?) → W p l e R s m args below meth c H1 locs1 (cells + 0) (slots + 0) Q (F0 m (pc + 3) ls (.int (dw xs L k) :: rest))) : W p l e R s m args below meth c H locs cells slots Q (F0 m pc ls st) := by
  have hr := vx_runS (g := F0 m pc ls st) (As := [.ref b, .int (nI k)]) (H := H) (locs := locs) (cells := cells) (slots := slots) (p := p) (l := l) (e := e) (R := R) (below := below) (meth := meth) (rest := rest) F (c_L_draw (l := l) (b := b) (L := L) (xs := xs) hk hL) cw ⟨KD.blind, fun U hU hW => ⟨rfl, by rw [hU]; exact va_X.moved hW.alike (hX.kept (hS.2.1 b hbl hbA)), by rw [hU]; exact Nat.lt_of_lt_of_le hbl hS.1⟩⟩ rfl rfl hsz hst (by show 2 * 0 + _ ≤ 8; omega) hdg hf
  intro T hT X
  rcases hr T hT X with ⟨v2, st₀, t, T', L', h0, X', hLl, e1, e2, ⟨hv, hF⟩, st⟩ | ⟨q9, st₀, t, T', L', E, ce, h0, X', hLl, e1, e2, hXF, hce, hcv, hcl, st⟩
  · cases hv
    obtain ⟨j1, j2, j3⟩ := vx_keep (A0 := A) (A1 := fun _ => False) h0 e1 hS (fun a _ h => False.elim h) (fun a h => False.elim h) hLl hF
    obtain ⟨t2, a1, b1⟩ := kk T'.heap (locs ++ L') j3 j2 T' rfl X'
    exact ⟨t2, st t2 a1, b1⟩
  · exact False.elim hXF
theorem a_A {A : Nat → Prop} {x y : Nat} {μ ν μ' ν' : Mem} {a : Int32} (F : CallFix p m c cc nL s args Ts own) (hK : va_K D vwCl (tyX D) s) (hG : SGA A s s.heap) (hA : ∀ a, rng2 x y a → A a) (hP : va_P D vwCl (WL D x μ) H) (hR : va_P D vwCl (WL D y ν) H) (hS : va_S A s.heap H locs)
    (hM : vx_Met l yL_alike wsB_alike rmL_alike (va_Pc [.ref (x + 0), .ref (y + 0), .int a] (KA D x y μ ν)) (QA D x y μ' ν' 1) XF 2420 14520 (rng2 x y)) {index : Nat}
    (cw : CallB R s args own index yL_alike cL_alike 3 (some .boolean) wsB_alike rmL_alike 2420 14520 3 ∧ (Cond.static yL_alike).before args s = true) {st : List Value} (hst : st = .int a :: .ref (y + 0) :: .ref (x + 0) :: rest) (hsz : ls.size = nL) (hW : (rest.map fun v => v.category).sum ≤ 8) (hdg : decode cc pc = .ok (.invokestatic index, 3)) (hf : cells + 2420 ≤ R.cells ∧ slots + 14520 ≤ R.slots)
    (kk : ∀ (H1 : Heap) (locs1 : List Loc), va_P D vwCl (WL D x μ') H1 → va_P D vwCl (WL D y ν') H1 → va_S A s.heap H1 locs1 → W p l e R s m args below meth c H1 locs1 (cells + 2420) (slots + 14520) Q (F0 m (pc + 3) ls (.int 1 :: rest))) : W p l e R s m args below meth c H locs cells slots Q (F0 m pc ls st) := by
  have hr := vx_runS (g := F0 m pc ls st) (As := [.ref (x + 0), .ref (y + 0), .int a]) (H := H) (locs := locs) (cells := cells) (slots := slots) (p := p) (l := l) (e := e) (R := R) (below := below) (meth := meth) (rest := rest) F hM cw ⟨KA.blind, fun U hU hW => ⟨rfl, by rw [hU]; exact hP, by rw [hU]; exact hR, va_K.moved hW.alike hK, a_sga hG hS hA U hU hW⟩⟩ rfl rfl hsz hst (by show 2 * 0 + _ ≤ 8; omega) hdg hf
  intro T hT X
  rcases hr T hT X with ⟨v2, st₀, t, T', L', h0, X', hLl, e1, e2, ⟨hv, hb1, hb2, hF⟩, st⟩ | ⟨q9, st₀, t, T', L', E, ce, h0, X', hLl, e1, e2, hXF, hce, hcv, hcl, st⟩
  · cases hv
    obtain ⟨j1, j2, j3⟩ := vx_keep (A0 := A) (A1 := rng2 x y) h0 e1 hS (fun a _ h => hA a h) (fun a h => hA a h) hLl hF
    obtain ⟨t2, a1, b1⟩ := kk T'.heap (locs ++ L') (by rw [e1]; exact hb1) (by rw [e1]; exact hb2) j3 T' rfl X'
    exact ⟨t2, st t2 a1, b1⟩
  · exact False.elim hXF
end LW
theorem gW_w {w : Cond} (h : w ∈ wsL_law) : w ∈ wsL_law ∧ ((w.onTables && w.keeps) = true ∨ ∃ ty, w = .arrayClass ty) := ⟨h, good_of_word (List.all_eq_true.mp wsB_good w h)⟩
theorem gW_S {cw' : Cond} {idx : Nat} {y : MethodName} (h1 : Cond.methodLink RL idx y ∈ wsL_law) (h2 : Cond.static y ∈ wsL_law) (h3 : Cond.initialized y.cls ∈ wsL_law) (h4 : cw' ∈ wsL_law) : GoodIn wsL_law (va_wsS RL idx y (cw' :: wsL_law)) := fun w h => by
  unfold va_wsS at h
  rcases List.mem_append.mp h with h | h
  · simp only [List.mem_cons, List.not_mem_nil, or_false] at h
    rcases h with rfl | rfl | rfl
    · exact gW_w h1
    · exact gW_w h2
    · exact gW_w h3
  · rcases List.mem_cons.mp h with rfl | h
    · exact gW_w h4
    · exact gW_w h
set_option maxRecDepth 20000 in
theorem gW_alike : GoodIn wsL_law (va_wsS RL 218 yL_alike wsB_alike) := gW_S (List.mem_of_getElem? (i := 69) rfl) (List.mem_of_getElem? (i := 70) rfl) (List.mem_of_getElem? (i := 65) rfl) (List.mem_of_getElem? (i := 71) rfl)
set_option maxRecDepth 20000 in
theorem gW_draw : GoodIn wsL_law (va_wsS RL 214 yL_draw wsB_draw) := gW_S (List.mem_of_getElem? (i := 63) rfl) (List.mem_of_getElem? (i := 64) rfl) (List.mem_of_getElem? (i := 65) rfl) (List.mem_of_getElem? (i := 66) rfl)
set_option maxRecDepth 20000 in
theorem gW_errors : GoodIn wsL_law (va_wsS RL 222 yL_errors wsB_errors) := gW_S (List.mem_of_getElem? (i := 414) rfl) (List.mem_of_getElem? (i := 415) rfl) (List.mem_of_getElem? (i := 65) rfl) (List.mem_of_getElem? (i := 416) rfl)
set_option maxRecDepth 20000 in
theorem gW_kept : GoodIn wsL_law (va_wsS RL 226 yL_kept wsB_kept) := gW_S (List.mem_of_getElem? (i := 594) rfl) (List.mem_of_getElem? (i := 595) rfl) (List.mem_of_getElem? (i := 65) rfl) (List.mem_of_getElem? (i := 596) rfl)
set_option maxRecDepth 20000 in
theorem gW_told : GoodIn wsL_law (va_wsS RL 229 yL_told wsB_told) := gW_S (List.mem_of_getElem? (i := 603) rfl) (List.mem_of_getElem? (i := 604) rfl) (List.mem_of_getElem? (i := 65) rfl) (List.mem_of_getElem? (i := 605) rfl)
set_option maxRecDepth 20000 in
theorem gW_load : GoodIn wsL_law (va_wsS RL 233 yL_load wsB_load) := gW_S (List.mem_of_getElem? (i := 613) rfl) (List.mem_of_getElem? (i := 614) rfl) (List.mem_of_getElem? (i := 65) rfl) (List.mem_of_getElem? (i := 615) rfl)
set_option maxRecDepth 20000 in
theorem gW_act : GoodIn wsL_law (va_wsS RL 235 yL_act wsB_act) := gW_S (List.mem_of_getElem? (i := 627) rfl) (List.mem_of_getElem? (i := 628) rfl) (List.mem_of_getElem? (i := 65) rfl) (List.mem_of_getElem? (i := 629) rfl)
set_option maxRecDepth 20000 in
theorem gW_follows : GoodIn wsL_law (va_wsS RL 238 yL_follows wsB_follows) := gW_S (List.mem_of_getElem? (i := 646) rfl) (List.mem_of_getElem? (i := 647) rfl) (List.mem_of_getElem? (i := 65) rfl) (List.mem_of_getElem? (i := 648) rfl)
set_option maxRecDepth 20000 in
theorem gW_save : GoodIn wsL_law (va_wsS RL 171 yL_save wsB_save) := gW_S (List.mem_of_getElem? (i := 560) rfl) (List.mem_of_getElem? (i := 561) rfl) (List.mem_of_getElem? (i := 65) rfl) (List.mem_of_getElem? (i := 562) rfl)
set_option maxRecDepth 20000 in
theorem gW_restore : GoodIn wsL_law (va_wsS RL 173 yL_restore wsB_restore) := gW_S (List.mem_of_getElem? (i := 571) rfl) (List.mem_of_getElem? (i := 572) rfl) (List.mem_of_getElem? (i := 65) rfl) (List.mem_of_getElem? (i := 573) rfl)
