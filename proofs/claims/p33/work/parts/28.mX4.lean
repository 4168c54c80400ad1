-- FrostTubes.needRange(III)V
def f_X4_needRange (a0 : Int32) (a1 : Int32) (a2 : Int32) : Option (Nat) := (if a0 < a1 then some 1 else (if a0 ≤ a2 then some 0 else some 1))
def rmX4_needRange : Room := { frames := 6, cells := 1, slots := 6, locals := 82 }
theorem hd_X4_needRange : yX4_needRange.cls ≠ "java/lang/invoke/MethodHandle" ∧ yX4_needRange.cls ≠ "java/lang/invoke/VarHandle" ∧ (parseMethodDescriptor yX4_needRange.desc).map (fun d => d.parameters.length) = some 3 := by decide +kernel
set_option maxHeartbeats 8000000 in
set_option maxRecDepth 100000 in
theorem c_X4_needRange {l : Launch} (hlt : l.stackTraces = false) {D : va_G} {x : Nat} {μ : Mem} (a0 : Int32) (a1 : Int32) (a2 : Int32) {r : Nat} (hf : f_X4_needRange a0 a1 a2 = some r) : TX l yX4_needRange wsX4_needRange rmX4_needRange 1 6 [.int a0, .int a1, .int a2] D x μ r (none) μ := by
  refine TX.of (cc := cX4_needRange) (maxL := 3) (ret := none) pn_X4 rfl (Nat.le_of_ble_eq_true rfl) ?_
  intro p e s m args below meth c F hr hlk hx hK hG
  intro ls H locs hl hP hS
  have hl : lv_has ls 3 [(0, .int a0), (1, .int a1), (2, .int a2)] := hl
  unfold f_X4_needRange at hf
  refine lv_iload_n F.1 F.2.1 dX4_needRange_0 rfl (lv_at hl 0 rfl) ?_
  refine lv_iload_n F.1 F.2.1 dX4_needRange_1 rfl (lv_at hl 1 rfl) ?_
  refine lv_icmp_lt (tgt := 10) F.1 F.2.1 dX4_needRange_2 rfl (fun hc1 => ?_) (fun hc1 => ?_)
  · have hf := ifp hc1 hf
    obtain rfl := Option.some.inj hf
    exact x_throw1 F hlt hG hP hS hx hlk rfl (List.mem_of_getElem? (i := 1) rfl) (List.mem_of_getElem? (i := 2) rfl) (fun _ h => List.mem_cons_of_mem _ (List.mem_append_right _ h)) (is := 237) (text := "an argument is out of its range") (List.mem_of_getElem? (i := 1) rfl) hl.1 dX4_needRange_10 dX4_needRange_13 dX4_needRange_14 dX4_needRange_16 dX4_needRange_19 (Nat.le_of_ble_eq_true rfl) (Nat.le_of_ble_eq_true rfl) (Nat.le_of_ble_eq_true rfl) (Nat.le_of_ble_eq_true rfl) (Nat.le_of_ble_eq_true rfl) (Nat.le_of_ble_eq_true rfl)
  · have hf := ifn hc1 hf
    refine lv_iload_n F.1 F.2.1 dX4_needRange_5 rfl (lv_at hl 0 rfl) ?_
    refine lv_iload_n F.1 F.2.1 dX4_needRange_6 rfl (lv_at hl 2 rfl) ?_
    refine lv_icmp_le (tgt := 20) F.1 F.2.1 dX4_needRange_7 rfl (fun hc2 => ?_) (fun hc2 => ?_)
    · have hf := ifp hc2 hf
      obtain rfl := Option.some.inj hf
      exact x_vretT F hr hlk hP hS rfl (Nat.le_of_ble_eq_true rfl) (Nat.le_of_ble_eq_true rfl) dX4_needRange_20
    · have hf := ifn hc2 hf
      obtain rfl := Option.some.inj hf
      exact x_throw1 F hlt hG hP hS hx hlk rfl (List.mem_of_getElem? (i := 1) rfl) (List.mem_of_getElem? (i := 2) rfl) (fun _ h => List.mem_cons_of_mem _ (List.mem_append_right _ h)) (is := 237) (text := "an argument is out of its range") (List.mem_of_getElem? (i := 1) rfl) hl.1 dX4_needRange_10 dX4_needRange_13 dX4_needRange_14 dX4_needRange_16 dX4_needRange_19 (Nat.le_of_ble_eq_true rfl) (Nat.le_of_ble_eq_true rfl) (Nat.le_of_ble_eq_true rfl) (Nat.le_of_ble_eq_true rfl) (Nat.le_of_ble_eq_true rfl) (Nat.le_of_ble_eq_true rfl)

-- FrostTubes.append(I)I
def f_X4_append (μ : Mem) (a1 : Int32) : Option (Nat × Int32 × Mem) := ((f_X4_needRange a1 (0 : Int32) (255 : Int32)).bind fun r1 => if r1 = 0 then (if ((μ 19) 131) < (120 : Int32) then ((f_X3_put (μ 19) a1).bind fun r4 => some (0, (((va_up μ 19 r4) 19) 131), (va_up μ 19 r4))) else some (2, 0, μ)) else some (r1, 0, μ))
def rmX4_append : Room := { frames := 7, cells := 2, slots := 12, locals := 104 }
theorem hd_X4_append : yX4_append.cls ≠ "java/lang/invoke/MethodHandle" ∧ yX4_append.cls ≠ "java/lang/invoke/VarHandle" ∧ (parseMethodDescriptor yX4_append.desc).map (fun d => d.parameters.length) = some 1 := by decide +kernel
set_option maxHeartbeats 8000000 in
set_option maxRecDepth 100000 in
theorem c_X4_append {l : Launch} (hlt : l.stackTraces = false) {D : va_G} {x : Nat} {μ : Mem} (a1 : Int32) {r : Nat × Int32 × Mem} (hf : f_X4_append μ a1 = some r) : TX l yX4_append wsX4_append rmX4_append 2 12 [.ref (x + 0), .int a1] D x μ r.1 (some (.int r.2.1)) r.2.2 := by
  refine TX.of (cc := cX4_append) (maxL := 2) (ret := (some .int)) pn_X4 rfl (Nat.le_of_ble_eq_true rfl) ?_
  intro p e s m args below meth c F hr hlk hx hK hG
  intro ls H locs hl hP hS
  have hl : lv_has ls 2 [(0, .ref (x + 0)), (1, .int a1)] := hl
  unfold f_X4_append at hf
  refine lv_iload_n F.1 F.2.1 dX4_append_0 rfl (lv_at hl 1 rfl) ?_
  refine lv_iconst (v := (0 : Int32)) F.1 F.2.1 dX4_append_1 (by decide) ?_
  refine lv_sipush (v := (255 : Int32)) F.1 F.2.1 dX4_append_2 (by decide) ?_
  obtain ⟨r1, hr2, hf⟩ := bnd hf
  refine x_callST F hK hG hP hS hx hlk (c_X4_needRange hlt a1 (0 : Int32) (255 : Int32) hr2) (va_cwS 3 F.2.2.2.2 gX4_append_X4_needRange rfl rfl rfl hd_X4_needRange ⟨(Nat.le_of_ble_eq_true rfl), (Nat.le_of_ble_eq_true rfl)⟩) rfl rfl hl.1 (Nat.le_of_ble_eq_true rfl) dX4_append_5 ⟨(Nat.le_of_ble_eq_true rfl), (Nat.le_of_ble_eq_true rfl)⟩ (Nat.le_of_ble_eq_true rfl) (Nat.le_of_ble_eq_true rfl) (fun hk => by have hf := ifn hk hf; obtain rfl := Option.some.inj hf; exact ⟨rfl, rfl⟩) (rest := []) (fun hk H locs hP hS => ?_)
  have hf := ifp hk hf
  refine W.eq (g2 := F0 m 8 ls []) rfl ?_
  refine lv_aload_n F.1 F.2.1 dX4_append_8 rfl (lv_at hl 0 rfl) ?_
  refine gR_X4_text F hK hP  (fun _ h => List.mem_cons_of_mem _ (List.mem_append_left _ (List.mem_append_left _ (List.mem_append_left _ (List.mem_append_right _ h))))) (List.mem_of_getElem? (i := 3) rfl) dX4_append_9 ?_
  refine gI_X3_length F hK hP  rfl (fun _ h => List.mem_cons_of_mem _ (List.mem_append_left _ (List.mem_append_left _ (List.mem_append_right _ h)))) (List.mem_of_getElem? (i := 4) rfl) dX4_append_12 ?_
  refine lv_bipush (v := (120 : Int32)) F.1 F.2.1 dX4_append_15 (by decide) ?_
  refine lv_icmp_lt (tgt := 30) F.1 F.2.1 dX4_append_17 rfl (fun hc3 => ?_) (fun hc3 => ?_)
  · have hf := ifp hc3 hf
    refine lv_aload_n F.1 F.2.1 dX4_append_30 rfl (lv_at hl 0 rfl) ?_
    refine gR_X4_text F hK hP  (fun _ h => List.mem_cons_of_mem _ (List.mem_append_left _ (List.mem_append_left _ (List.mem_append_left _ (List.mem_append_right _ h))))) (List.mem_of_getElem? (i := 3) rfl) dX4_append_31 ?_
    refine lv_iload_n F.1 F.2.1 dX4_append_34 rfl (lv_at hl 1 rfl) ?_
    obtain ⟨r4, hr5, hf⟩ := bnd hf
    have hP := x_up 19 hP
    refine x_callV F hK hG hP hS (o := 1) (by decide) (q := (1, 0, 0)) rfl (ci := 3) (fun _ => rfl) rfl (c_X3_put a1 hr5) (cwV 1 F.2.2.2.2 gX4_append_X3_put rfl rfl rfl ⟨rfl, hd_X3_put⟩ ⟨(Nat.le_of_ble_eq_true rfl), (Nat.le_of_ble_eq_true rfl)⟩) rfl rfl hl.1 (Nat.le_of_ble_eq_true rfl) dX4_append_35 ⟨(Nat.le_of_ble_eq_true rfl), (Nat.le_of_ble_eq_true rfl)⟩ (rest := []) (fun H locs hP hS => ?_)
    refine W.eq (g2 := F0 m 38 ls []) rfl ?_
    refine lv_aload_n F.1 F.2.1 dX4_append_38 rfl (lv_at hl 0 rfl) ?_
    refine gR_X4_text F hK hP  (fun _ h => List.mem_cons_of_mem _ (List.mem_append_left _ (List.mem_append_left _ (List.mem_append_left _ (List.mem_append_right _ h))))) (List.mem_of_getElem? (i := 3) rfl) dX4_append_39 ?_
    refine gI_X3_length F hK hP  rfl (fun _ h => List.mem_cons_of_mem _ (List.mem_append_left _ (List.mem_append_left _ (List.mem_append_right _ h)))) (List.mem_of_getElem? (i := 4) rfl) dX4_append_42 ?_
    obtain rfl := Option.some.inj hf
    exact x_iretT F hr hlk hP hS rfl (Nat.le_of_ble_eq_true rfl) (Nat.le_of_ble_eq_true rfl) dX4_append_45
  · have hf := ifn hc3 hf
    obtain rfl := Option.some.inj hf
    exact x_throw2 F hlt hG hP hS hx hlk rfl (List.mem_of_getElem? (i := 1) rfl) (List.mem_of_getElem? (i := 2) rfl) (fun _ h => List.mem_cons_of_mem _ (List.mem_append_left _ (List.mem_append_right _ h))) (is := 54) (text := "the text is full") (List.mem_of_getElem? (i := 3) rfl) hl.1 dX4_append_20 dX4_append_23 dX4_append_24 dX4_append_26 dX4_append_29 (Nat.le_of_ble_eq_true rfl) (Nat.le_of_ble_eq_true rfl) (Nat.le_of_ble_eq_true rfl) (Nat.le_of_ble_eq_true rfl) (Nat.le_of_ble_eq_true rfl) (Nat.le_of_ble_eq_true rfl)

-- FrostTubes.clearText()I
def f_X4_clearText (μ : Mem) : Option (Int32 × Mem) := some (((μ 19) 131), (va_up μ 19 (upd (μ 19) 131 (0 : Int32))))
def rmX4_clearText : Room := { frames := 0, cells := 0, slots := 0, locals := 0 }
theorem hd_X4_clearText : yX4_clearText.cls ≠ "java/lang/invoke/MethodHandle" ∧ yX4_clearText.cls ≠ "java/lang/invoke/VarHandle" ∧ (parseMethodDescriptor yX4_clearText.desc).map (fun d => d.parameters.length) = some 0 := by decide +kernel
set_option maxHeartbeats 8000000 in
set_option maxRecDepth 100000 in
theorem c_X4_clearText {l : Launch} {D : va_G} {x : Nat} {μ : Mem} {r : Int32 × Mem} (hf : f_X4_clearText μ = some r) : CX l yX4_clearText wsX4_clearText rmX4_clearText [.ref (x + 0)] D x μ (some (.int r.1)) r.2 := by
  refine CX.of (cc := cX4_clearText) (maxL := 2) (ret := (some .int)) pn_X4 rfl (Nat.le_of_ble_eq_true rfl) ?_
  intro p e s m args below meth c F hr hlk hK hG
  intro ls H locs hl hP hS
  have hl : lv_has ls 2 [(0, .ref (x + 0))] := hl
  unfold f_X4_clearText at hf
  refine lv_aload_n F.1 F.2.1 dX4_clearText_0 rfl (lv_at hl 0 rfl) ?_
  refine gR_X4_text F hK hP  (fun _ h => List.mem_cons_of_mem _ (List.mem_append_left _ (List.mem_append_right _ h))) (List.mem_of_getElem? (i := 1) rfl) dX4_clearText_1 ?_
  refine gI_X3_length F hK hP  rfl (fun _ h => List.mem_cons_of_mem _ (List.mem_append_right _ h)) (List.mem_of_getElem? (i := 2) rfl) dX4_clearText_4 ?_
  refine lv_istore_n F.1 F.2.1 dX4_clearText_7 rfl hl (Nat.le_of_ble_eq_true rfl) rfl (fun ls hl => ?_)
  have hl : lv_has ls 2 [(1, .int ((μ 19) 131)), (0, .ref (x + 0))] := hl
  refine lv_aload_n F.1 F.2.1 dX4_clearText_8 rfl (lv_at hl 1 rfl) ?_
  refine gR_X4_text F hK hP  (fun _ h => List.mem_cons_of_mem _ (List.mem_append_left _ (List.mem_append_right _ h))) (List.mem_of_getElem? (i := 1) rfl) dX4_clearText_9 ?_
  refine lv_iconst (v := (0 : Int32)) F.1 F.2.1 dX4_clearText_12 (by decide) ?_
  have hP := x_up 19 hP
  refine pI_X3_length F hK  hP hS (fun _ h => List.mem_cons_of_mem _ (List.mem_append_right _ h)) (List.mem_of_getElem? (i := 2) rfl) dX4_clearText_13 (fun H locs hP hS => ?_)
  refine lv_iload_n F.1 F.2.1 dX4_clearText_16 rfl (lv_at hl 0 rfl) ?_
  obtain rfl := Option.some.inj hf
  exact x_iret F hr hlk hP hS rfl dX4_clearText_17

-- FrostTubes.errorPosition()I
def f_X4_errorPosition (μ : Mem) : Option (Int32 × Mem) := ((f_X3_findError (μ 19)).bind fun r1 => some (r1.1, (va_up μ 19 r1.2)))
def rmX4_errorPosition : Room := { frames := 6, cells := 0, slots := 0, locals := 130 }
theorem hd_X4_errorPosition : yX4_errorPosition.cls ≠ "java/lang/invoke/MethodHandle" ∧ yX4_errorPosition.cls ≠ "java/lang/invoke/VarHandle" ∧ (parseMethodDescriptor yX4_errorPosition.desc).map (fun d => d.parameters.length) = some 0 := by decide +kernel
set_option maxHeartbeats 8000000 in
set_option maxRecDepth 100000 in
theorem c_X4_errorPosition {l : Launch} {D : va_G} {x : Nat} {μ : Mem} {r : Int32 × Mem} (hf : f_X4_errorPosition μ = some r) : CX l yX4_errorPosition wsX4_errorPosition rmX4_errorPosition [.ref (x + 0)] D x μ (some (.int r.1)) r.2 := by
  refine CX.of (cc := cX4_errorPosition) (maxL := 1) (ret := (some .int)) pn_X4 rfl (Nat.le_of_ble_eq_true rfl) ?_
  intro p e s m args below meth c F hr hlk hK hG
  intro ls H locs hl hP hS
  have hl : lv_has ls 1 [(0, .ref (x + 0))] := hl
  unfold f_X4_errorPosition at hf
  refine lv_aload_n F.1 F.2.1 dX4_errorPosition_0 rfl (lv_at hl 0 rfl) ?_
  refine gR_X4_text F hK hP  (fun _ h => List.mem_cons_of_mem _ (List.mem_append_left _ (List.mem_append_right _ h))) (List.mem_of_getElem? (i := 1) rfl) dX4_errorPosition_1 ?_
  obtain ⟨r1, hr2, hf⟩ := bnd hf
  have hP := x_up 19 hP
  refine x_callV F hK hG hP hS (o := 1) (by decide) (q := (1, 0, 0)) rfl (ci := 3) (fun _ => rfl) rfl (c_X3_findError hr2) (cwV 0 F.2.2.2.2 gX4_errorPosition_X3_findError rfl rfl rfl ⟨rfl, hd_X3_findError⟩ ⟨(Nat.le_of_ble_eq_true rfl), (Nat.le_of_ble_eq_true rfl)⟩) rfl rfl hl.1 (Nat.le_of_ble_eq_true rfl) dX4_errorPosition_4 ⟨(Nat.le_of_ble_eq_true rfl), (Nat.le_of_ble_eq_true rfl)⟩ (rest := []) (fun H locs hP hS => ?_)
  refine W.eq (g2 := F0 m 7 ls [.int r1.1]) rfl ?_
  obtain rfl := Option.some.inj hf
  exact x_iret F hr hlk hP hS rfl dX4_errorPosition_7

-- FrostTubes.load()I
def fb_X4_load_1  (K : Nat → Mem → Int32 → Int32 → Option (Nat × Int32 × Mem)) (μ : Mem) (v1 : Int32) (v2 : Int32) : Option (Nat × Int32 × Mem) := (if (2 : Int32) ≤ v1 then ((f_X3_startReading (μ 19)).bind fun r9 => (K 2 (va_up μ 19 r9) (0 : Int32) (0 : Int32))) else (if oob v1 2 then none else (K 1 (va_up μ 21 (upd (μ 21) v1.toNatClampNeg (0 : Int32))) (v1 + (1 : Int32)) 0)))
def fb_X4_load_2  (K : Nat → Mem → Int32 → Int32 → Option (Nat × Int32 × Mem)) (μ : Mem) (v1 : Int32) (v2 : Int32) : Option (Nat × Int32 × Mem) := (if (120 : Int32) ≤ v2 then some (0, v1, μ) else ((f_X3_hasCommand (μ 19)).bind fun r13 => (if r13 = 0 then some (0, v1, μ) else ((f_X3_readCommand (μ 19)).bind fun r16 => ((f_X0_perform ((va_up μ 19 r16) 0) (((va_up μ 19 r16) 19) 134) (((va_up μ 19 r16) 19) 135) (((va_up μ 19 r16) 19) 136) (((va_up μ 19 r16) 19) 137)).bind fun r18 => (if r18.1 = (-1 : Int32) then (K 2 (va_up (va_up μ 19 r16) 0 r18.2) (v1 + (1 : Int32)) (v2 + (1 : Int32))) else (K 2 (va_up (va_up μ 19 r16) 0 r18.2) v1 (v2 + (1 : Int32)))))))))
def fl_X4_load  : Nat → Nat → Mem → Int32 → Int32 → Option (Nat × Int32 × Mem)
  | 0, _, _, _, _ => none
  | n + 1, lab, μ, v1, v2 => match lab with
    | 1 => fb_X4_load_1  (fl_X4_load  n) μ v1 v2
    | _ => fb_X4_load_2  (fl_X4_load  n) μ v1 v2
def f_X4_load (μ : Mem) : Option (Nat × Int32 × Mem) := ((f_X3_findError (μ 19)).bind fun r1 => (if r1.1 = (-1 : Int32) then ((f_X0_copyFrom ((va_up μ 19 r1.2) 0) ((va_up μ 19 r1.2) 2)).bind fun r4 => ((f_X1_forgetAll (va_up (va_up μ 19 r1.2) 0 r4)).bind fun r6 => (fl_X4_load  FU 1 r6 (0 : Int32) 0))) else some (2, 0, (va_up μ 19 r1.2))))
def rmX4_load : Room := { frames := 6, cells := 1, slots := 6, locals := 130 }
theorem hd_X4_load : yX4_load.cls ≠ "java/lang/invoke/MethodHandle" ∧ yX4_load.cls ≠ "java/lang/invoke/VarHandle" ∧ (parseMethodDescriptor yX4_load.desc).map (fun d => d.parameters.length) = some 0 := by decide +kernel
set_option maxHeartbeats 8000000 in
set_option maxRecDepth 100000 in
theorem c_X4_load {l : Launch} (hlt : l.stackTraces = false) {D : va_G} {x : Nat} {μ : Mem} {r : Nat × Int32 × Mem} (hf : f_X4_load μ = some r) : TX l yX4_load wsX4_load rmX4_load 1 6 [.ref (x + 0)] D x μ r.1 (some (.int r.2.1)) r.2.2 := by
  refine TX.of (cc := cX4_load) (maxL := 3) (ret := (some .int)) pn_X4 rfl (Nat.le_of_ble_eq_true rfl) ?_
  intro p e s m args below meth c F hr hlk hx hK hG
  have KEY : ∀ n : Nat, (∀ (μ : Mem) (v1 : Int32) (ls : Array Slot) (H : Heap) (locs : List Loc), lv_has ls 3 [(0, .ref (x + 0)), (1, .int v1)] → va_P D vwCl (WL D x μ) H → va_S (rng x) s.heap H locs → fl_X4_load  n 1 μ v1 0 = some r → W p l e rmX4_load s m args below meth c H locs 0 0 (vx_MQ below (QT D x r.2.2 r.1 (some (.int r.2.1))) (XT D x r.2.2 r.1) args s 1 6 (rng x)) (F0 m 41 ls [])) ∧ (∀ (μ : Mem) (v1 : Int32) (v2 : Int32) (ls : Array Slot) (H : Heap) (locs : List Loc), lv_has ls 3 [(0, .ref (x + 0)), (1, .int v1), (2, .int v2)] → va_P D vwCl (WL D x μ) H → va_S (rng x) s.heap H locs → fl_X4_load  n 2 μ v1 v2 = some r → W p l e rmX4_load s m args below meth c H locs 0 0 (vx_MQ below (QT D x r.2.2 r.1 (some (.int r.2.1))) (XT D x r.2.2 r.1) args s 1 6 (rng x)) (F0 m 70 ls [])) := by
    intro n
    induction n with
    | zero => exact ⟨(fun _ _ _ _ _ _ _ _ h => nomatch h), (fun _ _ _ _ _ _ _ _ _ h => nomatch h)⟩
    | succ n ih =>
      refine ⟨?_, ?_⟩
      · intro μ v1  ls H locs hl hP hS hf
        have hf : fb_X4_load_1  (fl_X4_load  n) μ v1 0 = some r := hf
        unfold fb_X4_load_1 at hf
        refine lv_iload_n F.1 F.2.1 dX4_load_41 rfl (lv_at hl 1 rfl) ?_
        refine lv_iconst (v := (2 : Int32)) F.1 F.2.1 dX4_load_42 (by decide) ?_
        refine lv_icmp_ge (tgt := 59) F.1 F.2.1 dX4_load_43 rfl (fun hc8 => ?_) (fun hc8 => ?_)
        · have hf := ifp hc8 hf
          refine lv_iconst (v := (0 : Int32)) F.1 F.2.1 dX4_load_59 (by decide) ?_
          refine lv_istore_n F.1 F.2.1 dX4_load_60 rfl hl (Nat.le_of_ble_eq_true rfl) rfl (fun ls hl => ?_)
          have hl : lv_has ls 3 [(1, .int (0 : Int32)), (0, .ref (x + 0))] := hl
          refine lv_aload_n F.1 F.2.1 dX4_load_61 rfl (lv_at hl 1 rfl) ?_
          refine gR_X4_text F hK hP  (fun _ h => List.mem_cons_of_mem _ (List.mem_append_left _ (List.mem_append_left _ (List.mem_append_left _ (List.mem_append_left _ (List.mem_append_left _ (List.mem_append_right _ h))))))) (List.mem_of_getElem? (i := 3) rfl) dX4_load_62 ?_
          obtain ⟨r9, hr10, hf⟩ := bnd hf
          have hP := x_up 19 hP
          refine x_callV F hK hG hP hS (o := 1) (by decide) (q := (1, 0, 0)) rfl (ci := 3) (fun _ => rfl) rfl (c_X3_startReading hr10) (cwV 0 F.2.2.2.2 gX4_load_X3_startReading rfl rfl rfl ⟨rfl, hd_X3_startReading⟩ ⟨(Nat.le_of_ble_eq_true rfl), (Nat.le_of_ble_eq_true rfl)⟩) rfl rfl hl.1 (Nat.le_of_ble_eq_true rfl) dX4_load_65 ⟨(Nat.le_of_ble_eq_true rfl), (Nat.le_of_ble_eq_true rfl)⟩ (rest := []) (fun H locs hP hS => ?_)
          refine W.eq (g2 := F0 m 68 ls []) rfl ?_
          refine lv_iconst (v := (0 : Int32)) F.1 F.2.1 dX4_load_68 (by decide) ?_
          refine lv_istore_n F.1 F.2.1 dX4_load_69 rfl hl (Nat.le_of_ble_eq_true rfl) rfl (fun ls hl => ?_)
          have hl : lv_has ls 3 [(2, .int (0 : Int32)), (1, .int (0 : Int32)), (0, .ref (x + 0))] := hl
          exact ih.2 (va_up μ 19 r9) (0 : Int32) (0 : Int32) _ _ _ (lv_sub hl [2, 1, 0] rfl) hP hS hf
        · have hf := ifn hc8 hf
          refine lv_aload_n F.1 F.2.1 dX4_load_46 rfl (lv_at hl 0 rfl) ?_
          refine gR_X4_slotFull F hK hP  (fun _ h => List.mem_cons_of_mem _ (List.mem_append_left _ (List.mem_append_left _ (List.mem_append_left _ (List.mem_append_left _ (List.mem_append_left _ (List.mem_append_right _ h))))))) (List.mem_of_getElem? (i := 7) rfl) dX4_load_47 ?_
          refine lv_iload_n F.1 F.2.1 dX4_load_50 rfl (lv_at hl 1 rfl) ?_
          refine lv_iconst (v := (0 : Int32)) F.1 F.2.1 dX4_load_51 (by decide) ?_
          obtain ⟨hb11, hf⟩ := ifg hf
          have hP := x_up 21 hP
          refine sA_SF F hK hP hS hb11 rfl dX4_load_52 (fun H locs hP hS => ?_)
          refine lv_iinc (v := (v1 + (1 : Int32))) F.1 F.2.1 dX4_load_53 hl (k := 1) rfl rfl (Nat.le_of_ble_eq_true rfl) rfl (fun ls hl => ?_)
          have hl : lv_has ls 3 [(1, .int (v1 + (1 : Int32))), (0, .ref (x + 0))] := hl
          refine lv_goto (tgt := 41) F.1 F.2.1 dX4_load_56 rfl ?_
          exact ih.1 (va_up μ 21 (upd (μ 21) v1.toNatClampNeg (0 : Int32))) (v1 + (1 : Int32)) _ _ _ (lv_sub hl [1, 0] rfl) hP hS hf
      · intro μ v1 v2  ls H locs hl hP hS hf
        have hf : fb_X4_load_2  (fl_X4_load  n) μ v1 v2 = some r := hf
        unfold fb_X4_load_2 at hf
        refine lv_iload_n F.1 F.2.1 dX4_load_70 rfl (lv_at hl 2 rfl) ?_
        refine lv_bipush (v := (120 : Int32)) F.1 F.2.1 dX4_load_71 (by decide) ?_
        refine lv_icmp_ge (tgt := 141) F.1 F.2.1 dX4_load_73 rfl (fun hc12 => ?_) (fun hc12 => ?_)
        · have hf := ifp hc12 hf
          refine lv_iload_n F.1 F.2.1 dX4_load_141 rfl (lv_at hl 1 rfl) ?_
          obtain rfl := Option.some.inj hf
          exact x_iretT F hr hlk hP hS rfl (Nat.le_of_ble_eq_true rfl) (Nat.le_of_ble_eq_true rfl) dX4_load_142
        · have hf := ifn hc12 hf
          refine lv_aload_n F.1 F.2.1 dX4_load_76 rfl (lv_at hl 0 rfl) ?_
          refine gR_X4_text F hK hP  (fun _ h => List.mem_cons_of_mem _ (List.mem_append_left _ (List.mem_append_left _ (List.mem_append_left _ (List.mem_append_left _ (List.mem_append_left _ (List.mem_append_right _ h))))))) (List.mem_of_getElem? (i := 3) rfl) dX4_load_77 ?_
          obtain ⟨r13, hr14, hf⟩ := bnd hf
          refine x_callV F hK hG hP hS (o := 1) (by decide) (q := (1, 0, 0)) rfl (ci := 3) (fun _ => rfl) rfl (c_X3_hasCommand rfl hr14) (cwV 0 F.2.2.2.2 gX4_load_X3_hasCommand rfl rfl rfl ⟨rfl, hd_X3_hasCommand⟩ ⟨(Nat.le_of_ble_eq_true rfl), (Nat.le_of_ble_eq_true rfl)⟩) rfl rfl hl.1 (Nat.le_of_ble_eq_true rfl) dX4_load_80 ⟨(Nat.le_of_ble_eq_true rfl), (Nat.le_of_ble_eq_true rfl)⟩ (rest := []) (fun H locs hP hS => ?_)
          refine W.eq (g2 := F0 m 83 ls [.int r13]) rfl ?_
          refine lv_if_eq (tgt := 141) F.1 F.2.1 dX4_load_83 rfl (fun hc15 => ?_) (fun hc15 => ?_)
          · have hf := ifp hc15 hf
            refine lv_iload_n F.1 F.2.1 dX4_load_141 rfl (lv_at hl 1 rfl) ?_
            obtain rfl := Option.some.inj hf
            exact x_iretT F hr hlk hP hS rfl (Nat.le_of_ble_eq_true rfl) (Nat.le_of_ble_eq_true rfl) dX4_load_142
          · have hf := ifn hc15 hf
            refine lv_aload_n F.1 F.2.1 dX4_load_86 rfl (lv_at hl 0 rfl) ?_
            refine gR_X4_text F hK hP  (fun _ h => List.mem_cons_of_mem _ (List.mem_append_left _ (List.mem_append_left _ (List.mem_append_left _ (List.mem_append_left _ (List.mem_append_left _ (List.mem_append_right _ h))))))) (List.mem_of_getElem? (i := 3) rfl) dX4_load_87 ?_
            obtain ⟨r16, hr17, hf⟩ := bnd hf
            have hP := x_up 19 hP
            refine x_callV F hK hG hP hS (o := 1) (by decide) (q := (1, 0, 0)) rfl (ci := 3) (fun _ => rfl) rfl (c_X3_readCommand hr17) (cwV 0 F.2.2.2.2 gX4_load_X3_readCommand rfl rfl rfl ⟨rfl, hd_X3_readCommand⟩ ⟨(Nat.le_of_ble_eq_true rfl), (Nat.le_of_ble_eq_true rfl)⟩) rfl rfl hl.1 (Nat.le_of_ble_eq_true rfl) dX4_load_90 ⟨(Nat.le_of_ble_eq_true rfl), (Nat.le_of_ble_eq_true rfl)⟩ (rest := []) (fun H locs hP hS => ?_)
            refine W.eq (g2 := F0 m 93 ls []) rfl ?_
            refine lv_aload_n F.1 F.2.1 dX4_load_93 rfl (lv_at hl 0 rfl) ?_
            refine gR_X4_now F hK hP  (fun _ h => List.mem_cons_of_mem _ (List.mem_append_left _ (List.mem_append_left _ (List.mem_append_left _ (List.mem_append_left _ (List.mem_append_left _ (List.mem_append_right _ h))))))) (List.mem_of_getElem? (i := 4) rfl) dX4_load_94 ?_
            refine lv_aload_n F.1 F.2.1 dX4_load_97 rfl (lv_at hl 0 rfl) ?_
            refine gR_X4_text F hK hP  (fun _ h => List.mem_cons_of_mem _ (List.mem_append_left _ (List.mem_append_left _ (List.mem_append_left _ (List.mem_append_left _ (List.mem_append_left _ (List.mem_append_right _ h))))))) (List.mem_of_getElem? (i := 3) rfl) dX4_load_98 ?_
            refine gI_X3_action F hK hP  rfl (fun _ h => List.mem_cons_of_mem _ (List.mem_append_left _ (List.mem_append_left _ (List.mem_append_left _ (List.mem_append_left _ (List.mem_append_right _ h)))))) (List.mem_of_getElem? (i := 8) rfl) dX4_load_101 ?_
            refine lv_aload_n F.1 F.2.1 dX4_load_104 rfl (lv_at hl 0 rfl) ?_
            refine gR_X4_text F hK hP  (fun _ h => List.mem_cons_of_mem _ (List.mem_append_left _ (List.mem_append_left _ (List.mem_append_left _ (List.mem_append_left _ (List.mem_append_left _ (List.mem_append_right _ h))))))) (List.mem_of_getElem? (i := 3) rfl) dX4_load_105 ?_
            refine gI_X3_first F hK hP  rfl (fun _ h => List.mem_cons_of_mem _ (List.mem_append_left _ (List.mem_append_left _ (List.mem_append_left _ (List.mem_append_left _ (List.mem_append_right _ h)))))) (List.mem_of_getElem? (i := 9) rfl) dX4_load_108 ?_
            refine lv_aload_n F.1 F.2.1 dX4_load_111 rfl (lv_at hl 0 rfl) ?_
            refine gR_X4_text F hK hP  (fun _ h => List.mem_cons_of_mem _ (List.mem_append_left _ (List.mem_append_left _ (List.mem_append_left _ (List.mem_append_left _ (List.mem_append_left _ (List.mem_append_right _ h))))))) (List.mem_of_getElem? (i := 3) rfl) dX4_load_112 ?_
            refine gI_X3_second F hK hP  rfl (fun _ h => List.mem_cons_of_mem _ (List.mem_append_left _ (List.mem_append_left _ (List.mem_append_left _ (List.mem_append_left _ (List.mem_append_right _ h)))))) (List.mem_of_getElem? (i := 10) rfl) dX4_load_115 ?_
            refine lv_aload_n F.1 F.2.1 dX4_load_118 rfl (lv_at hl 0 rfl) ?_
            refine gR_X4_text F hK hP  (fun _ h => List.mem_cons_of_mem _ (List.mem_append_left _ (List.mem_append_left _ (List.mem_append_left _ (List.mem_append_left _ (List.mem_append_left _ (List.mem_append_right _ h))))))) (List.mem_of_getElem? (i := 3) rfl) dX4_load_119 ?_
            refine gI_X3_third F hK hP  rfl (fun _ h => List.mem_cons_of_mem _ (List.mem_append_left _ (List.mem_append_left _ (List.mem_append_left _ (List.mem_append_left _ (List.mem_append_right _ h)))))) (List.mem_of_getElem? (i := 11) rfl) dX4_load_122 ?_
            obtain ⟨r18, hr19, hf⟩ := bnd hf
            have hP := x_up 0 hP
            refine x_callV F hK hG hP hS (o_G (by decide) (c := 0) (by decide)) (kd_G 0 (by decide) 0 (by decide)) (ci := 0) (fun _ => rfl) rfl (c_X0_perform (by decide) (((va_up μ 19 r16) 19) 134) (((va_up μ 19 r16) 19) 135) (((va_up μ 19 r16) 19) 136) (((va_up μ 19 r16) 19) 137) hr19) (cwV 4 F.2.2.2.2 gX4_load_X0_perform rfl rfl rfl ⟨rfl, hd_X0_perform⟩ ⟨(Nat.le_of_ble_eq_true rfl), (Nat.le_of_ble_eq_true rfl)⟩) rfl rfl hl.1 (Nat.le_of_ble_eq_true rfl) dX4_load_125 ⟨(Nat.le_of_ble_eq_true rfl), (Nat.le_of_ble_eq_true rfl)⟩ (rest := []) (fun H locs hP hS => ?_)
            refine W.eq (g2 := F0 m 128 ls [.int r18.1]) rfl ?_
            refine lv_iconst (v := (-1 : Int32)) F.1 F.2.1 dX4_load_128 (by decide) ?_
            refine lv_icmp_ne (tgt := 135) F.1 F.2.1 dX4_load_129 rfl (fun hc20 => ?_) (fun hc20 => ?_)
            · have hf := ifn hc20 hf
              refine lv_iinc (v := (v2 + (1 : Int32))) F.1 F.2.1 dX4_load_135 hl (k := 2) rfl rfl (Nat.le_of_ble_eq_true rfl) rfl (fun ls hl => ?_)
              have hl : lv_has ls 3 [(2, .int (v2 + (1 : Int32))), (0, .ref (x + 0)), (1, .int v1)] := hl
              refine lv_goto (tgt := 70) F.1 F.2.1 dX4_load_138 rfl ?_
              exact ih.2 (va_up (va_up μ 19 r16) 0 r18.2) v1 (v2 + (1 : Int32)) _ _ _ (lv_sub hl [1, 2, 0] rfl) hP hS hf
            · have hf := ifp hc20 hf
              refine lv_iinc (v := (v1 + (1 : Int32))) F.1 F.2.1 dX4_load_132 hl (k := 1) rfl rfl (Nat.le_of_ble_eq_true rfl) rfl (fun ls hl => ?_)
              have hl : lv_has ls 3 [(1, .int (v1 + (1 : Int32))), (0, .ref (x + 0)), (2, .int v2)] := hl
              refine lv_iinc (v := (v2 + (1 : Int32))) F.1 F.2.1 dX4_load_135 hl (k := 2) rfl rfl (Nat.le_of_ble_eq_true rfl) rfl (fun ls hl => ?_)
              have hl : lv_has ls 3 [(2, .int (v2 + (1 : Int32))), (1, .int (v1 + (1 : Int32))), (0, .ref (x + 0))] := hl
              refine lv_goto (tgt := 70) F.1 F.2.1 dX4_load_138 rfl ?_
              exact ih.2 (va_up (va_up μ 19 r16) 0 r18.2) (v1 + (1 : Int32)) (v2 + (1 : Int32)) _ _ _ (lv_sub hl [2, 1, 0] rfl) hP hS hf
  intro ls H locs hl hP hS
  have hl : lv_has ls 3 [(0, .ref (x + 0))] := hl
  unfold f_X4_load at hf
  refine lv_aload_n F.1 F.2.1 dX4_load_0 rfl (lv_at hl 0 rfl) ?_
  refine gR_X4_text F hK hP  (fun _ h => List.mem_cons_of_mem _ (List.mem_append_left _ (List.mem_append_left _ (List.mem_append_left _ (List.mem_append_left _ (List.mem_append_left _ (List.mem_append_right _ h))))))) (List.mem_of_getElem? (i := 3) rfl) dX4_load_1 ?_
  obtain ⟨r1, hr2, hf⟩ := bnd hf
  have hP := x_up 19 hP
  refine x_callV F hK hG hP hS (o := 1) (by decide) (q := (1, 0, 0)) rfl (ci := 3) (fun _ => rfl) rfl (c_X3_findError hr2) (cwV 0 F.2.2.2.2 gX4_load_X3_findError rfl rfl rfl ⟨rfl, hd_X3_findError⟩ ⟨(Nat.le_of_ble_eq_true rfl), (Nat.le_of_ble_eq_true rfl)⟩) rfl rfl hl.1 (Nat.le_of_ble_eq_true rfl) dX4_load_4 ⟨(Nat.le_of_ble_eq_true rfl), (Nat.le_of_ble_eq_true rfl)⟩ (rest := []) (fun H locs hP hS => ?_)
  refine W.eq (g2 := F0 m 7 ls [.int r1.1]) rfl ?_
  refine lv_iconst (v := (-1 : Int32)) F.1 F.2.1 dX4_load_7 (by decide) ?_
  refine lv_icmp_eq (tgt := 21) F.1 F.2.1 dX4_load_8 rfl (fun hc3 => ?_) (fun hc3 => ?_)
  · have hf := ifp hc3 hf
    refine lv_aload_n F.1 F.2.1 dX4_load_21 rfl (lv_at hl 0 rfl) ?_
    refine gR_X4_now F hK hP  (fun _ h => List.mem_cons_of_mem _ (List.mem_append_left _ (List.mem_append_left _ (List.mem_append_left _ (List.mem_append_left _ (List.mem_append_left _ (List.mem_append_right _ h))))))) (List.mem_of_getElem? (i := 4) rfl) dX4_load_22 ?_
    refine lv_aload_n F.1 F.2.1 dX4_load_25 rfl (lv_at hl 0 rfl) ?_
    refine gR_X4_untouched F hK hP  (fun _ h => List.mem_cons_of_mem _ (List.mem_append_left _ (List.mem_append_left _ (List.mem_append_left _ (List.mem_append_left _ (List.mem_append_left _ (List.mem_append_right _ h))))))) (List.mem_of_getElem? (i := 5) rfl) dX4_load_26 ?_
    obtain ⟨r4, hr5, hf⟩ := bnd hf
    have hP := x_up 0 hP
    refine x_callV F hK hG hP hS (o_G (by decide) (c := 0) (by decide)) (kd_G 0 (by decide) 0 (by decide)) (ci := 0) (fun _ => rfl) rfl (c_X0_copyFrom (by decide) (by decide) (by decide) rfl hr5) (cwV 1 F.2.2.2.2 gX4_load_X0_copyFrom rfl rfl rfl ⟨rfl, hd_X0_copyFrom⟩ ⟨(Nat.le_of_ble_eq_true rfl), (Nat.le_of_ble_eq_true rfl)⟩) rfl rfl hl.1 (Nat.le_of_ble_eq_true rfl) dX4_load_29 ⟨(Nat.le_of_ble_eq_true rfl), (Nat.le_of_ble_eq_true rfl)⟩ (rest := []) (fun H locs hP hS => ?_)
    refine W.eq (g2 := F0 m 32 ls []) rfl ?_
    refine lv_aload_n F.1 F.2.1 dX4_load_32 rfl (lv_at hl 0 rfl) ?_
    refine gR_X4_past F hK hP  (fun _ h => List.mem_cons_of_mem _ (List.mem_append_left _ (List.mem_append_left _ (List.mem_append_left _ (List.mem_append_left _ (List.mem_append_left _ (List.mem_append_right _ h))))))) (List.mem_of_getElem? (i := 6) rfl) dX4_load_33 ?_
    obtain ⟨r6, hr7, hf⟩ := bnd hf
    refine x_callV F hK hG hP hS (o := 57) (by decide) (q := (3, 0, 0)) rfl (ci := 1) (fun _ => rfl) rfl (c_X1_forgetAll hr7) (cwV 0 F.2.2.2.2 gX4_load_X1_forgetAll rfl rfl rfl ⟨rfl, hd_X1_forgetAll⟩ ⟨(Nat.le_of_ble_eq_true rfl), (Nat.le_of_ble_eq_true rfl)⟩) rfl rfl hl.1 (Nat.le_of_ble_eq_true rfl) dX4_load_36 ⟨(Nat.le_of_ble_eq_true rfl), (Nat.le_of_ble_eq_true rfl)⟩ (rest := []) (fun H locs hP hS => ?_)
    refine W.eq (g2 := F0 m 39 ls []) rfl ?_
    refine lv_iconst (v := (0 : Int32)) F.1 F.2.1 dX4_load_39 (by decide) ?_
    refine lv_istore_n F.1 F.2.1 dX4_load_40 rfl hl (Nat.le_of_ble_eq_true rfl) rfl (fun ls hl => ?_)
    have hl : lv_has ls 3 [(1, .int (0 : Int32)), (0, .ref (x + 0))] := hl
    exact (KEY FU).1 r6 (0 : Int32) _ _ _ (lv_sub hl [1, 0] rfl) hP hS hf
  · have hf := ifn hc3 hf
    obtain rfl := Option.some.inj hf
    exact x_throw2 F hlt hG hP hS hx hlk rfl (List.mem_of_getElem? (i := 1) rfl) (List.mem_of_getElem? (i := 2) rfl) (fun _ h => List.mem_cons_of_mem _ (List.mem_append_right _ h)) (is := 67) (text := "the text is not a winter") (List.mem_of_getElem? (i := 4) rfl) hl.1 dX4_load_11 dX4_load_14 dX4_load_15 dX4_load_17 dX4_load_20 (Nat.le_of_ble_eq_true rfl) (Nat.le_of_ble_eq_true rfl) (Nat.le_of_ble_eq_true rfl) (Nat.le_of_ble_eq_true rfl) (Nat.le_of_ble_eq_true rfl) (Nat.le_of_ble_eq_true rfl)

-- FrostTubes.about(I)I
def f_X4_about (μ : Mem) (a1 : Int32) : Option (Nat × Int32) := ((f_X4_needRange a1 (0 : Int32) (11 : Int32)).bind fun r1 => if r1 = 0 then ((f_X0_numberOf (μ 0) a1).bind fun r3 => some (0, r3)) else some (r1, 0))
def rmX4_about : Room := { frames := 7, cells := 1, slots := 6, locals := 108 }
theorem hd_X4_about : yX4_about.cls ≠ "java/lang/invoke/MethodHandle" ∧ yX4_about.cls ≠ "java/lang/invoke/VarHandle" ∧ (parseMethodDescriptor yX4_about.desc).map (fun d => d.parameters.length) = some 1 := by decide +kernel
set_option maxHeartbeats 8000000 in
set_option maxRecDepth 100000 in
theorem c_X4_about {l : Launch} (hlt : l.stackTraces = false) {D : va_G} {x : Nat} {μ : Mem} (a1 : Int32) {r : Nat × Int32} (hf : f_X4_about μ a1 = some r) : TX l yX4_about wsX4_about rmX4_about 1 6 [.ref (x + 0), .int a1] D x μ r.1 (some (.int r.2)) μ := by
  refine TX.of (cc := cX4_about) (maxL := 2) (ret := (some .int)) pn_X4 rfl (Nat.le_of_ble_eq_true rfl) ?_
  intro p e s m args below meth c F hr hlk hx hK hG
  intro ls H locs hl hP hS
  have hl : lv_has ls 2 [(0, .ref (x + 0)), (1, .int a1)] := hl
  unfold f_X4_about at hf
  refine lv_iload_n F.1 F.2.1 dX4_about_0 rfl (lv_at hl 1 rfl) ?_
  refine lv_iconst (v := (0 : Int32)) F.1 F.2.1 dX4_about_1 (by decide) ?_
  refine lv_bipush (v := (11 : Int32)) F.1 F.2.1 dX4_about_2 (by decide) ?_
  obtain ⟨r1, hr2, hf⟩ := bnd hf
  refine x_callST F hK hG hP hS hx hlk (c_X4_needRange hlt a1 (0 : Int32) (11 : Int32) hr2) (va_cwS 3 F.2.2.2.2 gX4_about_X4_needRange rfl rfl rfl hd_X4_needRange ⟨(Nat.le_of_ble_eq_true rfl), (Nat.le_of_ble_eq_true rfl)⟩) rfl rfl hl.1 (Nat.le_of_ble_eq_true rfl) dX4_about_4 ⟨(Nat.le_of_ble_eq_true rfl), (Nat.le_of_ble_eq_true rfl)⟩ (Nat.le_of_ble_eq_true rfl) (Nat.le_of_ble_eq_true rfl) (fun hk => by have hf := ifn hk hf; obtain rfl := Option.some.inj hf; exact ⟨rfl, rfl⟩) (rest := []) (fun hk H locs hP hS => ?_)
  have hf := ifp hk hf
  refine W.eq (g2 := F0 m 7 ls []) rfl ?_
  refine lv_aload_n F.1 F.2.1 dX4_about_7 rfl (lv_at hl 0 rfl) ?_
  refine gR_X4_now F hK hP  (fun _ h => List.mem_cons_of_mem _ (List.mem_append_left _ (List.mem_append_left _ (List.mem_append_left _ (List.mem_append_right _ h))))) (List.mem_of_getElem? (i := 1) rfl) dX4_about_8 ?_
  refine lv_iload_n F.1 F.2.1 dX4_about_11 rfl (lv_at hl 1 rfl) ?_
  obtain ⟨r3, hr4, hf⟩ := bnd hf
  refine x_callV F hK hG hP hS (o_G (by decide) (c := 0) (by decide)) (kd_G 0 (by decide) 0 (by decide)) (ci := 0) (fun _ => rfl) rfl (c_X0_numberOf (by decide) rfl a1 hr4) (cwV 1 F.2.2.2.2 gX4_about_X0_numberOf rfl rfl rfl ⟨rfl, hd_X0_numberOf⟩ ⟨(Nat.le_of_ble_eq_true rfl), (Nat.le_of_ble_eq_true rfl)⟩) rfl rfl hl.1 (Nat.le_of_ble_eq_true rfl) dX4_about_12 ⟨(Nat.le_of_ble_eq_true rfl), (Nat.le_of_ble_eq_true rfl)⟩ (rest := []) (fun H locs hP hS => ?_)
  refine W.eq (g2 := F0 m 15 ls [.int r3]) rfl ?_
  obtain rfl := Option.some.inj hf
  exact x_iretT F hr hlk hP hS rfl (Nat.le_of_ble_eq_true rfl) (Nat.le_of_ble_eq_true rfl) dX4_about_15

-- FrostTubes.needSite(I)V
def f_X4_needSite (μ : Mem) (a1 : Int32) : Option (Nat) := ((f_X0_hasSite (μ 0) a1).bind fun r1 => (if r1 = 0 then some 3 else some 0))
def rmX4_needSite : Room := { frames := 6, cells := 1, slots := 6, locals := 82 }
theorem hd_X4_needSite : yX4_needSite.cls ≠ "java/lang/invoke/MethodHandle" ∧ yX4_needSite.cls ≠ "java/lang/invoke/VarHandle" ∧ (parseMethodDescriptor yX4_needSite.desc).map (fun d => d.parameters.length) = some 1 := by decide +kernel
set_option maxHeartbeats 8000000 in
set_option maxRecDepth 100000 in
theorem c_X4_needSite {l : Launch} (hlt : l.stackTraces = false) {D : va_G} {x : Nat} {μ : Mem} (a1 : Int32) {r : Nat} (hf : f_X4_needSite μ a1 = some r) : TX l yX4_needSite wsX4_needSite rmX4_needSite 1 6 [.ref (x + 0), .int a1] D x μ r (none) μ := by
  refine TX.of (cc := cX4_needSite) (maxL := 2) (ret := none) pn_X4 rfl (Nat.le_of_ble_eq_true rfl) ?_
  intro p e s m args below meth c F hr hlk hx hK hG
  intro ls H locs hl hP hS
  have hl : lv_has ls 2 [(0, .ref (x + 0)), (1, .int a1)] := hl
  unfold f_X4_needSite at hf
  refine lv_aload_n F.1 F.2.1 dX4_needSite_0 rfl (lv_at hl 0 rfl) ?_
  refine gR_X4_now F hK hP  (fun _ h => List.mem_cons_of_mem _ (List.mem_append_left _ (List.mem_append_left _ (List.mem_append_right _ h)))) (List.mem_of_getElem? (i := 3) rfl) dX4_needSite_1 ?_
  refine lv_iload_n F.1 F.2.1 dX4_needSite_4 rfl (lv_at hl 1 rfl) ?_
  obtain ⟨r1, hr2, hf⟩ := bnd hf
  refine x_callV F hK hG hP hS (o_G (by decide) (c := 0) (by decide)) (kd_G 0 (by decide) 0 (by decide)) (ci := 0) (fun _ => rfl) rfl (c_X0_hasSite (by decide) rfl a1 hr2) (cwV 1 F.2.2.2.2 gX4_needSite_X0_hasSite rfl rfl rfl ⟨rfl, hd_X0_hasSite⟩ ⟨(Nat.le_of_ble_eq_true rfl), (Nat.le_of_ble_eq_true rfl)⟩) rfl rfl hl.1 (Nat.le_of_ble_eq_true rfl) dX4_needSite_5 ⟨(Nat.le_of_ble_eq_true rfl), (Nat.le_of_ble_eq_true rfl)⟩ (rest := []) (fun H locs hP hS => ?_)
  refine W.eq (g2 := F0 m 8 ls [.int r1]) rfl ?_
  refine lv_if_ne (tgt := 21) F.1 F.2.1 dX4_needSite_8 rfl (fun hc3 => ?_) (fun hc3 => ?_)
  · have hf := ifn hc3 hf
    obtain rfl := Option.some.inj hf
    exact x_vretT F hr hlk hP hS rfl (Nat.le_of_ble_eq_true rfl) (Nat.le_of_ble_eq_true rfl) dX4_needSite_21
  · have hf := ifp hc3 hf
    obtain rfl := Option.some.inj hf
    exact x_throw3 F hlt hG hP hS hx hlk rfl (List.mem_of_getElem? (i := 1) rfl) (List.mem_of_getElem? (i := 2) rfl) (fun _ h => List.mem_cons_of_mem _ (List.mem_append_right _ h)) (is := 251) (text := "no such site") (List.mem_of_getElem? (i := 5) rfl) hl.1 dX4_needSite_11 dX4_needSite_14 dX4_needSite_15 dX4_needSite_17 dX4_needSite_20 (Nat.le_of_ble_eq_true rfl) (Nat.le_of_ble_eq_true rfl) (Nat.le_of_ble_eq_true rfl) (Nat.le_of_ble_eq_true rfl) (Nat.le_of_ble_eq_true rfl) (Nat.le_of_ble_eq_true rfl)

-- FrostTubes.siteOf(II)I
def f_X4_siteOf (μ : Mem) (a1 : Int32) (a2 : Int32) : Option (Nat × Int32) := ((f_X4_needSite μ a1).bind fun r1 => if r1 = 0 then ((f_X4_needRange a2 (0 : Int32) (8 : Int32)).bind fun r3 => if r3 = 0 then (if oob a1 4 then none else ((f_X2_numberOf (μ 0) a1.toNatClampNeg a2).bind fun r6 => some (0, r6))) else some (r3, 0)) else some (r1, 0))
def rmX4_siteOf : Room := { frames := 7, cells := 2, slots := 12, locals := 104 }
theorem hd_X4_siteOf : yX4_siteOf.cls ≠ "java/lang/invoke/MethodHandle" ∧ yX4_siteOf.cls ≠ "java/lang/invoke/VarHandle" ∧ (parseMethodDescriptor yX4_siteOf.desc).map (fun d => d.parameters.length) = some 2 := by decide +kernel
set_option maxHeartbeats 8000000 in
set_option maxRecDepth 100000 in
theorem c_X4_siteOf {l : Launch} (hlt : l.stackTraces = false) {D : va_G} {x : Nat} {μ : Mem} (a1 : Int32) (a2 : Int32) {r : Nat × Int32} (hf : f_X4_siteOf μ a1 a2 = some r) : TX l yX4_siteOf wsX4_siteOf rmX4_siteOf 2 12 [.ref (x + 0), .int a1, .int a2] D x μ r.1 (some (.int r.2)) μ := by
  refine TX.of (cc := cX4_siteOf) (maxL := 3) (ret := (some .int)) pn_X4 rfl (Nat.le_of_ble_eq_true rfl) ?_
  intro p e s m args below meth c F hr hlk hx hK hG
  intro ls H locs hl hP hS
  have hl : lv_has ls 3 [(0, .ref (x + 0)), (1, .int a1), (2, .int a2)] := hl
  unfold f_X4_siteOf at hf
  refine lv_aload_n F.1 F.2.1 dX4_siteOf_0 rfl (lv_at hl 0 rfl) ?_
  refine lv_iload_n F.1 F.2.1 dX4_siteOf_1 rfl (lv_at hl 1 rfl) ?_
  obtain ⟨r1, hr2, hf⟩ := bnd hf
  refine x_callVT F hK hG hP hS hx hlk (o := 0) (by decide) (q := (0, 0, 0)) rfl (ci := 4) (fun _ => rfl) rfl (c_X4_needSite hlt a1 hr2) (cwV 1 F.2.2.2.2 gX4_siteOf_X4_needSite rfl rfl rfl ⟨rfl, hd_X4_needSite⟩ ⟨(Nat.le_of_ble_eq_true rfl), (Nat.le_of_ble_eq_true rfl)⟩) rfl rfl hl.1 (Nat.le_of_ble_eq_true rfl) dX4_siteOf_2 ⟨(Nat.le_of_ble_eq_true rfl), (Nat.le_of_ble_eq_true rfl)⟩ (Nat.le_of_ble_eq_true rfl) (Nat.le_of_ble_eq_true rfl) (fun hk => by have hf := ifn hk hf; obtain rfl := Option.some.inj hf; exact ⟨rfl, rfl⟩) (rest := []) (fun hk H locs hP hS => ?_)
  have hf := ifp hk hf
  refine W.eq (g2 := F0 m 5 ls []) rfl ?_
  refine lv_iload_n F.1 F.2.1 dX4_siteOf_5 rfl (lv_at hl 2 rfl) ?_
  refine lv_iconst (v := (0 : Int32)) F.1 F.2.1 dX4_siteOf_6 (by decide) ?_
  refine lv_bipush (v := (8 : Int32)) F.1 F.2.1 dX4_siteOf_7 (by decide) ?_
  obtain ⟨r3, hr4, hf⟩ := bnd hf
  refine x_callST F hK hG hP hS hx hlk (c_X4_needRange hlt a2 (0 : Int32) (8 : Int32) hr4) (va_cwS 3 F.2.2.2.2 gX4_siteOf_X4_needRange rfl rfl rfl hd_X4_needRange ⟨(Nat.le_of_ble_eq_true rfl), (Nat.le_of_ble_eq_true rfl)⟩) rfl rfl hl.1 (Nat.le_of_ble_eq_true rfl) dX4_siteOf_9 ⟨(Nat.le_of_ble_eq_true rfl), (Nat.le_of_ble_eq_true rfl)⟩ (Nat.le_of_ble_eq_true rfl) (Nat.le_of_ble_eq_true rfl) (fun hk => by have hf := ifn hk hf; obtain rfl := Option.some.inj hf; exact ⟨rfl, rfl⟩) (rest := []) (fun hk H locs hP hS => ?_)
  have hf := ifp hk hf
  refine W.eq (g2 := F0 m 12 ls []) rfl ?_
  refine lv_aload_n F.1 F.2.1 dX4_siteOf_12 rfl (lv_at hl 0 rfl) ?_
  refine gR_X4_now F hK hP  (fun _ h => List.mem_cons_of_mem _ (List.mem_append_left _ (List.mem_append_left _ (List.mem_append_left _ (List.mem_append_left _ (List.mem_append_right _ h)))))) (List.mem_of_getElem? (i := 1) rfl) dX4_siteOf_13 ?_
  refine gR_X0_sites F hK hP (by decide) (fun _ h => List.mem_cons_of_mem _ (List.mem_append_left _ (List.mem_append_left _ (List.mem_append_left _ (List.mem_append_right _ h))))) (List.mem_of_getElem? (i := 2) rfl) dX4_siteOf_16 ?_
  refine lv_iload_n F.1 F.2.1 dX4_siteOf_19 rfl (lv_at hl 1 rfl) ?_
  obtain ⟨hb5, hf⟩ := ifg hf
  refine lA_GA2 F hK hP (by decide) hb5 dX4_siteOf_20 ?_
  refine lv_iload_n F.1 F.2.1 dX4_siteOf_21 rfl (lv_at hl 2 rfl) ?_
  obtain ⟨r6, hr7, hf⟩ := bnd hf
  refine x_callV F hK hG hP hS (o_S (by decide) (oob_lt hb5)) (kd_S 0 (by decide) a1.toNatClampNeg (oob_lt hb5)) (ci := 2) (fun _ => rfl) rfl (c_X2_numberOf (by decide) (oob_lt hb5) rfl a2 hr7) (cwV 1 F.2.2.2.2 gX4_siteOf_X2_numberOf rfl rfl rfl ⟨rfl, hd_X2_numberOf⟩ ⟨(Nat.le_of_ble_eq_true rfl), (Nat.le_of_ble_eq_true rfl)⟩) rfl rfl hl.1 (Nat.le_of_ble_eq_true rfl) dX4_siteOf_22 ⟨(Nat.le_of_ble_eq_true rfl), (Nat.le_of_ble_eq_true rfl)⟩ (rest := []) (fun H locs hP hS => ?_)
  refine W.eq (g2 := F0 m 25 ls [.int r6]) rfl ?_
  obtain rfl := Option.some.inj hf
  exact x_iretT F hr hlk hP hS rfl (Nat.le_of_ble_eq_true rfl) (Nat.le_of_ble_eq_true rfl) dX4_siteOf_25

-- FrostTubes.needCell(I)V
def f_X4_needCell (a0 : Int32) : Option (Nat) := (if a0 < 0 then some 3 else (if a0 < (30 : Int32) then some 0 else some 3))
def rmX4_needCell : Room := { frames := 6, cells := 1, slots := 6, locals := 82 }
theorem hd_X4_needCell : yX4_needCell.cls ≠ "java/lang/invoke/MethodHandle" ∧ yX4_needCell.cls ≠ "java/lang/invoke/VarHandle" ∧ (parseMethodDescriptor yX4_needCell.desc).map (fun d => d.parameters.length) = some 1 := by decide +kernel
set_option maxHeartbeats 8000000 in
set_option maxRecDepth 100000 in
theorem c_X4_needCell {l : Launch} (hlt : l.stackTraces = false) {D : va_G} {x : Nat} {μ : Mem} (a0 : Int32) {r : Nat} (hf : f_X4_needCell a0 = some r) : TX l yX4_needCell wsX4_needCell rmX4_needCell 1 6 [.int a0] D x μ r (none) μ := by
  refine TX.of (cc := cX4_needCell) (maxL := 1) (ret := none) pn_X4 rfl (Nat.le_of_ble_eq_true rfl) ?_
  intro p e s m args below meth c F hr hlk hx hK hG
  intro ls H locs hl hP hS
  have hl : lv_has ls 1 [(0, .int a0)] := hl
  unfold f_X4_needCell at hf
  refine lv_iload_n F.1 F.2.1 dX4_needCell_0 rfl (lv_at hl 0 rfl) ?_
  refine lv_if_lt (tgt := 10) F.1 F.2.1 dX4_needCell_1 rfl (fun hc1 => ?_) (fun hc1 => ?_)
  · have hf := ifp hc1 hf
    obtain rfl := Option.some.inj hf
    exact x_throw3 F hlt hG hP hS hx hlk rfl (List.mem_of_getElem? (i := 1) rfl) (List.mem_of_getElem? (i := 2) rfl) (fun _ h => List.mem_cons_of_mem _ (List.mem_append_right _ h)) (is := 244) (text := "no such cell") (List.mem_of_getElem? (i := 6) rfl) hl.1 dX4_needCell_10 dX4_needCell_13 dX4_needCell_14 dX4_needCell_16 dX4_needCell_19 (Nat.le_of_ble_eq_true rfl) (Nat.le_of_ble_eq_true rfl) (Nat.le_of_ble_eq_true rfl) (Nat.le_of_ble_eq_true rfl) (Nat.le_of_ble_eq_true rfl) (Nat.le_of_ble_eq_true rfl)
  · have hf := ifn hc1 hf
    refine lv_iload_n F.1 F.2.1 dX4_needCell_4 rfl (lv_at hl 0 rfl) ?_
    refine lv_bipush (v := (30 : Int32)) F.1 F.2.1 dX4_needCell_5 (by decide) ?_
    refine lv_icmp_lt (tgt := 20) F.1 F.2.1 dX4_needCell_7 rfl (fun hc2 => ?_) (fun hc2 => ?_)
    · have hf := ifp hc2 hf
      obtain rfl := Option.some.inj hf
      exact x_vretT F hr hlk hP hS rfl (Nat.le_of_ble_eq_true rfl) (Nat.le_of_ble_eq_true rfl) dX4_needCell_20
    · have hf := ifn hc2 hf
      obtain rfl := Option.some.inj hf
      exact x_throw3 F hlt hG hP hS hx hlk rfl (List.mem_of_getElem? (i := 1) rfl) (List.mem_of_getElem? (i := 2) rfl) (fun _ h => List.mem_cons_of_mem _ (List.mem_append_right _ h)) (is := 244) (text := "no such cell") (List.mem_of_getElem? (i := 6) rfl) hl.1 dX4_needCell_10 dX4_needCell_13 dX4_needCell_14 dX4_needCell_16 dX4_needCell_19 (Nat.le_of_ble_eq_true rfl) (Nat.le_of_ble_eq_true rfl) (Nat.le_of_ble_eq_true rfl) (Nat.le_of_ble_eq_true rfl) (Nat.le_of_ble_eq_true rfl) (Nat.le_of_ble_eq_true rfl)

-- FrostTubes.since(II)I
def f_X4_since (μ : Mem) (a1 : Int32) (a2 : Int32) : Option (Nat × Int32) := ((f_X4_needSite μ a1).bind fun r1 => if r1 = 0 then ((f_X4_needCell a2).bind fun r3 => if r3 = 0 then (if oob a1 4 then none else (if oob a2 30 then none else some (0, ((μ 0) (35 * a1.toNatClampNeg + (5 + a2.toNatClampNeg)))))) else some (r3, 0)) else some (r1, 0))
def rmX4_since : Room := { frames := 7, cells := 2, slots := 12, locals := 103 }
theorem hd_X4_since : yX4_since.cls ≠ "java/lang/invoke/MethodHandle" ∧ yX4_since.cls ≠ "java/lang/invoke/VarHandle" ∧ (parseMethodDescriptor yX4_since.desc).map (fun d => d.parameters.length) = some 2 := by decide +kernel
set_option maxHeartbeats 8000000 in
set_option maxRecDepth 100000 in
theorem c_X4_since {l : Launch} (hlt : l.stackTraces = false) {D : va_G} {x : Nat} {μ : Mem} (a1 : Int32) (a2 : Int32) {r : Nat × Int32} (hf : f_X4_since μ a1 a2 = some r) : TX l yX4_since wsX4_since rmX4_since 2 12 [.ref (x + 0), .int a1, .int a2] D x μ r.1 (some (.int r.2)) μ := by
  refine TX.of (cc := cX4_since) (maxL := 3) (ret := (some .int)) pn_X4 rfl (Nat.le_of_ble_eq_true rfl) ?_
  intro p e s m args below meth c F hr hlk hx hK hG
  intro ls H locs hl hP hS
  have hl : lv_has ls 3 [(0, .ref (x + 0)), (1, .int a1), (2, .int a2)] := hl
  unfold f_X4_since at hf
  refine lv_aload_n F.1 F.2.1 dX4_since_0 rfl (lv_at hl 0 rfl) ?_
  refine lv_iload_n F.1 F.2.1 dX4_since_1 rfl (lv_at hl 1 rfl) ?_
  obtain ⟨r1, hr2, hf⟩ := bnd hf
  refine x_callVT F hK hG hP hS hx hlk (o := 0) (by decide) (q := (0, 0, 0)) rfl (ci := 4) (fun _ => rfl) rfl (c_X4_needSite hlt a1 hr2) (cwV 1 F.2.2.2.2 gX4_since_X4_needSite rfl rfl rfl ⟨rfl, hd_X4_needSite⟩ ⟨(Nat.le_of_ble_eq_true rfl), (Nat.le_of_ble_eq_true rfl)⟩) rfl rfl hl.1 (Nat.le_of_ble_eq_true rfl) dX4_since_2 ⟨(Nat.le_of_ble_eq_true rfl), (Nat.le_of_ble_eq_true rfl)⟩ (Nat.le_of_ble_eq_true rfl) (Nat.le_of_ble_eq_true rfl) (fun hk => by have hf := ifn hk hf; obtain rfl := Option.some.inj hf; exact ⟨rfl, rfl⟩) (rest := []) (fun hk H locs hP hS => ?_)
  have hf := ifp hk hf
  refine W.eq (g2 := F0 m 5 ls []) rfl ?_
  refine lv_iload_n F.1 F.2.1 dX4_since_5 rfl (lv_at hl 2 rfl) ?_
  obtain ⟨r3, hr4, hf⟩ := bnd hf
  refine x_callST F hK hG hP hS hx hlk (c_X4_needCell hlt a2 hr4) (va_cwS 1 F.2.2.2.2 gX4_since_X4_needCell rfl rfl rfl hd_X4_needCell ⟨(Nat.le_of_ble_eq_true rfl), (Nat.le_of_ble_eq_true rfl)⟩) rfl rfl hl.1 (Nat.le_of_ble_eq_true rfl) dX4_since_6 ⟨(Nat.le_of_ble_eq_true rfl), (Nat.le_of_ble_eq_true rfl)⟩ (Nat.le_of_ble_eq_true rfl) (Nat.le_of_ble_eq_true rfl) (fun hk => by have hf := ifn hk hf; obtain rfl := Option.some.inj hf; exact ⟨rfl, rfl⟩) (rest := []) (fun hk H locs hP hS => ?_)
  have hf := ifp hk hf
  refine W.eq (g2 := F0 m 9 ls []) rfl ?_
  refine lv_aload_n F.1 F.2.1 dX4_since_9 rfl (lv_at hl 0 rfl) ?_
  refine gR_X4_now F hK hP  (fun _ h => List.mem_cons_of_mem _ (List.mem_append_left _ (List.mem_append_left _ (List.mem_append_left _ (List.mem_append_right _ h))))) (List.mem_of_getElem? (i := 1) rfl) dX4_since_10 ?_
  refine gR_X0_sites F hK hP (by decide) (fun _ h => List.mem_cons_of_mem _ (List.mem_append_left _ (List.mem_append_left _ (List.mem_append_right _ h)))) (List.mem_of_getElem? (i := 2) rfl) dX4_since_13 ?_
  refine lv_iload_n F.1 F.2.1 dX4_since_16 rfl (lv_at hl 1 rfl) ?_
  obtain ⟨hb5, hf⟩ := ifg hf
  refine lA_GA2 F hK hP (by decide) hb5 dX4_since_17 ?_
  refine gR_X2_frozenSince F hK hP (by decide) (oob_lt hb5) (fun _ h => List.mem_cons_of_mem _ (List.mem_append_left _ (List.mem_append_right _ h))) (List.mem_of_getElem? (i := 3) rfl) dX4_since_18 ?_
  refine lv_iload_n F.1 F.2.1 dX4_since_21 rfl (lv_at hl 2 rfl) ?_
  obtain ⟨hb6, hf⟩ := ifg hf
  refine lA_SA F hK hP (by decide) (oob_lt hb5) rfl hb6 dX4_since_22 ?_
  obtain rfl := Option.some.inj hf
  exact x_iretT F hr hlk hP hS rfl (Nat.le_of_ble_eq_true rfl) (Nat.le_of_ble_eq_true rfl) dX4_since_23

-- FrostTubes.layerOf(III)I
def f_X4_layerOf (μ : Mem) (a1 : Int32) (a2 : Int32) (a3 : Int32) : Option (Nat × Int32) := ((f_X4_needSite μ a1).bind fun r1 => if r1 = 0 then (if oob a1 4 then none else ((f_X2_firstOfLayer (μ 0) a1.toNatClampNeg a2).bind fun r4 => (if r4 = (-1 : Int32) then some (3, 0) else ((f_X4_needRange a3 (0 : Int32) (3 : Int32)).bind fun r7 => if r7 = 0 then (if oob a1 4 then none else ((f_X2_numberOfLayer (μ 0) a1.toNatClampNeg r4 a3).bind fun r10 => some (0, r10))) else some (r7, 0))))) else some (r1, 0))
def rmX4_layerOf : Room := { frames := 7, cells := 2, slots := 12, locals := 104 }
theorem hd_X4_layerOf : yX4_layerOf.cls ≠ "java/lang/invoke/MethodHandle" ∧ yX4_layerOf.cls ≠ "java/lang/invoke/VarHandle" ∧ (parseMethodDescriptor yX4_layerOf.desc).map (fun d => d.parameters.length) = some 3 := by decide +kernel
set_option maxHeartbeats 8000000 in
set_option maxRecDepth 100000 in
theorem c_X4_layerOf {l : Launch} (hlt : l.stackTraces = false) {D : va_G} {x : Nat} {μ : Mem} (a1 : Int32) (a2 : Int32) (a3 : Int32) {r : Nat × Int32} (hf : f_X4_layerOf μ a1 a2 a3 = some r) : TX l yX4_layerOf wsX4_layerOf rmX4_layerOf 2 12 [.ref (x + 0), .int a1, .int a2, .int a3] D x μ r.1 (some (.int r.2)) μ := by
  refine TX.of (cc := cX4_layerOf) (maxL := 5) (ret := (some .int)) pn_X4 rfl (Nat.le_of_ble_eq_true rfl) ?_
  intro p e s m args below meth c F hr hlk hx hK hG
  intro ls H locs hl hP hS
  have hl : lv_has ls 5 [(0, .ref (x + 0)), (1, .int a1), (2, .int a2), (3, .int a3)] := hl
  unfold f_X4_layerOf at hf
  refine lv_aload_n F.1 F.2.1 dX4_layerOf_0 rfl (lv_at hl 0 rfl) ?_
  refine lv_iload_n F.1 F.2.1 dX4_layerOf_1 rfl (lv_at hl 1 rfl) ?_
  obtain ⟨r1, hr2, hf⟩ := bnd hf
  refine x_callVT F hK hG hP hS hx hlk (o := 0) (by decide) (q := (0, 0, 0)) rfl (ci := 4) (fun _ => rfl) rfl (c_X4_needSite hlt a1 hr2) (cwV 1 F.2.2.2.2 gX4_layerOf_X4_needSite rfl rfl rfl ⟨rfl, hd_X4_needSite⟩ ⟨(Nat.le_of_ble_eq_true rfl), (Nat.le_of_ble_eq_true rfl)⟩) rfl rfl hl.1 (Nat.le_of_ble_eq_true rfl) dX4_layerOf_2 ⟨(Nat.le_of_ble_eq_true rfl), (Nat.le_of_ble_eq_true rfl)⟩ (Nat.le_of_ble_eq_true rfl) (Nat.le_of_ble_eq_true rfl) (fun hk => by have hf := ifn hk hf; obtain rfl := Option.some.inj hf; exact ⟨rfl, rfl⟩) (rest := []) (fun hk H locs hP hS => ?_)
  have hf := ifp hk hf
  refine W.eq (g2 := F0 m 5 ls []) rfl ?_
  refine lv_aload_n F.1 F.2.1 dX4_layerOf_5 rfl (lv_at hl 0 rfl) ?_
  refine gR_X4_now F hK hP  (fun _ h => List.mem_cons_of_mem _ (List.mem_append_left _ (List.mem_append_left _ (List.mem_append_left _ (List.mem_append_left _ (List.mem_append_right _ h)))))) (List.mem_of_getElem? (i := 3) rfl) dX4_layerOf_6 ?_
  refine gR_X0_sites F hK hP (by decide) (fun _ h => List.mem_cons_of_mem _ (List.mem_append_left _ (List.mem_append_left _ (List.mem_append_left _ (List.mem_append_right _ h))))) (List.mem_of_getElem? (i := 4) rfl) dX4_layerOf_9 ?_
  refine lv_iload_n F.1 F.2.1 dX4_layerOf_12 rfl (lv_at hl 1 rfl) ?_
  obtain ⟨hb3, hf⟩ := ifg hf
  refine lA_GA2 F hK hP (by decide) hb3 dX4_layerOf_13 ?_
  refine lv_iload_n F.1 F.2.1 dX4_layerOf_14 rfl (lv_at hl 2 rfl) ?_
  obtain ⟨r4, hr5, hf⟩ := bnd hf
  refine x_callV F hK hG hP hS (o_S (by decide) (oob_lt hb3)) (kd_S 0 (by decide) a1.toNatClampNeg (oob_lt hb3)) (ci := 2) (fun _ => rfl) rfl (c_X2_firstOfLayer (by decide) (oob_lt hb3) rfl a2 hr5) (cwV 1 F.2.2.2.2 gX4_layerOf_X2_firstOfLayer rfl rfl rfl ⟨rfl, hd_X2_firstOfLayer⟩ ⟨(Nat.le_of_ble_eq_true rfl), (Nat.le_of_ble_eq_true rfl)⟩) rfl rfl hl.1 (Nat.le_of_ble_eq_true rfl) dX4_layerOf_15 ⟨(Nat.le_of_ble_eq_true rfl), (Nat.le_of_ble_eq_true rfl)⟩ (rest := []) (fun H locs hP hS => ?_)
  refine W.eq (g2 := F0 m 18 ls [.int r4]) rfl ?_
  refine lv_istore F.1 F.2.1 dX4_layerOf_18 hl (Nat.le_of_ble_eq_true rfl) rfl (fun ls hl => ?_)
  have hl : lv_has ls 5 [(4, .int r4), (0, .ref (x + 0)), (1, .int a1), (2, .int a2), (3, .int a3)] := hl
  refine lv_iload F.1 F.2.1 dX4_layerOf_20 (lv_at hl 0 rfl) ?_
  refine lv_iconst (v := (-1 : Int32)) F.1 F.2.1 dX4_layerOf_22 (by decide) ?_
  refine lv_icmp_ne (tgt := 36) F.1 F.2.1 dX4_layerOf_23 rfl (fun hc6 => ?_) (fun hc6 => ?_)
  · have hf := ifn hc6 hf
    refine lv_iload_n F.1 F.2.1 dX4_layerOf_36 rfl (lv_at hl 4 rfl) ?_
    refine lv_iconst (v := (0 : Int32)) F.1 F.2.1 dX4_layerOf_37 (by decide) ?_
    refine lv_iconst (v := (3 : Int32)) F.1 F.2.1 dX4_layerOf_38 (by decide) ?_
    obtain ⟨r7, hr8, hf⟩ := bnd hf
    refine x_callST F hK hG hP hS hx hlk (c_X4_needRange hlt a3 (0 : Int32) (3 : Int32) hr8) (va_cwS 3 F.2.2.2.2 gX4_layerOf_X4_needRange rfl rfl rfl hd_X4_needRange ⟨(Nat.le_of_ble_eq_true rfl), (Nat.le_of_ble_eq_true rfl)⟩) rfl rfl hl.1 (Nat.le_of_ble_eq_true rfl) dX4_layerOf_39 ⟨(Nat.le_of_ble_eq_true rfl), (Nat.le_of_ble_eq_true rfl)⟩ (Nat.le_of_ble_eq_true rfl) (Nat.le_of_ble_eq_true rfl) (fun hk => by have hf := ifn hk hf; obtain rfl := Option.some.inj hf; exact ⟨rfl, rfl⟩) (rest := []) (fun hk H locs hP hS => ?_)
    have hf := ifp hk hf
    refine W.eq (g2 := F0 m 42 ls []) rfl ?_
    refine lv_aload_n F.1 F.2.1 dX4_layerOf_42 rfl (lv_at hl 1 rfl) ?_
    refine gR_X4_now F hK hP  (fun _ h => List.mem_cons_of_mem _ (List.mem_append_left _ (List.mem_append_left _ (List.mem_append_left _ (List.mem_append_left _ (List.mem_append_right _ h)))))) (List.mem_of_getElem? (i := 3) rfl) dX4_layerOf_43 ?_
    refine gR_X0_sites F hK hP (by decide) (fun _ h => List.mem_cons_of_mem _ (List.mem_append_left _ (List.mem_append_left _ (List.mem_append_left _ (List.mem_append_right _ h))))) (List.mem_of_getElem? (i := 4) rfl) dX4_layerOf_46 ?_
    refine lv_iload_n F.1 F.2.1 dX4_layerOf_49 rfl (lv_at hl 2 rfl) ?_
    obtain ⟨hb9, hf⟩ := ifg hf
    refine lA_GA2 F hK hP (by decide) hb9 dX4_layerOf_50 ?_
    refine lv_iload F.1 F.2.1 dX4_layerOf_51 (lv_at hl 0 rfl) ?_
    refine lv_iload_n F.1 F.2.1 dX4_layerOf_53 rfl (lv_at hl 4 rfl) ?_
    obtain ⟨r10, hr11, hf⟩ := bnd hf
    refine x_callV F hK hG hP hS (o_S (by decide) (oob_lt hb9)) (kd_S 0 (by decide) a1.toNatClampNeg (oob_lt hb9)) (ci := 2) (fun _ => rfl) rfl (c_X2_numberOfLayer (by decide) (oob_lt hb9) rfl r4 a3 hr11) (cwV 2 F.2.2.2.2 gX4_layerOf_X2_numberOfLayer rfl rfl rfl ⟨rfl, hd_X2_numberOfLayer⟩ ⟨(Nat.le_of_ble_eq_true rfl), (Nat.le_of_ble_eq_true rfl)⟩) rfl rfl hl.1 (Nat.le_of_ble_eq_true rfl) dX4_layerOf_54 ⟨(Nat.le_of_ble_eq_true rfl), (Nat.le_of_ble_eq_true rfl)⟩ (rest := []) (fun H locs hP hS => ?_)
    refine W.eq (g2 := F0 m 57 ls [.int r10]) rfl ?_
    obtain rfl := Option.some.inj hf
    exact x_iretT F hr hlk hP hS rfl (Nat.le_of_ble_eq_true rfl) (Nat.le_of_ble_eq_true rfl) dX4_layerOf_57
  · have hf := ifp hc6 hf
    obtain rfl := Option.some.inj hf
    exact x_throw3 F hlt hG hP hS hx hlk rfl (List.mem_of_getElem? (i := 1) rfl) (List.mem_of_getElem? (i := 2) rfl) (fun _ h => List.mem_cons_of_mem _ (List.mem_append_left _ (List.mem_append_right _ h))) (is := 128) (text := "no such layer") (List.mem_of_getElem? (i := 7) rfl) hl.1 dX4_layerOf_26 dX4_layerOf_29 dX4_layerOf_30 dX4_layerOf_32 dX4_layerOf_35 (Nat.le_of_ble_eq_true rfl) (Nat.le_of_ble_eq_true rfl) (Nat.le_of_ble_eq_true rfl) (Nat.le_of_ble_eq_true rfl) (Nat.le_of_ble_eq_true rfl) (Nat.le_of_ble_eq_true rfl)

-- FrostTubes.tubeOf(II)I
def f_X4_tubeOf (μ : Mem) (a1 : Int32) (a2 : Int32) : Option (Nat × Int32) := (if a1 < 0 then some (3, 0) else (if a1 < ((μ 0) 197) then ((f_X4_needRange a2 (0 : Int32) (5 : Int32)).bind fun r3 => if r3 = 0 then ((f_X0_numberOfTube (μ 0) a1 a2).bind fun r5 => some (0, r5)) else some (r3, 0)) else some (3, 0)))
def rmX4_tubeOf : Room := { frames := 7, cells := 1, slots := 6, locals := 104 }
theorem hd_X4_tubeOf : yX4_tubeOf.cls ≠ "java/lang/invoke/MethodHandle" ∧ yX4_tubeOf.cls ≠ "java/lang/invoke/VarHandle" ∧ (parseMethodDescriptor yX4_tubeOf.desc).map (fun d => d.parameters.length) = some 2 := by decide +kernel
set_option maxHeartbeats 8000000 in
set_option maxRecDepth 100000 in
theorem c_X4_tubeOf {l : Launch} (hlt : l.stackTraces = false) {D : va_G} {x : Nat} {μ : Mem} (a1 : Int32) (a2 : Int32) {r : Nat × Int32} (hf : f_X4_tubeOf μ a1 a2 = some r) : TX l yX4_tubeOf wsX4_tubeOf rmX4_tubeOf 1 6 [.ref (x + 0), .int a1, .int a2] D x μ r.1 (some (.int r.2)) μ := by
  refine TX.of (cc := cX4_tubeOf) (maxL := 3) (ret := (some .int)) pn_X4 rfl (Nat.le_of_ble_eq_true rfl) ?_
  intro p e s m args below meth c F hr hlk hx hK hG
  intro ls H locs hl hP hS
  have hl : lv_has ls 3 [(0, .ref (x + 0)), (1, .int a1), (2, .int a2)] := hl
  unfold f_X4_tubeOf at hf
  refine lv_iload_n F.1 F.2.1 dX4_tubeOf_0 rfl (lv_at hl 1 rfl) ?_
  refine lv_if_lt (tgt := 15) F.1 F.2.1 dX4_tubeOf_1 rfl (fun hc1 => ?_) (fun hc1 => ?_)
  · have hf := ifp hc1 hf
    obtain rfl := Option.some.inj hf
    exact x_throw3 F hlt hG hP hS hx hlk rfl (List.mem_of_getElem? (i := 1) rfl) (List.mem_of_getElem? (i := 2) rfl) (fun _ h => List.mem_cons_of_mem _ (List.mem_append_left _ (List.mem_append_right _ h))) (is := 138) (text := "no such tube") (List.mem_of_getElem? (i := 8) rfl) hl.1 dX4_tubeOf_15 dX4_tubeOf_18 dX4_tubeOf_19 dX4_tubeOf_21 dX4_tubeOf_24 (Nat.le_of_ble_eq_true rfl) (Nat.le_of_ble_eq_true rfl) (Nat.le_of_ble_eq_true rfl) (Nat.le_of_ble_eq_true rfl) (Nat.le_of_ble_eq_true rfl) (Nat.le_of_ble_eq_true rfl)
  · have hf := ifn hc1 hf
    refine lv_iload_n F.1 F.2.1 dX4_tubeOf_4 rfl (lv_at hl 1 rfl) ?_
    refine lv_aload_n F.1 F.2.1 dX4_tubeOf_5 rfl (lv_at hl 0 rfl) ?_
    refine gR_X4_now F hK hP  (fun _ h => List.mem_cons_of_mem _ (List.mem_append_left _ (List.mem_append_left _ (List.mem_append_left _ (List.mem_append_left _ (List.mem_append_right _ h)))))) (List.mem_of_getElem? (i := 3) rfl) dX4_tubeOf_6 ?_
    refine gI_X0_tubeCount F hK hP (by decide) rfl (fun _ h => List.mem_cons_of_mem _ (List.mem_append_left _ (List.mem_append_left _ (List.mem_append_left _ (List.mem_append_right _ h))))) (List.mem_of_getElem? (i := 4) rfl) dX4_tubeOf_9 ?_
    refine lv_icmp_lt (tgt := 25) F.1 F.2.1 dX4_tubeOf_12 rfl (fun hc2 => ?_) (fun hc2 => ?_)
    · have hf := ifp hc2 hf
      refine lv_iload_n F.1 F.2.1 dX4_tubeOf_25 rfl (lv_at hl 2 rfl) ?_
      refine lv_iconst (v := (0 : Int32)) F.1 F.2.1 dX4_tubeOf_26 (by decide) ?_
      refine lv_iconst (v := (5 : Int32)) F.1 F.2.1 dX4_tubeOf_27 (by decide) ?_
      obtain ⟨r3, hr4, hf⟩ := bnd hf
      refine x_callST F hK hG hP hS hx hlk (c_X4_needRange hlt a2 (0 : Int32) (5 : Int32) hr4) (va_cwS 3 F.2.2.2.2 gX4_tubeOf_X4_needRange rfl rfl rfl hd_X4_needRange ⟨(Nat.le_of_ble_eq_true rfl), (Nat.le_of_ble_eq_true rfl)⟩) rfl rfl hl.1 (Nat.le_of_ble_eq_true rfl) dX4_tubeOf_28 ⟨(Nat.le_of_ble_eq_true rfl), (Nat.le_of_ble_eq_true rfl)⟩ (Nat.le_of_ble_eq_true rfl) (Nat.le_of_ble_eq_true rfl) (fun hk => by have hf := ifn hk hf; obtain rfl := Option.some.inj hf; exact ⟨rfl, rfl⟩) (rest := []) (fun hk H locs hP hS => ?_)
      have hf := ifp hk hf
      refine W.eq (g2 := F0 m 31 ls []) rfl ?_
      refine lv_aload_n F.1 F.2.1 dX4_tubeOf_31 rfl (lv_at hl 0 rfl) ?_
      refine gR_X4_now F hK hP  (fun _ h => List.mem_cons_of_mem _ (List.mem_append_left _ (List.mem_append_left _ (List.mem_append_left _ (List.mem_append_left _ (List.mem_append_right _ h)))))) (List.mem_of_getElem? (i := 3) rfl) dX4_tubeOf_32 ?_
      refine lv_iload_n F.1 F.2.1 dX4_tubeOf_35 rfl (lv_at hl 1 rfl) ?_
      refine lv_iload_n F.1 F.2.1 dX4_tubeOf_36 rfl (lv_at hl 2 rfl) ?_
      obtain ⟨r5, hr6, hf⟩ := bnd hf
      refine x_callV F hK hG hP hS (o_G (by decide) (c := 0) (by decide)) (kd_G 0 (by decide) 0 (by decide)) (ci := 0) (fun _ => rfl) rfl (c_X0_numberOfTube (by decide) rfl a1 a2 hr6) (cwV 2 F.2.2.2.2 gX4_tubeOf_X0_numberOfTube rfl rfl rfl ⟨rfl, hd_X0_numberOfTube⟩ ⟨(Nat.le_of_ble_eq_true rfl), (Nat.le_of_ble_eq_true rfl)⟩) rfl rfl hl.1 (Nat.le_of_ble_eq_true rfl) dX4_tubeOf_37 ⟨(Nat.le_of_ble_eq_true rfl), (Nat.le_of_ble_eq_true rfl)⟩ (rest := []) (fun H locs hP hS => ?_)
      refine W.eq (g2 := F0 m 40 ls [.int r5]) rfl ?_
      obtain rfl := Option.some.inj hf
      exact x_iretT F hr hlk hP hS rfl (Nat.le_of_ble_eq_true rfl) (Nat.le_of_ble_eq_true rfl) dX4_tubeOf_40
    · have hf := ifn hc2 hf
      obtain rfl := Option.some.inj hf
      exact x_throw3 F hlt hG hP hS hx hlk rfl (List.mem_of_getElem? (i := 1) rfl) (List.mem_of_getElem? (i := 2) rfl) (fun _ h => List.mem_cons_of_mem _ (List.mem_append_left _ (List.mem_append_right _ h))) (is := 138) (text := "no such tube") (List.mem_of_getElem? (i := 8) rfl) hl.1 dX4_tubeOf_15 dX4_tubeOf_18 dX4_tubeOf_19 dX4_tubeOf_21 dX4_tubeOf_24 (Nat.le_of_ble_eq_true rfl) (Nat.le_of_ble_eq_true rfl) (Nat.le_of_ble_eq_true rfl) (Nat.le_of_ble_eq_true rfl) (Nat.le_of_ble_eq_true rfl) (Nat.le_of_ble_eq_true rfl)

-- FrostTubes.needPipe(I)V
def f_X4_needPipe (μ : Mem) (a1 : Int32) : Option (Nat) := ((f_X0_hasPipe (μ 0) a1).bind fun r1 => (if r1 = 0 then some 3 else some 0))
def rmX4_needPipe : Room := { frames := 6, cells := 1, slots := 6, locals := 82 }
theorem hd_X4_needPipe : yX4_needPipe.cls ≠ "java/lang/invoke/MethodHandle" ∧ yX4_needPipe.cls ≠ "java/lang/invoke/VarHandle" ∧ (parseMethodDescriptor yX4_needPipe.desc).map (fun d => d.parameters.length) = some 1 := by decide +kernel
set_option maxHeartbeats 8000000 in
set_option maxRecDepth 100000 in
theorem c_X4_needPipe {l : Launch} (hlt : l.stackTraces = false) {D : va_G} {x : Nat} {μ : Mem} (a1 : Int32) {r : Nat} (hf : f_X4_needPipe μ a1 = some r) : TX l yX4_needPipe wsX4_needPipe rmX4_needPipe 1 6 [.ref (x + 0), .int a1] D x μ r (none) μ := by
  refine TX.of (cc := cX4_needPipe) (maxL := 2) (ret := none) pn_X4 rfl (Nat.le_of_ble_eq_true rfl) ?_
  intro p e s m args below meth c F hr hlk hx hK hG
  intro ls H locs hl hP hS
  have hl : lv_has ls 2 [(0, .ref (x + 0)), (1, .int a1)] := hl
  unfold f_X4_needPipe at hf
  refine lv_aload_n F.1 F.2.1 dX4_needPipe_0 rfl (lv_at hl 0 rfl) ?_
  refine gR_X4_now F hK hP  (fun _ h => List.mem_cons_of_mem _ (List.mem_append_left _ (List.mem_append_left _ (List.mem_append_right _ h)))) (List.mem_of_getElem? (i := 3) rfl) dX4_needPipe_1 ?_
  refine lv_iload_n F.1 F.2.1 dX4_needPipe_4 rfl (lv_at hl 1 rfl) ?_
  obtain ⟨r1, hr2, hf⟩ := bnd hf
  refine x_callV F hK hG hP hS (o_G (by decide) (c := 0) (by decide)) (kd_G 0 (by decide) 0 (by decide)) (ci := 0) (fun _ => rfl) rfl (c_X0_hasPipe (by decide) rfl a1 hr2) (cwV 1 F.2.2.2.2 gX4_needPipe_X0_hasPipe rfl rfl rfl ⟨rfl, hd_X0_hasPipe⟩ ⟨(Nat.le_of_ble_eq_true rfl), (Nat.le_of_ble_eq_true rfl)⟩) rfl rfl hl.1 (Nat.le_of_ble_eq_true rfl) dX4_needPipe_5 ⟨(Nat.le_of_ble_eq_true rfl), (Nat.le_of_ble_eq_true rfl)⟩ (rest := []) (fun H locs hP hS => ?_)
  refine W.eq (g2 := F0 m 8 ls [.int r1]) rfl ?_
  refine lv_if_ne (tgt := 22) F.1 F.2.1 dX4_needPipe_8 rfl (fun hc3 => ?_) (fun hc3 => ?_)
  · have hf := ifn hc3 hf
    obtain rfl := Option.some.inj hf
    exact x_vretT F hr hlk hP hS rfl (Nat.le_of_ble_eq_true rfl) (Nat.le_of_ble_eq_true rfl) dX4_needPipe_22
  · have hf := ifp hc3 hf
    obtain rfl := Option.some.inj hf
    exact x_throw3W F hlt hG hP hS hx hlk rfl (List.mem_of_getElem? (i := 1) rfl) (List.mem_of_getElem? (i := 2) rfl) (fun _ h => List.mem_cons_of_mem _ (List.mem_append_right _ h)) (is := 256) (text := "no such pipe") (List.mem_of_getElem? (i := 9) rfl) hl.1 dX4_needPipe_11 dX4_needPipe_14 dX4_needPipe_15 dX4_needPipe_18 dX4_needPipe_21 (Nat.le_of_ble_eq_true rfl) (Nat.le_of_ble_eq_true rfl) (Nat.le_of_ble_eq_true rfl) (Nat.le_of_ble_eq_true rfl) (Nat.le_of_ble_eq_true rfl) (Nat.le_of_ble_eq_true rfl)

-- FrostTubes.pipeOf(II)I
def f_X4_pipeOf (μ : Mem) (a1 : Int32) (a2 : Int32) : Option (Nat × Int32) := ((f_X4_needPipe μ a1).bind fun r1 => if r1 = 0 then ((f_X4_needRange a2 (0 : Int32) (4 : Int32)).bind fun r3 => if r3 = 0 then ((f_X0_numberOfPipe (μ 0) a1 a2).bind fun r5 => some (0, r5)) else some (r3, 0)) else some (r1, 0))
def rmX4_pipeOf : Room := { frames := 7, cells := 2, slots := 12, locals := 104 }
theorem hd_X4_pipeOf : yX4_pipeOf.cls ≠ "java/lang/invoke/MethodHandle" ∧ yX4_pipeOf.cls ≠ "java/lang/invoke/VarHandle" ∧ (parseMethodDescriptor yX4_pipeOf.desc).map (fun d => d.parameters.length) = some 2 := by decide +kernel
set_option maxHeartbeats 8000000 in
set_option maxRecDepth 100000 in
theorem c_X4_pipeOf {l : Launch} (hlt : l.stackTraces = false) {D : va_G} {x : Nat} {μ : Mem} (a1 : Int32) (a2 : Int32) {r : Nat × Int32} (hf : f_X4_pipeOf μ a1 a2 = some r) : TX l yX4_pipeOf wsX4_pipeOf rmX4_pipeOf 2 12 [.ref (x + 0), .int a1, .int a2] D x μ r.1 (some (.int r.2)) μ := by
  refine TX.of (cc := cX4_pipeOf) (maxL := 3) (ret := (some .int)) pn_X4 rfl (Nat.le_of_ble_eq_true rfl) ?_
  intro p e s m args below meth c F hr hlk hx hK hG
  intro ls H locs hl hP hS
  have hl : lv_has ls 3 [(0, .ref (x + 0)), (1, .int a1), (2, .int a2)] := hl
  unfold f_X4_pipeOf at hf
  refine lv_aload_n F.1 F.2.1 dX4_pipeOf_0 rfl (lv_at hl 0 rfl) ?_
  refine lv_iload_n F.1 F.2.1 dX4_pipeOf_1 rfl (lv_at hl 1 rfl) ?_
  obtain ⟨r1, hr2, hf⟩ := bnd hf
  refine x_callVT F hK hG hP hS hx hlk (o := 0) (by decide) (q := (0, 0, 0)) rfl (ci := 4) (fun _ => rfl) rfl (c_X4_needPipe hlt a1 hr2) (cwV 1 F.2.2.2.2 gX4_pipeOf_X4_needPipe rfl rfl rfl ⟨rfl, hd_X4_needPipe⟩ ⟨(Nat.le_of_ble_eq_true rfl), (Nat.le_of_ble_eq_true rfl)⟩) rfl rfl hl.1 (Nat.le_of_ble_eq_true rfl) dX4_pipeOf_2 ⟨(Nat.le_of_ble_eq_true rfl), (Nat.le_of_ble_eq_true rfl)⟩ (Nat.le_of_ble_eq_true rfl) (Nat.le_of_ble_eq_true rfl) (fun hk => by have hf := ifn hk hf; obtain rfl := Option.some.inj hf; exact ⟨rfl, rfl⟩) (rest := []) (fun hk H locs hP hS => ?_)
  have hf := ifp hk hf
  refine W.eq (g2 := F0 m 5 ls []) rfl ?_
  refine lv_iload_n F.1 F.2.1 dX4_pipeOf_5 rfl (lv_at hl 2 rfl) ?_
  refine lv_iconst (v := (0 : Int32)) F.1 F.2.1 dX4_pipeOf_6 (by decide) ?_
  refine lv_iconst (v := (4 : Int32)) F.1 F.2.1 dX4_pipeOf_7 (by decide) ?_
  obtain ⟨r3, hr4, hf⟩ := bnd hf
  refine x_callST F hK hG hP hS hx hlk (c_X4_needRange hlt a2 (0 : Int32) (4 : Int32) hr4) (va_cwS 3 F.2.2.2.2 gX4_pipeOf_X4_needRange rfl rfl rfl hd_X4_needRange ⟨(Nat.le_of_ble_eq_true rfl), (Nat.le_of_ble_eq_true rfl)⟩) rfl rfl hl.1 (Nat.le_of_ble_eq_true rfl) dX4_pipeOf_8 ⟨(Nat.le_of_ble_eq_true rfl), (Nat.le_of_ble_eq_true rfl)⟩ (Nat.le_of_ble_eq_true rfl) (Nat.le_of_ble_eq_true rfl) (fun hk => by have hf := ifn hk hf; obtain rfl := Option.some.inj hf; exact ⟨rfl, rfl⟩) (rest := []) (fun hk H locs hP hS => ?_)
  have hf := ifp hk hf
  refine W.eq (g2 := F0 m 11 ls []) rfl ?_
  refine lv_aload_n F.1 F.2.1 dX4_pipeOf_11 rfl (lv_at hl 0 rfl) ?_
  refine gR_X4_now F hK hP  (fun _ h => List.mem_cons_of_mem _ (List.mem_append_left _ (List.mem_append_left _ (List.mem_append_left _ (List.mem_append_right _ h))))) (List.mem_of_getElem? (i := 1) rfl) dX4_pipeOf_12 ?_
  refine lv_iload_n F.1 F.2.1 dX4_pipeOf_15 rfl (lv_at hl 1 rfl) ?_
  refine lv_iload_n F.1 F.2.1 dX4_pipeOf_16 rfl (lv_at hl 2 rfl) ?_
  obtain ⟨r5, hr6, hf⟩ := bnd hf
  refine x_callV F hK hG hP hS (o_G (by decide) (c := 0) (by decide)) (kd_G 0 (by decide) 0 (by decide)) (ci := 0) (fun _ => rfl) rfl (c_X0_numberOfPipe (by decide) rfl a1 a2 hr6) (cwV 2 F.2.2.2.2 gX4_pipeOf_X0_numberOfPipe rfl rfl rfl ⟨rfl, hd_X0_numberOfPipe⟩ ⟨(Nat.le_of_ble_eq_true rfl), (Nat.le_of_ble_eq_true rfl)⟩) rfl rfl hl.1 (Nat.le_of_ble_eq_true rfl) dX4_pipeOf_17 ⟨(Nat.le_of_ble_eq_true rfl), (Nat.le_of_ble_eq_true rfl)⟩ (rest := []) (fun H locs hP hS => ?_)
  refine W.eq (g2 := F0 m 20 ls [.int r5]) rfl ?_
  obtain rfl := Option.some.inj hf
  exact x_iretT F hr hlk hP hS rfl (Nat.le_of_ble_eq_true rfl) (Nat.le_of_ble_eq_true rfl) dX4_pipeOf_20

-- FrostTubes.layers(II)I
def f_X4_layers (μ : Mem) (a1 : Int32) (a2 : Int32) : Option (Nat × Int32) := ((f_X4_needSite μ a1).bind fun r1 => if r1 = 0 then ((f_X4_needRange a2 (0 : Int32) (1 : Int32)).bind fun r3 => if r3 = 0 then (if a2 = 0 then (if oob a1 4 then none else ((f_X2_layersWithin (μ 0) a1.toNatClampNeg (30 : Int32)).bind fun r10 => some (0, r10))) else (if oob a1 4 then none else ((f_X2_layersAsTheyFroze (μ 0) a1.toNatClampNeg).bind fun r7 => some (0, r7)))) else some (r3, 0)) else some (r1, 0))
def rmX4_layers : Room := { frames := 7, cells := 2, slots := 12, locals := 104 }
theorem hd_X4_layers : yX4_layers.cls ≠ "java/lang/invoke/MethodHandle" ∧ yX4_layers.cls ≠ "java/lang/invoke/VarHandle" ∧ (parseMethodDescriptor yX4_layers.desc).map (fun d => d.parameters.length) = some 2 := by decide +kernel
set_option maxHeartbeats 8000000 in
set_option maxRecDepth 100000 in
theorem c_X4_layers {l : Launch} (hlt : l.stackTraces = false) {D : va_G} {x : Nat} {μ : Mem} (a1 : Int32) (a2 : Int32) {r : Nat × Int32} (hf : f_X4_layers μ a1 a2 = some r) : TX l yX4_layers wsX4_layers rmX4_layers 2 12 [.ref (x + 0), .int a1, .int a2] D x μ r.1 (some (.int r.2)) μ := by
  refine TX.of (cc := cX4_layers) (maxL := 3) (ret := (some .int)) pn_X4 rfl (Nat.le_of_ble_eq_true rfl) ?_
  intro p e s m args below meth c F hr hlk hx hK hG
  intro ls H locs hl hP hS
  have hl : lv_has ls 3 [(0, .ref (x + 0)), (1, .int a1), (2, .int a2)] := hl
  unfold f_X4_layers at hf
  refine lv_aload_n F.1 F.2.1 dX4_layers_0 rfl (lv_at hl 0 rfl) ?_
  refine lv_iload_n F.1 F.2.1 dX4_layers_1 rfl (lv_at hl 1 rfl) ?_
  obtain ⟨r1, hr2, hf⟩ := bnd hf
  refine x_callVT F hK hG hP hS hx hlk (o := 0) (by decide) (q := (0, 0, 0)) rfl (ci := 4) (fun _ => rfl) rfl (c_X4_needSite hlt a1 hr2) (cwV 1 F.2.2.2.2 gX4_layers_X4_needSite rfl rfl rfl ⟨rfl, hd_X4_needSite⟩ ⟨(Nat.le_of_ble_eq_true rfl), (Nat.le_of_ble_eq_true rfl)⟩) rfl rfl hl.1 (Nat.le_of_ble_eq_true rfl) dX4_layers_2 ⟨(Nat.le_of_ble_eq_true rfl), (Nat.le_of_ble_eq_true rfl)⟩ (Nat.le_of_ble_eq_true rfl) (Nat.le_of_ble_eq_true rfl) (fun hk => by have hf := ifn hk hf; obtain rfl := Option.some.inj hf; exact ⟨rfl, rfl⟩) (rest := []) (fun hk H locs hP hS => ?_)
  have hf := ifp hk hf
  refine W.eq (g2 := F0 m 5 ls []) rfl ?_
  refine lv_iload_n F.1 F.2.1 dX4_layers_5 rfl (lv_at hl 2 rfl) ?_
  refine lv_iconst (v := (0 : Int32)) F.1 F.2.1 dX4_layers_6 (by decide) ?_
  refine lv_iconst (v := (1 : Int32)) F.1 F.2.1 dX4_layers_7 (by decide) ?_
  obtain ⟨r3, hr4, hf⟩ := bnd hf
  refine x_callST F hK hG hP hS hx hlk (c_X4_needRange hlt a2 (0 : Int32) (1 : Int32) hr4) (va_cwS 3 F.2.2.2.2 gX4_layers_X4_needRange rfl rfl rfl hd_X4_needRange ⟨(Nat.le_of_ble_eq_true rfl), (Nat.le_of_ble_eq_true rfl)⟩) rfl rfl hl.1 (Nat.le_of_ble_eq_true rfl) dX4_layers_8 ⟨(Nat.le_of_ble_eq_true rfl), (Nat.le_of_ble_eq_true rfl)⟩ (Nat.le_of_ble_eq_true rfl) (Nat.le_of_ble_eq_true rfl) (fun hk => by have hf := ifn hk hf; obtain rfl := Option.some.inj hf; exact ⟨rfl, rfl⟩) (rest := []) (fun hk H locs hP hS => ?_)
  have hf := ifp hk hf
  refine W.eq (g2 := F0 m 11 ls []) rfl ?_
  refine lv_iload_n F.1 F.2.1 dX4_layers_11 rfl (lv_at hl 2 rfl) ?_
  refine lv_if_ne (tgt := 32) F.1 F.2.1 dX4_layers_12 rfl (fun hc5 => ?_) (fun hc5 => ?_)
  · have hf := ifn hc5 hf
    refine lv_aload_n F.1 F.2.1 dX4_layers_32 rfl (lv_at hl 0 rfl) ?_
    refine gR_X4_now F hK hP  (fun _ h => List.mem_cons_of_mem _ (List.mem_append_left _ (List.mem_append_left _ (List.mem_append_left _ (List.mem_append_left _ (List.mem_append_right _ h)))))) (List.mem_of_getElem? (i := 1) rfl) dX4_layers_33 ?_
    refine gR_X0_sites F hK hP (by decide) (fun _ h => List.mem_cons_of_mem _ (List.mem_append_left _ (List.mem_append_left _ (List.mem_append_left _ (List.mem_append_right _ h))))) (List.mem_of_getElem? (i := 2) rfl) dX4_layers_36 ?_
    refine lv_iload_n F.1 F.2.1 dX4_layers_39 rfl (lv_at hl 1 rfl) ?_
    obtain ⟨hb6, hf⟩ := ifg hf
    refine lA_GA2 F hK hP (by decide) hb6 dX4_layers_40 ?_
    obtain ⟨r7, hr8, hf⟩ := bnd hf
    refine x_callV F hK hG hP hS (o_S (by decide) (oob_lt hb6)) (kd_S 0 (by decide) a1.toNatClampNeg (oob_lt hb6)) (ci := 2) (fun _ => rfl) rfl (c_X2_layersAsTheyFroze (by decide) (oob_lt hb6) rfl hr8) (cwV 0 F.2.2.2.2 gX4_layers_X2_layersAsTheyFroze rfl rfl rfl ⟨rfl, hd_X2_layersAsTheyFroze⟩ ⟨(Nat.le_of_ble_eq_true rfl), (Nat.le_of_ble_eq_true rfl)⟩) rfl rfl hl.1 (Nat.le_of_ble_eq_true rfl) dX4_layers_41 ⟨(Nat.le_of_ble_eq_true rfl), (Nat.le_of_ble_eq_true rfl)⟩ (rest := []) (fun H locs hP hS => ?_)
    refine W.eq (g2 := F0 m 44 ls [.int r7]) rfl ?_
    obtain rfl := Option.some.inj hf
    exact x_iretT F hr hlk hP hS rfl (Nat.le_of_ble_eq_true rfl) (Nat.le_of_ble_eq_true rfl) dX4_layers_44
  · have hf := ifp hc5 hf
    refine lv_aload_n F.1 F.2.1 dX4_layers_15 rfl (lv_at hl 0 rfl) ?_
    refine gR_X4_now F hK hP  (fun _ h => List.mem_cons_of_mem _ (List.mem_append_left _ (List.mem_append_left _ (List.mem_append_left _ (List.mem_append_left _ (List.mem_append_right _ h)))))) (List.mem_of_getElem? (i := 1) rfl) dX4_layers_16 ?_
    refine gR_X0_sites F hK hP (by decide) (fun _ h => List.mem_cons_of_mem _ (List.mem_append_left _ (List.mem_append_left _ (List.mem_append_left _ (List.mem_append_right _ h))))) (List.mem_of_getElem? (i := 2) rfl) dX4_layers_19 ?_
    refine lv_iload_n F.1 F.2.1 dX4_layers_22 rfl (lv_at hl 1 rfl) ?_
    obtain ⟨hb9, hf⟩ := ifg hf
    refine lA_GA2 F hK hP (by decide) hb9 dX4_layers_23 ?_
    refine lv_bipush (v := (30 : Int32)) F.1 F.2.1 dX4_layers_24 (by decide) ?_
    obtain ⟨r10, hr11, hf⟩ := bnd hf
    refine x_callV F hK hG hP hS (o_S (by decide) (oob_lt hb9)) (kd_S 0 (by decide) a1.toNatClampNeg (oob_lt hb9)) (ci := 2) (fun _ => rfl) rfl (c_X2_layersWithin (by decide) (oob_lt hb9) rfl (30 : Int32) hr11) (cwV 1 F.2.2.2.2 gX4_layers_X2_layersWithin rfl rfl rfl ⟨rfl, hd_X2_layersWithin⟩ ⟨(Nat.le_of_ble_eq_true rfl), (Nat.le_of_ble_eq_true rfl)⟩) rfl rfl hl.1 (Nat.le_of_ble_eq_true rfl) dX4_layers_26 ⟨(Nat.le_of_ble_eq_true rfl), (Nat.le_of_ble_eq_true rfl)⟩ (rest := []) (fun H locs hP hS => ?_)
    refine W.eq (g2 := F0 m 29 ls [.int r10]) rfl ?_
    refine lv_goto (tgt := 44) F.1 F.2.1 dX4_layers_29 rfl ?_
    obtain rfl := Option.some.inj hf
    exact x_iretT F hr hlk hP hS rfl (Nat.le_of_ble_eq_true rfl) (Nat.le_of_ble_eq_true rfl) dX4_layers_44

-- FrostTubes.oldest(I)I
def fb_X4_oldest_1 (μ : Mem) (a1 : Int32) (K : Int32 → Int32 → Option (Nat × Int32)) (v2 : Int32) (v3 : Int32) : Option (Nat × Int32) := (if a1 < v3 then some (0, (v2 - (v2 / (1000 : Int32)) * (1000 : Int32))) else ((f_X0_nextAgeKey (μ 0) v2).bind fun r6 => (K r6 (v3 + (1 : Int32)))))
def fl_X4_oldest (μ : Mem) (a1 : Int32) : Nat → Int32 → Int32 → Option (Nat × Int32)
  | 0, _, _ => none
  | n + 1, v2, v3 => fb_X4_oldest_1 μ a1 (fl_X4_oldest μ a1 n) v2 v3
def f_X4_oldest (μ : Mem) (a1 : Int32) : Option (Nat × Int32) := (if a1 < 0 then some (3, 0) else ((f_X0_frozenCells (μ 0)).bind fun r2 => (if a1 < r2 then (fl_X4_oldest μ a1 FU (-1 : Int32) (0 : Int32)) else some (3, 0))))
def rmX4_oldest : Room := { frames := 6, cells := 1, slots := 6, locals := 82 }
theorem hd_X4_oldest : yX4_oldest.cls ≠ "java/lang/invoke/MethodHandle" ∧ yX4_oldest.cls ≠ "java/lang/invoke/VarHandle" ∧ (parseMethodDescriptor yX4_oldest.desc).map (fun d => d.parameters.length) = some 1 := by decide +kernel
set_option maxHeartbeats 8000000 in
set_option maxRecDepth 100000 in
theorem c_X4_oldest {l : Launch} (hlt : l.stackTraces = false) {D : va_G} {x : Nat} {μ : Mem} (a1 : Int32) {r : Nat × Int32} (hf : f_X4_oldest μ a1 = some r) : TX l yX4_oldest wsX4_oldest rmX4_oldest 1 6 [.ref (x + 0), .int a1] D x μ r.1 (some (.int r.2)) μ := by
  refine TX.of (cc := cX4_oldest) (maxL := 4) (ret := (some .int)) pn_X4 rfl (Nat.le_of_ble_eq_true rfl) ?_
  intro p e s m args below meth c F hr hlk hx hK hG
  have KEY : ∀ n : Nat, (∀ (v2 : Int32) (v3 : Int32) (ls : Array Slot) (H : Heap) (locs : List Loc), lv_has ls 4 [(0, .ref (x + 0)), (1, .int a1), (2, .int v2), (3, .int v3)] → va_P D vwCl (WL D x μ) H → va_S (rng x) s.heap H locs → fl_X4_oldest μ a1 n v2 v3 = some r → W p l e rmX4_oldest s m args below meth c H locs 0 0 (vx_MQ below (QT D x μ r.1 (some (.int r.2))) (XT D x μ r.1) args s 1 6 (rng x)) (F0 m 29 ls [])) := by
    intro n
    induction n with
    | zero => exact (fun _ _ _ _ _ _ _ _ h => nomatch h)
    | succ n ih =>
      skip
      intro v2 v3  ls H locs hl hP hS hf
      have hf : fb_X4_oldest_1 μ a1 (fl_X4_oldest μ a1 n) v2 v3 = some r := hf
      unfold fb_X4_oldest_1 at hf
      refine lv_iload_n F.1 F.2.1 dX4_oldest_29 rfl (lv_at hl 3 rfl) ?_
      refine lv_iload_n F.1 F.2.1 dX4_oldest_30 rfl (lv_at hl 1 rfl) ?_
      refine lv_icmp_gt (tgt := 49) F.1 F.2.1 dX4_oldest_31 rfl (fun hc5 => ?_) (fun hc5 => ?_)
      · have hf := ifp hc5 hf
        refine lv_iload_n F.1 F.2.1 dX4_oldest_49 rfl (lv_at hl 2 rfl) ?_
        refine lv_sipush (v := (1000 : Int32)) F.1 F.2.1 dX4_oldest_50 (by decide) ?_
        refine lv_irem F.1 F.2.1 dX4_oldest_53 (by decide) ?_
        obtain rfl := Option.some.inj hf
        exact x_iretT F hr hlk hP hS rfl (Nat.le_of_ble_eq_true rfl) (Nat.le_of_ble_eq_true rfl) dX4_oldest_54
      · have hf := ifn hc5 hf
        refine lv_aload_n F.1 F.2.1 dX4_oldest_34 rfl (lv_at hl 0 rfl) ?_
        refine gR_X4_now F hK hP  (fun _ h => List.mem_cons_of_mem _ (List.mem_append_left _ (List.mem_append_left _ (List.mem_append_left _ (List.mem_append_right _ h))))) (List.mem_of_getElem? (i := 3) rfl) dX4_oldest_35 ?_
        refine lv_iload_n F.1 F.2.1 dX4_oldest_38 rfl (lv_at hl 2 rfl) ?_
        obtain ⟨r6, hr7, hf⟩ := bnd hf
        refine x_callV F hK hG hP hS (o_G (by decide) (c := 0) (by decide)) (kd_G 0 (by decide) 0 (by decide)) (ci := 0) (fun _ => rfl) rfl (c_X0_nextAgeKey (by decide) rfl v2 hr7) (cwV 1 F.2.2.2.2 gX4_oldest_X0_nextAgeKey rfl rfl rfl ⟨rfl, hd_X0_nextAgeKey⟩ ⟨(Nat.le_of_ble_eq_true rfl), (Nat.le_of_ble_eq_true rfl)⟩) rfl rfl hl.1 (Nat.le_of_ble_eq_true rfl) dX4_oldest_39 ⟨(Nat.le_of_ble_eq_true rfl), (Nat.le_of_ble_eq_true rfl)⟩ (rest := []) (fun H locs hP hS => ?_)
        refine W.eq (g2 := F0 m 42 ls [.int r6]) rfl ?_
        refine lv_istore_n F.1 F.2.1 dX4_oldest_42 rfl hl (Nat.le_of_ble_eq_true rfl) rfl (fun ls hl => ?_)
        have hl : lv_has ls 4 [(2, .int r6), (0, .ref (x + 0)), (1, .int a1), (3, .int v3)] := hl
        refine lv_iinc (v := (v3 + (1 : Int32))) F.1 F.2.1 dX4_oldest_43 hl (k := 3) rfl rfl (Nat.le_of_ble_eq_true rfl) rfl (fun ls hl => ?_)
        have hl : lv_has ls 4 [(3, .int (v3 + (1 : Int32))), (2, .int r6), (0, .ref (x + 0)), (1, .int a1)] := hl
        refine lv_goto (tgt := 29) F.1 F.2.1 dX4_oldest_46 rfl ?_
        exact ih r6 (v3 + (1 : Int32)) _ _ _ (lv_sub hl [2, 3, 1, 0] rfl) hP hS hf
  intro ls H locs hl hP hS
  have hl : lv_has ls 4 [(0, .ref (x + 0)), (1, .int a1)] := hl
  unfold f_X4_oldest at hf
  refine lv_iload_n F.1 F.2.1 dX4_oldest_0 rfl (lv_at hl 1 rfl) ?_
  refine lv_if_lt (tgt := 15) F.1 F.2.1 dX4_oldest_1 rfl (fun hc1 => ?_) (fun hc1 => ?_)
  · have hf := ifp hc1 hf
    obtain rfl := Option.some.inj hf
    exact x_throw3 F hlt hG hP hS hx hlk rfl (List.mem_of_getElem? (i := 1) rfl) (List.mem_of_getElem? (i := 2) rfl) (fun _ h => List.mem_cons_of_mem _ (List.mem_append_right _ h)) (is := 158) (text := "not so many frozen cells") (List.mem_of_getElem? (i := 10) rfl) hl.1 dX4_oldest_15 dX4_oldest_18 dX4_oldest_19 dX4_oldest_21 dX4_oldest_24 (Nat.le_of_ble_eq_true rfl) (Nat.le_of_ble_eq_true rfl) (Nat.le_of_ble_eq_true rfl) (Nat.le_of_ble_eq_true rfl) (Nat.le_of_ble_eq_true rfl) (Nat.le_of_ble_eq_true rfl)
  · have hf := ifn hc1 hf
    refine lv_iload_n F.1 F.2.1 dX4_oldest_4 rfl (lv_at hl 1 rfl) ?_
    refine lv_aload_n F.1 F.2.1 dX4_oldest_5 rfl (lv_at hl 0 rfl) ?_
    refine gR_X4_now F hK hP  (fun _ h => List.mem_cons_of_mem _ (List.mem_append_left _ (List.mem_append_left _ (List.mem_append_left _ (List.mem_append_right _ h))))) (List.mem_of_getElem? (i := 3) rfl) dX4_oldest_6 ?_
    obtain ⟨r2, hr3, hf⟩ := bnd hf
    refine x_callV F hK hG hP hS (o_G (by decide) (c := 0) (by decide)) (kd_G 0 (by decide) 0 (by decide)) (ci := 0) (fun _ => rfl) rfl (c_X0_frozenCells (by decide) rfl hr3) (cwV 0 F.2.2.2.2 gX4_oldest_X0_frozenCells rfl rfl rfl ⟨rfl, hd_X0_frozenCells⟩ ⟨(Nat.le_of_ble_eq_true rfl), (Nat.le_of_ble_eq_true rfl)⟩) rfl rfl hl.1 (Nat.le_of_ble_eq_true rfl) dX4_oldest_9 ⟨(Nat.le_of_ble_eq_true rfl), (Nat.le_of_ble_eq_true rfl)⟩ (rest := [.int a1]) (fun H locs hP hS => ?_)
    refine W.eq (g2 := F0 m 12 ls [.int r2, .int a1]) rfl ?_
    refine lv_icmp_lt (tgt := 25) F.1 F.2.1 dX4_oldest_12 rfl (fun hc4 => ?_) (fun hc4 => ?_)
    · have hf := ifp hc4 hf
      refine lv_iconst (v := (-1 : Int32)) F.1 F.2.1 dX4_oldest_25 (by decide) ?_
      refine lv_istore_n F.1 F.2.1 dX4_oldest_26 rfl hl (Nat.le_of_ble_eq_true rfl) rfl (fun ls hl => ?_)
      have hl : lv_has ls 4 [(2, .int (-1 : Int32)), (0, .ref (x + 0)), (1, .int a1)] := hl
      refine lv_iconst (v := (0 : Int32)) F.1 F.2.1 dX4_oldest_27 (by decide) ?_
      refine lv_istore_n F.1 F.2.1 dX4_oldest_28 rfl hl (Nat.le_of_ble_eq_true rfl) rfl (fun ls hl => ?_)
      have hl : lv_has ls 4 [(3, .int (0 : Int32)), (2, .int (-1 : Int32)), (0, .ref (x + 0)), (1, .int a1)] := hl
      exact (KEY FU) (-1 : Int32) (0 : Int32) _ _ _ (lv_sub hl [2, 3, 1, 0] rfl) hP hS hf
    · have hf := ifn hc4 hf
      obtain rfl := Option.some.inj hf
      exact x_throw3 F hlt hG hP hS hx hlk rfl (List.mem_of_getElem? (i := 1) rfl) (List.mem_of_getElem? (i := 2) rfl) (fun _ h => List.mem_cons_of_mem _ (List.mem_append_right _ h)) (is := 158) (text := "not so many frozen cells") (List.mem_of_getElem? (i := 10) rfl) hl.1 dX4_oldest_15 dX4_oldest_18 dX4_oldest_19 dX4_oldest_21 dX4_oldest_24 (Nat.le_of_ble_eq_true rfl) (Nat.le_of_ble_eq_true rfl) (Nat.le_of_ble_eq_true rfl) (Nat.le_of_ble_eq_true rfl) (Nat.le_of_ble_eq_true rfl) (Nat.le_of_ble_eq_true rfl)

-- FrostTubes.act(IIII)I
def f_X4_act (μ : Mem) (a1 : Int32) (a2 : Int32) (a3 : Int32) (a4 : Int32) : Option (Nat × Int32 × Mem) := ((f_X0_faultOf (μ 0) a1 a2 a3 a4).bind fun r1 => (if r1 = (1 : Int32) then some (3, 0, μ) else (if r1 = (2 : Int32) then some (1, 0, μ) else (if r1 = (3 : Int32) then some (2, 0, μ) else ((f_X1_remember μ).bind fun r6 => ((f_X0_perform (r6 0) a1 a2 a3 a4).bind fun r8 => some (0, r8.1, (va_up r6 0 r8.2))))))))
def rmX4_act : Room := { frames := 6, cells := 1, slots := 6, locals := 144 }
theorem hd_X4_act : yX4_act.cls ≠ "java/lang/invoke/MethodHandle" ∧ yX4_act.cls ≠ "java/lang/invoke/VarHandle" ∧ (parseMethodDescriptor yX4_act.desc).map (fun d => d.parameters.length) = some 4 := by decide +kernel
set_option maxHeartbeats 8000000 in
set_option maxRecDepth 100000 in
theorem c_X4_act {l : Launch} (hlt : l.stackTraces = false) {D : va_G} {x : Nat} {μ : Mem} (a1 : Int32) (a2 : Int32) (a3 : Int32) (a4 : Int32) {r : Nat × Int32 × Mem} (hf : f_X4_act μ a1 a2 a3 a4 = some r) : TX l yX4_act wsX4_act rmX4_act 1 6 [.ref (x + 0), .int a1, .int a2, .int a3, .int a4] D x μ r.1 (some (.int r.2.1)) r.2.2 := by
  refine TX.of (cc := cX4_act) (maxL := 6) (ret := (some .int)) pn_X4 rfl (Nat.le_of_ble_eq_true rfl) ?_
  intro p e s m args below meth c F hr hlk hx hK hG
  intro ls H locs hl hP hS
  have hl : lv_has ls 6 [(0, .ref (x + 0)), (1, .int a1), (2, .int a2), (3, .int a3), (4, .int a4)] := hl
  unfold f_X4_act at hf
  refine lv_aload_n F.1 F.2.1 dX4_act_0 rfl (lv_at hl 0 rfl) ?_
  refine gR_X4_now F hK hP  (fun _ h => List.mem_cons_of_mem _ (List.mem_append_left _ (List.mem_append_left _ (List.mem_append_left _ (List.mem_append_left _ (List.mem_append_left _ (List.mem_append_left _ (List.mem_append_right _ h)))))))) (List.mem_of_getElem? (i := 7) rfl) dX4_act_1 ?_
  refine lv_iload_n F.1 F.2.1 dX4_act_4 rfl (lv_at hl 1 rfl) ?_
  refine lv_iload_n F.1 F.2.1 dX4_act_5 rfl (lv_at hl 2 rfl) ?_
  refine lv_iload_n F.1 F.2.1 dX4_act_6 rfl (lv_at hl 3 rfl) ?_
  refine lv_iload F.1 F.2.1 dX4_act_7 (lv_at hl 4 rfl) ?_
  obtain ⟨r1, hr2, hf⟩ := bnd hf
  refine x_callV F hK hG hP hS (o_G (by decide) (c := 0) (by decide)) (kd_G 0 (by decide) 0 (by decide)) (ci := 0) (fun _ => rfl) rfl (c_X0_faultOf (by decide) rfl a1 a2 a3 a4 hr2) (cwV 4 F.2.2.2.2 gX4_act_X0_faultOf rfl rfl rfl ⟨rfl, hd_X0_faultOf⟩ ⟨(Nat.le_of_ble_eq_true rfl), (Nat.le_of_ble_eq_true rfl)⟩) rfl rfl hl.1 (Nat.le_of_ble_eq_true rfl) dX4_act_9 ⟨(Nat.le_of_ble_eq_true rfl), (Nat.le_of_ble_eq_true rfl)⟩ (rest := []) (fun H locs hP hS => ?_)
  refine W.eq (g2 := F0 m 12 ls [.int r1]) rfl ?_
  refine lv_istore F.1 F.2.1 dX4_act_12 hl (Nat.le_of_ble_eq_true rfl) rfl (fun ls hl => ?_)
  have hl : lv_has ls 6 [(5, .int r1), (0, .ref (x + 0)), (1, .int a1), (2, .int a2), (3, .int a3), (4, .int a4)] := hl
  refine lv_iload F.1 F.2.1 dX4_act_14 (lv_at hl 0 rfl) ?_
  refine lv_iconst (v := (1 : Int32)) F.1 F.2.1 dX4_act_16 (by decide) ?_
  refine lv_icmp_ne (tgt := 30) F.1 F.2.1 dX4_act_17 rfl (fun hc3 => ?_) (fun hc3 => ?_)
  · have hf := ifn hc3 hf
    refine lv_iload F.1 F.2.1 dX4_act_30 (lv_at hl 0 rfl) ?_
    refine lv_iconst (v := (2 : Int32)) F.1 F.2.1 dX4_act_32 (by decide) ?_
    refine lv_icmp_ne (tgt := 46) F.1 F.2.1 dX4_act_33 rfl (fun hc4 => ?_) (fun hc4 => ?_)
    · have hf := ifn hc4 hf
      refine lv_iload F.1 F.2.1 dX4_act_46 (lv_at hl 0 rfl) ?_
      refine lv_iconst (v := (3 : Int32)) F.1 F.2.1 dX4_act_48 (by decide) ?_
      refine lv_icmp_ne (tgt := 62) F.1 F.2.1 dX4_act_49 rfl (fun hc5 => ?_) (fun hc5 => ?_)
      · have hf := ifn hc5 hf
        refine lv_aload_n F.1 F.2.1 dX4_act_62 rfl (lv_at hl 1 rfl) ?_
        refine gR_X4_past F hK hP  (fun _ h => List.mem_cons_of_mem _ (List.mem_append_left _ (List.mem_append_left _ (List.mem_append_left _ (List.mem_append_left _ (List.mem_append_left _ (List.mem_append_left _ (List.mem_append_right _ h)))))))) (List.mem_of_getElem? (i := 8) rfl) dX4_act_63 ?_
        refine lv_aload_n F.1 F.2.1 dX4_act_66 rfl (lv_at hl 1 rfl) ?_
        refine gR_X4_now F hK hP  (fun _ h => List.mem_cons_of_mem _ (List.mem_append_left _ (List.mem_append_left _ (List.mem_append_left _ (List.mem_append_left _ (List.mem_append_left _ (List.mem_append_left _ (List.mem_append_right _ h)))))))) (List.mem_of_getElem? (i := 7) rfl) dX4_act_67 ?_
        obtain ⟨r6, hr7, hf⟩ := bnd hf
        refine x_callV F hK hG hP hS (o := 57) (by decide) (q := (3, 0, 0)) rfl (ci := 1) (fun _ => rfl) rfl (c_X1_remember hr7) (cwV 1 F.2.2.2.2 gX4_act_X1_remember rfl rfl rfl ⟨rfl, hd_X1_remember⟩ ⟨(Nat.le_of_ble_eq_true rfl), (Nat.le_of_ble_eq_true rfl)⟩) rfl rfl hl.1 (Nat.le_of_ble_eq_true rfl) dX4_act_70 ⟨(Nat.le_of_ble_eq_true rfl), (Nat.le_of_ble_eq_true rfl)⟩ (rest := []) (fun H locs hP hS => ?_)
        refine W.eq (g2 := F0 m 73 ls []) rfl ?_
        refine lv_aload_n F.1 F.2.1 dX4_act_73 rfl (lv_at hl 1 rfl) ?_
        refine gR_X4_now F hK hP  (fun _ h => List.mem_cons_of_mem _ (List.mem_append_left _ (List.mem_append_left _ (List.mem_append_left _ (List.mem_append_left _ (List.mem_append_left _ (List.mem_append_left _ (List.mem_append_right _ h)))))))) (List.mem_of_getElem? (i := 7) rfl) dX4_act_74 ?_
        refine lv_iload_n F.1 F.2.1 dX4_act_77 rfl (lv_at hl 2 rfl) ?_
        refine lv_iload_n F.1 F.2.1 dX4_act_78 rfl (lv_at hl 3 rfl) ?_
        refine lv_iload_n F.1 F.2.1 dX4_act_79 rfl (lv_at hl 4 rfl) ?_
        refine lv_iload F.1 F.2.1 dX4_act_80 (lv_at hl 5 rfl) ?_
        obtain ⟨r8, hr9, hf⟩ := bnd hf
        have hP := x_up 0 hP
        refine x_callV F hK hG hP hS (o_G (by decide) (c := 0) (by decide)) (kd_G 0 (by decide) 0 (by decide)) (ci := 0) (fun _ => rfl) rfl (c_X0_perform (by decide) a1 a2 a3 a4 hr9) (cwV 4 F.2.2.2.2 gX4_act_X0_perform rfl rfl rfl ⟨rfl, hd_X0_perform⟩ ⟨(Nat.le_of_ble_eq_true rfl), (Nat.le_of_ble_eq_true rfl)⟩) rfl rfl hl.1 (Nat.le_of_ble_eq_true rfl) dX4_act_82 ⟨(Nat.le_of_ble_eq_true rfl), (Nat.le_of_ble_eq_true rfl)⟩ (rest := []) (fun H locs hP hS => ?_)
        refine W.eq (g2 := F0 m 85 ls [.int r8.1]) rfl ?_
        obtain rfl := Option.some.inj hf
        exact x_iretT F hr hlk hP hS rfl (Nat.le_of_ble_eq_true rfl) (Nat.le_of_ble_eq_true rfl) dX4_act_85
      · have hf := ifp hc5 hf
        obtain rfl := Option.some.inj hf
        exact x_throw2 F hlt hG hP hS hx hlk rfl (List.mem_of_getElem? (i := 5) rfl) (List.mem_of_getElem? (i := 6) rfl) (fun _ h => List.mem_cons_of_mem _ (List.mem_append_right _ h)) (is := 239) (text := "not possible now") (List.mem_of_getElem? (i := 2) rfl) hl.1 dX4_act_52 dX4_act_55 dX4_act_56 dX4_act_58 dX4_act_61 (Nat.le_of_ble_eq_true rfl) (Nat.le_of_ble_eq_true rfl) (Nat.le_of_ble_eq_true rfl) (Nat.le_of_ble_eq_true rfl) (Nat.le_of_ble_eq_true rfl) (Nat.le_of_ble_eq_true rfl)
    · have hf := ifp hc4 hf
      obtain rfl := Option.some.inj hf
      exact x_throw1 F hlt hG hP hS hx hlk rfl (List.mem_of_getElem? (i := 3) rfl) (List.mem_of_getElem? (i := 4) rfl) (fun _ h => List.mem_cons_of_mem _ (List.mem_append_left _ (List.mem_append_right _ h))) (is := 237) (text := "an argument is out of its range") (List.mem_of_getElem? (i := 1) rfl) hl.1 dX4_act_36 dX4_act_39 dX4_act_40 dX4_act_42 dX4_act_45 (Nat.le_of_ble_eq_true rfl) (Nat.le_of_ble_eq_true rfl) (Nat.le_of_ble_eq_true rfl) (Nat.le_of_ble_eq_true rfl) (Nat.le_of_ble_eq_true rfl) (Nat.le_of_ble_eq_true rfl)
  · have hf := ifp hc3 hf
    obtain rfl := Option.some.inj hf
    exact x_throw3 F hlt hG hP hS hx hlk rfl (List.mem_of_getElem? (i := 1) rfl) (List.mem_of_getElem? (i := 2) rfl) (fun _ h => List.mem_cons_of_mem _ (List.mem_append_left _ (List.mem_append_left _ (List.mem_append_right _ h)))) (is := 235) (text := "no such site or cell") (List.mem_of_getElem? (i := 0) rfl) hl.1 dX4_act_20 dX4_act_23 dX4_act_24 dX4_act_26 dX4_act_29 (Nat.le_of_ble_eq_true rfl) (Nat.le_of_ble_eq_true rfl) (Nat.le_of_ble_eq_true rfl) (Nat.le_of_ble_eq_true rfl) (Nat.le_of_ble_eq_true rfl) (Nat.le_of_ble_eq_true rfl)

-- FrostTubes.site()I
def f_X4_site (μ : Mem) : Option (Nat × Int32 × Mem) := ((f_X4_act μ (115 : Int32) (0 : Int32) (0 : Int32) (0 : Int32)).bind fun r1 => if r1.1 = 0 then some (0, r1.2.1, r1.2.2) else some (r1.1, 0, r1.2.2))
def rmX4_site : Room := { frames := 7, cells := 1, slots := 6, locals := 169 }
theorem hd_X4_site : yX4_site.cls ≠ "java/lang/invoke/MethodHandle" ∧ yX4_site.cls ≠ "java/lang/invoke/VarHandle" ∧ (parseMethodDescriptor yX4_site.desc).map (fun d => d.parameters.length) = some 0 := by decide +kernel
set_option maxHeartbeats 8000000 in
set_option maxRecDepth 100000 in
theorem c_X4_site {l : Launch} (hlt : l.stackTraces = false) {D : va_G} {x : Nat} {μ : Mem} {r : Nat × Int32 × Mem} (hf : f_X4_site μ = some r) : TX l yX4_site wsX4_site rmX4_site 1 6 [.ref (x + 0)] D x μ r.1 (some (.int r.2.1)) r.2.2 := by
  refine TX.of (cc := cX4_site) (maxL := 1) (ret := (some .int)) pn_X4 rfl (Nat.le_of_ble_eq_true rfl) ?_
  intro p e s m args below meth c F hr hlk hx hK hG
  intro ls H locs hl hP hS
  have hl : lv_has ls 1 [(0, .ref (x + 0))] := hl
  unfold f_X4_site at hf
  refine lv_aload_n F.1 F.2.1 dX4_site_0 rfl (lv_at hl 0 rfl) ?_
  refine lv_bipush (v := (115 : Int32)) F.1 F.2.1 dX4_site_1 (by decide) ?_
  refine lv_iconst (v := (0 : Int32)) F.1 F.2.1 dX4_site_3 (by decide) ?_
  refine lv_iconst (v := (0 : Int32)) F.1 F.2.1 dX4_site_4 (by decide) ?_
  refine lv_iconst (v := (0 : Int32)) F.1 F.2.1 dX4_site_5 (by decide) ?_
  obtain ⟨r1, hr2, hf⟩ := bnd hf
  refine x_callVT F hK hG hP hS hx hlk (o := 0) (by decide) (q := (0, 0, 0)) rfl (ci := 4) (fun _ => rfl) rfl (c_X4_act hlt (115 : Int32) (0 : Int32) (0 : Int32) (0 : Int32) hr2) (cwV 4 F.2.2.2.2 gX4_site_X4_act rfl rfl rfl ⟨rfl, hd_X4_act⟩ ⟨(Nat.le_of_ble_eq_true rfl), (Nat.le_of_ble_eq_true rfl)⟩) rfl rfl hl.1 (Nat.le_of_ble_eq_true rfl) dX4_site_6 ⟨(Nat.le_of_ble_eq_true rfl), (Nat.le_of_ble_eq_true rfl)⟩ (Nat.le_of_ble_eq_true rfl) (Nat.le_of_ble_eq_true rfl) (fun hk => by have hf := ifn hk hf; obtain rfl := Option.some.inj hf; exact ⟨rfl, rfl⟩) (rest := []) (fun hk H locs hP hS => ?_)
  have hf := ifp hk hf
  refine W.eq (g2 := F0 m 9 ls [.int r1.2.1]) rfl ?_
  obtain rfl := Option.some.inj hf
  exact x_iretT F hr hlk hP hS rfl (Nat.le_of_ble_eq_true rfl) (Nat.le_of_ble_eq_true rfl) dX4_site_9

-- FrostTubes.tube(II)I
def f_X4_tube (μ : Mem) (a1 : Int32) (a2 : Int32) : Option (Nat × Int32 × Mem) := ((f_X4_act μ (116 : Int32) a1 a2 (0 : Int32)).bind fun r1 => if r1.1 = 0 then some (0, r1.2.1, r1.2.2) else some (r1.1, 0, r1.2.2))
def rmX4_tube : Room := { frames := 7, cells := 1, slots := 6, locals := 169 }
theorem hd_X4_tube : yX4_tube.cls ≠ "java/lang/invoke/MethodHandle" ∧ yX4_tube.cls ≠ "java/lang/invoke/VarHandle" ∧ (parseMethodDescriptor yX4_tube.desc).map (fun d => d.parameters.length) = some 2 := by decide +kernel
set_option maxHeartbeats 8000000 in
set_option maxRecDepth 100000 in
theorem c_X4_tube {l : Launch} (hlt : l.stackTraces = false) {D : va_G} {x : Nat} {μ : Mem} (a1 : Int32) (a2 : Int32) {r : Nat × Int32 × Mem} (hf : f_X4_tube μ a1 a2 = some r) : TX l yX4_tube wsX4_tube rmX4_tube 1 6 [.ref (x + 0), .int a1, .int a2] D x μ r.1 (some (.int r.2.1)) r.2.2 := by
  refine TX.of (cc := cX4_tube) (maxL := 3) (ret := (some .int)) pn_X4 rfl (Nat.le_of_ble_eq_true rfl) ?_
  intro p e s m args below meth c F hr hlk hx hK hG
  intro ls H locs hl hP hS
  have hl : lv_has ls 3 [(0, .ref (x + 0)), (1, .int a1), (2, .int a2)] := hl
  unfold f_X4_tube at hf
  refine lv_aload_n F.1 F.2.1 dX4_tube_0 rfl (lv_at hl 0 rfl) ?_
  refine lv_bipush (v := (116 : Int32)) F.1 F.2.1 dX4_tube_1 (by decide) ?_
  refine lv_iload_n F.1 F.2.1 dX4_tube_3 rfl (lv_at hl 1 rfl) ?_
  refine lv_iload_n F.1 F.2.1 dX4_tube_4 rfl (lv_at hl 2 rfl) ?_
  refine lv_iconst (v := (0 : Int32)) F.1 F.2.1 dX4_tube_5 (by decide) ?_
  obtain ⟨r1, hr2, hf⟩ := bnd hf
  refine x_callVT F hK hG hP hS hx hlk (o := 0) (by decide) (q := (0, 0, 0)) rfl (ci := 4) (fun _ => rfl) rfl (c_X4_act hlt (116 : Int32) a1 a2 (0 : Int32) hr2) (cwV 4 F.2.2.2.2 gX4_tube_X4_act rfl rfl rfl ⟨rfl, hd_X4_act⟩ ⟨(Nat.le_of_ble_eq_true rfl), (Nat.le_of_ble_eq_true rfl)⟩) rfl rfl hl.1 (Nat.le_of_ble_eq_true rfl) dX4_tube_6 ⟨(Nat.le_of_ble_eq_true rfl), (Nat.le_of_ble_eq_true rfl)⟩ (Nat.le_of_ble_eq_true rfl) (Nat.le_of_ble_eq_true rfl) (fun hk => by have hf := ifn hk hf; obtain rfl := Option.some.inj hf; exact ⟨rfl, rfl⟩) (rest := []) (fun hk H locs hP hS => ?_)
  have hf := ifp hk hf
  refine W.eq (g2 := F0 m 9 ls [.int r1.2.1]) rfl ?_
  obtain rfl := Option.some.inj hf
  exact x_iretT F hr hlk hP hS rfl (Nat.le_of_ble_eq_true rfl) (Nat.le_of_ble_eq_true rfl) dX4_tube_9

-- FrostTubes.pipe(II)I
def f_X4_pipe (μ : Mem) (a1 : Int32) (a2 : Int32) : Option (Nat × Int32 × Mem) := ((f_X4_act μ (112 : Int32) a1 a2 (0 : Int32)).bind fun r1 => if r1.1 = 0 then some (0, r1.2.1, r1.2.2) else some (r1.1, 0, r1.2.2))
def rmX4_pipe : Room := { frames := 7, cells := 1, slots := 6, locals := 169 }
theorem hd_X4_pipe : yX4_pipe.cls ≠ "java/lang/invoke/MethodHandle" ∧ yX4_pipe.cls ≠ "java/lang/invoke/VarHandle" ∧ (parseMethodDescriptor yX4_pipe.desc).map (fun d => d.parameters.length) = some 2 := by decide +kernel
set_option maxHeartbeats 8000000 in
set_option maxRecDepth 100000 in
theorem c_X4_pipe {l : Launch} (hlt : l.stackTraces = false) {D : va_G} {x : Nat} {μ : Mem} (a1 : Int32) (a2 : Int32) {r : Nat × Int32 × Mem} (hf : f_X4_pipe μ a1 a2 = some r) : TX l yX4_pipe wsX4_pipe rmX4_pipe 1 6 [.ref (x + 0), .int a1, .int a2] D x μ r.1 (some (.int r.2.1)) r.2.2 := by
  refine TX.of (cc := cX4_pipe) (maxL := 3) (ret := (some .int)) pn_X4 rfl (Nat.le_of_ble_eq_true rfl) ?_
  intro p e s m args below meth c F hr hlk hx hK hG
  intro ls H locs hl hP hS
  have hl : lv_has ls 3 [(0, .ref (x + 0)), (1, .int a1), (2, .int a2)] := hl
  unfold f_X4_pipe at hf
  refine lv_aload_n F.1 F.2.1 dX4_pipe_0 rfl (lv_at hl 0 rfl) ?_
  refine lv_bipush (v := (112 : Int32)) F.1 F.2.1 dX4_pipe_1 (by decide) ?_
  refine lv_iload_n F.1 F.2.1 dX4_pipe_3 rfl (lv_at hl 1 rfl) ?_
  refine lv_iload_n F.1 F.2.1 dX4_pipe_4 rfl (lv_at hl 2 rfl) ?_
  refine lv_iconst (v := (0 : Int32)) F.1 F.2.1 dX4_pipe_5 (by decide) ?_
  obtain ⟨r1, hr2, hf⟩ := bnd hf
  refine x_callVT F hK hG hP hS hx hlk (o := 0) (by decide) (q := (0, 0, 0)) rfl (ci := 4) (fun _ => rfl) rfl (c_X4_act hlt (112 : Int32) a1 a2 (0 : Int32) hr2) (cwV 4 F.2.2.2.2 gX4_pipe_X4_act rfl rfl rfl ⟨rfl, hd_X4_act⟩ ⟨(Nat.le_of_ble_eq_true rfl), (Nat.le_of_ble_eq_true rfl)⟩) rfl rfl hl.1 (Nat.le_of_ble_eq_true rfl) dX4_pipe_6 ⟨(Nat.le_of_ble_eq_true rfl), (Nat.le_of_ble_eq_true rfl)⟩ (Nat.le_of_ble_eq_true rfl) (Nat.le_of_ble_eq_true rfl) (fun hk => by have hf := ifn hk hf; obtain rfl := Option.some.inj hf; exact ⟨rfl, rfl⟩) (rest := []) (fun hk H locs hP hS => ?_)
  have hf := ifp hk hf
  refine W.eq (g2 := F0 m 9 ls [.int r1.2.1]) rfl ?_
  obtain rfl := Option.some.inj hf
  exact x_iretT F hr hlk hP hS rfl (Nat.le_of_ble_eq_true rfl) (Nat.le_of_ble_eq_true rfl) dX4_pipe_9

-- FrostTubes.fence(II)I
def f_X4_fence (μ : Mem) (a1 : Int32) (a2 : Int32) : Option (Nat × Int32 × Mem) := ((f_X4_act μ (102 : Int32) a1 a2 (0 : Int32)).bind fun r1 => if r1.1 = 0 then some (0, r1.2.1, r1.2.2) else some (r1.1, 0, r1.2.2))
def rmX4_fence : Room := { frames := 7, cells := 1, slots := 6, locals := 169 }
theorem hd_X4_fence : yX4_fence.cls ≠ "java/lang/invoke/MethodHandle" ∧ yX4_fence.cls ≠ "java/lang/invoke/VarHandle" ∧ (parseMethodDescriptor yX4_fence.desc).map (fun d => d.parameters.length) = some 2 := by decide +kernel
set_option maxHeartbeats 8000000 in
set_option maxRecDepth 100000 in
theorem c_X4_fence {l : Launch} (hlt : l.stackTraces = false) {D : va_G} {x : Nat} {μ : Mem} (a1 : Int32) (a2 : Int32) {r : Nat × Int32 × Mem} (hf : f_X4_fence μ a1 a2 = some r) : TX l yX4_fence wsX4_fence rmX4_fence 1 6 [.ref (x + 0), .int a1, .int a2] D x μ r.1 (some (.int r.2.1)) r.2.2 := by
  refine TX.of (cc := cX4_fence) (maxL := 3) (ret := (some .int)) pn_X4 rfl (Nat.le_of_ble_eq_true rfl) ?_
  intro p e s m args below meth c F hr hlk hx hK hG
  intro ls H locs hl hP hS
  have hl : lv_has ls 3 [(0, .ref (x + 0)), (1, .int a1), (2, .int a2)] := hl
  unfold f_X4_fence at hf
  refine lv_aload_n F.1 F.2.1 dX4_fence_0 rfl (lv_at hl 0 rfl) ?_
  refine lv_bipush (v := (102 : Int32)) F.1 F.2.1 dX4_fence_1 (by decide) ?_
  refine lv_iload_n F.1 F.2.1 dX4_fence_3 rfl (lv_at hl 1 rfl) ?_
  refine lv_iload_n F.1 F.2.1 dX4_fence_4 rfl (lv_at hl 2 rfl) ?_
  refine lv_iconst (v := (0 : Int32)) F.1 F.2.1 dX4_fence_5 (by decide) ?_
  obtain ⟨r1, hr2, hf⟩ := bnd hf
  refine x_callVT F hK hG hP hS hx hlk (o := 0) (by decide) (q := (0, 0, 0)) rfl (ci := 4) (fun _ => rfl) rfl (c_X4_act hlt (102 : Int32) a1 a2 (0 : Int32) hr2) (cwV 4 F.2.2.2.2 gX4_fence_X4_act rfl rfl rfl ⟨rfl, hd_X4_act⟩ ⟨(Nat.le_of_ble_eq_true rfl), (Nat.le_of_ble_eq_true rfl)⟩) rfl rfl hl.1 (Nat.le_of_ble_eq_true rfl) dX4_fence_6 ⟨(Nat.le_of_ble_eq_true rfl), (Nat.le_of_ble_eq_true rfl)⟩ (Nat.le_of_ble_eq_true rfl) (Nat.le_of_ble_eq_true rfl) (fun hk => by have hf := ifn hk hf; obtain rfl := Option.some.inj hf; exact ⟨rfl, rfl⟩) (rest := []) (fun hk H locs hP hS => ?_)
  have hf := ifp hk hf
  refine W.eq (g2 := F0 m 9 ls [.int r1.2.1]) rfl ?_
  obtain rfl := Option.some.inj hf
  exact x_iretT F hr hlk hP hS rfl (Nat.le_of_ble_eq_true rfl) (Nat.le_of_ble_eq_true rfl) dX4_fence_9

-- FrostTubes.shovel(I)I
def f_X4_shovel (μ : Mem) (a1 : Int32) : Option (Nat × Int32 × Mem) := ((f_X4_act μ (120 : Int32) a1 (0 : Int32) (0 : Int32)).bind fun r1 => if r1.1 = 0 then some (0, r1.2.1, r1.2.2) else some (r1.1, 0, r1.2.2))
def rmX4_shovel : Room := { frames := 7, cells := 1, slots := 6, locals := 169 }
theorem hd_X4_shovel : yX4_shovel.cls ≠ "java/lang/invoke/MethodHandle" ∧ yX4_shovel.cls ≠ "java/lang/invoke/VarHandle" ∧ (parseMethodDescriptor yX4_shovel.desc).map (fun d => d.parameters.length) = some 1 := by decide +kernel
set_option maxHeartbeats 8000000 in
set_option maxRecDepth 100000 in
theorem c_X4_shovel {l : Launch} (hlt : l.stackTraces = false) {D : va_G} {x : Nat} {μ : Mem} (a1 : Int32) {r : Nat × Int32 × Mem} (hf : f_X4_shovel μ a1 = some r) : TX l yX4_shovel wsX4_shovel rmX4_shovel 1 6 [.ref (x + 0), .int a1] D x μ r.1 (some (.int r.2.1)) r.2.2 := by
  refine TX.of (cc := cX4_shovel) (maxL := 2) (ret := (some .int)) pn_X4 rfl (Nat.le_of_ble_eq_true rfl) ?_
  intro p e s m args below meth c F hr hlk hx hK hG
  intro ls H locs hl hP hS
  have hl : lv_has ls 2 [(0, .ref (x + 0)), (1, .int a1)] := hl
  unfold f_X4_shovel at hf
  refine lv_aload_n F.1 F.2.1 dX4_shovel_0 rfl (lv_at hl 0 rfl) ?_
  refine lv_bipush (v := (120 : Int32)) F.1 F.2.1 dX4_shovel_1 (by decide) ?_
  refine lv_iload_n F.1 F.2.1 dX4_shovel_3 rfl (lv_at hl 1 rfl) ?_
  refine lv_iconst (v := (0 : Int32)) F.1 F.2.1 dX4_shovel_4 (by decide) ?_
  refine lv_iconst (v := (0 : Int32)) F.1 F.2.1 dX4_shovel_5 (by decide) ?_
  obtain ⟨r1, hr2, hf⟩ := bnd hf
  refine x_callVT F hK hG hP hS hx hlk (o := 0) (by decide) (q := (0, 0, 0)) rfl (ci := 4) (fun _ => rfl) rfl (c_X4_act hlt (120 : Int32) a1 (0 : Int32) (0 : Int32) hr2) (cwV 4 F.2.2.2.2 gX4_shovel_X4_act rfl rfl rfl ⟨rfl, hd_X4_act⟩ ⟨(Nat.le_of_ble_eq_true rfl), (Nat.le_of_ble_eq_true rfl)⟩) rfl rfl hl.1 (Nat.le_of_ble_eq_true rfl) dX4_shovel_6 ⟨(Nat.le_of_ble_eq_true rfl), (Nat.le_of_ble_eq_true rfl)⟩ (Nat.le_of_ble_eq_true rfl) (Nat.le_of_ble_eq_true rfl) (fun hk => by have hf := ifn hk hf; obtain rfl := Option.some.inj hf; exact ⟨rfl, rfl⟩) (rest := []) (fun hk H locs hP hS => ?_)
  have hf := ifp hk hf
  refine W.eq (g2 := F0 m 9 ls [.int r1.2.1]) rfl ?_
  obtain rfl := Option.some.inj hf
  exact x_iretT F hr hlk hP hS rfl (Nat.le_of_ble_eq_true rfl) (Nat.le_of_ble_eq_true rfl) dX4_shovel_9

-- FrostTubes.days(III)I
def f_X4_days (μ : Mem) (a1 : Int32) (a2 : Int32) (a3 : Int32) : Option (Nat × Int32 × Mem) := ((f_X4_act μ (100 : Int32) a1 a2 a3).bind fun r1 => if r1.1 = 0 then some (0, r1.2.1, r1.2.2) else some (r1.1, 0, r1.2.2))
def rmX4_days : Room := { frames := 7, cells := 1, slots := 6, locals := 169 }
theorem hd_X4_days : yX4_days.cls ≠ "java/lang/invoke/MethodHandle" ∧ yX4_days.cls ≠ "java/lang/invoke/VarHandle" ∧ (parseMethodDescriptor yX4_days.desc).map (fun d => d.parameters.length) = some 3 := by decide +kernel
set_option maxHeartbeats 8000000 in
set_option maxRecDepth 100000 in
theorem c_X4_days {l : Launch} (hlt : l.stackTraces = false) {D : va_G} {x : Nat} {μ : Mem} (a1 : Int32) (a2 : Int32) (a3 : Int32) {r : Nat × Int32 × Mem} (hf : f_X4_days μ a1 a2 a3 = some r) : TX l yX4_days wsX4_days rmX4_days 1 6 [.ref (x + 0), .int a1, .int a2, .int a3] D x μ r.1 (some (.int r.2.1)) r.2.2 := by
  refine TX.of (cc := cX4_days) (maxL := 4) (ret := (some .int)) pn_X4 rfl (Nat.le_of_ble_eq_true rfl) ?_
  intro p e s m args below meth c F hr hlk hx hK hG
  intro ls H locs hl hP hS
  have hl : lv_has ls 4 [(0, .ref (x + 0)), (1, .int a1), (2, .int a2), (3, .int a3)] := hl
  unfold f_X4_days at hf
  refine lv_aload_n F.1 F.2.1 dX4_days_0 rfl (lv_at hl 0 rfl) ?_
  refine lv_bipush (v := (100 : Int32)) F.1 F.2.1 dX4_days_1 (by decide) ?_
  refine lv_iload_n F.1 F.2.1 dX4_days_3 rfl (lv_at hl 1 rfl) ?_
  refine lv_iload_n F.1 F.2.1 dX4_days_4 rfl (lv_at hl 2 rfl) ?_
  refine lv_iload_n F.1 F.2.1 dX4_days_5 rfl (lv_at hl 3 rfl) ?_
  obtain ⟨r1, hr2, hf⟩ := bnd hf
  refine x_callVT F hK hG hP hS hx hlk (o := 0) (by decide) (q := (0, 0, 0)) rfl (ci := 4) (fun _ => rfl) rfl (c_X4_act hlt (100 : Int32) a1 a2 a3 hr2) (cwV 4 F.2.2.2.2 gX4_days_X4_act rfl rfl rfl ⟨rfl, hd_X4_act⟩ ⟨(Nat.le_of_ble_eq_true rfl), (Nat.le_of_ble_eq_true rfl)⟩) rfl rfl hl.1 (Nat.le_of_ble_eq_true rfl) dX4_days_6 ⟨(Nat.le_of_ble_eq_true rfl), (Nat.le_of_ble_eq_true rfl)⟩ (Nat.le_of_ble_eq_true rfl) (Nat.le_of_ble_eq_true rfl) (fun hk => by have hf := ifn hk hf; obtain rfl := Option.some.inj hf; exact ⟨rfl, rfl⟩) (rest := []) (fun hk H locs hP hS => ?_)
  have hf := ifp hk hf
  refine W.eq (g2 := F0 m 9 ls [.int r1.2.1]) rfl ?_
  obtain rfl := Option.some.inj hf
  exact x_iretT F hr hlk hP hS rfl (Nat.le_of_ble_eq_true rfl) (Nat.le_of_ble_eq_true rfl) dX4_days_9

-- FrostTubes.winter()I
def f_X4_winter (μ : Mem) : Option (Nat × Int32 × Mem) := ((f_X4_act μ (119 : Int32) (0 : Int32) (0 : Int32) (0 : Int32)).bind fun r1 => if r1.1 = 0 then some (0, r1.2.1, r1.2.2) else some (r1.1, 0, r1.2.2))
def rmX4_winter : Room := { frames := 7, cells := 1, slots := 6, locals := 169 }
theorem hd_X4_winter : yX4_winter.cls ≠ "java/lang/invoke/MethodHandle" ∧ yX4_winter.cls ≠ "java/lang/invoke/VarHandle" ∧ (parseMethodDescriptor yX4_winter.desc).map (fun d => d.parameters.length) = some 0 := by decide +kernel
set_option maxHeartbeats 8000000 in
set_option maxRecDepth 100000 in
theorem c_X4_winter {l : Launch} (hlt : l.stackTraces = false) {D : va_G} {x : Nat} {μ : Mem} {r : Nat × Int32 × Mem} (hf : f_X4_winter μ = some r) : TX l yX4_winter wsX4_winter rmX4_winter 1 6 [.ref (x + 0)] D x μ r.1 (some (.int r.2.1)) r.2.2 := by
  refine TX.of (cc := cX4_winter) (maxL := 1) (ret := (some .int)) pn_X4 rfl (Nat.le_of_ble_eq_true rfl) ?_
  intro p e s m args below meth c F hr hlk hx hK hG
  intro ls H locs hl hP hS
  have hl : lv_has ls 1 [(0, .ref (x + 0))] := hl
  unfold f_X4_winter at hf
  refine lv_aload_n F.1 F.2.1 dX4_winter_0 rfl (lv_at hl 0 rfl) ?_
  refine lv_bipush (v := (119 : Int32)) F.1 F.2.1 dX4_winter_1 (by decide) ?_
  refine lv_iconst (v := (0 : Int32)) F.1 F.2.1 dX4_winter_3 (by decide) ?_
  refine lv_iconst (v := (0 : Int32)) F.1 F.2.1 dX4_winter_4 (by decide) ?_
  refine lv_iconst (v := (0 : Int32)) F.1 F.2.1 dX4_winter_5 (by decide) ?_
  obtain ⟨r1, hr2, hf⟩ := bnd hf
  refine x_callVT F hK hG hP hS hx hlk (o := 0) (by decide) (q := (0, 0, 0)) rfl (ci := 4) (fun _ => rfl) rfl (c_X4_act hlt (119 : Int32) (0 : Int32) (0 : Int32) (0 : Int32) hr2) (cwV 4 F.2.2.2.2 gX4_winter_X4_act rfl rfl rfl ⟨rfl, hd_X4_act⟩ ⟨(Nat.le_of_ble_eq_true rfl), (Nat.le_of_ble_eq_true rfl)⟩) rfl rfl hl.1 (Nat.le_of_ble_eq_true rfl) dX4_winter_6 ⟨(Nat.le_of_ble_eq_true rfl), (Nat.le_of_ble_eq_true rfl)⟩ (Nat.le_of_ble_eq_true rfl) (Nat.le_of_ble_eq_true rfl) (fun hk => by have hf := ifn hk hf; obtain rfl := Option.some.inj hf; exact ⟨rfl, rfl⟩) (rest := []) (fun hk H locs hP hS => ?_)
  have hf := ifp hk hf
  refine W.eq (g2 := F0 m 9 ls [.int r1.2.1]) rfl ?_
  obtain rfl := Option.some.inj hf
  exact x_iretT F hr hlk hP hS rfl (Nat.le_of_ble_eq_true rfl) (Nat.le_of_ble_eq_true rfl) dX4_winter_9

-- FrostTubes.set(II)I
def f_X4_set (μ : Mem) (a1 : Int32) (a2 : Int32) : Option (Nat × Int32 × Mem) := ((f_X4_act μ (101 : Int32) a1 a2 (0 : Int32)).bind fun r1 => if r1.1 = 0 then some (0, r1.2.1, r1.2.2) else some (r1.1, 0, r1.2.2))
def rmX4_set : Room := { frames := 7, cells := 1, slots := 6, locals := 169 }
theorem hd_X4_set : yX4_set.cls ≠ "java/lang/invoke/MethodHandle" ∧ yX4_set.cls ≠ "java/lang/invoke/VarHandle" ∧ (parseMethodDescriptor yX4_set.desc).map (fun d => d.parameters.length) = some 2 := by decide +kernel
set_option maxHeartbeats 8000000 in
set_option maxRecDepth 100000 in
theorem c_X4_set {l : Launch} (hlt : l.stackTraces = false) {D : va_G} {x : Nat} {μ : Mem} (a1 : Int32) (a2 : Int32) {r : Nat × Int32 × Mem} (hf : f_X4_set μ a1 a2 = some r) : TX l yX4_set wsX4_set rmX4_set 1 6 [.ref (x + 0), .int a1, .int a2] D x μ r.1 (some (.int r.2.1)) r.2.2 := by
  refine TX.of (cc := cX4_set) (maxL := 3) (ret := (some .int)) pn_X4 rfl (Nat.le_of_ble_eq_true rfl) ?_
  intro p e s m args below meth c F hr hlk hx hK hG
  intro ls H locs hl hP hS
  have hl : lv_has ls 3 [(0, .ref (x + 0)), (1, .int a1), (2, .int a2)] := hl
  unfold f_X4_set at hf
  refine lv_aload_n F.1 F.2.1 dX4_set_0 rfl (lv_at hl 0 rfl) ?_
  refine lv_bipush (v := (101 : Int32)) F.1 F.2.1 dX4_set_1 (by decide) ?_
  refine lv_iload_n F.1 F.2.1 dX4_set_3 rfl (lv_at hl 1 rfl) ?_
  refine lv_iload_n F.1 F.2.1 dX4_set_4 rfl (lv_at hl 2 rfl) ?_
  refine lv_iconst (v := (0 : Int32)) F.1 F.2.1 dX4_set_5 (by decide) ?_
  obtain ⟨r1, hr2, hf⟩ := bnd hf
  refine x_callVT F hK hG hP hS hx hlk (o := 0) (by decide) (q := (0, 0, 0)) rfl (ci := 4) (fun _ => rfl) rfl (c_X4_act hlt (101 : Int32) a1 a2 (0 : Int32) hr2) (cwV 4 F.2.2.2.2 gX4_set_X4_act rfl rfl rfl ⟨rfl, hd_X4_act⟩ ⟨(Nat.le_of_ble_eq_true rfl), (Nat.le_of_ble_eq_true rfl)⟩) rfl rfl hl.1 (Nat.le_of_ble_eq_true rfl) dX4_set_6 ⟨(Nat.le_of_ble_eq_true rfl), (Nat.le_of_ble_eq_true rfl)⟩ (Nat.le_of_ble_eq_true rfl) (Nat.le_of_ble_eq_true rfl) (fun hk => by have hf := ifn hk hf; obtain rfl := Option.some.inj hf; exact ⟨rfl, rfl⟩) (rest := []) (fun hk H locs hP hS => ?_)
  have hf := ifp hk hf
  refine W.eq (g2 := F0 m 9 ls [.int r1.2.1]) rfl ?_
  obtain rfl := Option.some.inj hf
  exact x_iretT F hr hlk hP hS rfl (Nat.le_of_ble_eq_true rfl) (Nat.le_of_ble_eq_true rfl) dX4_set_9

-- FrostTubes.undo()I
def f_X4_undo (μ : Mem) : Option (Nat × Int32 × Mem) := (if 0 < ((μ 20) 0) then ((f_X1_takeBack μ).bind fun r2 => some (0, ((r2 20) 0), r2)) else some (2, 0, μ))
def rmX4_undo : Room := { frames := 6, cells := 1, slots := 6, locals := 144 }
theorem hd_X4_undo : yX4_undo.cls ≠ "java/lang/invoke/MethodHandle" ∧ yX4_undo.cls ≠ "java/lang/invoke/VarHandle" ∧ (parseMethodDescriptor yX4_undo.desc).map (fun d => d.parameters.length) = some 0 := by decide +kernel
set_option maxHeartbeats 8000000 in
set_option maxRecDepth 100000 in
theorem c_X4_undo {l : Launch} (hlt : l.stackTraces = false) {D : va_G} {x : Nat} {μ : Mem} {r : Nat × Int32 × Mem} (hf : f_X4_undo μ = some r) : TX l yX4_undo wsX4_undo rmX4_undo 1 6 [.ref (x + 0)] D x μ r.1 (some (.int r.2.1)) r.2.2 := by
  refine TX.of (cc := cX4_undo) (maxL := 1) (ret := (some .int)) pn_X4 rfl (Nat.le_of_ble_eq_true rfl) ?_
  intro p e s m args below meth c F hr hlk hx hK hG
  intro ls H locs hl hP hS
  have hl : lv_has ls 1 [(0, .ref (x + 0))] := hl
  unfold f_X4_undo at hf
  refine lv_aload_n F.1 F.2.1 dX4_undo_0 rfl (lv_at hl 0 rfl) ?_
  refine gR_X4_past F hK hP  (fun _ h => List.mem_cons_of_mem _ (List.mem_append_left _ (List.mem_append_left _ (List.mem_append_left _ (List.mem_append_left _ (List.mem_append_right _ h)))))) (List.mem_of_getElem? (i := 3) rfl) dX4_undo_1 ?_
  refine gI_X1_count F hK hP  rfl (fun _ h => List.mem_cons_of_mem _ (List.mem_append_left _ (List.mem_append_left _ (List.mem_append_left _ (List.mem_append_right _ h))))) (List.mem_of_getElem? (i := 4) rfl) dX4_undo_4 ?_
  refine lv_if_gt (tgt := 20) F.1 F.2.1 dX4_undo_7 rfl (fun hc1 => ?_) (fun hc1 => ?_)
  · have hf := ifp hc1 hf
    refine lv_aload_n F.1 F.2.1 dX4_undo_20 rfl (lv_at hl 0 rfl) ?_
    refine gR_X4_past F hK hP  (fun _ h => List.mem_cons_of_mem _ (List.mem_append_left _ (List.mem_append_left _ (List.mem_append_left _ (List.mem_append_left _ (List.mem_append_right _ h)))))) (List.mem_of_getElem? (i := 3) rfl) dX4_undo_21 ?_
    refine lv_aload_n F.1 F.2.1 dX4_undo_24 rfl (lv_at hl 0 rfl) ?_
    refine gR_X4_now F hK hP  (fun _ h => List.mem_cons_of_mem _ (List.mem_append_left _ (List.mem_append_left _ (List.mem_append_left _ (List.mem_append_left _ (List.mem_append_right _ h)))))) (List.mem_of_getElem? (i := 5) rfl) dX4_undo_25 ?_
    obtain ⟨r2, hr3, hf⟩ := bnd hf
    refine x_callV F hK hG hP hS (o := 57) (by decide) (q := (3, 0, 0)) rfl (ci := 1) (fun _ => rfl) rfl (c_X1_takeBack hr3) (cwV 1 F.2.2.2.2 gX4_undo_X1_takeBack rfl rfl rfl ⟨rfl, hd_X1_takeBack⟩ ⟨(Nat.le_of_ble_eq_true rfl), (Nat.le_of_ble_eq_true rfl)⟩) rfl rfl hl.1 (Nat.le_of_ble_eq_true rfl) dX4_undo_28 ⟨(Nat.le_of_ble_eq_true rfl), (Nat.le_of_ble_eq_true rfl)⟩ (rest := []) (fun H locs hP hS => ?_)
    refine W.eq (g2 := F0 m 31 ls []) rfl ?_
    refine lv_aload_n F.1 F.2.1 dX4_undo_31 rfl (lv_at hl 0 rfl) ?_
    refine gR_X4_past F hK hP  (fun _ h => List.mem_cons_of_mem _ (List.mem_append_left _ (List.mem_append_left _ (List.mem_append_left _ (List.mem_append_left _ (List.mem_append_right _ h)))))) (List.mem_of_getElem? (i := 3) rfl) dX4_undo_32 ?_
    refine gI_X1_count F hK hP  rfl (fun _ h => List.mem_cons_of_mem _ (List.mem_append_left _ (List.mem_append_left _ (List.mem_append_left _ (List.mem_append_right _ h))))) (List.mem_of_getElem? (i := 4) rfl) dX4_undo_35 ?_
    obtain rfl := Option.some.inj hf
    exact x_iretT F hr hlk hP hS rfl (Nat.le_of_ble_eq_true rfl) (Nat.le_of_ble_eq_true rfl) dX4_undo_38
  · have hf := ifn hc1 hf
    obtain rfl := Option.some.inj hf
    exact x_throw2 F hlt hG hP hS hx hlk rfl (List.mem_of_getElem? (i := 1) rfl) (List.mem_of_getElem? (i := 2) rfl) (fun _ h => List.mem_cons_of_mem _ (List.mem_append_right _ h)) (is := 169) (text := "nothing is remembered") (List.mem_of_getElem? (i := 11) rfl) hl.1 dX4_undo_10 dX4_undo_13 dX4_undo_14 dX4_undo_16 dX4_undo_19 (Nat.le_of_ble_eq_true rfl) (Nat.le_of_ble_eq_true rfl) (Nat.le_of_ble_eq_true rfl) (Nat.le_of_ble_eq_true rfl) (Nat.le_of_ble_eq_true rfl) (Nat.le_of_ble_eq_true rfl)

-- FrostTubes.goneIn(II)I
def fb_X4_goneIn_1 (a1 : Int32) (a2 : Int32) (K : Mem → Int32 → Option (Nat × Int32 × Mem)) (μ : Mem) (v4 : Int32) : Option (Nat × Int32 × Mem) := (if (400 : Int32) < v4 then some (0, (-1 : Int32), μ) else ((f_X2_lowestWithin (μ 1) a1.toNatClampNeg (30 : Int32)).bind fun r9 => (if r9 = (-1 : Int32) then some (0, v4, μ) else ((f_X0_passDaysAt (μ 1) a1 a2 (0 : Int32) (1 : Int32)).bind fun r12 => (K (va_up μ 1 r12) (v4 + (1 : Int32)))))))
def fl_X4_goneIn (a1 : Int32) (a2 : Int32) : Nat → Mem → Int32 → Option (Nat × Int32 × Mem)
  | 0, _, _ => none
  | n + 1, μ, v4 => fb_X4_goneIn_1 a1 a2 (fl_X4_goneIn a1 a2 n) μ v4
def f_X4_goneIn (μ : Mem) (a1 : Int32) (a2 : Int32) : Option (Nat × Int32 × Mem) := ((f_X4_needSite μ a1).bind fun r1 => if r1 = 0 then ((f_X4_needRange a2 (1 : Int32) (30 : Int32)).bind fun r3 => if r3 = 0 then ((f_X0_copyFrom (μ 1) (μ 0)).bind fun r5 => (if oob a1 4 then none else (fl_X4_goneIn a1 a2 FU (va_up μ 1 r5) (0 : Int32)))) else some (r3, 0, μ)) else some (r1, 0, μ))
def rmX4_goneIn : Room := { frames := 7, cells := 2, slots := 12, locals := 123 }
theorem hd_X4_goneIn : yX4_goneIn.cls ≠ "java/lang/invoke/MethodHandle" ∧ yX4_goneIn.cls ≠ "java/lang/invoke/VarHandle" ∧ (parseMethodDescriptor yX4_goneIn.desc).map (fun d => d.parameters.length) = some 2 := by decide +kernel
set_option maxHeartbeats 8000000 in
set_option maxRecDepth 100000 in
theorem c_X4_goneIn {l : Launch} (hlt : l.stackTraces = false) {D : va_G} {x : Nat} {μ : Mem} (a1 : Int32) (a2 : Int32) {r : Nat × Int32 × Mem} (hf : f_X4_goneIn μ a1 a2 = some r) : TX l yX4_goneIn wsX4_goneIn rmX4_goneIn 2 12 [.ref (x + 0), .int a1, .int a2] D x μ r.1 (some (.int r.2.1)) r.2.2 := by
  refine TX.of (cc := cX4_goneIn) (maxL := 5) (ret := (some .int)) pn_X4 rfl (Nat.le_of_ble_eq_true rfl) ?_
  intro p e s m args below meth c F hr hlk hx hK hG
  have KEY : ∀ n : Nat, (∀ (μ : Mem) (v4 : Int32) (hy0 : a1.toNatClampNeg < 4) (ls : Array Slot) (H : Heap) (locs : List Loc), lv_has ls 5 [(0, .ref (x + 0)), (1, .int a1), (2, .int a2), (3, .ref (x + sb 1 a1.toNatClampNeg)), (4, .int v4)] → va_P D vwCl (WL D x μ) H → va_S (rng x) s.heap H locs → fl_X4_goneIn a1 a2 n μ v4 = some r → W p l e rmX4_goneIn s m args below meth c H locs 2 12 (vx_MQ below (QT D x r.2.2 r.1 (some (.int r.2.1))) (XT D x r.2.2 r.1) args s 2 12 (rng x)) (F0 m 36 ls [])) := by
    intro n
    induction n with
    | zero => exact (fun _ _ _ _ _ _ _ _ _ h => nomatch h)
    | succ n ih =>
      skip
      intro μ v4 hy0  ls H locs hl hP hS hf
      have hf : fb_X4_goneIn_1 a1 a2 (fl_X4_goneIn a1 a2 n) μ v4 = some r := hf
      unfold fb_X4_goneIn_1 at hf
      refine lv_iload F.1 F.2.1 dX4_goneIn_36 (lv_at hl 4 rfl) ?_
      refine lv_sipush (v := (400 : Int32)) F.1 F.2.1 dX4_goneIn_38 (by decide) ?_
      refine lv_icmp_gt (tgt := 74) F.1 F.2.1 dX4_goneIn_41 rfl (fun hc8 => ?_) (fun hc8 => ?_)
      · have hf := ifp hc8 hf
        refine lv_iconst (v := (-1 : Int32)) F.1 F.2.1 dX4_goneIn_74 (by decide) ?_
        obtain rfl := Option.some.inj hf
        exact x_iretT F hr hlk hP hS rfl (Nat.le_of_ble_eq_true rfl) (Nat.le_of_ble_eq_true rfl) dX4_goneIn_75
      · have hf := ifn hc8 hf
        refine lv_aload_n F.1 F.2.1 dX4_goneIn_44 rfl (lv_at hl 3 rfl) ?_
        refine lv_bipush (v := (30 : Int32)) F.1 F.2.1 dX4_goneIn_45 (by decide) ?_
        obtain ⟨r9, hr10, hf⟩ := bnd hf
        refine x_callV F hK hG hP hS (o_S (by decide) hy0) (kd_S 1 (by decide) a1.toNatClampNeg hy0) (ci := 2) (fun _ => rfl) rfl (c_X2_lowestWithin (by decide) hy0 rfl (30 : Int32) hr10) (cwV 1 F.2.2.2.2 gX4_goneIn_X2_lowestWithin rfl rfl rfl ⟨rfl, hd_X2_lowestWithin⟩ ⟨(Nat.le_of_ble_eq_true rfl), (Nat.le_of_ble_eq_true rfl)⟩) rfl rfl hl.1 (Nat.le_of_ble_eq_true rfl) dX4_goneIn_47 ⟨(Nat.le_of_ble_eq_true rfl), (Nat.le_of_ble_eq_true rfl)⟩ (rest := []) (fun H locs hP hS => ?_)
        refine W.eq (g2 := F0 m 50 ls [.int r9]) rfl ?_
        refine lv_iconst (v := (-1 : Int32)) F.1 F.2.1 dX4_goneIn_50 (by decide) ?_
        refine lv_icmp_ne (tgt := 57) F.1 F.2.1 dX4_goneIn_51 rfl (fun hc11 => ?_) (fun hc11 => ?_)
        · have hf := ifn hc11 hf
          refine lv_aload_n F.1 F.2.1 dX4_goneIn_57 rfl (lv_at hl 0 rfl) ?_
          refine gR_X4_trial F hK hP  (fun _ h => List.mem_cons_of_mem _ (List.mem_append_left _ (List.mem_append_left _ (List.mem_append_left _ (List.mem_append_left _ (List.mem_append_right _ h)))))) (List.mem_of_getElem? (i := 1) rfl) dX4_goneIn_58 ?_
          refine lv_iload_n F.1 F.2.1 dX4_goneIn_61 rfl (lv_at hl 1 rfl) ?_
          refine lv_iload_n F.1 F.2.1 dX4_goneIn_62 rfl (lv_at hl 2 rfl) ?_
          refine lv_iconst (v := (0 : Int32)) F.1 F.2.1 dX4_goneIn_63 (by decide) ?_
          refine lv_iconst (v := (1 : Int32)) F.1 F.2.1 dX4_goneIn_64 (by decide) ?_
          obtain ⟨r12, hr13, hf⟩ := bnd hf
          have hP := x_up 1 hP
          refine x_callV F hK hG hP hS (o_G (by decide) (c := 0) (by decide)) (kd_G 1 (by decide) 0 (by decide)) (ci := 0) (fun _ => rfl) rfl (c_X0_passDaysAt (by decide) a1 a2 (0 : Int32) (1 : Int32) hr13) (cwV 4 F.2.2.2.2 gX4_goneIn_X0_passDaysAt rfl rfl rfl ⟨rfl, hd_X0_passDaysAt⟩ ⟨(Nat.le_of_ble_eq_true rfl), (Nat.le_of_ble_eq_true rfl)⟩) rfl rfl hl.1 (Nat.le_of_ble_eq_true rfl) dX4_goneIn_65 ⟨(Nat.le_of_ble_eq_true rfl), (Nat.le_of_ble_eq_true rfl)⟩ (rest := []) (fun H locs hP hS => ?_)
          refine W.eq (g2 := F0 m 68 ls []) rfl ?_
          refine lv_iinc (v := (v4 + (1 : Int32))) F.1 F.2.1 dX4_goneIn_68 hl (k := 4) rfl rfl (Nat.le_of_ble_eq_true rfl) rfl (fun ls hl => ?_)
          have hl : lv_has ls 5 [(4, .int (v4 + (1 : Int32))), (0, .ref (x + 0)), (1, .int a1), (2, .int a2), (3, .ref (x + sb 1 a1.toNatClampNeg))] := hl
          refine lv_goto (tgt := 36) F.1 F.2.1 dX4_goneIn_71 rfl ?_
          exact ih (va_up μ 1 r12) (v4 + (1 : Int32)) hy0 _ _ _ (lv_sub hl [1, 2, 3, 4, 0] rfl) hP hS hf
        · have hf := ifp hc11 hf
          refine lv_iload F.1 F.2.1 dX4_goneIn_54 (lv_at hl 4 rfl) ?_
          obtain rfl := Option.some.inj hf
          exact x_iretT F hr hlk hP hS rfl (Nat.le_of_ble_eq_true rfl) (Nat.le_of_ble_eq_true rfl) dX4_goneIn_56
  intro ls H locs hl hP hS
  have hl : lv_has ls 5 [(0, .ref (x + 0)), (1, .int a1), (2, .int a2)] := hl
  unfold f_X4_goneIn at hf
  refine lv_aload_n F.1 F.2.1 dX4_goneIn_0 rfl (lv_at hl 0 rfl) ?_
  refine lv_iload_n F.1 F.2.1 dX4_goneIn_1 rfl (lv_at hl 1 rfl) ?_
  obtain ⟨r1, hr2, hf⟩ := bnd hf
  refine x_callVT F hK hG hP hS hx hlk (o := 0) (by decide) (q := (0, 0, 0)) rfl (ci := 4) (fun _ => rfl) rfl (c_X4_needSite hlt a1 hr2) (cwV 1 F.2.2.2.2 gX4_goneIn_X4_needSite rfl rfl rfl ⟨rfl, hd_X4_needSite⟩ ⟨(Nat.le_of_ble_eq_true rfl), (Nat.le_of_ble_eq_true rfl)⟩) rfl rfl hl.1 (Nat.le_of_ble_eq_true rfl) dX4_goneIn_2 ⟨(Nat.le_of_ble_eq_true rfl), (Nat.le_of_ble_eq_true rfl)⟩ (Nat.le_of_ble_eq_true rfl) (Nat.le_of_ble_eq_true rfl) (fun hk => by have hf := ifn hk hf; obtain rfl := Option.some.inj hf; exact ⟨rfl, rfl⟩) (rest := []) (fun hk H locs hP hS => ?_)
  have hf := ifp hk hf
  refine W.eq (g2 := F0 m 5 ls []) rfl ?_
  refine lv_iload_n F.1 F.2.1 dX4_goneIn_5 rfl (lv_at hl 2 rfl) ?_
  refine lv_iconst (v := (1 : Int32)) F.1 F.2.1 dX4_goneIn_6 (by decide) ?_
  refine lv_bipush (v := (30 : Int32)) F.1 F.2.1 dX4_goneIn_7 (by decide) ?_
  obtain ⟨r3, hr4, hf⟩ := bnd hf
  refine x_callST F hK hG hP hS hx hlk (c_X4_needRange hlt a2 (1 : Int32) (30 : Int32) hr4) (va_cwS 3 F.2.2.2.2 gX4_goneIn_X4_needRange rfl rfl rfl hd_X4_needRange ⟨(Nat.le_of_ble_eq_true rfl), (Nat.le_of_ble_eq_true rfl)⟩) rfl rfl hl.1 (Nat.le_of_ble_eq_true rfl) dX4_goneIn_9 ⟨(Nat.le_of_ble_eq_true rfl), (Nat.le_of_ble_eq_true rfl)⟩ (Nat.le_of_ble_eq_true rfl) (Nat.le_of_ble_eq_true rfl) (fun hk => by have hf := ifn hk hf; obtain rfl := Option.some.inj hf; exact ⟨rfl, rfl⟩) (rest := []) (fun hk H locs hP hS => ?_)
  have hf := ifp hk hf
  refine W.eq (g2 := F0 m 12 ls []) rfl ?_
  refine lv_aload_n F.1 F.2.1 dX4_goneIn_12 rfl (lv_at hl 0 rfl) ?_
  refine gR_X4_trial F hK hP  (fun _ h => List.mem_cons_of_mem _ (List.mem_append_left _ (List.mem_append_left _ (List.mem_append_left _ (List.mem_append_left _ (List.mem_append_right _ h)))))) (List.mem_of_getElem? (i := 1) rfl) dX4_goneIn_13 ?_
  refine lv_aload_n F.1 F.2.1 dX4_goneIn_16 rfl (lv_at hl 0 rfl) ?_
  refine gR_X4_now F hK hP  (fun _ h => List.mem_cons_of_mem _ (List.mem_append_left _ (List.mem_append_left _ (List.mem_append_left _ (List.mem_append_left _ (List.mem_append_right _ h)))))) (List.mem_of_getElem? (i := 2) rfl) dX4_goneIn_17 ?_
  obtain ⟨r5, hr6, hf⟩ := bnd hf
  have hP := x_up 1 hP
  refine x_callV F hK hG hP hS (o_G (by decide) (c := 0) (by decide)) (kd_G 1 (by decide) 0 (by decide)) (ci := 0) (fun _ => rfl) rfl (c_X0_copyFrom (by decide) (by decide) (by decide) rfl hr6) (cwV 1 F.2.2.2.2 gX4_goneIn_X0_copyFrom rfl rfl rfl ⟨rfl, hd_X0_copyFrom⟩ ⟨(Nat.le_of_ble_eq_true rfl), (Nat.le_of_ble_eq_true rfl)⟩) rfl rfl hl.1 (Nat.le_of_ble_eq_true rfl) dX4_goneIn_20 ⟨(Nat.le_of_ble_eq_true rfl), (Nat.le_of_ble_eq_true rfl)⟩ (rest := []) (fun H locs hP hS => ?_)
  refine W.eq (g2 := F0 m 23 ls []) rfl ?_
  refine lv_aload_n F.1 F.2.1 dX4_goneIn_23 rfl (lv_at hl 0 rfl) ?_
  refine gR_X4_trial F hK hP  (fun _ h => List.mem_cons_of_mem _ (List.mem_append_left _ (List.mem_append_left _ (List.mem_append_left _ (List.mem_append_left _ (List.mem_append_right _ h)))))) (List.mem_of_getElem? (i := 1) rfl) dX4_goneIn_24 ?_
  refine gR_X0_sites F hK hP (by decide) (fun _ h => List.mem_cons_of_mem _ (List.mem_append_left _ (List.mem_append_left _ (List.mem_append_left _ (List.mem_append_right _ h))))) (List.mem_of_getElem? (i := 3) rfl) dX4_goneIn_27 ?_
  refine lv_iload_n F.1 F.2.1 dX4_goneIn_30 rfl (lv_at hl 1 rfl) ?_
  obtain ⟨hb7, hf⟩ := ifg hf
  refine lA_GA2 F hK hP (by decide) hb7 dX4_goneIn_31 ?_
  refine lv_astore_n F.1 F.2.1 dX4_goneIn_32 rfl hl (Nat.le_of_ble_eq_true rfl) rfl (fun ls hl => ?_)
  have hl : lv_has ls 5 [(3, .ref (x + sb 1 a1.toNatClampNeg)), (0, .ref (x + 0)), (1, .int a1), (2, .int a2)] := hl
  refine lv_iconst (v := (0 : Int32)) F.1 F.2.1 dX4_goneIn_33 (by decide) ?_
  refine lv_istore F.1 F.2.1 dX4_goneIn_34 hl (Nat.le_of_ble_eq_true rfl) rfl (fun ls hl => ?_)
  have hl : lv_has ls 5 [(4, .int (0 : Int32)), (3, .ref (x + sb 1 a1.toNatClampNeg)), (0, .ref (x + 0)), (1, .int a1), (2, .int a2)] := hl
  exact (KEY FU) (va_up μ 1 r5) (0 : Int32) (oob_lt hb7) _ _ _ (lv_sub hl [2, 3, 4, 1, 0] rfl) hP hS hf

-- FrostTubes.reachedIn(III)I
def fb_X4_reachedIn_1 (a1 : Int32) (a2 : Int32) (a3 : Int32) (K : Mem → Int32 → Option (Nat × Int32 × Mem)) (μ : Mem) (v5 : Int32) : Option (Nat × Int32 × Mem) := (if (400 : Int32) < v5 then some (0, (-1 : Int32), μ) else ((f_X2_isFrozen (μ 1) a1.toNatClampNeg a2).bind fun r11 => (if r11 = 0 then ((f_X0_passDaysAt (μ 1) a1 a3 (0 : Int32) (1 : Int32)).bind fun r14 => (K (va_up μ 1 r14) (v5 + (1 : Int32)))) else some (0, v5, μ))))
def fl_X4_reachedIn (a1 : Int32) (a2 : Int32) (a3 : Int32) : Nat → Mem → Int32 → Option (Nat × Int32 × Mem)
  | 0, _, _ => none
  | n + 1, μ, v5 => fb_X4_reachedIn_1 a1 a2 a3 (fl_X4_reachedIn a1 a2 a3 n) μ v5
def f_X4_reachedIn (μ : Mem) (a1 : Int32) (a2 : Int32) (a3 : Int32) : Option (Nat × Int32 × Mem) := ((f_X4_needSite μ a1).bind fun r1 => if r1 = 0 then ((f_X4_needCell a2).bind fun r3 => if r3 = 0 then ((f_X4_needRange a3 (-30 : Int32) (-1 : Int32)).bind fun r5 => if r5 = 0 then ((f_X0_copyFrom (μ 1) (μ 0)).bind fun r7 => (if oob a1 4 then none else (fl_X4_reachedIn a1 a2 a3 FU (va_up μ 1 r7) (0 : Int32)))) else some (r5, 0, μ)) else some (r3, 0, μ)) else some (r1, 0, μ))
def rmX4_reachedIn : Room := { frames := 7, cells := 3, slots := 18, locals := 123 }
theorem hd_X4_reachedIn : yX4_reachedIn.cls ≠ "java/lang/invoke/MethodHandle" ∧ yX4_reachedIn.cls ≠ "java/lang/invoke/VarHandle" ∧ (parseMethodDescriptor yX4_reachedIn.desc).map (fun d => d.parameters.length) = some 3 := by decide +kernel
set_option maxHeartbeats 8000000 in
set_option maxRecDepth 100000 in
theorem c_X4_reachedIn {l : Launch} (hlt : l.stackTraces = false) {D : va_G} {x : Nat} {μ : Mem} (a1 : Int32) (a2 : Int32) (a3 : Int32) {r : Nat × Int32 × Mem} (hf : f_X4_reachedIn μ a1 a2 a3 = some r) : TX l yX4_reachedIn wsX4_reachedIn rmX4_reachedIn 3 18 [.ref (x + 0), .int a1, .int a2, .int a3] D x μ r.1 (some (.int r.2.1)) r.2.2 := by
  refine TX.of (cc := cX4_reachedIn) (maxL := 6) (ret := (some .int)) pn_X4 rfl (Nat.le_of_ble_eq_true rfl) ?_
  intro p e s m args below meth c F hr hlk hx hK hG
  have KEY : ∀ n : Nat, (∀ (μ : Mem) (v5 : Int32) (hy0 : a1.toNatClampNeg < 4) (ls : Array Slot) (H : Heap) (locs : List Loc), lv_has ls 6 [(0, .ref (x + 0)), (1, .int a1), (2, .int a2), (3, .int a3), (4, .ref (x + sb 1 a1.toNatClampNeg)), (5, .int v5)] → va_P D vwCl (WL D x μ) H → va_S (rng x) s.heap H locs → fl_X4_reachedIn a1 a2 a3 n μ v5 = some r → W p l e rmX4_reachedIn s m args below meth c H locs 3 18 (vx_MQ below (QT D x r.2.2 r.1 (some (.int r.2.1))) (XT D x r.2.2 r.1) args s 3 18 (rng x)) (F0 m 41 ls [])) := by
    intro n
    induction n with
    | zero => exact (fun _ _ _ _ _ _ _ _ _ h => nomatch h)
    | succ n ih =>
      skip
      intro μ v5 hy0  ls H locs hl hP hS hf
      have hf : fb_X4_reachedIn_1 a1 a2 a3 (fl_X4_reachedIn a1 a2 a3 n) μ v5 = some r := hf
      unfold fb_X4_reachedIn_1 at hf
      refine lv_iload F.1 F.2.1 dX4_reachedIn_41 (lv_at hl 5 rfl) ?_
      refine lv_sipush (v := (400 : Int32)) F.1 F.2.1 dX4_reachedIn_43 (by decide) ?_
      refine lv_icmp_gt (tgt := 78) F.1 F.2.1 dX4_reachedIn_46 rfl (fun hc10 => ?_) (fun hc10 => ?_)
      · have hf := ifp hc10 hf
        refine lv_iconst (v := (-1 : Int32)) F.1 F.2.1 dX4_reachedIn_78 (by decide) ?_
        obtain rfl := Option.some.inj hf
        exact x_iretT F hr hlk hP hS rfl (Nat.le_of_ble_eq_true rfl) (Nat.le_of_ble_eq_true rfl) dX4_reachedIn_79
      · have hf := ifn hc10 hf
        refine lv_aload F.1 F.2.1 dX4_reachedIn_49 (lv_at hl 4 rfl) ?_
        refine lv_iload_n F.1 F.2.1 dX4_reachedIn_51 rfl (lv_at hl 2 rfl) ?_
        obtain ⟨r11, hr12, hf⟩ := bnd hf
        refine x_callV F hK hG hP hS (o_S (by decide) hy0) (kd_S 1 (by decide) a1.toNatClampNeg hy0) (ci := 2) (fun _ => rfl) rfl (c_X2_isFrozen (by decide) hy0 rfl a2 hr12) (cwV 1 F.2.2.2.2 gX4_reachedIn_X2_isFrozen rfl rfl rfl ⟨rfl, hd_X2_isFrozen⟩ ⟨(Nat.le_of_ble_eq_true rfl), (Nat.le_of_ble_eq_true rfl)⟩) rfl rfl hl.1 (Nat.le_of_ble_eq_true rfl) dX4_reachedIn_52 ⟨(Nat.le_of_ble_eq_true rfl), (Nat.le_of_ble_eq_true rfl)⟩ (rest := []) (fun H locs hP hS => ?_)
        refine W.eq (g2 := F0 m 55 ls [.int r11]) rfl ?_
        refine lv_if_eq (tgt := 61) F.1 F.2.1 dX4_reachedIn_55 rfl (fun hc13 => ?_) (fun hc13 => ?_)
        · have hf := ifp hc13 hf
          refine lv_aload_n F.1 F.2.1 dX4_reachedIn_61 rfl (lv_at hl 0 rfl) ?_
          refine gR_X4_trial F hK hP  (fun _ h => List.mem_cons_of_mem _ (List.mem_append_left _ (List.mem_append_left _ (List.mem_append_left _ (List.mem_append_left _ (List.mem_append_right _ h)))))) (List.mem_of_getElem? (i := 1) rfl) dX4_reachedIn_62 ?_
          refine lv_iload_n F.1 F.2.1 dX4_reachedIn_65 rfl (lv_at hl 1 rfl) ?_
          refine lv_iload_n F.1 F.2.1 dX4_reachedIn_66 rfl (lv_at hl 3 rfl) ?_
          refine lv_iconst (v := (0 : Int32)) F.1 F.2.1 dX4_reachedIn_67 (by decide) ?_
          refine lv_iconst (v := (1 : Int32)) F.1 F.2.1 dX4_reachedIn_68 (by decide) ?_
          obtain ⟨r14, hr15, hf⟩ := bnd hf
          have hP := x_up 1 hP
          refine x_callV F hK hG hP hS (o_G (by decide) (c := 0) (by decide)) (kd_G 1 (by decide) 0 (by decide)) (ci := 0) (fun _ => rfl) rfl (c_X0_passDaysAt (by decide) a1 a3 (0 : Int32) (1 : Int32) hr15) (cwV 4 F.2.2.2.2 gX4_reachedIn_X0_passDaysAt rfl rfl rfl ⟨rfl, hd_X0_passDaysAt⟩ ⟨(Nat.le_of_ble_eq_true rfl), (Nat.le_of_ble_eq_true rfl)⟩) rfl rfl hl.1 (Nat.le_of_ble_eq_true rfl) dX4_reachedIn_69 ⟨(Nat.le_of_ble_eq_true rfl), (Nat.le_of_ble_eq_true rfl)⟩ (rest := []) (fun H locs hP hS => ?_)
          refine W.eq (g2 := F0 m 72 ls []) rfl ?_
          refine lv_iinc (v := (v5 + (1 : Int32))) F.1 F.2.1 dX4_reachedIn_72 hl (k := 5) rfl rfl (Nat.le_of_ble_eq_true rfl) rfl (fun ls hl => ?_)
          have hl : lv_has ls 6 [(5, .int (v5 + (1 : Int32))), (0, .ref (x + 0)), (1, .int a1), (2, .int a2), (3, .int a3), (4, .ref (x + sb 1 a1.toNatClampNeg))] := hl
          refine lv_goto (tgt := 41) F.1 F.2.1 dX4_reachedIn_75 rfl ?_
          exact ih (va_up μ 1 r14) (v5 + (1 : Int32)) hy0 _ _ _ (lv_sub hl [1, 2, 3, 4, 5, 0] rfl) hP hS hf
        · have hf := ifn hc13 hf
          refine lv_iload F.1 F.2.1 dX4_reachedIn_58 (lv_at hl 5 rfl) ?_
          obtain rfl := Option.some.inj hf
          exact x_iretT F hr hlk hP hS rfl (Nat.le_of_ble_eq_true rfl) (Nat.le_of_ble_eq_true rfl) dX4_reachedIn_60
  intro ls H locs hl hP hS
  have hl : lv_has ls 6 [(0, .ref (x + 0)), (1, .int a1), (2, .int a2), (3, .int a3)] := hl
  unfold f_X4_reachedIn at hf
  refine lv_aload_n F.1 F.2.1 dX4_reachedIn_0 rfl (lv_at hl 0 rfl) ?_
  refine lv_iload_n F.1 F.2.1 dX4_reachedIn_1 rfl (lv_at hl 1 rfl) ?_
  obtain ⟨r1, hr2, hf⟩ := bnd hf
  refine x_callVT F hK hG hP hS hx hlk (o := 0) (by decide) (q := (0, 0, 0)) rfl (ci := 4) (fun _ => rfl) rfl (c_X4_needSite hlt a1 hr2) (cwV 1 F.2.2.2.2 gX4_reachedIn_X4_needSite rfl rfl rfl ⟨rfl, hd_X4_needSite⟩ ⟨(Nat.le_of_ble_eq_true rfl), (Nat.le_of_ble_eq_true rfl)⟩) rfl rfl hl.1 (Nat.le_of_ble_eq_true rfl) dX4_reachedIn_2 ⟨(Nat.le_of_ble_eq_true rfl), (Nat.le_of_ble_eq_true rfl)⟩ (Nat.le_of_ble_eq_true rfl) (Nat.le_of_ble_eq_true rfl) (fun hk => by have hf := ifn hk hf; obtain rfl := Option.some.inj hf; exact ⟨rfl, rfl⟩) (rest := []) (fun hk H locs hP hS => ?_)
  have hf := ifp hk hf
  refine W.eq (g2 := F0 m 5 ls []) rfl ?_
  refine lv_iload_n F.1 F.2.1 dX4_reachedIn_5 rfl (lv_at hl 2 rfl) ?_
  obtain ⟨r3, hr4, hf⟩ := bnd hf
  refine x_callST F hK hG hP hS hx hlk (c_X4_needCell hlt a2 hr4) (va_cwS 1 F.2.2.2.2 gX4_reachedIn_X4_needCell rfl rfl rfl hd_X4_needCell ⟨(Nat.le_of_ble_eq_true rfl), (Nat.le_of_ble_eq_true rfl)⟩) rfl rfl hl.1 (Nat.le_of_ble_eq_true rfl) dX4_reachedIn_6 ⟨(Nat.le_of_ble_eq_true rfl), (Nat.le_of_ble_eq_true rfl)⟩ (Nat.le_of_ble_eq_true rfl) (Nat.le_of_ble_eq_true rfl) (fun hk => by have hf := ifn hk hf; obtain rfl := Option.some.inj hf; exact ⟨rfl, rfl⟩) (rest := []) (fun hk H locs hP hS => ?_)
  have hf := ifp hk hf
  refine W.eq (g2 := F0 m 9 ls []) rfl ?_
  refine lv_iload_n F.1 F.2.1 dX4_reachedIn_9 rfl (lv_at hl 3 rfl) ?_
  refine lv_bipush (v := (-30 : Int32)) F.1 F.2.1 dX4_reachedIn_10 (by decide) ?_
  refine lv_iconst (v := (-1 : Int32)) F.1 F.2.1 dX4_reachedIn_12 (by decide) ?_
  obtain ⟨r5, hr6, hf⟩ := bnd hf
  refine x_callST F hK hG hP hS hx hlk (c_X4_needRange hlt a3 (-30 : Int32) (-1 : Int32) hr6) (va_cwS 3 F.2.2.2.2 gX4_reachedIn_X4_needRange rfl rfl rfl hd_X4_needRange ⟨(Nat.le_of_ble_eq_true rfl), (Nat.le_of_ble_eq_true rfl)⟩) rfl rfl hl.1 (Nat.le_of_ble_eq_true rfl) dX4_reachedIn_13 ⟨(Nat.le_of_ble_eq_true rfl), (Nat.le_of_ble_eq_true rfl)⟩ (Nat.le_of_ble_eq_true rfl) (Nat.le_of_ble_eq_true rfl) (fun hk => by have hf := ifn hk hf; obtain rfl := Option.some.inj hf; exact ⟨rfl, rfl⟩) (rest := []) (fun hk H locs hP hS => ?_)
  have hf := ifp hk hf
  refine W.eq (g2 := F0 m 16 ls []) rfl ?_
  refine lv_aload_n F.1 F.2.1 dX4_reachedIn_16 rfl (lv_at hl 0 rfl) ?_
  refine gR_X4_trial F hK hP  (fun _ h => List.mem_cons_of_mem _ (List.mem_append_left _ (List.mem_append_left _ (List.mem_append_left _ (List.mem_append_left _ (List.mem_append_right _ h)))))) (List.mem_of_getElem? (i := 1) rfl) dX4_reachedIn_17 ?_
  refine lv_aload_n F.1 F.2.1 dX4_reachedIn_20 rfl (lv_at hl 0 rfl) ?_
  refine gR_X4_now F hK hP  (fun _ h => List.mem_cons_of_mem _ (List.mem_append_left _ (List.mem_append_left _ (List.mem_append_left _ (List.mem_append_left _ (List.mem_append_right _ h)))))) (List.mem_of_getElem? (i := 2) rfl) dX4_reachedIn_21 ?_
  obtain ⟨r7, hr8, hf⟩ := bnd hf
  have hP := x_up 1 hP
  refine x_callV F hK hG hP hS (o_G (by decide) (c := 0) (by decide)) (kd_G 1 (by decide) 0 (by decide)) (ci := 0) (fun _ => rfl) rfl (c_X0_copyFrom (by decide) (by decide) (by decide) rfl hr8) (cwV 1 F.2.2.2.2 gX4_reachedIn_X0_copyFrom rfl rfl rfl ⟨rfl, hd_X0_copyFrom⟩ ⟨(Nat.le_of_ble_eq_true rfl), (Nat.le_of_ble_eq_true rfl)⟩) rfl rfl hl.1 (Nat.le_of_ble_eq_true rfl) dX4_reachedIn_24 ⟨(Nat.le_of_ble_eq_true rfl), (Nat.le_of_ble_eq_true rfl)⟩ (rest := []) (fun H locs hP hS => ?_)
  refine W.eq (g2 := F0 m 27 ls []) rfl ?_
  refine lv_aload_n F.1 F.2.1 dX4_reachedIn_27 rfl (lv_at hl 0 rfl) ?_
  refine gR_X4_trial F hK hP  (fun _ h => List.mem_cons_of_mem _ (List.mem_append_left _ (List.mem_append_left _ (List.mem_append_left _ (List.mem_append_left _ (List.mem_append_right _ h)))))) (List.mem_of_getElem? (i := 1) rfl) dX4_reachedIn_28 ?_
  refine gR_X0_sites F hK hP (by decide) (fun _ h => List.mem_cons_of_mem _ (List.mem_append_left _ (List.mem_append_left _ (List.mem_append_left _ (List.mem_append_right _ h))))) (List.mem_of_getElem? (i := 3) rfl) dX4_reachedIn_31 ?_
  refine lv_iload_n F.1 F.2.1 dX4_reachedIn_34 rfl (lv_at hl 1 rfl) ?_
  obtain ⟨hb9, hf⟩ := ifg hf
  refine lA_GA2 F hK hP (by decide) hb9 dX4_reachedIn_35 ?_
  refine lv_astore F.1 F.2.1 dX4_reachedIn_36 hl (Nat.le_of_ble_eq_true rfl) rfl (fun ls hl => ?_)
  have hl : lv_has ls 6 [(4, .ref (x + sb 1 a1.toNatClampNeg)), (0, .ref (x + 0)), (1, .int a1), (2, .int a2), (3, .int a3)] := hl
  refine lv_iconst (v := (0 : Int32)) F.1 F.2.1 dX4_reachedIn_38 (by decide) ?_
  refine lv_istore F.1 F.2.1 dX4_reachedIn_39 hl (Nat.le_of_ble_eq_true rfl) rfl (fun ls hl => ?_)
  have hl : lv_has ls 6 [(5, .int (0 : Int32)), (4, .ref (x + sb 1 a1.toNatClampNeg)), (0, .ref (x + 0)), (1, .int a1), (2, .int a2), (3, .int a3)] := hl
  exact (KEY FU) (va_up μ 1 r7) (0 : Int32) (oob_lt hb9) _ _ _ (lv_sub hl [2, 3, 4, 5, 1, 0] rfl) hP hS hf

-- FrostTubes.bestFence(IIII)I
def fb_X4_bestFence_1 (a1 : Int32) (a2 : Int32) (a3 : Int32) (a4 : Int32) (K : Mem → Int32 → Int32 → Int32 → Option (Nat × Int32 × Mem)) (μ : Mem) (v5 : Int32) (v6 : Int32) (v7 : Int32) : Option (Nat × Int32 × Mem) := (if (20 : Int32) < v7 then some (0, v5, μ) else ((f_X0_copyFrom (μ 1) (μ 0)).bind fun r10 => (if oob a1 4 then none else ((f_X0_passDaysAt ((va_up (va_up μ 1 r10) 1 (upd ((va_up μ 1 r10) 1) (35 * a1.toNatClampNeg + 1) v7)) 1) a1 a2 a3 a4).bind fun r13 => (if oob a1 4 then none else ((f_X2_frozenWithin ((va_up (va_up (va_up μ 1 r10) 1 (upd ((va_up μ 1 r10) 1) (35 * a1.toNatClampNeg + 1) v7)) 1 r13) 1) a1.toNatClampNeg (30 : Int32)).bind fun r16 => (if v6 ≤ r16 then (K (va_up (va_up (va_up μ 1 r10) 1 (upd ((va_up μ 1 r10) 1) (35 * a1.toNatClampNeg + 1) v7)) 1 r13) v5 v6 (v7 + (1 : Int32))) else (K (va_up (va_up (va_up μ 1 r10) 1 (upd ((va_up μ 1 r10) 1) (35 * a1.toNatClampNeg + 1) v7)) 1 r13) v7 r16 (v7 + (1 : Int32))))))))))
def fl_X4_bestFence (a1 : Int32) (a2 : Int32) (a3 : Int32) (a4 : Int32) : Nat → Mem → Int32 → Int32 → Int32 → Option (Nat × Int32 × Mem)
  | 0, _, _, _, _ => none
  | n + 1, μ, v5, v6, v7 => fb_X4_bestFence_1 a1 a2 a3 a4 (fl_X4_bestFence a1 a2 a3 a4 n) μ v5 v6 v7
def f_X4_bestFence (μ : Mem) (a1 : Int32) (a2 : Int32) (a3 : Int32) (a4 : Int32) : Option (Nat × Int32 × Mem) := ((f_X4_needSite μ a1).bind fun r1 => if r1 = 0 then ((f_X4_needRange a2 (-30 : Int32) (30 : Int32)).bind fun r3 => if r3 = 0 then ((f_X4_needRange a3 (0 : Int32) (30 : Int32)).bind fun r5 => if r5 = 0 then ((f_X4_needRange a4 (1 : Int32) (60 : Int32)).bind fun r7 => if r7 = 0 then (fl_X4_bestFence a1 a2 a3 a4 FU μ (0 : Int32) (31 : Int32) (0 : Int32)) else some (r7, 0, μ)) else some (r5, 0, μ)) else some (r3, 0, μ)) else some (r1, 0, μ))
def rmX4_bestFence : Room := { frames := 7, cells := 4, slots := 24, locals := 123 }
theorem hd_X4_bestFence : yX4_bestFence.cls ≠ "java/lang/invoke/MethodHandle" ∧ yX4_bestFence.cls ≠ "java/lang/invoke/VarHandle" ∧ (parseMethodDescriptor yX4_bestFence.desc).map (fun d => d.parameters.length) = some 4 := by decide +kernel
set_option maxHeartbeats 8000000 in
set_option maxRecDepth 100000 in
theorem c_X4_bestFence {l : Launch} (hlt : l.stackTraces = false) {D : va_G} {x : Nat} {μ : Mem} (a1 : Int32) (a2 : Int32) (a3 : Int32) (a4 : Int32) {r : Nat × Int32 × Mem} (hf : f_X4_bestFence μ a1 a2 a3 a4 = some r) : TX l yX4_bestFence wsX4_bestFence rmX4_bestFence 4 24 [.ref (x + 0), .int a1, .int a2, .int a3, .int a4] D x μ r.1 (some (.int r.2.1)) r.2.2 := by
  refine TX.of (cc := cX4_bestFence) (maxL := 9) (ret := (some .int)) pn_X4 rfl (Nat.le_of_ble_eq_true rfl) ?_
  intro p e s m args below meth c F hr hlk hx hK hG
  have KEY : ∀ n : Nat, (∀ (μ : Mem) (v5 : Int32) (v6 : Int32) (v7 : Int32) (ls : Array Slot) (H : Heap) (locs : List Loc), lv_has ls 9 [(0, .ref (x + 0)), (1, .int a1), (2, .int a2), (3, .int a3), (4, .int a4), (5, .int v5), (6, .int v6), (7, .int v7)] → va_P D vwCl (WL D x μ) H → va_S (rng x) s.heap H locs → fl_X4_bestFence a1 a2 a3 a4 n μ v5 v6 v7 = some r → W p l e rmX4_bestFence s m args below meth c H locs 4 24 (vx_MQ below (QT D x r.2.2 r.1 (some (.int r.2.1))) (XT D x r.2.2 r.1) args s 4 24 (rng x)) (F0 m 38 ls [])) := by
    intro n
    induction n with
    | zero => exact (fun _ _ _ _ _ _ _ _ _ _ h => nomatch h)
    | succ n ih =>
      skip
      intro μ v5 v6 v7  ls H locs hl hP hS hf
      have hf : fb_X4_bestFence_1 a1 a2 a3 a4 (fl_X4_bestFence a1 a2 a3 a4 n) μ v5 v6 v7 = some r := hf
      unfold fb_X4_bestFence_1 at hf
      refine lv_iload F.1 F.2.1 dX4_bestFence_38 (lv_at hl 7 rfl) ?_
      refine lv_bipush (v := (20 : Int32)) F.1 F.2.1 dX4_bestFence_40 (by decide) ?_
      refine lv_icmp_gt (tgt := 119) F.1 F.2.1 dX4_bestFence_42 rfl (fun hc9 => ?_) (fun hc9 => ?_)
      · have hf := ifp hc9 hf
        refine lv_iload F.1 F.2.1 dX4_bestFence_119 (lv_at hl 5 rfl) ?_
        obtain rfl := Option.some.inj hf
        exact x_iretT F hr hlk hP hS rfl (Nat.le_of_ble_eq_true rfl) (Nat.le_of_ble_eq_true rfl) dX4_bestFence_121
      · have hf := ifn hc9 hf
        refine lv_aload_n F.1 F.2.1 dX4_bestFence_45 rfl (lv_at hl 0 rfl) ?_
        refine gR_X4_trial F hK hP  (fun _ h => List.mem_cons_of_mem _ (List.mem_append_left _ (List.mem_append_left _ (List.mem_append_left _ (List.mem_append_left _ (List.mem_append_right _ h)))))) (List.mem_of_getElem? (i := 1) rfl) dX4_bestFence_46 ?_
        refine lv_aload_n F.1 F.2.1 dX4_bestFence_49 rfl (lv_at hl 0 rfl) ?_
        refine gR_X4_now F hK hP  (fun _ h => List.mem_cons_of_mem _ (List.mem_append_left _ (List.mem_append_left _ (List.mem_append_left _ (List.mem_append_left _ (List.mem_append_right _ h)))))) (List.mem_of_getElem? (i := 2) rfl) dX4_bestFence_50 ?_
        obtain ⟨r10, hr11, hf⟩ := bnd hf
        have hP := x_up 1 hP
        refine x_callV F hK hG hP hS (o_G (by decide) (c := 0) (by decide)) (kd_G 1 (by decide) 0 (by decide)) (ci := 0) (fun _ => rfl) rfl (c_X0_copyFrom (by decide) (by decide) (by decide) rfl hr11) (cwV 1 F.2.2.2.2 gX4_bestFence_X0_copyFrom rfl rfl rfl ⟨rfl, hd_X0_copyFrom⟩ ⟨(Nat.le_of_ble_eq_true rfl), (Nat.le_of_ble_eq_true rfl)⟩) rfl rfl hl.1 (Nat.le_of_ble_eq_true rfl) dX4_bestFence_53 ⟨(Nat.le_of_ble_eq_true rfl), (Nat.le_of_ble_eq_true rfl)⟩ (rest := []) (fun H locs hP hS => ?_)
        refine W.eq (g2 := F0 m 56 ls []) rfl ?_
        refine lv_aload_n F.1 F.2.1 dX4_bestFence_56 rfl (lv_at hl 0 rfl) ?_
        refine gR_X4_trial F hK hP  (fun _ h => List.mem_cons_of_mem _ (List.mem_append_left _ (List.mem_append_left _ (List.mem_append_left _ (List.mem_append_left _ (List.mem_append_right _ h)))))) (List.mem_of_getElem? (i := 1) rfl) dX4_bestFence_57 ?_
        refine gR_X0_sites F hK hP (by decide) (fun _ h => List.mem_cons_of_mem _ (List.mem_append_left _ (List.mem_append_left _ (List.mem_append_left _ (List.mem_append_right _ h))))) (List.mem_of_getElem? (i := 3) rfl) dX4_bestFence_60 ?_
        refine lv_iload_n F.1 F.2.1 dX4_bestFence_63 rfl (lv_at hl 1 rfl) ?_
        obtain ⟨hb12, hf⟩ := ifg hf
        refine lA_GA2 F hK hP (by decide) hb12 dX4_bestFence_64 ?_
        refine lv_iload F.1 F.2.1 dX4_bestFence_65 (lv_at hl 7 rfl) ?_
        have hP := x_up 1 hP
        refine pI_X2_fenceHeight F hK (by decide) (oob_lt hb12) hP hS (fun _ h => List.mem_cons_of_mem _ (List.mem_append_left _ (List.mem_append_left _ (List.mem_append_right _ h)))) (List.mem_of_getElem? (i := 4) rfl) dX4_bestFence_67 (fun H locs hP hS => ?_)
        refine lv_aload_n F.1 F.2.1 dX4_bestFence_70 rfl (lv_at hl 0 rfl) ?_
        refine gR_X4_trial F hK hP  (fun _ h => List.mem_cons_of_mem _ (List.mem_append_left _ (List.mem_append_left _ (List.mem_append_left _ (List.mem_append_left _ (List.mem_append_right _ h)))))) (List.mem_of_getElem? (i := 1) rfl) dX4_bestFence_71 ?_
        refine lv_iload_n F.1 F.2.1 dX4_bestFence_74 rfl (lv_at hl 1 rfl) ?_
        refine lv_iload_n F.1 F.2.1 dX4_bestFence_75 rfl (lv_at hl 2 rfl) ?_
        refine lv_iload_n F.1 F.2.1 dX4_bestFence_76 rfl (lv_at hl 3 rfl) ?_
        refine lv_iload F.1 F.2.1 dX4_bestFence_77 (lv_at hl 4 rfl) ?_
        obtain ⟨r13, hr14, hf⟩ := bnd hf
        have hP := x_up 1 hP
        refine x_callV F hK hG hP hS (o_G (by decide) (c := 0) (by decide)) (kd_G 1 (by decide) 0 (by decide)) (ci := 0) (fun _ => rfl) rfl (c_X0_passDaysAt (by decide) a1 a2 a3 a4 hr14) (cwV 4 F.2.2.2.2 gX4_bestFence_X0_passDaysAt rfl rfl rfl ⟨rfl, hd_X0_passDaysAt⟩ ⟨(Nat.le_of_ble_eq_true rfl), (Nat.le_of_ble_eq_true rfl)⟩) rfl rfl hl.1 (Nat.le_of_ble_eq_true rfl) dX4_bestFence_79 ⟨(Nat.le_of_ble_eq_true rfl), (Nat.le_of_ble_eq_true rfl)⟩ (rest := []) (fun H locs hP hS => ?_)
        refine W.eq (g2 := F0 m 82 ls []) rfl ?_
        refine lv_aload_n F.1 F.2.1 dX4_bestFence_82 rfl (lv_at hl 0 rfl) ?_
        refine gR_X4_trial F hK hP  (fun _ h => List.mem_cons_of_mem _ (List.mem_append_left _ (List.mem_append_left _ (List.mem_append_left _ (List.mem_append_left _ (List.mem_append_right _ h)))))) (List.mem_of_getElem? (i := 1) rfl) dX4_bestFence_83 ?_
        refine gR_X0_sites F hK hP (by decide) (fun _ h => List.mem_cons_of_mem _ (List.mem_append_left _ (List.mem_append_left _ (List.mem_append_left _ (List.mem_append_right _ h))))) (List.mem_of_getElem? (i := 3) rfl) dX4_bestFence_86 ?_
        refine lv_iload_n F.1 F.2.1 dX4_bestFence_89 rfl (lv_at hl 1 rfl) ?_
        obtain ⟨hb15, hf⟩ := ifg hf
        refine lA_GA2 F hK hP (by decide) hb15 dX4_bestFence_90 ?_
        refine lv_bipush (v := (30 : Int32)) F.1 F.2.1 dX4_bestFence_91 (by decide) ?_
        obtain ⟨r16, hr17, hf⟩ := bnd hf
        refine x_callV F hK hG hP hS (o_S (by decide) (oob_lt hb15)) (kd_S 1 (by decide) a1.toNatClampNeg (oob_lt hb15)) (ci := 2) (fun _ => rfl) rfl (c_X2_frozenWithin (by decide) (oob_lt hb15) rfl (30 : Int32) hr17) (cwV 1 F.2.2.2.2 gX4_bestFence_X2_frozenWithin rfl rfl rfl ⟨rfl, hd_X2_frozenWithin⟩ ⟨(Nat.le_of_ble_eq_true rfl), (Nat.le_of_ble_eq_true rfl)⟩) rfl rfl hl.1 (Nat.le_of_ble_eq_true rfl) dX4_bestFence_93 ⟨(Nat.le_of_ble_eq_true rfl), (Nat.le_of_ble_eq_true rfl)⟩ (rest := []) (fun H locs hP hS => ?_)
        refine W.eq (g2 := F0 m 96 ls [.int r16]) rfl ?_
        refine lv_istore F.1 F.2.1 dX4_bestFence_96 hl (Nat.le_of_ble_eq_true rfl) rfl (fun ls hl => ?_)
        have hl : lv_has ls 9 [(8, .int r16), (0, .ref (x + 0)), (1, .int a1), (2, .int a2), (3, .int a3), (4, .int a4), (5, .int v5), (6, .int v6), (7, .int v7)] := hl
        refine lv_iload F.1 F.2.1 dX4_bestFence_98 (lv_at hl 0 rfl) ?_
        refine lv_iload F.1 F.2.1 dX4_bestFence_100 (lv_at hl 7 rfl) ?_
        refine lv_icmp_ge (tgt := 113) F.1 F.2.1 dX4_bestFence_102 rfl (fun hc18 => ?_) (fun hc18 => ?_)
        · have hf := ifp hc18 hf
          refine lv_iinc (v := (v7 + (1 : Int32))) F.1 F.2.1 dX4_bestFence_113 hl (k := 8) rfl rfl (Nat.le_of_ble_eq_true rfl) rfl (fun ls hl => ?_)
          have hl : lv_has ls 9 [(7, .int (v7 + (1 : Int32))), (8, .int r16), (0, .ref (x + 0)), (1, .int a1), (2, .int a2), (3, .int a3), (4, .int a4), (5, .int v5), (6, .int v6)] := hl
          refine lv_goto (tgt := 38) F.1 F.2.1 dX4_bestFence_116 rfl ?_
          exact ih (va_up (va_up (va_up μ 1 r10) 1 (upd ((va_up μ 1 r10) 1) (35 * a1.toNatClampNeg + 1) v7)) 1 r13) v5 v6 (v7 + (1 : Int32)) _ _ _ (lv_sub hl [2, 3, 4, 5, 6, 7, 8, 0] rfl) hP hS hf
        · have hf := ifn hc18 hf
          refine lv_iload F.1 F.2.1 dX4_bestFence_105 (lv_at hl 0 rfl) ?_
          refine lv_istore F.1 F.2.1 dX4_bestFence_107 hl (Nat.le_of_ble_eq_true rfl) rfl (fun ls hl => ?_)
          have hl : lv_has ls 9 [(6, .int r16), (8, .int r16), (0, .ref (x + 0)), (1, .int a1), (2, .int a2), (3, .int a3), (4, .int a4), (5, .int v5), (7, .int v7)] := hl
          refine lv_iload F.1 F.2.1 dX4_bestFence_109 (lv_at hl 8 rfl) ?_
          refine lv_istore F.1 F.2.1 dX4_bestFence_111 hl (Nat.le_of_ble_eq_true rfl) rfl (fun ls hl => ?_)
          have hl : lv_has ls 9 [(5, .int v7), (6, .int r16), (8, .int r16), (0, .ref (x + 0)), (1, .int a1), (2, .int a2), (3, .int a3), (4, .int a4), (7, .int v7)] := hl
          refine lv_iinc (v := (v7 + (1 : Int32))) F.1 F.2.1 dX4_bestFence_113 hl (k := 8) rfl rfl (Nat.le_of_ble_eq_true rfl) rfl (fun ls hl => ?_)
          have hl : lv_has ls 9 [(7, .int (v7 + (1 : Int32))), (5, .int v7), (6, .int r16), (8, .int r16), (0, .ref (x + 0)), (1, .int a1), (2, .int a2), (3, .int a3), (4, .int a4)] := hl
          refine lv_goto (tgt := 38) F.1 F.2.1 dX4_bestFence_116 rfl ?_
          exact ih (va_up (va_up (va_up μ 1 r10) 1 (upd ((va_up μ 1 r10) 1) (35 * a1.toNatClampNeg + 1) v7)) 1 r13) v7 r16 (v7 + (1 : Int32)) _ _ _ (lv_sub hl [4, 5, 6, 7, 8, 1, 2, 0] rfl) hP hS hf
  intro ls H locs hl hP hS
  have hl : lv_has ls 9 [(0, .ref (x + 0)), (1, .int a1), (2, .int a2), (3, .int a3), (4, .int a4)] := hl
  unfold f_X4_bestFence at hf
  refine lv_aload_n F.1 F.2.1 dX4_bestFence_0 rfl (lv_at hl 0 rfl) ?_
  refine lv_iload_n F.1 F.2.1 dX4_bestFence_1 rfl (lv_at hl 1 rfl) ?_
  obtain ⟨r1, hr2, hf⟩ := bnd hf
  refine x_callVT F hK hG hP hS hx hlk (o := 0) (by decide) (q := (0, 0, 0)) rfl (ci := 4) (fun _ => rfl) rfl (c_X4_needSite hlt a1 hr2) (cwV 1 F.2.2.2.2 gX4_bestFence_X4_needSite rfl rfl rfl ⟨rfl, hd_X4_needSite⟩ ⟨(Nat.le_of_ble_eq_true rfl), (Nat.le_of_ble_eq_true rfl)⟩) rfl rfl hl.1 (Nat.le_of_ble_eq_true rfl) dX4_bestFence_2 ⟨(Nat.le_of_ble_eq_true rfl), (Nat.le_of_ble_eq_true rfl)⟩ (Nat.le_of_ble_eq_true rfl) (Nat.le_of_ble_eq_true rfl) (fun hk => by have hf := ifn hk hf; obtain rfl := Option.some.inj hf; exact ⟨rfl, rfl⟩) (rest := []) (fun hk H locs hP hS => ?_)
  have hf := ifp hk hf
  refine W.eq (g2 := F0 m 5 ls []) rfl ?_
  refine lv_iload_n F.1 F.2.1 dX4_bestFence_5 rfl (lv_at hl 2 rfl) ?_
  refine lv_bipush (v := (-30 : Int32)) F.1 F.2.1 dX4_bestFence_6 (by decide) ?_
  refine lv_bipush (v := (30 : Int32)) F.1 F.2.1 dX4_bestFence_8 (by decide) ?_
  obtain ⟨r3, hr4, hf⟩ := bnd hf
  refine x_callST F hK hG hP hS hx hlk (c_X4_needRange hlt a2 (-30 : Int32) (30 : Int32) hr4) (va_cwS 3 F.2.2.2.2 gX4_bestFence_X4_needRange rfl rfl rfl hd_X4_needRange ⟨(Nat.le_of_ble_eq_true rfl), (Nat.le_of_ble_eq_true rfl)⟩) rfl rfl hl.1 (Nat.le_of_ble_eq_true rfl) dX4_bestFence_10 ⟨(Nat.le_of_ble_eq_true rfl), (Nat.le_of_ble_eq_true rfl)⟩ (Nat.le_of_ble_eq_true rfl) (Nat.le_of_ble_eq_true rfl) (fun hk => by have hf := ifn hk hf; obtain rfl := Option.some.inj hf; exact ⟨rfl, rfl⟩) (rest := []) (fun hk H locs hP hS => ?_)
  have hf := ifp hk hf
  refine W.eq (g2 := F0 m 13 ls []) rfl ?_
  refine lv_iload_n F.1 F.2.1 dX4_bestFence_13 rfl (lv_at hl 3 rfl) ?_
  refine lv_iconst (v := (0 : Int32)) F.1 F.2.1 dX4_bestFence_14 (by decide) ?_
  refine lv_bipush (v := (30 : Int32)) F.1 F.2.1 dX4_bestFence_15 (by decide) ?_
  obtain ⟨r5, hr6, hf⟩ := bnd hf
  refine x_callST F hK hG hP hS hx hlk (c_X4_needRange hlt a3 (0 : Int32) (30 : Int32) hr6) (va_cwS 3 F.2.2.2.2 gX4_bestFence_X4_needRange rfl rfl rfl hd_X4_needRange ⟨(Nat.le_of_ble_eq_true rfl), (Nat.le_of_ble_eq_true rfl)⟩) rfl rfl hl.1 (Nat.le_of_ble_eq_true rfl) dX4_bestFence_17 ⟨(Nat.le_of_ble_eq_true rfl), (Nat.le_of_ble_eq_true rfl)⟩ (Nat.le_of_ble_eq_true rfl) (Nat.le_of_ble_eq_true rfl) (fun hk => by have hf := ifn hk hf; obtain rfl := Option.some.inj hf; exact ⟨rfl, rfl⟩) (rest := []) (fun hk H locs hP hS => ?_)
  have hf := ifp hk hf
  refine W.eq (g2 := F0 m 20 ls []) rfl ?_
  refine lv_iload F.1 F.2.1 dX4_bestFence_20 (lv_at hl 4 rfl) ?_
  refine lv_iconst (v := (1 : Int32)) F.1 F.2.1 dX4_bestFence_22 (by decide) ?_
  refine lv_bipush (v := (60 : Int32)) F.1 F.2.1 dX4_bestFence_23 (by decide) ?_
  obtain ⟨r7, hr8, hf⟩ := bnd hf
  refine x_callST F hK hG hP hS hx hlk (c_X4_needRange hlt a4 (1 : Int32) (60 : Int32) hr8) (va_cwS 3 F.2.2.2.2 gX4_bestFence_X4_needRange rfl rfl rfl hd_X4_needRange ⟨(Nat.le_of_ble_eq_true rfl), (Nat.le_of_ble_eq_true rfl)⟩) rfl rfl hl.1 (Nat.le_of_ble_eq_true rfl) dX4_bestFence_25 ⟨(Nat.le_of_ble_eq_true rfl), (Nat.le_of_ble_eq_true rfl)⟩ (Nat.le_of_ble_eq_true rfl) (Nat.le_of_ble_eq_true rfl) (fun hk => by have hf := ifn hk hf; obtain rfl := Option.some.inj hf; exact ⟨rfl, rfl⟩) (rest := []) (fun hk H locs hP hS => ?_)
  have hf := ifp hk hf
  refine W.eq (g2 := F0 m 28 ls []) rfl ?_
  refine lv_iconst (v := (0 : Int32)) F.1 F.2.1 dX4_bestFence_28 (by decide) ?_
  refine lv_istore F.1 F.2.1 dX4_bestFence_29 hl (Nat.le_of_ble_eq_true rfl) rfl (fun ls hl => ?_)
  have hl : lv_has ls 9 [(5, .int (0 : Int32)), (0, .ref (x + 0)), (1, .int a1), (2, .int a2), (3, .int a3), (4, .int a4)] := hl
  refine lv_bipush (v := (31 : Int32)) F.1 F.2.1 dX4_bestFence_31 (by decide) ?_
  refine lv_istore F.1 F.2.1 dX4_bestFence_33 hl (Nat.le_of_ble_eq_true rfl) rfl (fun ls hl => ?_)
  have hl : lv_has ls 9 [(6, .int (31 : Int32)), (5, .int (0 : Int32)), (0, .ref (x + 0)), (1, .int a1), (2, .int a2), (3, .int a3), (4, .int a4)] := hl
  refine lv_iconst (v := (0 : Int32)) F.1 F.2.1 dX4_bestFence_35 (by decide) ?_
  refine lv_istore F.1 F.2.1 dX4_bestFence_36 hl (Nat.le_of_ble_eq_true rfl) rfl (fun ls hl => ?_)
  have hl : lv_has ls 9 [(7, .int (0 : Int32)), (6, .int (31 : Int32)), (5, .int (0 : Int32)), (0, .ref (x + 0)), (1, .int a1), (2, .int a2), (3, .int a3), (4, .int a4)] := hl
  exact (KEY FU) μ (0 : Int32) (31 : Int32) (0 : Int32) _ _ _ (lv_sub hl [3, 4, 5, 6, 7, 2, 1, 0] rfl) hP hS hf

-- FrostTubes.heaveIn(III)I
def f_X4_heaveIn (μ : Mem) (a1 : Int32) (a2 : Int32) (a3 : Int32) : Option (Nat × Int32 × Mem) := ((f_X4_needPipe μ a1).bind fun r1 => if r1 = 0 then ((f_X4_needRange a2 (-30 : Int32) (30 : Int32)).bind fun r3 => if r3 = 0 then ((f_X4_needRange a3 (1 : Int32) (60 : Int32)).bind fun r5 => if r5 = 0 then ((f_X0_copyFrom (μ 1) (μ 0)).bind fun r7 => (if oob a1 8 then none else ((f_X0_passDaysAt ((va_up μ 1 r7) 1) (((va_up μ 1 r7) 1) (156 + 5 * a1.toNatClampNeg)) a2 (0 : Int32) a3).bind fun r10 => (if oob a1 8 then none else some (0, (((va_up (va_up μ 1 r7) 1 r10) 1) (158 + 5 * a1.toNatClampNeg)), (va_up (va_up μ 1 r7) 1 r10)))))) else some (r5, 0, μ)) else some (r3, 0, μ)) else some (r1, 0, μ))
def rmX4_heaveIn : Room := { frames := 7, cells := 3, slots := 18, locals := 123 }
theorem hd_X4_heaveIn : yX4_heaveIn.cls ≠ "java/lang/invoke/MethodHandle" ∧ yX4_heaveIn.cls ≠ "java/lang/invoke/VarHandle" ∧ (parseMethodDescriptor yX4_heaveIn.desc).map (fun d => d.parameters.length) = some 3 := by decide +kernel
set_option maxHeartbeats 8000000 in
set_option maxRecDepth 100000 in
theorem c_X4_heaveIn {l : Launch} (hlt : l.stackTraces = false) {D : va_G} {x : Nat} {μ : Mem} (a1 : Int32) (a2 : Int32) (a3 : Int32) {r : Nat × Int32 × Mem} (hf : f_X4_heaveIn μ a1 a2 a3 = some r) : TX l yX4_heaveIn wsX4_heaveIn rmX4_heaveIn 3 18 [.ref (x + 0), .int a1, .int a2, .int a3] D x μ r.1 (some (.int r.2.1)) r.2.2 := by
  refine TX.of (cc := cX4_heaveIn) (maxL := 4) (ret := (some .int)) pn_X4 rfl (Nat.le_of_ble_eq_true rfl) ?_
  intro p e s m args below meth c F hr hlk hx hK hG
  intro ls H locs hl hP hS
  have hl : lv_has ls 4 [(0, .ref (x + 0)), (1, .int a1), (2, .int a2), (3, .int a3)] := hl
  unfold f_X4_heaveIn at hf
  refine lv_aload_n F.1 F.2.1 dX4_heaveIn_0 rfl (lv_at hl 0 rfl) ?_
  refine lv_iload_n F.1 F.2.1 dX4_heaveIn_1 rfl (lv_at hl 1 rfl) ?_
  obtain ⟨r1, hr2, hf⟩ := bnd hf
  refine x_callVT F hK hG hP hS hx hlk (o := 0) (by decide) (q := (0, 0, 0)) rfl (ci := 4) (fun _ => rfl) rfl (c_X4_needPipe hlt a1 hr2) (cwV 1 F.2.2.2.2 gX4_heaveIn_X4_needPipe rfl rfl rfl ⟨rfl, hd_X4_needPipe⟩ ⟨(Nat.le_of_ble_eq_true rfl), (Nat.le_of_ble_eq_true rfl)⟩) rfl rfl hl.1 (Nat.le_of_ble_eq_true rfl) dX4_heaveIn_2 ⟨(Nat.le_of_ble_eq_true rfl), (Nat.le_of_ble_eq_true rfl)⟩ (Nat.le_of_ble_eq_true rfl) (Nat.le_of_ble_eq_true rfl) (fun hk => by have hf := ifn hk hf; obtain rfl := Option.some.inj hf; exact ⟨rfl, rfl⟩) (rest := []) (fun hk H locs hP hS => ?_)
  have hf := ifp hk hf
  refine W.eq (g2 := F0 m 5 ls []) rfl ?_
  refine lv_iload_n F.1 F.2.1 dX4_heaveIn_5 rfl (lv_at hl 2 rfl) ?_
  refine lv_bipush (v := (-30 : Int32)) F.1 F.2.1 dX4_heaveIn_6 (by decide) ?_
  refine lv_bipush (v := (30 : Int32)) F.1 F.2.1 dX4_heaveIn_8 (by decide) ?_
  obtain ⟨r3, hr4, hf⟩ := bnd hf
  refine x_callST F hK hG hP hS hx hlk (c_X4_needRange hlt a2 (-30 : Int32) (30 : Int32) hr4) (va_cwS 3 F.2.2.2.2 gX4_heaveIn_X4_needRange rfl rfl rfl hd_X4_needRange ⟨(Nat.le_of_ble_eq_true rfl), (Nat.le_of_ble_eq_true rfl)⟩) rfl rfl hl.1 (Nat.le_of_ble_eq_true rfl) dX4_heaveIn_10 ⟨(Nat.le_of_ble_eq_true rfl), (Nat.le_of_ble_eq_true rfl)⟩ (Nat.le_of_ble_eq_true rfl) (Nat.le_of_ble_eq_true rfl) (fun hk => by have hf := ifn hk hf; obtain rfl := Option.some.inj hf; exact ⟨rfl, rfl⟩) (rest := []) (fun hk H locs hP hS => ?_)
  have hf := ifp hk hf
  refine W.eq (g2 := F0 m 13 ls []) rfl ?_
  refine lv_iload_n F.1 F.2.1 dX4_heaveIn_13 rfl (lv_at hl 3 rfl) ?_
  refine lv_iconst (v := (1 : Int32)) F.1 F.2.1 dX4_heaveIn_14 (by decide) ?_
  refine lv_bipush (v := (60 : Int32)) F.1 F.2.1 dX4_heaveIn_15 (by decide) ?_
  obtain ⟨r5, hr6, hf⟩ := bnd hf
  refine x_callST F hK hG hP hS hx hlk (c_X4_needRange hlt a3 (1 : Int32) (60 : Int32) hr6) (va_cwS 3 F.2.2.2.2 gX4_heaveIn_X4_needRange rfl rfl rfl hd_X4_needRange ⟨(Nat.le_of_ble_eq_true rfl), (Nat.le_of_ble_eq_true rfl)⟩) rfl rfl hl.1 (Nat.le_of_ble_eq_true rfl) dX4_heaveIn_17 ⟨(Nat.le_of_ble_eq_true rfl), (Nat.le_of_ble_eq_true rfl)⟩ (Nat.le_of_ble_eq_true rfl) (Nat.le_of_ble_eq_true rfl) (fun hk => by have hf := ifn hk hf; obtain rfl := Option.some.inj hf; exact ⟨rfl, rfl⟩) (rest := []) (fun hk H locs hP hS => ?_)
  have hf := ifp hk hf
  refine W.eq (g2 := F0 m 20 ls []) rfl ?_
  refine lv_aload_n F.1 F.2.1 dX4_heaveIn_20 rfl (lv_at hl 0 rfl) ?_
  refine gR_X4_trial F hK hP  (fun _ h => List.mem_cons_of_mem _ (List.mem_append_left _ (List.mem_append_left _ (List.mem_append_left _ (List.mem_append_left _ (List.mem_append_right _ h)))))) (List.mem_of_getElem? (i := 1) rfl) dX4_heaveIn_21 ?_
  refine lv_aload_n F.1 F.2.1 dX4_heaveIn_24 rfl (lv_at hl 0 rfl) ?_
  refine gR_X4_now F hK hP  (fun _ h => List.mem_cons_of_mem _ (List.mem_append_left _ (List.mem_append_left _ (List.mem_append_left _ (List.mem_append_left _ (List.mem_append_right _ h)))))) (List.mem_of_getElem? (i := 2) rfl) dX4_heaveIn_25 ?_
  obtain ⟨r7, hr8, hf⟩ := bnd hf
  have hP := x_up 1 hP
  refine x_callV F hK hG hP hS (o_G (by decide) (c := 0) (by decide)) (kd_G 1 (by decide) 0 (by decide)) (ci := 0) (fun _ => rfl) rfl (c_X0_copyFrom (by decide) (by decide) (by decide) rfl hr8) (cwV 1 F.2.2.2.2 gX4_heaveIn_X0_copyFrom rfl rfl rfl ⟨rfl, hd_X0_copyFrom⟩ ⟨(Nat.le_of_ble_eq_true rfl), (Nat.le_of_ble_eq_true rfl)⟩) rfl rfl hl.1 (Nat.le_of_ble_eq_true rfl) dX4_heaveIn_28 ⟨(Nat.le_of_ble_eq_true rfl), (Nat.le_of_ble_eq_true rfl)⟩ (rest := []) (fun H locs hP hS => ?_)
  refine W.eq (g2 := F0 m 31 ls []) rfl ?_
  refine lv_aload_n F.1 F.2.1 dX4_heaveIn_31 rfl (lv_at hl 0 rfl) ?_
  refine gR_X4_trial F hK hP  (fun _ h => List.mem_cons_of_mem _ (List.mem_append_left _ (List.mem_append_left _ (List.mem_append_left _ (List.mem_append_left _ (List.mem_append_right _ h)))))) (List.mem_of_getElem? (i := 1) rfl) dX4_heaveIn_32 ?_
  refine lv_aload_n F.1 F.2.1 dX4_heaveIn_35 rfl (lv_at hl 0 rfl) ?_
  refine gR_X4_trial F hK hP  (fun _ h => List.mem_cons_of_mem _ (List.mem_append_left _ (List.mem_append_left _ (List.mem_append_left _ (List.mem_append_left _ (List.mem_append_right _ h)))))) (List.mem_of_getElem? (i := 1) rfl) dX4_heaveIn_36 ?_
  refine gR_X0_pipeSite F hK hP (by decide) (fun _ h => List.mem_cons_of_mem _ (List.mem_append_left _ (List.mem_append_left _ (List.mem_append_left _ (List.mem_append_right _ h))))) (List.mem_of_getElem? (i := 3) rfl) dX4_heaveIn_39 ?_
  refine lv_iload_n F.1 F.2.1 dX4_heaveIn_42 rfl (lv_at hl 1 rfl) ?_
  obtain ⟨hb9, hf⟩ := ifg hf
  refine lA_GA5 F hK hP (by decide) rfl hb9 dX4_heaveIn_43 ?_
  refine lv_iload_n F.1 F.2.1 dX4_heaveIn_44 rfl (lv_at hl 2 rfl) ?_
  refine lv_iconst (v := (0 : Int32)) F.1 F.2.1 dX4_heaveIn_45 (by decide) ?_
  refine lv_iload_n F.1 F.2.1 dX4_heaveIn_46 rfl (lv_at hl 3 rfl) ?_
  obtain ⟨r10, hr11, hf⟩ := bnd hf
  have hP := x_up 1 hP
  refine x_callV F hK hG hP hS (o_G (by decide) (c := 0) (by decide)) (kd_G 1 (by decide) 0 (by decide)) (ci := 0) (fun _ => rfl) rfl (c_X0_passDaysAt (by decide) (((va_up μ 1 r7) 1) (156 + 5 * a1.toNatClampNeg)) a2 (0 : Int32) a3 hr11) (cwV 4 F.2.2.2.2 gX4_heaveIn_X0_passDaysAt rfl rfl rfl ⟨rfl, hd_X0_passDaysAt⟩ ⟨(Nat.le_of_ble_eq_true rfl), (Nat.le_of_ble_eq_true rfl)⟩) rfl rfl hl.1 (Nat.le_of_ble_eq_true rfl) dX4_heaveIn_47 ⟨(Nat.le_of_ble_eq_true rfl), (Nat.le_of_ble_eq_true rfl)⟩ (rest := []) (fun H locs hP hS => ?_)
  refine W.eq (g2 := F0 m 50 ls []) rfl ?_
  refine lv_aload_n F.1 F.2.1 dX4_heaveIn_50 rfl (lv_at hl 0 rfl) ?_
  refine gR_X4_trial F hK hP  (fun _ h => List.mem_cons_of_mem _ (List.mem_append_left _ (List.mem_append_left _ (List.mem_append_left _ (List.mem_append_left _ (List.mem_append_right _ h)))))) (List.mem_of_getElem? (i := 1) rfl) dX4_heaveIn_51 ?_
  refine gR_X0_pipeHeave F hK hP (by decide) (fun _ h => List.mem_cons_of_mem _ (List.mem_append_left _ (List.mem_append_left _ (List.mem_append_left _ (List.mem_append_right _ h))))) (List.mem_of_getElem? (i := 4) rfl) dX4_heaveIn_54 ?_
  refine lv_iload_n F.1 F.2.1 dX4_heaveIn_57 rfl (lv_at hl 1 rfl) ?_
  obtain ⟨hb12, hf⟩ := ifg hf
  refine lA_GA7 F hK hP (by decide) rfl hb12 dX4_heaveIn_58 ?_
  obtain rfl := Option.some.inj hf
  exact x_iretT F hr hlk hP hS rfl (Nat.le_of_ble_eq_true rfl) (Nat.le_of_ble_eq_true rfl) dX4_heaveIn_59

-- FrostTubes.deepest()I
def fb_X4_deepest_1 (μ : Mem) (K : Int32 → Int32 → Int32 → Int32 → Option (Int32)) (v1 : Int32) (v2 : Int32) (v3 : Int32) (v4 : Int32) : Option (Int32) := (if ((μ 0) 196) ≤ v4 then some v1 else (if oob v4 4 then none else ((f_X2_lowestWithin (μ 0) v4.toNatClampNeg (30 : Int32)).bind fun r3 => (if oob v4 4 then none else ((f_X2_frozenWithin (μ 0) v4.toNatClampNeg (30 : Int32)).bind fun r6 => (if v2 < r3 then (K v4 r3 r6 (v4 + (1 : Int32))) else (if r3 = v2 then (if r6 ≤ v3 then (K v1 v2 v3 (v4 + (1 : Int32))) else (K v4 r3 r6 (v4 + (1 : Int32)))) else (K v1 v2 v3 (v4 + (1 : Int32))))))))))
def fl_X4_deepest (μ : Mem) : Nat → Int32 → Int32 → Int32 → Int32 → Option (Int32)
  | 0, _, _, _, _ => none
  | n + 1, v1, v2, v3, v4 => fb_X4_deepest_1 μ (fl_X4_deepest μ n) v1 v2 v3 v4
def f_X4_deepest (μ : Mem) : Option (Int32) := (fl_X4_deepest μ FU (-1 : Int32) (-1 : Int32) (0 : Int32) (0 : Int32))
def rmX4_deepest : Room := { frames := 2, cells := 0, slots := 0, locals := 44 }
theorem hd_X4_deepest : yX4_deepest.cls ≠ "java/lang/invoke/MethodHandle" ∧ yX4_deepest.cls ≠ "java/lang/invoke/VarHandle" ∧ (parseMethodDescriptor yX4_deepest.desc).map (fun d => d.parameters.length) = some 0 := by decide +kernel
set_option maxHeartbeats 8000000 in
set_option maxRecDepth 100000 in
theorem c_X4_deepest {l : Launch} {D : va_G} {x : Nat} {μ : Mem} {r : Int32} (hf : f_X4_deepest μ = some r) : CX l yX4_deepest wsX4_deepest rmX4_deepest [.ref (x + 0)] D x μ (some (.int r)) μ := by
  refine CX.of (cc := cX4_deepest) (maxL := 7) (ret := (some .int)) pn_X4 rfl (Nat.le_of_ble_eq_true rfl) ?_
  intro p e s m args below meth c F hr hlk hK hG
  have KEY : ∀ n : Nat, (∀ (v1 : Int32) (v2 : Int32) (v3 : Int32) (v4 : Int32) (ls : Array Slot) (H : Heap) (locs : List Loc), lv_has ls 7 [(0, .ref (x + 0)), (1, .int v1), (2, .int v2), (3, .int v3), (4, .int v4)] → va_P D vwCl (WL D x μ) H → va_S (rng x) s.heap H locs → fl_X4_deepest μ n v1 v2 v3 v4 = some r → W p l e rmX4_deepest s m args below meth c H locs 0 0 (MQ below (QX D x μ (some (.int r))) args s 0 0 (rng x)) (F0 m 9 ls [])) := by
    intro n
    induction n with
    | zero => exact (fun _ _ _ _ _ _ _ _ _ _ h => nomatch h)
    | succ n ih =>
      skip
      intro v1 v2 v3 v4  ls H locs hl hP hS hf
      have hf : fb_X4_deepest_1 μ (fl_X4_deepest μ n) v1 v2 v3 v4 = some r := hf
      unfold fb_X4_deepest_1 at hf
      refine lv_iload F.1 F.2.1 dX4_deepest_9 (lv_at hl 4 rfl) ?_
      refine lv_aload_n F.1 F.2.1 dX4_deepest_11 rfl (lv_at hl 0 rfl) ?_
      refine gR_X4_now F hK hP  (fun _ h => List.mem_cons_of_mem _ (List.mem_append_left _ (List.mem_append_left _ (List.mem_append_right _ h)))) (List.mem_of_getElem? (i := 1) rfl) dX4_deepest_12 ?_
      refine gI_X0_siteCount F hK hP (by decide) rfl (fun _ h => List.mem_cons_of_mem _ (List.mem_append_left _ (List.mem_append_right _ h))) (List.mem_of_getElem? (i := 2) rfl) dX4_deepest_15 ?_
      refine lv_icmp_ge (tgt := 88) F.1 F.2.1 dX4_deepest_18 rfl (fun hc1 => ?_) (fun hc1 => ?_)
      · have hf := ifp hc1 hf
        refine lv_iload_n F.1 F.2.1 dX4_deepest_88 rfl (lv_at hl 1 rfl) ?_
        obtain rfl := Option.some.inj hf
        exact x_iret F hr hlk hP hS rfl dX4_deepest_89
      · have hf := ifn hc1 hf
        refine lv_aload_n F.1 F.2.1 dX4_deepest_21 rfl (lv_at hl 0 rfl) ?_
        refine gR_X4_now F hK hP  (fun _ h => List.mem_cons_of_mem _ (List.mem_append_left _ (List.mem_append_left _ (List.mem_append_right _ h)))) (List.mem_of_getElem? (i := 1) rfl) dX4_deepest_22 ?_
        refine gR_X0_sites F hK hP (by decide) (fun _ h => List.mem_cons_of_mem _ (List.mem_append_left _ (List.mem_append_right _ h))) (List.mem_of_getElem? (i := 3) rfl) dX4_deepest_25 ?_
        refine lv_iload F.1 F.2.1 dX4_deepest_28 (lv_at hl 4 rfl) ?_
        obtain ⟨hb2, hf⟩ := ifg hf
        refine lA_GA2 F hK hP (by decide) hb2 dX4_deepest_30 ?_
        refine lv_bipush (v := (30 : Int32)) F.1 F.2.1 dX4_deepest_31 (by decide) ?_
        obtain ⟨r3, hr4, hf⟩ := bnd hf
        refine x_callV F hK hG hP hS (o_S (by decide) (oob_lt hb2)) (kd_S 0 (by decide) v4.toNatClampNeg (oob_lt hb2)) (ci := 2) (fun _ => rfl) rfl (c_X2_lowestWithin (by decide) (oob_lt hb2) rfl (30 : Int32) hr4) (cwV 1 F.2.2.2.2 gX4_deepest_X2_lowestWithin rfl rfl rfl ⟨rfl, hd_X2_lowestWithin⟩ ⟨(Nat.le_of_ble_eq_true rfl), (Nat.le_of_ble_eq_true rfl)⟩) rfl rfl hl.1 (Nat.le_of_ble_eq_true rfl) dX4_deepest_33 ⟨(Nat.le_of_ble_eq_true rfl), (Nat.le_of_ble_eq_true rfl)⟩ (rest := []) (fun H locs hP hS => ?_)
        refine W.eq (g2 := F0 m 36 ls [.int r3]) rfl ?_
        refine lv_istore F.1 F.2.1 dX4_deepest_36 hl (Nat.le_of_ble_eq_true rfl) rfl (fun ls hl => ?_)
        have hl : lv_has ls 7 [(5, .int r3), (0, .ref (x + 0)), (1, .int v1), (2, .int v2), (3, .int v3), (4, .int v4)] := hl
        refine lv_aload_n F.1 F.2.1 dX4_deepest_38 rfl (lv_at hl 1 rfl) ?_
        refine gR_X4_now F hK hP  (fun _ h => List.mem_cons_of_mem _ (List.mem_append_left _ (List.mem_append_left _ (List.mem_append_right _ h)))) (List.mem_of_getElem? (i := 1) rfl) dX4_deepest_39 ?_
        refine gR_X0_sites F hK hP (by decide) (fun _ h => List.mem_cons_of_mem _ (List.mem_append_left _ (List.mem_append_right _ h))) (List.mem_of_getElem? (i := 3) rfl) dX4_deepest_42 ?_
        refine lv_iload F.1 F.2.1 dX4_deepest_45 (lv_at hl 5 rfl) ?_
        obtain ⟨hb5, hf⟩ := ifg hf
        refine lA_GA2 F hK hP (by decide) hb5 dX4_deepest_47 ?_
        refine lv_bipush (v := (30 : Int32)) F.1 F.2.1 dX4_deepest_48 (by decide) ?_
        obtain ⟨r6, hr7, hf⟩ := bnd hf
        refine x_callV F hK hG hP hS (o_S (by decide) (oob_lt hb5)) (kd_S 0 (by decide) v4.toNatClampNeg (oob_lt hb5)) (ci := 2) (fun _ => rfl) rfl (c_X2_frozenWithin (by decide) (oob_lt hb5) rfl (30 : Int32) hr7) (cwV 1 F.2.2.2.2 gX4_deepest_X2_frozenWithin rfl rfl rfl ⟨rfl, hd_X2_frozenWithin⟩ ⟨(Nat.le_of_ble_eq_true rfl), (Nat.le_of_ble_eq_true rfl)⟩) rfl rfl hl.1 (Nat.le_of_ble_eq_true rfl) dX4_deepest_50 ⟨(Nat.le_of_ble_eq_true rfl), (Nat.le_of_ble_eq_true rfl)⟩ (rest := []) (fun H locs hP hS => ?_)
        refine W.eq (g2 := F0 m 53 ls [.int r6]) rfl ?_
        refine lv_istore F.1 F.2.1 dX4_deepest_53 hl (Nat.le_of_ble_eq_true rfl) rfl (fun ls hl => ?_)
        have hl : lv_has ls 7 [(6, .int r6), (5, .int r3), (0, .ref (x + 0)), (1, .int v1), (2, .int v2), (3, .int v3), (4, .int v4)] := hl
        refine lv_iload F.1 F.2.1 dX4_deepest_55 (lv_at hl 1 rfl) ?_
        refine lv_iload_n F.1 F.2.1 dX4_deepest_57 rfl (lv_at hl 4 rfl) ?_
        refine lv_icmp_gt (tgt := 73) F.1 F.2.1 dX4_deepest_58 rfl (fun hc8 => ?_) (fun hc8 => ?_)
        · have hf := ifp hc8 hf
          refine lv_iload F.1 F.2.1 dX4_deepest_73 (lv_at hl 6 rfl) ?_
          refine lv_istore_n F.1 F.2.1 dX4_deepest_75 rfl hl (Nat.le_of_ble_eq_true rfl) rfl (fun ls hl => ?_)
          have hl : lv_has ls 7 [(1, .int v4), (6, .int r6), (5, .int r3), (0, .ref (x + 0)), (2, .int v2), (3, .int v3), (4, .int v4)] := hl
          refine lv_iload F.1 F.2.1 dX4_deepest_76 (lv_at hl 2 rfl) ?_
          refine lv_istore_n F.1 F.2.1 dX4_deepest_78 rfl hl (Nat.le_of_ble_eq_true rfl) rfl (fun ls hl => ?_)
          have hl : lv_has ls 7 [(2, .int r3), (1, .int v4), (6, .int r6), (5, .int r3), (0, .ref (x + 0)), (3, .int v3), (4, .int v4)] := hl
          refine lv_iload F.1 F.2.1 dX4_deepest_79 (lv_at hl 2 rfl) ?_
          refine lv_istore_n F.1 F.2.1 dX4_deepest_81 rfl hl (Nat.le_of_ble_eq_true rfl) rfl (fun ls hl => ?_)
          have hl : lv_has ls 7 [(3, .int r6), (2, .int r3), (1, .int v4), (6, .int r6), (5, .int r3), (0, .ref (x + 0)), (4, .int v4)] := hl
          refine lv_iinc (v := (v4 + (1 : Int32))) F.1 F.2.1 dX4_deepest_82 hl (k := 6) rfl rfl (Nat.le_of_ble_eq_true rfl) rfl (fun ls hl => ?_)
          have hl : lv_has ls 7 [(4, .int (v4 + (1 : Int32))), (3, .int r6), (2, .int r3), (1, .int v4), (6, .int r6), (5, .int r3), (0, .ref (x + 0))] := hl
          refine lv_goto (tgt := 9) F.1 F.2.1 dX4_deepest_85 rfl ?_
          exact ih v4 r3 r6 (v4 + (1 : Int32)) _ _ _ (lv_sub hl [6, 3, 2, 1, 0] rfl) hP hS hf
        · have hf := ifn hc8 hf
          refine lv_iload F.1 F.2.1 dX4_deepest_61 (lv_at hl 1 rfl) ?_
          refine lv_iload_n F.1 F.2.1 dX4_deepest_63 rfl (lv_at hl 4 rfl) ?_
          refine lv_icmp_ne (tgt := 82) F.1 F.2.1 dX4_deepest_64 rfl (fun hc9 => ?_) (fun hc9 => ?_)
          · have hf := ifn hc9 hf
            refine lv_iinc (v := (v4 + (1 : Int32))) F.1 F.2.1 dX4_deepest_82 hl (k := 6) rfl rfl (Nat.le_of_ble_eq_true rfl) rfl (fun ls hl => ?_)
            have hl : lv_has ls 7 [(4, .int (v4 + (1 : Int32))), (6, .int r6), (5, .int r3), (0, .ref (x + 0)), (1, .int v1), (2, .int v2), (3, .int v3)] := hl
            refine lv_goto (tgt := 9) F.1 F.2.1 dX4_deepest_85 rfl ?_
            exact ih v1 v2 v3 (v4 + (1 : Int32)) _ _ _ (lv_sub hl [3, 4, 5, 6, 0] rfl) hP hS hf
          · have hf := ifp hc9 hf
            refine lv_iload F.1 F.2.1 dX4_deepest_67 (lv_at hl 0 rfl) ?_
            refine lv_iload_n F.1 F.2.1 dX4_deepest_69 rfl (lv_at hl 5 rfl) ?_
            refine lv_icmp_le (tgt := 82) F.1 F.2.1 dX4_deepest_70 rfl (fun hc10 => ?_) (fun hc10 => ?_)
            · have hf := ifp hc10 hf
              refine lv_iinc (v := (v4 + (1 : Int32))) F.1 F.2.1 dX4_deepest_82 hl (k := 6) rfl rfl (Nat.le_of_ble_eq_true rfl) rfl (fun ls hl => ?_)
              have hl : lv_has ls 7 [(4, .int (v4 + (1 : Int32))), (6, .int r6), (5, .int r3), (0, .ref (x + 0)), (1, .int v1), (2, .int v2), (3, .int v3)] := hl
              refine lv_goto (tgt := 9) F.1 F.2.1 dX4_deepest_85 rfl ?_
              exact ih v1 v2 v3 (v4 + (1 : Int32)) _ _ _ (lv_sub hl [3, 4, 5, 6, 0] rfl) hP hS hf
            · have hf := ifn hc10 hf
              refine lv_iload F.1 F.2.1 dX4_deepest_73 (lv_at hl 6 rfl) ?_
              refine lv_istore_n F.1 F.2.1 dX4_deepest_75 rfl hl (Nat.le_of_ble_eq_true rfl) rfl (fun ls hl => ?_)
              have hl : lv_has ls 7 [(1, .int v4), (6, .int r6), (5, .int r3), (0, .ref (x + 0)), (2, .int v2), (3, .int v3), (4, .int v4)] := hl
              refine lv_iload F.1 F.2.1 dX4_deepest_76 (lv_at hl 2 rfl) ?_
              refine lv_istore_n F.1 F.2.1 dX4_deepest_78 rfl hl (Nat.le_of_ble_eq_true rfl) rfl (fun ls hl => ?_)
              have hl : lv_has ls 7 [(2, .int r3), (1, .int v4), (6, .int r6), (5, .int r3), (0, .ref (x + 0)), (3, .int v3), (4, .int v4)] := hl
              refine lv_iload F.1 F.2.1 dX4_deepest_79 (lv_at hl 2 rfl) ?_
              refine lv_istore_n F.1 F.2.1 dX4_deepest_81 rfl hl (Nat.le_of_ble_eq_true rfl) rfl (fun ls hl => ?_)
              have hl : lv_has ls 7 [(3, .int r6), (2, .int r3), (1, .int v4), (6, .int r6), (5, .int r3), (0, .ref (x + 0)), (4, .int v4)] := hl
              refine lv_iinc (v := (v4 + (1 : Int32))) F.1 F.2.1 dX4_deepest_82 hl (k := 6) rfl rfl (Nat.le_of_ble_eq_true rfl) rfl (fun ls hl => ?_)
              have hl : lv_has ls 7 [(4, .int (v4 + (1 : Int32))), (3, .int r6), (2, .int r3), (1, .int v4), (6, .int r6), (5, .int r3), (0, .ref (x + 0))] := hl
              refine lv_goto (tgt := 9) F.1 F.2.1 dX4_deepest_85 rfl ?_
              exact ih v4 r3 r6 (v4 + (1 : Int32)) _ _ _ (lv_sub hl [6, 3, 2, 1, 0] rfl) hP hS hf
  intro ls H locs hl hP hS
  have hl : lv_has ls 7 [(0, .ref (x + 0))] := hl
  unfold f_X4_deepest at hf
  refine lv_iconst (v := (-1 : Int32)) F.1 F.2.1 dX4_deepest_0 (by decide) ?_
  refine lv_istore_n F.1 F.2.1 dX4_deepest_1 rfl hl (Nat.le_of_ble_eq_true rfl) rfl (fun ls hl => ?_)
  have hl : lv_has ls 7 [(1, .int (-1 : Int32)), (0, .ref (x + 0))] := hl
  refine lv_iconst (v := (-1 : Int32)) F.1 F.2.1 dX4_deepest_2 (by decide) ?_
  refine lv_istore_n F.1 F.2.1 dX4_deepest_3 rfl hl (Nat.le_of_ble_eq_true rfl) rfl (fun ls hl => ?_)
  have hl : lv_has ls 7 [(2, .int (-1 : Int32)), (1, .int (-1 : Int32)), (0, .ref (x + 0))] := hl
  refine lv_iconst (v := (0 : Int32)) F.1 F.2.1 dX4_deepest_4 (by decide) ?_
  refine lv_istore_n F.1 F.2.1 dX4_deepest_5 rfl hl (Nat.le_of_ble_eq_true rfl) rfl (fun ls hl => ?_)
  have hl : lv_has ls 7 [(3, .int (0 : Int32)), (2, .int (-1 : Int32)), (1, .int (-1 : Int32)), (0, .ref (x + 0))] := hl
  refine lv_iconst (v := (0 : Int32)) F.1 F.2.1 dX4_deepest_6 (by decide) ?_
  refine lv_istore F.1 F.2.1 dX4_deepest_7 hl (Nat.le_of_ble_eq_true rfl) rfl (fun ls hl => ?_)
  have hl : lv_has ls 7 [(4, .int (0 : Int32)), (3, .int (0 : Int32)), (2, .int (-1 : Int32)), (1, .int (-1 : Int32)), (0, .ref (x + 0))] := hl
  exact (KEY FU) (-1 : Int32) (-1 : Int32) (0 : Int32) (0 : Int32) _ _ _ (lv_sub hl [4, 3, 2, 1, 0] rfl) hP hS hf

-- FrostTubes.scriptGroup(IJI)I
def fb_X4_scriptGroup_1 (a0 : Int32) (a1 : Int64) (a3 : Int32) (K : Int64 → Int32 → Option (Int32)) (v4 : Int64) (v6 : Int32) : Option (Int32) := (if v6 ≤ a3 then some ((v4 - (v4 / (1000000 : Int64)) * (1000000 : Int64)).toInt32) else (K (v4 / (1000000 : Int64)) (v6 + (-1 : Int32))))
def fl_X4_scriptGroup (a0 : Int32) (a1 : Int64) (a3 : Int32) : Nat → Int64 → Int32 → Option (Int32)
  | 0, _, _ => none
  | n + 1, v4, v6 => fb_X4_scriptGroup_1 a0 a1 a3 (fl_X4_scriptGroup a0 a1 a3 n) v4 v6
def f_X4_scriptGroup (a0 : Int32) (a1 : Int64) (a3 : Int32) : Option (Int32) := (fl_X4_scriptGroup a0 a1 a3 FU a1 (a0 - (1 : Int32)))
def rmX4_scriptGroup : Room := { frames := 0, cells := 0, slots := 0, locals := 0 }
theorem hd_X4_scriptGroup : yX4_scriptGroup.cls ≠ "java/lang/invoke/MethodHandle" ∧ yX4_scriptGroup.cls ≠ "java/lang/invoke/VarHandle" ∧ (parseMethodDescriptor yX4_scriptGroup.desc).map (fun d => d.parameters.length) = some 3 := by decide +kernel
set_option maxHeartbeats 8000000 in
set_option maxRecDepth 100000 in
theorem c_X4_scriptGroup {l : Launch} {D : va_G} {x : Nat} {μ : Mem} (a0 : Int32) (a1 : Int64) (a3 : Int32) {r : Int32} (hf : f_X4_scriptGroup a0 a1 a3 = some r) : CX l yX4_scriptGroup wsX4_scriptGroup rmX4_scriptGroup [.int a0, .long a1, .int a3] D x μ (some (.int r)) μ := by
  refine CX.of (cc := cX4_scriptGroup) (maxL := 7) (ret := (some .int)) pn_X4 rfl (Nat.le_of_ble_eq_true rfl) ?_
  intro p e s m args below meth c F hr hlk hK hG
  have KEY : ∀ n : Nat, (∀ (v4 : Int64) (v6 : Int32) (ls : Array Slot) (H : Heap) (locs : List Loc), lv_has ls 7 [(3, .int a3), (4, .long v4), (6, .int v6)] → va_P D vwCl (WL D x μ) H → va_S (rng x) s.heap H locs → fl_X4_scriptGroup a0 a1 a3 n v4 v6 = some r → W p l e rmX4_scriptGroup s m args below meth c H locs 0 0 (MQ below (QX D x μ (some (.int r))) args s 0 0 (rng x)) (F0 m 8 ls [])) := by
    intro n
    induction n with
    | zero => exact (fun _ _ _ _ _ _ _ _ h => nomatch h)
    | succ n ih =>
      skip
      intro v4 v6  ls H locs hl hP hS hf
      have hf : fb_X4_scriptGroup_1 a0 a1 a3 (fl_X4_scriptGroup a0 a1 a3 n) v4 v6 = some r := hf
      unfold fb_X4_scriptGroup_1 at hf
      refine lv_iload F.1 F.2.1 dX4_scriptGroup_8 (lv_at hl 2 rfl) ?_
      refine lv_iload_n F.1 F.2.1 dX4_scriptGroup_10 rfl (lv_at hl 0 rfl) ?_
      refine lv_icmp_le (tgt := 28) F.1 F.2.1 dX4_scriptGroup_11 rfl (fun hc1 => ?_) (fun hc1 => ?_)
      · have hf := ifp hc1 hf
        refine lv_lload F.1 F.2.1 dX4_scriptGroup_28 (lv_at hl 1 rfl) ?_
        refine lv_ldc2 (v := (1000000 : Int64)) F.1 F.2.1 F.2.2.2.1 (F.2.2.2.2 _ (List.mem_of_getElem? (i := 1) rfl)) dX4_scriptGroup_30 ?_
        refine lv_lrem F.1 F.2.1 dX4_scriptGroup_33 (by decide) ?_
        refine lv_l2i (v := (v4 - (v4 / (1000000 : Int64)) * (1000000 : Int64)).toInt32) F.1 F.2.1 dX4_scriptGroup_34 rfl ?_
        obtain rfl := Option.some.inj hf
        exact x_iret F hr hlk hP hS rfl dX4_scriptGroup_35
      · have hf := ifn hc1 hf
        refine lv_lload F.1 F.2.1 dX4_scriptGroup_14 (lv_at hl 1 rfl) ?_
        refine lv_ldc2 (v := (1000000 : Int64)) F.1 F.2.1 F.2.2.2.1 (F.2.2.2.2 _ (List.mem_of_getElem? (i := 1) rfl)) dX4_scriptGroup_16 ?_
        refine lv_ldiv F.1 F.2.1 dX4_scriptGroup_19 (by decide) ?_
        refine lv_lstore F.1 F.2.1 dX4_scriptGroup_20 hl (Nat.le_of_ble_eq_true rfl) rfl (fun ls hl => ?_)
        have hl : lv_has ls 7 [(4, .long (v4 / (1000000 : Int64))), (3, .int a3), (6, .int v6)] := hl
        refine lv_iinc (v := (v6 + (-1 : Int32))) F.1 F.2.1 dX4_scriptGroup_22 hl (k := 2) rfl rfl (Nat.le_of_ble_eq_true rfl) rfl (fun ls hl => ?_)
        have hl : lv_has ls 7 [(6, .int (v6 + (-1 : Int32))), (4, .long (v4 / (1000000 : Int64))), (3, .int a3)] := hl
        refine lv_goto (tgt := 8) F.1 F.2.1 dX4_scriptGroup_25 rfl ?_
        exact ih (v4 / (1000000 : Int64)) (v6 + (-1 : Int32)) _ _ _ (lv_sub hl [2, 1, 0] rfl) hP hS hf
  intro ls H locs hl hP hS
  have hl : lv_has ls 7 [(0, .int a0), (1, .long a1), (3, .int a3)] := hl
  unfold f_X4_scriptGroup at hf
  refine lv_lload_n F.1 F.2.1 dX4_scriptGroup_0 rfl (lv_at hl 1 rfl) ?_
  refine lv_lstore F.1 F.2.1 dX4_scriptGroup_1 hl (Nat.le_of_ble_eq_true rfl) rfl (fun ls hl => ?_)
  have hl : lv_has ls 7 [(4, .long a1), (0, .int a0), (1, .long a1), (3, .int a3)] := hl
  refine lv_iload_n F.1 F.2.1 dX4_scriptGroup_3 rfl (lv_at hl 1 rfl) ?_
  refine lv_iconst (v := (1 : Int32)) F.1 F.2.1 dX4_scriptGroup_4 (by decide) ?_
  refine lv_isub F.1 F.2.1 dX4_scriptGroup_5 ?_
  refine lv_istore F.1 F.2.1 dX4_scriptGroup_6 hl (Nat.le_of_ble_eq_true rfl) rfl (fun ls hl => ?_)
  have hl : lv_has ls 7 [(6, .int (a0 - (1 : Int32))), (4, .long a1), (0, .int a0), (1, .long a1), (3, .int a3)] := hl
  exact (KEY FU) a1 (a0 - (1 : Int32)) _ _ _ (lv_sub hl [4, 1, 0] rfl) hP hS hf

-- FrostTubes.scriptCommand(I)Z
def fb_X4_scriptCommand_1 (a1 : Int32) (K : Mem → Int32 → Int32 → Option (Int32 × Mem)) (μ : Mem) (t0 : Int32) (t1 : Int32) : Option (Int32 × Mem) := (if t1 = t0 then some ((1 : Int32), μ) else some ((0 : Int32), μ))
def fl_X4_scriptCommand (a1 : Int32) : Nat → Mem → Int32 → Int32 → Option (Int32 × Mem)
  | 0, _, _, _ => none
  | n + 1, μ, t0, t1 => fb_X4_scriptCommand_1 a1 (fl_X4_scriptCommand a1 n) μ t0 t1
def f_X4_scriptCommand (μ : Mem) (a1 : Int32) : Option (Int32 × Mem) := (if (a1 / (100000 : Int32)) = (1 : Int32) then ((f_X0_perform (μ 1) (100 : Int32) (-((a1 / (1000 : Int32)) - ((a1 / (1000 : Int32)) / (100 : Int32)) * (100 : Int32))) ((a1 / (10 : Int32)) - ((a1 / (10 : Int32)) / (100 : Int32)) * (100 : Int32)) (a1 - (a1 / (10 : Int32)) * (10 : Int32))).bind fun r2 => (if r2.1 = (-1 : Int32) then some ((0 : Int32), (va_up μ 1 r2.2)) else some ((1 : Int32), (va_up μ 1 r2.2)))) else (if (a1 / (100000 : Int32)) = (2 : Int32) then (if ((a1 / (10 : Int32)) - ((a1 / (10 : Int32)) / (100 : Int32)) * (100 : Int32)) = 0 then ((f_X0_perform (μ 1) (100 : Int32) ((a1 / (1000 : Int32)) - ((a1 / (1000 : Int32)) / (100 : Int32)) * (100 : Int32)) (0 : Int32) (a1 - (a1 / (10 : Int32)) * (10 : Int32))).bind fun r7 => (if r7.1 = (-1 : Int32) then some ((0 : Int32), (va_up μ 1 r7.2)) else some ((1 : Int32), (va_up μ 1 r7.2)))) else some ((0 : Int32), μ)) else (if (a1 / (100000 : Int32)) = (3 : Int32) then (if ((a1 / (1000 : Int32)) - ((a1 / (1000 : Int32)) / (10 : Int32)) * (10 : Int32)) = 0 then (if (a1 - (a1 / (10 : Int32)) * (10 : Int32)) = 0 then ((f_X0_perform (μ 1) (102 : Int32) ((a1 / (10000 : Int32)) - ((a1 / (10000 : Int32)) / (10 : Int32)) * (10 : Int32)) ((a1 / (10 : Int32)) - ((a1 / (10 : Int32)) / (100 : Int32)) * (100 : Int32)) (0 : Int32)).bind fun r13 => (if r13.1 = (-1 : Int32) then some ((0 : Int32), (va_up μ 1 r13.2)) else some ((1 : Int32), (va_up μ 1 r13.2)))) else some ((0 : Int32), μ)) else some ((0 : Int32), μ)) else (if (a1 / (100000 : Int32)) = (4 : Int32) then (if (a1 - (a1 / (10000 : Int32)) * (10000 : Int32)) = 0 then ((f_X0_perform (μ 1) (120 : Int32) ((a1 / (10000 : Int32)) - ((a1 / (10000 : Int32)) / (10 : Int32)) * (10 : Int32)) (0 : Int32) (0 : Int32)).bind fun r18 => (if r18.1 = (-1 : Int32) then some ((0 : Int32), (va_up μ 1 r18.2)) else some ((1 : Int32), (va_up μ 1 r18.2)))) else some ((0 : Int32), μ)) else (if (a1 / (100000 : Int32)) = (5 : Int32) then (if ((a1 / (1000 : Int32)) - ((a1 / (1000 : Int32)) / (10 : Int32)) * (10 : Int32)) = 0 then (if (a1 - (a1 / (10 : Int32)) * (10 : Int32)) = 0 then ((f_X0_perform (μ 1) (101 : Int32) ((a1 / (10000 : Int32)) - ((a1 / (10000 : Int32)) / (10 : Int32)) * (10 : Int32)) ((a1 / (10 : Int32)) - ((a1 / (10 : Int32)) / (100 : Int32)) * (100 : Int32)) (0 : Int32)).bind fun r24 => (if r24.1 = (-1 : Int32) then some ((0 : Int32), (va_up μ 1 r24.2)) else some ((1 : Int32), (va_up μ 1 r24.2)))) else some ((0 : Int32), μ)) else some ((0 : Int32), μ)) else (if (a1 / (100000 : Int32)) = (6 : Int32) then (if ((a1 / (1000 : Int32)) - ((a1 / (1000 : Int32)) / (10 : Int32)) * (10 : Int32)) = 0 then (if (1 : Int32) < (a1 - (a1 / (10 : Int32)) * (10 : Int32)) then some ((0 : Int32), μ) else (if (30 : Int32) ≤ ((a1 / (10 : Int32)) - ((a1 / (10 : Int32)) / (100 : Int32)) * (100 : Int32)) then some ((0 : Int32), μ) else ((f_X0_hasSite (μ 1) ((a1 / (10000 : Int32)) - ((a1 / (10000 : Int32)) / (10 : Int32)) * (10 : Int32))).bind fun r31 => (if r31 = 0 then some ((0 : Int32), μ) else (if oob ((a1 / (10000 : Int32)) - ((a1 / (10000 : Int32)) / (10 : Int32)) * (10 : Int32)) 4 then none else ((f_X2_isFrozen (μ 1) (((a1 / (10000 : Int32)) - ((a1 / (10000 : Int32)) / (10 : Int32)) * (10 : Int32)).toNatClampNeg) ((a1 / (10 : Int32)) - ((a1 / (10 : Int32)) / (100 : Int32)) * (100 : Int32))).bind fun r35 => (if (a1 - (a1 / (10 : Int32)) * (10 : Int32)) = (1 : Int32) then (fl_X4_scriptCommand a1 FU μ (1 : Int32) r35) else (fl_X4_scriptCommand a1 FU μ (0 : Int32) r35)))))))) else some ((0 : Int32), μ)) else (if (a1 / (100000 : Int32)) = (7 : Int32) then (if ((a1 / (1000 : Int32)) - ((a1 / (1000 : Int32)) / (10 : Int32)) * (10 : Int32)) = 0 then (if ((a1 / (100 : Int32)) - ((a1 / (100 : Int32)) / (10 : Int32)) * (10 : Int32)) = 0 then ((f_X0_hasSite (μ 1) ((a1 / (10000 : Int32)) - ((a1 / (10000 : Int32)) / (10 : Int32)) * (10 : Int32))).bind fun r41 => (if r41 = 0 then some ((0 : Int32), μ) else (if oob ((a1 / (10000 : Int32)) - ((a1 / (10000 : Int32)) / (10 : Int32)) * (10 : Int32)) 4 then none else ((f_X2_frozenWithin (μ 1) (((a1 / (10000 : Int32)) - ((a1 / (10000 : Int32)) / (10 : Int32)) * (10 : Int32)).toNatClampNeg) (30 : Int32)).bind fun r45 => (if r45 < (a1 - (a1 / (100 : Int32)) * (100 : Int32)) then some ((0 : Int32), μ) else some ((1 : Int32), μ)))))) else some ((0 : Int32), μ)) else some ((0 : Int32), μ)) else (if (a1 / (100000 : Int32)) = (8 : Int32) then (if ((a1 / (1000 : Int32)) - ((a1 / (1000 : Int32)) / (10 : Int32)) * (10 : Int32)) = 0 then (if ((a1 / (10 : Int32)) - ((a1 / (10 : Int32)) / (100 : Int32)) * (100 : Int32)) = 0 then ((f_X0_hasSite (μ 1) ((a1 / (10000 : Int32)) - ((a1 / (10000 : Int32)) / (10 : Int32)) * (10 : Int32))).bind fun r51 => (if r51 = 0 then some ((0 : Int32), μ) else (if oob ((a1 / (10000 : Int32)) - ((a1 / (10000 : Int32)) / (10 : Int32)) * (10 : Int32)) 4 then none else ((f_X2_layersWithin (μ 1) (((a1 / (10000 : Int32)) - ((a1 / (10000 : Int32)) / (10 : Int32)) * (10 : Int32)).toNatClampNeg) (30 : Int32)).bind fun r55 => (if r55 = (a1 - (a1 / (10 : Int32)) * (10 : Int32)) then some ((1 : Int32), μ) else some ((0 : Int32), μ)))))) else some ((0 : Int32), μ)) else some ((0 : Int32), μ)) else (if (a1 / (100000 : Int32)) = (9 : Int32) then (if ((a1 / (1000 : Int32)) - ((a1 / (1000 : Int32)) / (10 : Int32)) * (10 : Int32)) = 0 then ((f_X0_hasPipe (μ 1) ((a1 / (10000 : Int32)) - ((a1 / (10000 : Int32)) / (10 : Int32)) * (10 : Int32))).bind fun r60 => (if r60 = 0 then some ((0 : Int32), μ) else (if oob ((a1 / (10000 : Int32)) - ((a1 / (10000 : Int32)) / (10 : Int32)) * (10 : Int32)) 8 then none else (if ((μ 1) (158 + 5 * ((a1 / (10000 : Int32)) - ((a1 / (10000 : Int32)) / (10 : Int32)) * (10 : Int32)).toNatClampNeg)) < (a1 - (a1 / (1000 : Int32)) * (1000 : Int32)) then some ((0 : Int32), μ) else some ((1 : Int32), μ))))) else some ((0 : Int32), μ)) else some ((0 : Int32), μ))))))))))
def rmX4_scriptCommand : Room := { frames := 5, cells := 0, slots := 0, locals := 119 }
theorem hd_X4_scriptCommand : yX4_scriptCommand.cls ≠ "java/lang/invoke/MethodHandle" ∧ yX4_scriptCommand.cls ≠ "java/lang/invoke/VarHandle" ∧ (parseMethodDescriptor yX4_scriptCommand.desc).map (fun d => d.parameters.length) = some 1 := by decide +kernel
set_option maxHeartbeats 8000000 in
set_option maxRecDepth 100000 in
theorem c_X4_scriptCommand {l : Launch} {D : va_G} {x : Nat} {μ : Mem} (a1 : Int32) {r : Int32 × Mem} (hf : f_X4_scriptCommand μ a1 = some r) : CX l yX4_scriptCommand wsX4_scriptCommand rmX4_scriptCommand [.ref (x + 0), .int a1] D x μ (some (.int r.1)) r.2 := by
  refine CX.of (cc := cX4_scriptCommand) (maxL := 8) (ret := (some .boolean)) pn_X4 rfl (Nat.le_of_ble_eq_true rfl) ?_
  intro p e s m args below meth c F hr hlk hK hG
  have KEY : ∀ n : Nat, (∀ (μ : Mem) (t0 : Int32) (t1 : Int32) (ls : Array Slot) (H : Heap) (locs : List Loc), lv_has ls 8 [] → va_P D vwCl (WL D x μ) H → va_S (rng x) s.heap H locs → fl_X4_scriptCommand a1 n μ t0 t1 = some r → W p l e rmX4_scriptCommand s m args below meth c H locs 0 0 (MQ below (QX D x r.2 (some (.int r.1))) args s 0 0 (rng x)) (F0 m 310 ls [.int t0, .int t1])) := by
    intro n
    induction n with
    | zero => exact (fun _ _ _ _ _ _ _ _ _ h => nomatch h)
    | succ n ih =>
      skip
      intro μ t0 t1  ls H locs hl hP hS hf
      have hf : fb_X4_scriptCommand_1 a1 (fl_X4_scriptCommand a1 n) μ t0 t1 = some r := hf
      unfold fb_X4_scriptCommand_1 at hf
      refine lv_icmp_ne (tgt := 317) F.1 F.2.1 dX4_scriptCommand_310 rfl (fun hc65 => ?_) (fun hc65 => ?_)
      · have hf := ifn hc65 hf
        refine lv_iconst (v := (0 : Int32)) F.1 F.2.1 dX4_scriptCommand_317 (by decide) ?_
        obtain rfl := Option.some.inj hf
        exact x_zret F hr hlk hP hS rfl (b01_v (v := (0 : Int32)) (Or.inl rfl)) dX4_scriptCommand_318
      · have hf := ifp hc65 hf
        refine lv_iconst (v := (1 : Int32)) F.1 F.2.1 dX4_scriptCommand_313 (by decide) ?_
        refine lv_goto (tgt := 318) F.1 F.2.1 dX4_scriptCommand_314 rfl ?_
        obtain rfl := Option.some.inj hf
        exact x_zret F hr hlk hP hS rfl (b01_v (v := (1 : Int32)) (Or.inr rfl)) dX4_scriptCommand_318
  intro ls H locs hl hP hS
  have hl : lv_has ls 8 [(0, .ref (x + 0)), (1, .int a1)] := hl
  unfold f_X4_scriptCommand at hf
  refine lv_iload_n F.1 F.2.1 dX4_scriptCommand_0 rfl (lv_at hl 1 rfl) ?_
  refine lv_sipush (v := (10000 : Int32)) F.1 F.2.1 dX4_scriptCommand_1 (by decide) ?_
  refine lv_idiv F.1 F.2.1 dX4_scriptCommand_4 (by decide) ?_
  refine lv_bipush (v := (10 : Int32)) F.1 F.2.1 dX4_scriptCommand_5 (by decide) ?_
  refine lv_irem F.1 F.2.1 dX4_scriptCommand_7 (by decide) ?_
  refine lv_istore_n F.1 F.2.1 dX4_scriptCommand_8 rfl hl (Nat.le_of_ble_eq_true rfl) rfl (fun ls hl => ?_)
  have hl : lv_has ls 8 [(2, .int ((a1 / (10000 : Int32)) - ((a1 / (10000 : Int32)) / (10 : Int32)) * (10 : Int32))), (0, .ref (x + 0)), (1, .int a1)] := hl
  refine lv_iload_n F.1 F.2.1 dX4_scriptCommand_9 rfl (lv_at hl 2 rfl) ?_
  refine lv_sipush (v := (1000 : Int32)) F.1 F.2.1 dX4_scriptCommand_10 (by decide) ?_
  refine lv_idiv F.1 F.2.1 dX4_scriptCommand_13 (by decide) ?_
  refine lv_bipush (v := (10 : Int32)) F.1 F.2.1 dX4_scriptCommand_14 (by decide) ?_
  refine lv_irem F.1 F.2.1 dX4_scriptCommand_16 (by decide) ?_
  refine lv_istore_n F.1 F.2.1 dX4_scriptCommand_17 rfl hl (Nat.le_of_ble_eq_true rfl) rfl (fun ls hl => ?_)
  have hl : lv_has ls 8 [(3, .int ((a1 / (1000 : Int32)) - ((a1 / (1000 : Int32)) / (10 : Int32)) * (10 : Int32))), (2, .int ((a1 / (10000 : Int32)) - ((a1 / (10000 : Int32)) / (10 : Int32)) * (10 : Int32))), (0, .ref (x + 0)), (1, .int a1)] := hl
  refine lv_iload_n F.1 F.2.1 dX4_scriptCommand_18 rfl (lv_at hl 3 rfl) ?_
  refine lv_bipush (v := (100 : Int32)) F.1 F.2.1 dX4_scriptCommand_19 (by decide) ?_
  refine lv_idiv F.1 F.2.1 dX4_scriptCommand_21 (by decide) ?_
  refine lv_bipush (v := (10 : Int32)) F.1 F.2.1 dX4_scriptCommand_22 (by decide) ?_
  refine lv_irem F.1 F.2.1 dX4_scriptCommand_24 (by decide) ?_
  refine lv_istore F.1 F.2.1 dX4_scriptCommand_25 hl (Nat.le_of_ble_eq_true rfl) rfl (fun ls hl => ?_)
  have hl : lv_has ls 8 [(4, .int ((a1 / (100 : Int32)) - ((a1 / (100 : Int32)) / (10 : Int32)) * (10 : Int32))), (3, .int ((a1 / (1000 : Int32)) - ((a1 / (1000 : Int32)) / (10 : Int32)) * (10 : Int32))), (2, .int ((a1 / (10000 : Int32)) - ((a1 / (10000 : Int32)) / (10 : Int32)) * (10 : Int32))), (0, .ref (x + 0)), (1, .int a1)] := hl
  refine lv_iload_n F.1 F.2.1 dX4_scriptCommand_27 rfl (lv_at hl 4 rfl) ?_
  refine lv_bipush (v := (10 : Int32)) F.1 F.2.1 dX4_scriptCommand_28 (by decide) ?_
  refine lv_irem F.1 F.2.1 dX4_scriptCommand_30 (by decide) ?_
  refine lv_istore F.1 F.2.1 dX4_scriptCommand_31 hl (Nat.le_of_ble_eq_true rfl) rfl (fun ls hl => ?_)
  have hl : lv_has ls 8 [(5, .int (a1 - (a1 / (10 : Int32)) * (10 : Int32))), (4, .int ((a1 / (100 : Int32)) - ((a1 / (100 : Int32)) / (10 : Int32)) * (10 : Int32))), (3, .int ((a1 / (1000 : Int32)) - ((a1 / (1000 : Int32)) / (10 : Int32)) * (10 : Int32))), (2, .int ((a1 / (10000 : Int32)) - ((a1 / (10000 : Int32)) / (10 : Int32)) * (10 : Int32))), (0, .ref (x + 0)), (1, .int a1)] := hl
  refine lv_iload_n F.1 F.2.1 dX4_scriptCommand_33 rfl (lv_at hl 5 rfl) ?_
  refine lv_sipush (v := (1000 : Int32)) F.1 F.2.1 dX4_scriptCommand_34 (by decide) ?_
  refine lv_idiv F.1 F.2.1 dX4_scriptCommand_37 (by decide) ?_
  refine lv_bipush (v := (100 : Int32)) F.1 F.2.1 dX4_scriptCommand_38 (by decide) ?_
  refine lv_irem F.1 F.2.1 dX4_scriptCommand_40 (by decide) ?_
  refine lv_istore F.1 F.2.1 dX4_scriptCommand_41 hl (Nat.le_of_ble_eq_true rfl) rfl (fun ls hl => ?_)
  have hl : lv_has ls 8 [(6, .int ((a1 / (1000 : Int32)) - ((a1 / (1000 : Int32)) / (100 : Int32)) * (100 : Int32))), (5, .int (a1 - (a1 / (10 : Int32)) * (10 : Int32))), (4, .int ((a1 / (100 : Int32)) - ((a1 / (100 : Int32)) / (10 : Int32)) * (10 : Int32))), (3, .int ((a1 / (1000 : Int32)) - ((a1 / (1000 : Int32)) / (10 : Int32)) * (10 : Int32))), (2, .int ((a1 / (10000 : Int32)) - ((a1 / (10000 : Int32)) / (10 : Int32)) * (10 : Int32))), (0, .ref (x + 0)), (1, .int a1)] := hl
  refine lv_iload_n F.1 F.2.1 dX4_scriptCommand_43 rfl (lv_at hl 6 rfl) ?_
  refine lv_bipush (v := (10 : Int32)) F.1 F.2.1 dX4_scriptCommand_44 (by decide) ?_
  refine lv_idiv F.1 F.2.1 dX4_scriptCommand_46 (by decide) ?_
  refine lv_bipush (v := (100 : Int32)) F.1 F.2.1 dX4_scriptCommand_47 (by decide) ?_
  refine lv_irem F.1 F.2.1 dX4_scriptCommand_49 (by decide) ?_
  refine lv_istore F.1 F.2.1 dX4_scriptCommand_50 hl (Nat.le_of_ble_eq_true rfl) rfl (fun ls hl => ?_)
  have hl : lv_has ls 8 [(7, .int ((a1 / (10 : Int32)) - ((a1 / (10 : Int32)) / (100 : Int32)) * (100 : Int32))), (6, .int ((a1 / (1000 : Int32)) - ((a1 / (1000 : Int32)) / (100 : Int32)) * (100 : Int32))), (5, .int (a1 - (a1 / (10 : Int32)) * (10 : Int32))), (4, .int ((a1 / (100 : Int32)) - ((a1 / (100 : Int32)) / (10 : Int32)) * (10 : Int32))), (3, .int ((a1 / (1000 : Int32)) - ((a1 / (1000 : Int32)) / (10 : Int32)) * (10 : Int32))), (2, .int ((a1 / (10000 : Int32)) - ((a1 / (10000 : Int32)) / (10 : Int32)) * (10 : Int32))), (0, .ref (x + 0)), (1, .int a1)] := hl
  refine lv_iload_n F.1 F.2.1 dX4_scriptCommand_52 rfl (lv_at hl 7 rfl) ?_
  refine lv_ldcw (v := (100000 : Int32)) F.1 F.2.1 F.2.2.2.1 (F.2.2.2.2 _ (List.mem_of_getElem? (i := 1) rfl)) dX4_scriptCommand_53 ?_
  refine lv_idiv F.1 F.2.1 dX4_scriptCommand_56 (by decide) ?_
  by_cases hc1 : (a1 / (100000 : Int32)) = (1 : Int32)
  · have hf := ifp hc1 hf
    refine lv_tableIn (off := 51) (tgt := 108) F.1 F.2.1 dX4_scriptCommand_57 (by rw [hc1]; decide) (by rw [hc1]; decide) (by rw [hc1]; rfl) rfl ?_
    refine lv_aload_n F.1 F.2.1 dX4_scriptCommand_108 rfl (lv_at hl 6 rfl) ?_
    refine gR_X4_trial F hK hP  (fun _ h => List.mem_cons_of_mem _ (List.mem_append_left _ (List.mem_append_left _ (List.mem_append_right _ h)))) (List.mem_of_getElem? (i := 2) rfl) dX4_scriptCommand_109 ?_
    refine lv_bipush (v := (100 : Int32)) F.1 F.2.1 dX4_scriptCommand_112 (by decide) ?_
    refine lv_iload F.1 F.2.1 dX4_scriptCommand_114 (lv_at hl 1 rfl) ?_
    refine lv_ineg F.1 F.2.1 dX4_scriptCommand_116 ?_
    refine lv_iload F.1 F.2.1 dX4_scriptCommand_117 (lv_at hl 0 rfl) ?_
    refine lv_iload F.1 F.2.1 dX4_scriptCommand_119 (lv_at hl 2 rfl) ?_
    obtain ⟨r2, hr3, hf⟩ := bnd hf
    have hP := x_up 1 hP
    refine x_callV F hK hG hP hS (o_G (by decide) (c := 0) (by decide)) (kd_G 1 (by decide) 0 (by decide)) (ci := 0) (fun _ => rfl) rfl (c_X0_perform (by decide) (100 : Int32) (-((a1 / (1000 : Int32)) - ((a1 / (1000 : Int32)) / (100 : Int32)) * (100 : Int32))) ((a1 / (10 : Int32)) - ((a1 / (10 : Int32)) / (100 : Int32)) * (100 : Int32)) (a1 - (a1 / (10 : Int32)) * (10 : Int32)) hr3) (cwV 4 F.2.2.2.2 gX4_scriptCommand_X0_perform rfl rfl rfl ⟨rfl, hd_X0_perform⟩ ⟨(Nat.le_of_ble_eq_true rfl), (Nat.le_of_ble_eq_true rfl)⟩) rfl rfl hl.1 (Nat.le_of_ble_eq_true rfl) dX4_scriptCommand_121 ⟨(Nat.le_of_ble_eq_true rfl), (Nat.le_of_ble_eq_true rfl)⟩ (rest := []) (fun H locs hP hS => ?_)
    refine W.eq (g2 := F0 m 124 ls [.int r2.1]) rfl ?_
    refine lv_iconst (v := (-1 : Int32)) F.1 F.2.1 dX4_scriptCommand_124 (by decide) ?_
    refine lv_icmp_eq (tgt := 132) F.1 F.2.1 dX4_scriptCommand_125 rfl (fun hc4 => ?_) (fun hc4 => ?_)
    · have hf := ifp hc4 hf
      refine lv_iconst (v := (0 : Int32)) F.1 F.2.1 dX4_scriptCommand_132 (by decide) ?_
      obtain rfl := Option.some.inj hf
      exact x_zret F hr hlk hP hS rfl (b01_v (v := (0 : Int32)) (Or.inl rfl)) dX4_scriptCommand_133
    · have hf := ifn hc4 hf
      refine lv_iconst (v := (1 : Int32)) F.1 F.2.1 dX4_scriptCommand_128 (by decide) ?_
      refine lv_goto (tgt := 133) F.1 F.2.1 dX4_scriptCommand_129 rfl ?_
      obtain rfl := Option.some.inj hf
      exact x_zret F hr hlk hP hS rfl (b01_v (v := (1 : Int32)) (Or.inr rfl)) dX4_scriptCommand_133
  have hf := ifn hc1 hf
  by_cases hc5 : (a1 / (100000 : Int32)) = (2 : Int32)
  · have hf := ifp hc5 hf
    refine lv_tableIn (off := 77) (tgt := 134) F.1 F.2.1 dX4_scriptCommand_57 (by rw [hc5]; decide) (by rw [hc5]; decide) (by rw [hc5]; rfl) rfl ?_
    refine lv_iload F.1 F.2.1 dX4_scriptCommand_134 (lv_at hl 0 rfl) ?_
    refine lv_if_ne (tgt := 161) F.1 F.2.1 dX4_scriptCommand_136 rfl (fun hc6 => ?_) (fun hc6 => ?_)
    · have hf := ifn hc6 hf
      refine lv_iconst (v := (0 : Int32)) F.1 F.2.1 dX4_scriptCommand_161 (by decide) ?_
      obtain rfl := Option.some.inj hf
      exact x_zret F hr hlk hP hS rfl (b01_v (v := (0 : Int32)) (Or.inl rfl)) dX4_scriptCommand_162
    · have hf := ifp hc6 hf
      refine lv_aload_n F.1 F.2.1 dX4_scriptCommand_139 rfl (lv_at hl 6 rfl) ?_
      refine gR_X4_trial F hK hP  (fun _ h => List.mem_cons_of_mem _ (List.mem_append_left _ (List.mem_append_left _ (List.mem_append_right _ h)))) (List.mem_of_getElem? (i := 2) rfl) dX4_scriptCommand_140 ?_
      refine lv_bipush (v := (100 : Int32)) F.1 F.2.1 dX4_scriptCommand_143 (by decide) ?_
      refine lv_iload F.1 F.2.1 dX4_scriptCommand_145 (lv_at hl 1 rfl) ?_
      refine lv_iconst (v := (0 : Int32)) F.1 F.2.1 dX4_scriptCommand_147 (by decide) ?_
      refine lv_iload F.1 F.2.1 dX4_scriptCommand_148 (lv_at hl 2 rfl) ?_
      obtain ⟨r7, hr8, hf⟩ := bnd hf
      have hP := x_up 1 hP
      refine x_callV F hK hG hP hS (o_G (by decide) (c := 0) (by decide)) (kd_G 1 (by decide) 0 (by decide)) (ci := 0) (fun _ => rfl) rfl (c_X0_perform (by decide) (100 : Int32) ((a1 / (1000 : Int32)) - ((a1 / (1000 : Int32)) / (100 : Int32)) * (100 : Int32)) (0 : Int32) (a1 - (a1 / (10 : Int32)) * (10 : Int32)) hr8) (cwV 4 F.2.2.2.2 gX4_scriptCommand_X0_perform rfl rfl rfl ⟨rfl, hd_X0_perform⟩ ⟨(Nat.le_of_ble_eq_true rfl), (Nat.le_of_ble_eq_true rfl)⟩) rfl rfl hl.1 (Nat.le_of_ble_eq_true rfl) dX4_scriptCommand_150 ⟨(Nat.le_of_ble_eq_true rfl), (Nat.le_of_ble_eq_true rfl)⟩ (rest := []) (fun H locs hP hS => ?_)
      refine W.eq (g2 := F0 m 153 ls [.int r7.1]) rfl ?_
      refine lv_iconst (v := (-1 : Int32)) F.1 F.2.1 dX4_scriptCommand_153 (by decide) ?_
      refine lv_icmp_eq (tgt := 161) F.1 F.2.1 dX4_scriptCommand_154 rfl (fun hc9 => ?_) (fun hc9 => ?_)
      · have hf := ifp hc9 hf
        refine lv_iconst (v := (0 : Int32)) F.1 F.2.1 dX4_scriptCommand_161 (by decide) ?_
        obtain rfl := Option.some.inj hf
        exact x_zret F hr hlk hP hS rfl (b01_v (v := (0 : Int32)) (Or.inl rfl)) dX4_scriptCommand_162
      · have hf := ifn hc9 hf
        refine lv_iconst (v := (1 : Int32)) F.1 F.2.1 dX4_scriptCommand_157 (by decide) ?_
        refine lv_goto (tgt := 162) F.1 F.2.1 dX4_scriptCommand_158 rfl ?_
        obtain rfl := Option.some.inj hf
        exact x_zret F hr hlk hP hS rfl (b01_v (v := (1 : Int32)) (Or.inr rfl)) dX4_scriptCommand_162
  have hf := ifn hc5 hf
  by_cases hc10 : (a1 / (100000 : Int32)) = (3 : Int32)
  · have hf := ifp hc10 hf
    refine lv_tableIn (off := 106) (tgt := 163) F.1 F.2.1 dX4_scriptCommand_57 (by rw [hc10]; decide) (by rw [hc10]; decide) (by rw [hc10]; rfl) rfl ?_
    refine lv_iload_n F.1 F.2.1 dX4_scriptCommand_163 rfl (lv_at hl 4 rfl) ?_
    refine lv_if_ne (tgt := 193) F.1 F.2.1 dX4_scriptCommand_164 rfl (fun hc11 => ?_) (fun hc11 => ?_)
    · have hf := ifn hc11 hf
      refine lv_iconst (v := (0 : Int32)) F.1 F.2.1 dX4_scriptCommand_193 (by decide) ?_
      obtain rfl := Option.some.inj hf
      exact x_zret F hr hlk hP hS rfl (b01_v (v := (0 : Int32)) (Or.inl rfl)) dX4_scriptCommand_194
    · have hf := ifp hc11 hf
      refine lv_iload F.1 F.2.1 dX4_scriptCommand_167 (lv_at hl 2 rfl) ?_
      refine lv_if_ne (tgt := 193) F.1 F.2.1 dX4_scriptCommand_169 rfl (fun hc12 => ?_) (fun hc12 => ?_)
      · have hf := ifn hc12 hf
        refine lv_iconst (v := (0 : Int32)) F.1 F.2.1 dX4_scriptCommand_193 (by decide) ?_
        obtain rfl := Option.some.inj hf
        exact x_zret F hr hlk hP hS rfl (b01_v (v := (0 : Int32)) (Or.inl rfl)) dX4_scriptCommand_194
      · have hf := ifp hc12 hf
        refine lv_aload_n F.1 F.2.1 dX4_scriptCommand_172 rfl (lv_at hl 6 rfl) ?_
        refine gR_X4_trial F hK hP  (fun _ h => List.mem_cons_of_mem _ (List.mem_append_left _ (List.mem_append_left _ (List.mem_append_right _ h)))) (List.mem_of_getElem? (i := 2) rfl) dX4_scriptCommand_173 ?_
        refine lv_bipush (v := (102 : Int32)) F.1 F.2.1 dX4_scriptCommand_176 (by decide) ?_
        refine lv_iload_n F.1 F.2.1 dX4_scriptCommand_178 rfl (lv_at hl 5 rfl) ?_
        refine lv_iload F.1 F.2.1 dX4_scriptCommand_179 (lv_at hl 0 rfl) ?_
        refine lv_iconst (v := (0 : Int32)) F.1 F.2.1 dX4_scriptCommand_181 (by decide) ?_
        obtain ⟨r13, hr14, hf⟩ := bnd hf
        have hP := x_up 1 hP
        refine x_callV F hK hG hP hS (o_G (by decide) (c := 0) (by decide)) (kd_G 1 (by decide) 0 (by decide)) (ci := 0) (fun _ => rfl) rfl (c_X0_perform (by decide) (102 : Int32) ((a1 / (10000 : Int32)) - ((a1 / (10000 : Int32)) / (10 : Int32)) * (10 : Int32)) ((a1 / (10 : Int32)) - ((a1 / (10 : Int32)) / (100 : Int32)) * (100 : Int32)) (0 : Int32) hr14) (cwV 4 F.2.2.2.2 gX4_scriptCommand_X0_perform rfl rfl rfl ⟨rfl, hd_X0_perform⟩ ⟨(Nat.le_of_ble_eq_true rfl), (Nat.le_of_ble_eq_true rfl)⟩) rfl rfl hl.1 (Nat.le_of_ble_eq_true rfl) dX4_scriptCommand_182 ⟨(Nat.le_of_ble_eq_true rfl), (Nat.le_of_ble_eq_true rfl)⟩ (rest := []) (fun H locs hP hS => ?_)
        refine W.eq (g2 := F0 m 185 ls [.int r13.1]) rfl ?_
        refine lv_iconst (v := (-1 : Int32)) F.1 F.2.1 dX4_scriptCommand_185 (by decide) ?_
        refine lv_icmp_eq (tgt := 193) F.1 F.2.1 dX4_scriptCommand_186 rfl (fun hc15 => ?_) (fun hc15 => ?_)
        · have hf := ifp hc15 hf
          refine lv_iconst (v := (0 : Int32)) F.1 F.2.1 dX4_scriptCommand_193 (by decide) ?_
          obtain rfl := Option.some.inj hf
          exact x_zret F hr hlk hP hS rfl (b01_v (v := (0 : Int32)) (Or.inl rfl)) dX4_scriptCommand_194
        · have hf := ifn hc15 hf
          refine lv_iconst (v := (1 : Int32)) F.1 F.2.1 dX4_scriptCommand_189 (by decide) ?_
          refine lv_goto (tgt := 194) F.1 F.2.1 dX4_scriptCommand_190 rfl ?_
          obtain rfl := Option.some.inj hf
          exact x_zret F hr hlk hP hS rfl (b01_v (v := (1 : Int32)) (Or.inr rfl)) dX4_scriptCommand_194
  have hf := ifn hc10 hf
  by_cases hc16 : (a1 / (100000 : Int32)) = (4 : Int32)
  · have hf := ifp hc16 hf
    refine lv_tableIn (off := 138) (tgt := 195) F.1 F.2.1 dX4_scriptCommand_57 (by rw [hc16]; decide) (by rw [hc16]; decide) (by rw [hc16]; rfl) rfl ?_
    refine lv_iload_n F.1 F.2.1 dX4_scriptCommand_195 rfl (lv_at hl 7 rfl) ?_
    refine lv_sipush (v := (10000 : Int32)) F.1 F.2.1 dX4_scriptCommand_196 (by decide) ?_
    refine lv_irem F.1 F.2.1 dX4_scriptCommand_199 (by decide) ?_
    refine lv_if_ne (tgt := 223) F.1 F.2.1 dX4_scriptCommand_200 rfl (fun hc17 => ?_) (fun hc17 => ?_)
    · have hf := ifn hc17 hf
      refine lv_iconst (v := (0 : Int32)) F.1 F.2.1 dX4_scriptCommand_223 (by decide) ?_
      obtain rfl := Option.some.inj hf
      exact x_zret F hr hlk hP hS rfl (b01_v (v := (0 : Int32)) (Or.inl rfl)) dX4_scriptCommand_224
    · have hf := ifp hc17 hf
      refine lv_aload_n F.1 F.2.1 dX4_scriptCommand_203 rfl (lv_at hl 6 rfl) ?_
      refine gR_X4_trial F hK hP  (fun _ h => List.mem_cons_of_mem _ (List.mem_append_left _ (List.mem_append_left _ (List.mem_append_right _ h)))) (List.mem_of_getElem? (i := 2) rfl) dX4_scriptCommand_204 ?_
      refine lv_bipush (v := (120 : Int32)) F.1 F.2.1 dX4_scriptCommand_207 (by decide) ?_
      refine lv_iload_n F.1 F.2.1 dX4_scriptCommand_209 rfl (lv_at hl 5 rfl) ?_
      refine lv_iconst (v := (0 : Int32)) F.1 F.2.1 dX4_scriptCommand_210 (by decide) ?_
      refine lv_iconst (v := (0 : Int32)) F.1 F.2.1 dX4_scriptCommand_211 (by decide) ?_
      obtain ⟨r18, hr19, hf⟩ := bnd hf
      have hP := x_up 1 hP
      refine x_callV F hK hG hP hS (o_G (by decide) (c := 0) (by decide)) (kd_G 1 (by decide) 0 (by decide)) (ci := 0) (fun _ => rfl) rfl (c_X0_perform (by decide) (120 : Int32) ((a1 / (10000 : Int32)) - ((a1 / (10000 : Int32)) / (10 : Int32)) * (10 : Int32)) (0 : Int32) (0 : Int32) hr19) (cwV 4 F.2.2.2.2 gX4_scriptCommand_X0_perform rfl rfl rfl ⟨rfl, hd_X0_perform⟩ ⟨(Nat.le_of_ble_eq_true rfl), (Nat.le_of_ble_eq_true rfl)⟩) rfl rfl hl.1 (Nat.le_of_ble_eq_true rfl) dX4_scriptCommand_212 ⟨(Nat.le_of_ble_eq_true rfl), (Nat.le_of_ble_eq_true rfl)⟩ (rest := []) (fun H locs hP hS => ?_)
      refine W.eq (g2 := F0 m 215 ls [.int r18.1]) rfl ?_
      refine lv_iconst (v := (-1 : Int32)) F.1 F.2.1 dX4_scriptCommand_215 (by decide) ?_
      refine lv_icmp_eq (tgt := 223) F.1 F.2.1 dX4_scriptCommand_216 rfl (fun hc20 => ?_) (fun hc20 => ?_)
      · have hf := ifp hc20 hf
        refine lv_iconst (v := (0 : Int32)) F.1 F.2.1 dX4_scriptCommand_223 (by decide) ?_
        obtain rfl := Option.some.inj hf
        exact x_zret F hr hlk hP hS rfl (b01_v (v := (0 : Int32)) (Or.inl rfl)) dX4_scriptCommand_224
      · have hf := ifn hc20 hf
        refine lv_iconst (v := (1 : Int32)) F.1 F.2.1 dX4_scriptCommand_219 (by decide) ?_
        refine lv_goto (tgt := 224) F.1 F.2.1 dX4_scriptCommand_220 rfl ?_
        obtain rfl := Option.some.inj hf
        exact x_zret F hr hlk hP hS rfl (b01_v (v := (1 : Int32)) (Or.inr rfl)) dX4_scriptCommand_224
  have hf := ifn hc16 hf
  by_cases hc21 : (a1 / (100000 : Int32)) = (5 : Int32)
  · have hf := ifp hc21 hf
    refine lv_tableIn (off := 168) (tgt := 225) F.1 F.2.1 dX4_scriptCommand_57 (by rw [hc21]; decide) (by rw [hc21]; decide) (by rw [hc21]; rfl) rfl ?_
    refine lv_iload_n F.1 F.2.1 dX4_scriptCommand_225 rfl (lv_at hl 4 rfl) ?_
    refine lv_if_ne (tgt := 255) F.1 F.2.1 dX4_scriptCommand_226 rfl (fun hc22 => ?_) (fun hc22 => ?_)
    · have hf := ifn hc22 hf
      refine lv_iconst (v := (0 : Int32)) F.1 F.2.1 dX4_scriptCommand_255 (by decide) ?_
      obtain rfl := Option.some.inj hf
      exact x_zret F hr hlk hP hS rfl (b01_v (v := (0 : Int32)) (Or.inl rfl)) dX4_scriptCommand_256
    · have hf := ifp hc22 hf
      refine lv_iload F.1 F.2.1 dX4_scriptCommand_229 (lv_at hl 2 rfl) ?_
      refine lv_if_ne (tgt := 255) F.1 F.2.1 dX4_scriptCommand_231 rfl (fun hc23 => ?_) (fun hc23 => ?_)
      · have hf := ifn hc23 hf
        refine lv_iconst (v := (0 : Int32)) F.1 F.2.1 dX4_scriptCommand_255 (by decide) ?_
        obtain rfl := Option.some.inj hf
        exact x_zret F hr hlk hP hS rfl (b01_v (v := (0 : Int32)) (Or.inl rfl)) dX4_scriptCommand_256
      · have hf := ifp hc23 hf
        refine lv_aload_n F.1 F.2.1 dX4_scriptCommand_234 rfl (lv_at hl 6 rfl) ?_
        refine gR_X4_trial F hK hP  (fun _ h => List.mem_cons_of_mem _ (List.mem_append_left _ (List.mem_append_left _ (List.mem_append_right _ h)))) (List.mem_of_getElem? (i := 2) rfl) dX4_scriptCommand_235 ?_
        refine lv_bipush (v := (101 : Int32)) F.1 F.2.1 dX4_scriptCommand_238 (by decide) ?_
        refine lv_iload_n F.1 F.2.1 dX4_scriptCommand_240 rfl (lv_at hl 5 rfl) ?_
        refine lv_iload F.1 F.2.1 dX4_scriptCommand_241 (lv_at hl 0 rfl) ?_
        refine lv_iconst (v := (0 : Int32)) F.1 F.2.1 dX4_scriptCommand_243 (by decide) ?_
        obtain ⟨r24, hr25, hf⟩ := bnd hf
        have hP := x_up 1 hP
        refine x_callV F hK hG hP hS (o_G (by decide) (c := 0) (by decide)) (kd_G 1 (by decide) 0 (by decide)) (ci := 0) (fun _ => rfl) rfl (c_X0_perform (by decide) (101 : Int32) ((a1 / (10000 : Int32)) - ((a1 / (10000 : Int32)) / (10 : Int32)) * (10 : Int32)) ((a1 / (10 : Int32)) - ((a1 / (10 : Int32)) / (100 : Int32)) * (100 : Int32)) (0 : Int32) hr25) (cwV 4 F.2.2.2.2 gX4_scriptCommand_X0_perform rfl rfl rfl ⟨rfl, hd_X0_perform⟩ ⟨(Nat.le_of_ble_eq_true rfl), (Nat.le_of_ble_eq_true rfl)⟩) rfl rfl hl.1 (Nat.le_of_ble_eq_true rfl) dX4_scriptCommand_244 ⟨(Nat.le_of_ble_eq_true rfl), (Nat.le_of_ble_eq_true rfl)⟩ (rest := []) (fun H locs hP hS => ?_)
        refine W.eq (g2 := F0 m 247 ls [.int r24.1]) rfl ?_
        refine lv_iconst (v := (-1 : Int32)) F.1 F.2.1 dX4_scriptCommand_247 (by decide) ?_
        refine lv_icmp_eq (tgt := 255) F.1 F.2.1 dX4_scriptCommand_248 rfl (fun hc26 => ?_) (fun hc26 => ?_)
        · have hf := ifp hc26 hf
          refine lv_iconst (v := (0 : Int32)) F.1 F.2.1 dX4_scriptCommand_255 (by decide) ?_
          obtain rfl := Option.some.inj hf
          exact x_zret F hr hlk hP hS rfl (b01_v (v := (0 : Int32)) (Or.inl rfl)) dX4_scriptCommand_256
        · have hf := ifn hc26 hf
          refine lv_iconst (v := (1 : Int32)) F.1 F.2.1 dX4_scriptCommand_251 (by decide) ?_
          refine lv_goto (tgt := 256) F.1 F.2.1 dX4_scriptCommand_252 rfl ?_
          obtain rfl := Option.some.inj hf
          exact x_zret F hr hlk hP hS rfl (b01_v (v := (1 : Int32)) (Or.inr rfl)) dX4_scriptCommand_256
  have hf := ifn hc21 hf
  by_cases hc27 : (a1 / (100000 : Int32)) = (6 : Int32)
  · have hf := ifp hc27 hf
    refine lv_tableIn (off := 200) (tgt := 257) F.1 F.2.1 dX4_scriptCommand_57 (by rw [hc27]; decide) (by rw [hc27]; decide) (by rw [hc27]; rfl) rfl ?_
    refine lv_iload_n F.1 F.2.1 dX4_scriptCommand_257 rfl (lv_at hl 4 rfl) ?_
    refine lv_if_ne (tgt := 317) F.1 F.2.1 dX4_scriptCommand_258 rfl (fun hc28 => ?_) (fun hc28 => ?_)
    · have hf := ifn hc28 hf
      refine lv_iconst (v := (0 : Int32)) F.1 F.2.1 dX4_scriptCommand_317 (by decide) ?_
      obtain rfl := Option.some.inj hf
      exact x_zret F hr hlk hP hS rfl (b01_v (v := (0 : Int32)) (Or.inl rfl)) dX4_scriptCommand_318
    · have hf := ifp hc28 hf
      refine lv_iload F.1 F.2.1 dX4_scriptCommand_261 (lv_at hl 2 rfl) ?_
      refine lv_iconst (v := (1 : Int32)) F.1 F.2.1 dX4_scriptCommand_263 (by decide) ?_
      refine lv_icmp_gt (tgt := 317) F.1 F.2.1 dX4_scriptCommand_264 rfl (fun hc29 => ?_) (fun hc29 => ?_)
      · have hf := ifp hc29 hf
        refine lv_iconst (v := (0 : Int32)) F.1 F.2.1 dX4_scriptCommand_317 (by decide) ?_
        obtain rfl := Option.some.inj hf
        exact x_zret F hr hlk hP hS rfl (b01_v (v := (0 : Int32)) (Or.inl rfl)) dX4_scriptCommand_318
      · have hf := ifn hc29 hf
        refine lv_iload F.1 F.2.1 dX4_scriptCommand_267 (lv_at hl 0 rfl) ?_
        refine lv_bipush (v := (30 : Int32)) F.1 F.2.1 dX4_scriptCommand_269 (by decide) ?_
        refine lv_icmp_ge (tgt := 317) F.1 F.2.1 dX4_scriptCommand_271 rfl (fun hc30 => ?_) (fun hc30 => ?_)
        · have hf := ifp hc30 hf
          refine lv_iconst (v := (0 : Int32)) F.1 F.2.1 dX4_scriptCommand_317 (by decide) ?_
          obtain rfl := Option.some.inj hf
          exact x_zret F hr hlk hP hS rfl (b01_v (v := (0 : Int32)) (Or.inl rfl)) dX4_scriptCommand_318
        · have hf := ifn hc30 hf
          refine lv_aload_n F.1 F.2.1 dX4_scriptCommand_274 rfl (lv_at hl 6 rfl) ?_
          refine gR_X4_trial F hK hP  (fun _ h => List.mem_cons_of_mem _ (List.mem_append_left _ (List.mem_append_left _ (List.mem_append_right _ h)))) (List.mem_of_getElem? (i := 2) rfl) dX4_scriptCommand_275 ?_
          refine lv_iload_n F.1 F.2.1 dX4_scriptCommand_278 rfl (lv_at hl 5 rfl) ?_
          obtain ⟨r31, hr32, hf⟩ := bnd hf
          refine x_callV F hK hG hP hS (o_G (by decide) (c := 0) (by decide)) (kd_G 1 (by decide) 0 (by decide)) (ci := 0) (fun _ => rfl) rfl (c_X0_hasSite (by decide) rfl ((a1 / (10000 : Int32)) - ((a1 / (10000 : Int32)) / (10 : Int32)) * (10 : Int32)) hr32) (cwV 1 F.2.2.2.2 gX4_scriptCommand_X0_hasSite rfl rfl rfl ⟨rfl, hd_X0_hasSite⟩ ⟨(Nat.le_of_ble_eq_true rfl), (Nat.le_of_ble_eq_true rfl)⟩) rfl rfl hl.1 (Nat.le_of_ble_eq_true rfl) dX4_scriptCommand_279 ⟨(Nat.le_of_ble_eq_true rfl), (Nat.le_of_ble_eq_true rfl)⟩ (rest := []) (fun H locs hP hS => ?_)
          refine W.eq (g2 := F0 m 282 ls [.int r31]) rfl ?_
          refine lv_if_eq (tgt := 317) F.1 F.2.1 dX4_scriptCommand_282 rfl (fun hc33 => ?_) (fun hc33 => ?_)
          · have hf := ifp hc33 hf
            refine lv_iconst (v := (0 : Int32)) F.1 F.2.1 dX4_scriptCommand_317 (by decide) ?_
            obtain rfl := Option.some.inj hf
            exact x_zret F hr hlk hP hS rfl (b01_v (v := (0 : Int32)) (Or.inl rfl)) dX4_scriptCommand_318
          · have hf := ifn hc33 hf
            refine lv_aload_n F.1 F.2.1 dX4_scriptCommand_285 rfl (lv_at hl 6 rfl) ?_
            refine gR_X4_trial F hK hP  (fun _ h => List.mem_cons_of_mem _ (List.mem_append_left _ (List.mem_append_left _ (List.mem_append_right _ h)))) (List.mem_of_getElem? (i := 2) rfl) dX4_scriptCommand_286 ?_
            refine gR_X0_sites F hK hP (by decide) (fun _ h => List.mem_cons_of_mem _ (List.mem_append_left _ (List.mem_append_right _ h))) (List.mem_of_getElem? (i := 3) rfl) dX4_scriptCommand_289 ?_
            refine lv_iload_n F.1 F.2.1 dX4_scriptCommand_292 rfl (lv_at hl 5 rfl) ?_
            obtain ⟨hb34, hf⟩ := ifg hf
            refine lA_GA2 F hK hP (by decide) hb34 dX4_scriptCommand_293 ?_
            refine lv_iload F.1 F.2.1 dX4_scriptCommand_294 (lv_at hl 0 rfl) ?_
            obtain ⟨r35, hr36, hf⟩ := bnd hf
            refine x_callV F hK hG hP hS (o_S (by decide) (oob_lt hb34)) (kd_S 1 (by decide) ((a1 / (10000 : Int32)) - ((a1 / (10000 : Int32)) / (10 : Int32)) * (10 : Int32)).toNatClampNeg (oob_lt hb34)) (ci := 2) (fun _ => rfl) rfl (c_X2_isFrozen (by decide) (oob_lt hb34) rfl ((a1 / (10 : Int32)) - ((a1 / (10 : Int32)) / (100 : Int32)) * (100 : Int32)) hr36) (cwV 1 F.2.2.2.2 gX4_scriptCommand_X2_isFrozen rfl rfl rfl ⟨rfl, hd_X2_isFrozen⟩ ⟨(Nat.le_of_ble_eq_true rfl), (Nat.le_of_ble_eq_true rfl)⟩) rfl rfl hl.1 (Nat.le_of_ble_eq_true rfl) dX4_scriptCommand_296 ⟨(Nat.le_of_ble_eq_true rfl), (Nat.le_of_ble_eq_true rfl)⟩ (rest := []) (fun H locs hP hS => ?_)
            refine W.eq (g2 := F0 m 299 ls [.int r35]) rfl ?_
            refine lv_iload F.1 F.2.1 dX4_scriptCommand_299 (lv_at hl 2 rfl) ?_
            refine lv_iconst (v := (1 : Int32)) F.1 F.2.1 dX4_scriptCommand_301 (by decide) ?_
            refine lv_icmp_ne (tgt := 309) F.1 F.2.1 dX4_scriptCommand_302 rfl (fun hc37 => ?_) (fun hc37 => ?_)
            · have hf := ifn hc37 hf
              refine lv_iconst (v := (0 : Int32)) F.1 F.2.1 dX4_scriptCommand_309 (by decide) ?_
              exact (KEY FU) μ (0 : Int32) r35 _ _ _ (lv_sub hl [] rfl) hP hS hf
            · have hf := ifp hc37 hf
              refine lv_iconst (v := (1 : Int32)) F.1 F.2.1 dX4_scriptCommand_305 (by decide) ?_
              refine lv_goto (tgt := 310) F.1 F.2.1 dX4_scriptCommand_306 rfl ?_
              exact (KEY FU) μ (1 : Int32) r35 _ _ _ (lv_sub hl [] rfl) hP hS hf
  have hf := ifn hc27 hf
  by_cases hc38 : (a1 / (100000 : Int32)) = (7 : Int32)
  · have hf := ifp hc38 hf
    refine lv_tableIn (off := 262) (tgt := 319) F.1 F.2.1 dX4_scriptCommand_57 (by rw [hc38]; decide) (by rw [hc38]; decide) (by rw [hc38]; rfl) rfl ?_
    refine lv_iload_n F.1 F.2.1 dX4_scriptCommand_319 rfl (lv_at hl 4 rfl) ?_
    refine lv_if_ne (tgt := 364) F.1 F.2.1 dX4_scriptCommand_320 rfl (fun hc39 => ?_) (fun hc39 => ?_)
    · have hf := ifn hc39 hf
      refine lv_iconst (v := (0 : Int32)) F.1 F.2.1 dX4_scriptCommand_364 (by decide) ?_
      obtain rfl := Option.some.inj hf
      exact x_zret F hr hlk hP hS rfl (b01_v (v := (0 : Int32)) (Or.inl rfl)) dX4_scriptCommand_365
    · have hf := ifp hc39 hf
      refine lv_iload F.1 F.2.1 dX4_scriptCommand_323 (lv_at hl 3 rfl) ?_
      refine lv_if_ne (tgt := 364) F.1 F.2.1 dX4_scriptCommand_325 rfl (fun hc40 => ?_) (fun hc40 => ?_)
      · have hf := ifn hc40 hf
        refine lv_iconst (v := (0 : Int32)) F.1 F.2.1 dX4_scriptCommand_364 (by decide) ?_
        obtain rfl := Option.some.inj hf
        exact x_zret F hr hlk hP hS rfl (b01_v (v := (0 : Int32)) (Or.inl rfl)) dX4_scriptCommand_365
      · have hf := ifp hc40 hf
        refine lv_aload_n F.1 F.2.1 dX4_scriptCommand_328 rfl (lv_at hl 6 rfl) ?_
        refine gR_X4_trial F hK hP  (fun _ h => List.mem_cons_of_mem _ (List.mem_append_left _ (List.mem_append_left _ (List.mem_append_right _ h)))) (List.mem_of_getElem? (i := 2) rfl) dX4_scriptCommand_329 ?_
        refine lv_iload_n F.1 F.2.1 dX4_scriptCommand_332 rfl (lv_at hl 5 rfl) ?_
        obtain ⟨r41, hr42, hf⟩ := bnd hf
        refine x_callV F hK hG hP hS (o_G (by decide) (c := 0) (by decide)) (kd_G 1 (by decide) 0 (by decide)) (ci := 0) (fun _ => rfl) rfl (c_X0_hasSite (by decide) rfl ((a1 / (10000 : Int32)) - ((a1 / (10000 : Int32)) / (10 : Int32)) * (10 : Int32)) hr42) (cwV 1 F.2.2.2.2 gX4_scriptCommand_X0_hasSite rfl rfl rfl ⟨rfl, hd_X0_hasSite⟩ ⟨(Nat.le_of_ble_eq_true rfl), (Nat.le_of_ble_eq_true rfl)⟩) rfl rfl hl.1 (Nat.le_of_ble_eq_true rfl) dX4_scriptCommand_333 ⟨(Nat.le_of_ble_eq_true rfl), (Nat.le_of_ble_eq_true rfl)⟩ (rest := []) (fun H locs hP hS => ?_)
        refine W.eq (g2 := F0 m 336 ls [.int r41]) rfl ?_
        refine lv_if_eq (tgt := 364) F.1 F.2.1 dX4_scriptCommand_336 rfl (fun hc43 => ?_) (fun hc43 => ?_)
        · have hf := ifp hc43 hf
          refine lv_iconst (v := (0 : Int32)) F.1 F.2.1 dX4_scriptCommand_364 (by decide) ?_
          obtain rfl := Option.some.inj hf
          exact x_zret F hr hlk hP hS rfl (b01_v (v := (0 : Int32)) (Or.inl rfl)) dX4_scriptCommand_365
        · have hf := ifn hc43 hf
          refine lv_aload_n F.1 F.2.1 dX4_scriptCommand_339 rfl (lv_at hl 6 rfl) ?_
          refine gR_X4_trial F hK hP  (fun _ h => List.mem_cons_of_mem _ (List.mem_append_left _ (List.mem_append_left _ (List.mem_append_right _ h)))) (List.mem_of_getElem? (i := 2) rfl) dX4_scriptCommand_340 ?_
          refine gR_X0_sites F hK hP (by decide) (fun _ h => List.mem_cons_of_mem _ (List.mem_append_left _ (List.mem_append_right _ h))) (List.mem_of_getElem? (i := 3) rfl) dX4_scriptCommand_343 ?_
          refine lv_iload_n F.1 F.2.1 dX4_scriptCommand_346 rfl (lv_at hl 5 rfl) ?_
          obtain ⟨hb44, hf⟩ := ifg hf
          refine lA_GA2 F hK hP (by decide) hb44 dX4_scriptCommand_347 ?_
          refine lv_bipush (v := (30 : Int32)) F.1 F.2.1 dX4_scriptCommand_348 (by decide) ?_
          obtain ⟨r45, hr46, hf⟩ := bnd hf
          refine x_callV F hK hG hP hS (o_S (by decide) (oob_lt hb44)) (kd_S 1 (by decide) ((a1 / (10000 : Int32)) - ((a1 / (10000 : Int32)) / (10 : Int32)) * (10 : Int32)).toNatClampNeg (oob_lt hb44)) (ci := 2) (fun _ => rfl) rfl (c_X2_frozenWithin (by decide) (oob_lt hb44) rfl (30 : Int32) hr46) (cwV 1 F.2.2.2.2 gX4_scriptCommand_X2_frozenWithin rfl rfl rfl ⟨rfl, hd_X2_frozenWithin⟩ ⟨(Nat.le_of_ble_eq_true rfl), (Nat.le_of_ble_eq_true rfl)⟩) rfl rfl hl.1 (Nat.le_of_ble_eq_true rfl) dX4_scriptCommand_350 ⟨(Nat.le_of_ble_eq_true rfl), (Nat.le_of_ble_eq_true rfl)⟩ (rest := []) (fun H locs hP hS => ?_)
          refine W.eq (g2 := F0 m 353 ls [.int r45]) rfl ?_
          refine lv_iload_n F.1 F.2.1 dX4_scriptCommand_353 rfl (lv_at hl 7 rfl) ?_
          refine lv_bipush (v := (100 : Int32)) F.1 F.2.1 dX4_scriptCommand_354 (by decide) ?_
          refine lv_irem F.1 F.2.1 dX4_scriptCommand_356 (by decide) ?_
          refine lv_icmp_lt (tgt := 364) F.1 F.2.1 dX4_scriptCommand_357 rfl (fun hc47 => ?_) (fun hc47 => ?_)
          · have hf := ifp hc47 hf
            refine lv_iconst (v := (0 : Int32)) F.1 F.2.1 dX4_scriptCommand_364 (by decide) ?_
            obtain rfl := Option.some.inj hf
            exact x_zret F hr hlk hP hS rfl (b01_v (v := (0 : Int32)) (Or.inl rfl)) dX4_scriptCommand_365
          · have hf := ifn hc47 hf
            refine lv_iconst (v := (1 : Int32)) F.1 F.2.1 dX4_scriptCommand_360 (by decide) ?_
            refine lv_goto (tgt := 365) F.1 F.2.1 dX4_scriptCommand_361 rfl ?_
            obtain rfl := Option.some.inj hf
            exact x_zret F hr hlk hP hS rfl (b01_v (v := (1 : Int32)) (Or.inr rfl)) dX4_scriptCommand_365
  have hf := ifn hc38 hf
  by_cases hc48 : (a1 / (100000 : Int32)) = (8 : Int32)
  · have hf := ifp hc48 hf
    refine lv_tableIn (off := 309) (tgt := 366) F.1 F.2.1 dX4_scriptCommand_57 (by rw [hc48]; decide) (by rw [hc48]; decide) (by rw [hc48]; rfl) rfl ?_
    refine lv_iload_n F.1 F.2.1 dX4_scriptCommand_366 rfl (lv_at hl 4 rfl) ?_
    refine lv_if_ne (tgt := 409) F.1 F.2.1 dX4_scriptCommand_367 rfl (fun hc49 => ?_) (fun hc49 => ?_)
    · have hf := ifn hc49 hf
      refine lv_iconst (v := (0 : Int32)) F.1 F.2.1 dX4_scriptCommand_409 (by decide) ?_
      obtain rfl := Option.some.inj hf
      exact x_zret F hr hlk hP hS rfl (b01_v (v := (0 : Int32)) (Or.inl rfl)) dX4_scriptCommand_410
    · have hf := ifp hc49 hf
      refine lv_iload F.1 F.2.1 dX4_scriptCommand_370 (lv_at hl 0 rfl) ?_
      refine lv_if_ne (tgt := 409) F.1 F.2.1 dX4_scriptCommand_372 rfl (fun hc50 => ?_) (fun hc50 => ?_)
      · have hf := ifn hc50 hf
        refine lv_iconst (v := (0 : Int32)) F.1 F.2.1 dX4_scriptCommand_409 (by decide) ?_
        obtain rfl := Option.some.inj hf
        exact x_zret F hr hlk hP hS rfl (b01_v (v := (0 : Int32)) (Or.inl rfl)) dX4_scriptCommand_410
      · have hf := ifp hc50 hf
        refine lv_aload_n F.1 F.2.1 dX4_scriptCommand_375 rfl (lv_at hl 6 rfl) ?_
        refine gR_X4_trial F hK hP  (fun _ h => List.mem_cons_of_mem _ (List.mem_append_left _ (List.mem_append_left _ (List.mem_append_right _ h)))) (List.mem_of_getElem? (i := 2) rfl) dX4_scriptCommand_376 ?_
        refine lv_iload_n F.1 F.2.1 dX4_scriptCommand_379 rfl (lv_at hl 5 rfl) ?_
        obtain ⟨r51, hr52, hf⟩ := bnd hf
        refine x_callV F hK hG hP hS (o_G (by decide) (c := 0) (by decide)) (kd_G 1 (by decide) 0 (by decide)) (ci := 0) (fun _ => rfl) rfl (c_X0_hasSite (by decide) rfl ((a1 / (10000 : Int32)) - ((a1 / (10000 : Int32)) / (10 : Int32)) * (10 : Int32)) hr52) (cwV 1 F.2.2.2.2 gX4_scriptCommand_X0_hasSite rfl rfl rfl ⟨rfl, hd_X0_hasSite⟩ ⟨(Nat.le_of_ble_eq_true rfl), (Nat.le_of_ble_eq_true rfl)⟩) rfl rfl hl.1 (Nat.le_of_ble_eq_true rfl) dX4_scriptCommand_380 ⟨(Nat.le_of_ble_eq_true rfl), (Nat.le_of_ble_eq_true rfl)⟩ (rest := []) (fun H locs hP hS => ?_)
        refine W.eq (g2 := F0 m 383 ls [.int r51]) rfl ?_
        refine lv_if_eq (tgt := 409) F.1 F.2.1 dX4_scriptCommand_383 rfl (fun hc53 => ?_) (fun hc53 => ?_)
        · have hf := ifp hc53 hf
          refine lv_iconst (v := (0 : Int32)) F.1 F.2.1 dX4_scriptCommand_409 (by decide) ?_
          obtain rfl := Option.some.inj hf
          exact x_zret F hr hlk hP hS rfl (b01_v (v := (0 : Int32)) (Or.inl rfl)) dX4_scriptCommand_410
        · have hf := ifn hc53 hf
          refine lv_aload_n F.1 F.2.1 dX4_scriptCommand_386 rfl (lv_at hl 6 rfl) ?_
          refine gR_X4_trial F hK hP  (fun _ h => List.mem_cons_of_mem _ (List.mem_append_left _ (List.mem_append_left _ (List.mem_append_right _ h)))) (List.mem_of_getElem? (i := 2) rfl) dX4_scriptCommand_387 ?_
          refine gR_X0_sites F hK hP (by decide) (fun _ h => List.mem_cons_of_mem _ (List.mem_append_left _ (List.mem_append_right _ h))) (List.mem_of_getElem? (i := 3) rfl) dX4_scriptCommand_390 ?_
          refine lv_iload_n F.1 F.2.1 dX4_scriptCommand_393 rfl (lv_at hl 5 rfl) ?_
          obtain ⟨hb54, hf⟩ := ifg hf
          refine lA_GA2 F hK hP (by decide) hb54 dX4_scriptCommand_394 ?_
          refine lv_bipush (v := (30 : Int32)) F.1 F.2.1 dX4_scriptCommand_395 (by decide) ?_
          obtain ⟨r55, hr56, hf⟩ := bnd hf
          refine x_callV F hK hG hP hS (o_S (by decide) (oob_lt hb54)) (kd_S 1 (by decide) ((a1 / (10000 : Int32)) - ((a1 / (10000 : Int32)) / (10 : Int32)) * (10 : Int32)).toNatClampNeg (oob_lt hb54)) (ci := 2) (fun _ => rfl) rfl (c_X2_layersWithin (by decide) (oob_lt hb54) rfl (30 : Int32) hr56) (cwV 1 F.2.2.2.2 gX4_scriptCommand_X2_layersWithin rfl rfl rfl ⟨rfl, hd_X2_layersWithin⟩ ⟨(Nat.le_of_ble_eq_true rfl), (Nat.le_of_ble_eq_true rfl)⟩) rfl rfl hl.1 (Nat.le_of_ble_eq_true rfl) dX4_scriptCommand_397 ⟨(Nat.le_of_ble_eq_true rfl), (Nat.le_of_ble_eq_true rfl)⟩ (rest := []) (fun H locs hP hS => ?_)
          refine W.eq (g2 := F0 m 400 ls [.int r55]) rfl ?_
          refine lv_iload F.1 F.2.1 dX4_scriptCommand_400 (lv_at hl 2 rfl) ?_
          refine lv_icmp_ne (tgt := 409) F.1 F.2.1 dX4_scriptCommand_402 rfl (fun hc57 => ?_) (fun hc57 => ?_)
          · have hf := ifn hc57 hf
            refine lv_iconst (v := (0 : Int32)) F.1 F.2.1 dX4_scriptCommand_409 (by decide) ?_
            obtain rfl := Option.some.inj hf
            exact x_zret F hr hlk hP hS rfl (b01_v (v := (0 : Int32)) (Or.inl rfl)) dX4_scriptCommand_410
          · have hf := ifp hc57 hf
            refine lv_iconst (v := (1 : Int32)) F.1 F.2.1 dX4_scriptCommand_405 (by decide) ?_
            refine lv_goto (tgt := 410) F.1 F.2.1 dX4_scriptCommand_406 rfl ?_
            obtain rfl := Option.some.inj hf
            exact x_zret F hr hlk hP hS rfl (b01_v (v := (1 : Int32)) (Or.inr rfl)) dX4_scriptCommand_410
  have hf := ifn hc48 hf
  by_cases hc58 : (a1 / (100000 : Int32)) = (9 : Int32)
  · have hf := ifp hc58 hf
    refine lv_tableIn (off := 354) (tgt := 411) F.1 F.2.1 dX4_scriptCommand_57 (by rw [hc58]; decide) (by rw [hc58]; decide) (by rw [hc58]; rfl) rfl ?_
    refine lv_iload_n F.1 F.2.1 dX4_scriptCommand_411 rfl (lv_at hl 4 rfl) ?_
    refine lv_if_ne (tgt := 447) F.1 F.2.1 dX4_scriptCommand_412 rfl (fun hc59 => ?_) (fun hc59 => ?_)
    · have hf := ifn hc59 hf
      refine lv_iconst (v := (0 : Int32)) F.1 F.2.1 dX4_scriptCommand_447 (by decide) ?_
      obtain rfl := Option.some.inj hf
      exact x_zret F hr hlk hP hS rfl (b01_v (v := (0 : Int32)) (Or.inl rfl)) dX4_scriptCommand_448
    · have hf := ifp hc59 hf
      refine lv_aload_n F.1 F.2.1 dX4_scriptCommand_415 rfl (lv_at hl 6 rfl) ?_
      refine gR_X4_trial F hK hP  (fun _ h => List.mem_cons_of_mem _ (List.mem_append_left _ (List.mem_append_left _ (List.mem_append_right _ h)))) (List.mem_of_getElem? (i := 2) rfl) dX4_scriptCommand_416 ?_
      refine lv_iload_n F.1 F.2.1 dX4_scriptCommand_419 rfl (lv_at hl 5 rfl) ?_
      obtain ⟨r60, hr61, hf⟩ := bnd hf
      refine x_callV F hK hG hP hS (o_G (by decide) (c := 0) (by decide)) (kd_G 1 (by decide) 0 (by decide)) (ci := 0) (fun _ => rfl) rfl (c_X0_hasPipe (by decide) rfl ((a1 / (10000 : Int32)) - ((a1 / (10000 : Int32)) / (10 : Int32)) * (10 : Int32)) hr61) (cwV 1 F.2.2.2.2 gX4_scriptCommand_X0_hasPipe rfl rfl rfl ⟨rfl, hd_X0_hasPipe⟩ ⟨(Nat.le_of_ble_eq_true rfl), (Nat.le_of_ble_eq_true rfl)⟩) rfl rfl hl.1 (Nat.le_of_ble_eq_true rfl) dX4_scriptCommand_420 ⟨(Nat.le_of_ble_eq_true rfl), (Nat.le_of_ble_eq_true rfl)⟩ (rest := []) (fun H locs hP hS => ?_)
      refine W.eq (g2 := F0 m 423 ls [.int r60]) rfl ?_
      refine lv_if_eq (tgt := 447) F.1 F.2.1 dX4_scriptCommand_423 rfl (fun hc62 => ?_) (fun hc62 => ?_)
      · have hf := ifp hc62 hf
        refine lv_iconst (v := (0 : Int32)) F.1 F.2.1 dX4_scriptCommand_447 (by decide) ?_
        obtain rfl := Option.some.inj hf
        exact x_zret F hr hlk hP hS rfl (b01_v (v := (0 : Int32)) (Or.inl rfl)) dX4_scriptCommand_448
      · have hf := ifn hc62 hf
        refine lv_aload_n F.1 F.2.1 dX4_scriptCommand_426 rfl (lv_at hl 6 rfl) ?_
        refine gR_X4_trial F hK hP  (fun _ h => List.mem_cons_of_mem _ (List.mem_append_left _ (List.mem_append_left _ (List.mem_append_right _ h)))) (List.mem_of_getElem? (i := 2) rfl) dX4_scriptCommand_427 ?_
        refine gR_X0_pipeHeave F hK hP (by decide) (fun _ h => List.mem_cons_of_mem _ (List.mem_append_left _ (List.mem_append_right _ h))) (List.mem_of_getElem? (i := 4) rfl) dX4_scriptCommand_430 ?_
        refine lv_iload_n F.1 F.2.1 dX4_scriptCommand_433 rfl (lv_at hl 5 rfl) ?_
        obtain ⟨hb63, hf⟩ := ifg hf
        refine lA_GA7 F hK hP (by decide) rfl hb63 dX4_scriptCommand_434 ?_
        refine lv_iload_n F.1 F.2.1 dX4_scriptCommand_435 rfl (lv_at hl 7 rfl) ?_
        refine lv_sipush (v := (1000 : Int32)) F.1 F.2.1 dX4_scriptCommand_436 (by decide) ?_
        refine lv_irem F.1 F.2.1 dX4_scriptCommand_439 (by decide) ?_
        refine lv_icmp_lt (tgt := 447) F.1 F.2.1 dX4_scriptCommand_440 rfl (fun hc64 => ?_) (fun hc64 => ?_)
        · have hf := ifp hc64 hf
          refine lv_iconst (v := (0 : Int32)) F.1 F.2.1 dX4_scriptCommand_447 (by decide) ?_
          obtain rfl := Option.some.inj hf
          exact x_zret F hr hlk hP hS rfl (b01_v (v := (0 : Int32)) (Or.inl rfl)) dX4_scriptCommand_448
        · have hf := ifn hc64 hf
          refine lv_iconst (v := (1 : Int32)) F.1 F.2.1 dX4_scriptCommand_443 (by decide) ?_
          refine lv_goto (tgt := 448) F.1 F.2.1 dX4_scriptCommand_444 rfl ?_
          obtain rfl := Option.some.inj hf
          exact x_zret F hr hlk hP hS rfl (b01_v (v := (1 : Int32)) (Or.inr rfl)) dX4_scriptCommand_448
  have hf := ifn hc58 hf
  have hc1i := i32_ne hc1
  have hc5i := i32_ne hc5
  have hc10i := i32_ne hc10
  have hc16i := i32_ne hc16
  have hc21i := i32_ne hc21
  have hc27i := i32_ne hc27
  have hc38i := i32_ne hc38
  have hc48i := i32_ne hc48
  have hc58i := i32_ne hc58
  refine lv_tableOut (tgt := 449) F.1 F.2.1 dX4_scriptCommand_57 (by have : ((1 : Int32)).toInt = 1 := rfl; have : ((2 : Int32)).toInt = 2 := rfl; have : ((3 : Int32)).toInt = 3 := rfl; have : ((4 : Int32)).toInt = 4 := rfl; have : ((5 : Int32)).toInt = 5 := rfl; have : ((6 : Int32)).toInt = 6 := rfl; have : ((7 : Int32)).toInt = 7 := rfl; have : ((8 : Int32)).toInt = 8 := rfl; have : ((9 : Int32)).toInt = 9 := rfl; omega) rfl ?_
  refine lv_iconst (v := (0 : Int32)) F.1 F.2.1 dX4_scriptCommand_449 (by decide) ?_
  obtain rfl := Option.some.inj hf
  exact x_zret F hr hlk hP hS rfl (b01_v (v := (0 : Int32)) (Or.inl rfl)) dX4_scriptCommand_450

-- FrostTubes.runScript(IJ)I
def fb_X4_runScript_1 (a1 : Int32) (a2 : Int64) (K : Nat → Mem → Int64 → Int32 → Option (Nat × Int32 × Mem)) (μ : Mem) (v4 : Int64) (v6 : Int32) : Option (Nat × Int32 × Mem) := (if a1 ≤ v6 then (if (lg_cmp a2 (0 : Int64)) < 0 then some (1, 0, μ) else (if (lg_cmp a2 v4) < 0 then ((f_X0_copyFrom (μ 1) (μ 0)).bind fun r6 => (K 2 (va_up μ 1 r6) 0 (0 : Int32))) else some (1, 0, μ))) else (K 1 μ (v4 * (1000000 : Int64)) (v6 + (1 : Int32))))
def fb_X4_runScript_2 (a1 : Int32) (a2 : Int64) (K : Nat → Mem → Int64 → Int32 → Option (Nat × Int32 × Mem)) (μ : Mem) (v4 : Int64) (v6 : Int32) : Option (Nat × Int32 × Mem) := (if a1 ≤ v6 then some (0, (-1 : Int32), μ) else ((f_X4_scriptGroup a1 a2 v6).bind fun r9 => ((f_X4_scriptCommand μ r9).bind fun r11 => (if r11.1 = 0 then some (0, v6, r11.2) else (K 2 r11.2 0 (v6 + (1 : Int32)))))))
def fl_X4_runScript (a1 : Int32) (a2 : Int64) : Nat → Nat → Mem → Int64 → Int32 → Option (Nat × Int32 × Mem)
  | 0, _, _, _, _ => none
  | n + 1, lab, μ, v4, v6 => match lab with
    | 1 => fb_X4_runScript_1 a1 a2 (fl_X4_runScript a1 a2 n) μ v4 v6
    | _ => fb_X4_runScript_2 a1 a2 (fl_X4_runScript a1 a2 n) μ v4 v6
def f_X4_runScript (μ : Mem) (a1 : Int32) (a2 : Int64) : Option (Nat × Int32 × Mem) := ((f_X4_needRange a1 (1 : Int32) (3 : Int32)).bind fun r1 => if r1 = 0 then (fl_X4_runScript a1 a2 FU 1 μ (1 : Int64) (0 : Int32)) else some (r1, 0, μ))
def rmX4_runScript : Room := { frames := 7, cells := 2, slots := 12, locals := 146 }
theorem hd_X4_runScript : yX4_runScript.cls ≠ "java/lang/invoke/MethodHandle" ∧ yX4_runScript.cls ≠ "java/lang/invoke/VarHandle" ∧ (parseMethodDescriptor yX4_runScript.desc).map (fun d => d.parameters.length) = some 2 := by decide +kernel
set_option maxHeartbeats 8000000 in
set_option maxRecDepth 100000 in
theorem c_X4_runScript {l : Launch} (hlt : l.stackTraces = false) {D : va_G} {x : Nat} {μ : Mem} (a1 : Int32) (a2 : Int64) {r : Nat × Int32 × Mem} (hf : f_X4_runScript μ a1 a2 = some r) : TX l yX4_runScript wsX4_runScript rmX4_runScript 2 12 [.ref (x + 0), .int a1, .long a2] D x μ r.1 (some (.int r.2.1)) r.2.2 := by
  refine TX.of (cc := cX4_runScript) (maxL := 7) (ret := (some .int)) pn_X4 rfl (Nat.le_of_ble_eq_true rfl) ?_
  intro p e s m args below meth c F hr hlk hx hK hG
  have KEY : ∀ n : Nat, (∀ (μ : Mem) (v4 : Int64) (v6 : Int32) (ls : Array Slot) (H : Heap) (locs : List Loc), lv_has ls 7 [(0, .ref (x + 0)), (1, .int a1), (2, .long a2), (4, .long v4), (6, .int v6)] → va_P D vwCl (WL D x μ) H → va_S (rng x) s.heap H locs → fl_X4_runScript a1 a2 n 1 μ v4 v6 = some r → W p l e rmX4_runScript s m args below meth c H locs 1 6 (vx_MQ below (QT D x r.2.2 r.1 (some (.int r.2.1))) (XT D x r.2.2 r.1) args s 2 12 (rng x)) (F0 m 12 ls [])) ∧ (∀ (μ : Mem) (v6 : Int32) (ls : Array Slot) (H : Heap) (locs : List Loc), lv_has ls 7 [(0, .ref (x + 0)), (1, .int a1), (2, .long a2), (6, .int v6)] → va_P D vwCl (WL D x μ) H → va_S (rng x) s.heap H locs → fl_X4_runScript a1 a2 n 2 μ 0 v6 = some r → W p l e rmX4_runScript s m args below meth c H locs 1 6 (vx_MQ below (QT D x r.2.2 r.1 (some (.int r.2.1))) (XT D x r.2.2 r.1) args s 2 12 (rng x)) (F0 m 69 ls [])) := by
    intro n
    induction n with
    | zero => exact ⟨(fun _ _ _ _ _ _ _ _ _ h => nomatch h), (fun _ _ _ _ _ _ _ _ h => nomatch h)⟩
    | succ n ih =>
      refine ⟨?_, ?_⟩
      · intro μ v4 v6  ls H locs hl hP hS hf
        have hf : fb_X4_runScript_1 a1 a2 (fl_X4_runScript a1 a2 n) μ v4 v6 = some r := hf
        unfold fb_X4_runScript_1 at hf
        refine lv_iload F.1 F.2.1 dX4_runScript_12 (lv_at hl 4 rfl) ?_
        refine lv_iload_n F.1 F.2.1 dX4_runScript_14 rfl (lv_at hl 1 rfl) ?_
        refine lv_icmp_ge (tgt := 32) F.1 F.2.1 dX4_runScript_15 rfl (fun hc3 => ?_) (fun hc3 => ?_)
        · have hf := ifp hc3 hf
          refine lv_lload_n F.1 F.2.1 dX4_runScript_32 rfl (lv_at hl 2 rfl) ?_
          refine lv_lconst (v := (0 : Int64)) F.1 F.2.1 dX4_runScript_33 rfl ?_
          refine W.lcmp F.1 F.2.1 dX4_runScript_34 ?_
          refine lv_if_lt (tgt := 45) F.1 F.2.1 dX4_runScript_35 rfl (fun hc4 => ?_) (fun hc4 => ?_)
          · have hf := ifp hc4 hf
            obtain rfl := Option.some.inj hf
            exact x_throw1 F hlt hG hP hS hx hlk rfl (List.mem_of_getElem? (i := 1) rfl) (List.mem_of_getElem? (i := 2) rfl) (fun _ h => List.mem_cons_of_mem _ (List.mem_append_right _ h)) (is := 204) (text := "not a script of so many commands") (List.mem_of_getElem? (i := 12) rfl) hl.1 dX4_runScript_45 dX4_runScript_48 dX4_runScript_49 dX4_runScript_51 dX4_runScript_54 (Nat.le_of_ble_eq_true rfl) (Nat.le_of_ble_eq_true rfl) (Nat.le_of_ble_eq_true rfl) (Nat.le_of_ble_eq_true rfl) (Nat.le_of_ble_eq_true rfl) (Nat.le_of_ble_eq_true rfl)
          · have hf := ifn hc4 hf
            refine lv_lload_n F.1 F.2.1 dX4_runScript_38 rfl (lv_at hl 2 rfl) ?_
            refine lv_lload F.1 F.2.1 dX4_runScript_39 (lv_at hl 3 rfl) ?_
            refine W.lcmp F.1 F.2.1 dX4_runScript_41 ?_
            refine lv_if_lt (tgt := 55) F.1 F.2.1 dX4_runScript_42 rfl (fun hc5 => ?_) (fun hc5 => ?_)
            · have hf := ifp hc5 hf
              refine lv_aload_n F.1 F.2.1 dX4_runScript_55 rfl (lv_at hl 0 rfl) ?_
              refine gR_X4_trial F hK hP  (fun _ h => List.mem_cons_of_mem _ (List.mem_append_left _ (List.mem_append_left _ (List.mem_append_left _ (List.mem_append_right _ h))))) (List.mem_of_getElem? (i := 4) rfl) dX4_runScript_56 ?_
              refine lv_aload_n F.1 F.2.1 dX4_runScript_59 rfl (lv_at hl 0 rfl) ?_
              refine gR_X4_now F hK hP  (fun _ h => List.mem_cons_of_mem _ (List.mem_append_left _ (List.mem_append_left _ (List.mem_append_left _ (List.mem_append_right _ h))))) (List.mem_of_getElem? (i := 5) rfl) dX4_runScript_60 ?_
              obtain ⟨r6, hr7, hf⟩ := bnd hf
              have hP := x_up 1 hP
              refine x_callV F hK hG hP hS (o_G (by decide) (c := 0) (by decide)) (kd_G 1 (by decide) 0 (by decide)) (ci := 0) (fun _ => rfl) rfl (c_X0_copyFrom (by decide) (by decide) (by decide) rfl hr7) (cwV 1 F.2.2.2.2 gX4_runScript_X0_copyFrom rfl rfl rfl ⟨rfl, hd_X0_copyFrom⟩ ⟨(Nat.le_of_ble_eq_true rfl), (Nat.le_of_ble_eq_true rfl)⟩) rfl rfl hl.1 (Nat.le_of_ble_eq_true rfl) dX4_runScript_63 ⟨(Nat.le_of_ble_eq_true rfl), (Nat.le_of_ble_eq_true rfl)⟩ (rest := []) (fun H locs hP hS => ?_)
              refine W.eq (g2 := F0 m 66 ls []) rfl ?_
              refine lv_iconst (v := (0 : Int32)) F.1 F.2.1 dX4_runScript_66 (by decide) ?_
              refine lv_istore F.1 F.2.1 dX4_runScript_67 hl (Nat.le_of_ble_eq_true rfl) rfl (fun ls hl => ?_)
              have hl : lv_has ls 7 [(6, .int (0 : Int32)), (0, .ref (x + 0)), (1, .int a1), (2, .long a2), (4, .long v4)] := hl
              exact ih.2 (va_up μ 1 r6) (0 : Int32) _ _ _ (lv_sub hl [1, 2, 3, 0] rfl) hP hS hf
            · have hf := ifn hc5 hf
              obtain rfl := Option.some.inj hf
              exact x_throw1 F hlt hG hP hS hx hlk rfl (List.mem_of_getElem? (i := 1) rfl) (List.mem_of_getElem? (i := 2) rfl) (fun _ h => List.mem_cons_of_mem _ (List.mem_append_right _ h)) (is := 204) (text := "not a script of so many commands") (List.mem_of_getElem? (i := 12) rfl) hl.1 dX4_runScript_45 dX4_runScript_48 dX4_runScript_49 dX4_runScript_51 dX4_runScript_54 (Nat.le_of_ble_eq_true rfl) (Nat.le_of_ble_eq_true rfl) (Nat.le_of_ble_eq_true rfl) (Nat.le_of_ble_eq_true rfl) (Nat.le_of_ble_eq_true rfl) (Nat.le_of_ble_eq_true rfl)
        · have hf := ifn hc3 hf
          refine lv_lload F.1 F.2.1 dX4_runScript_18 (lv_at hl 3 rfl) ?_
          refine lv_ldc2 (v := (1000000 : Int64)) F.1 F.2.1 F.2.2.2.1 (F.2.2.2.2 _ (List.mem_of_getElem? (i := 3) rfl)) dX4_runScript_20 ?_
          refine lv_lmul F.1 F.2.1 dX4_runScript_23 ?_
          refine lv_lstore F.1 F.2.1 dX4_runScript_24 hl (Nat.le_of_ble_eq_true rfl) rfl (fun ls hl => ?_)
          have hl : lv_has ls 7 [(4, .long (v4 * (1000000 : Int64))), (0, .ref (x + 0)), (1, .int a1), (2, .long a2), (6, .int v6)] := hl
          refine lv_iinc (v := (v6 + (1 : Int32))) F.1 F.2.1 dX4_runScript_26 hl (k := 4) rfl rfl (Nat.le_of_ble_eq_true rfl) rfl (fun ls hl => ?_)
          have hl : lv_has ls 7 [(6, .int (v6 + (1 : Int32))), (4, .long (v4 * (1000000 : Int64))), (0, .ref (x + 0)), (1, .int a1), (2, .long a2)] := hl
          refine lv_goto (tgt := 12) F.1 F.2.1 dX4_runScript_29 rfl ?_
          exact ih.1 μ (v4 * (1000000 : Int64)) (v6 + (1 : Int32)) _ _ _ (lv_sub hl [2, 3, 4, 1, 0] rfl) hP hS hf
      · intro μ v6  ls H locs hl hP hS hf
        have hf : fb_X4_runScript_2 a1 a2 (fl_X4_runScript a1 a2 n) μ 0 v6 = some r := hf
        unfold fb_X4_runScript_2 at hf
        refine lv_iload F.1 F.2.1 dX4_runScript_69 (lv_at hl 3 rfl) ?_
        refine lv_iload_n F.1 F.2.1 dX4_runScript_71 rfl (lv_at hl 1 rfl) ?_
        refine lv_icmp_ge (tgt := 98) F.1 F.2.1 dX4_runScript_72 rfl (fun hc8 => ?_) (fun hc8 => ?_)
        · have hf := ifp hc8 hf
          refine lv_iconst (v := (-1 : Int32)) F.1 F.2.1 dX4_runScript_98 (by decide) ?_
          obtain rfl := Option.some.inj hf
          exact x_iretT F hr hlk hP hS rfl (Nat.le_of_ble_eq_true rfl) (Nat.le_of_ble_eq_true rfl) dX4_runScript_99
        · have hf := ifn hc8 hf
          refine lv_aload_n F.1 F.2.1 dX4_runScript_75 rfl (lv_at hl 0 rfl) ?_
          refine lv_iload_n F.1 F.2.1 dX4_runScript_76 rfl (lv_at hl 1 rfl) ?_
          refine lv_lload_n F.1 F.2.1 dX4_runScript_77 rfl (lv_at hl 2 rfl) ?_
          refine lv_iload F.1 F.2.1 dX4_runScript_78 (lv_at hl 3 rfl) ?_
          obtain ⟨r9, hr10, hf⟩ := bnd hf
          refine x_callS F hK hG hP hS (c_X4_scriptGroup a1 a2 v6 hr10) (va_cwS 3 F.2.2.2.2 gX4_runScript_X4_scriptGroup rfl rfl rfl hd_X4_scriptGroup ⟨(Nat.le_of_ble_eq_true rfl), (Nat.le_of_ble_eq_true rfl)⟩) rfl rfl hl.1 (Nat.le_of_ble_eq_true rfl) dX4_runScript_80 ⟨(Nat.le_of_ble_eq_true rfl), (Nat.le_of_ble_eq_true rfl)⟩ (rest := [.ref (x + 0)]) (fun H locs hP hS => ?_)
          refine W.eq (g2 := F0 m 83 ls [.int r9, .ref (x + 0)]) rfl ?_
          obtain ⟨r11, hr12, hf⟩ := bnd hf
          refine x_callV F hK hG hP hS (o := 0) (by decide) (q := (0, 0, 0)) rfl (ci := 4) (fun _ => rfl) rfl (c_X4_scriptCommand r9 hr12) (cwV 1 F.2.2.2.2 gX4_runScript_X4_scriptCommand rfl rfl rfl ⟨rfl, hd_X4_scriptCommand⟩ ⟨(Nat.le_of_ble_eq_true rfl), (Nat.le_of_ble_eq_true rfl)⟩) rfl rfl hl.1 (Nat.le_of_ble_eq_true rfl) dX4_runScript_83 ⟨(Nat.le_of_ble_eq_true rfl), (Nat.le_of_ble_eq_true rfl)⟩ (rest := []) (fun H locs hP hS => ?_)
          refine W.eq (g2 := F0 m 86 ls [.int r11.1]) rfl ?_
          refine lv_if_ne (tgt := 92) F.1 F.2.1 dX4_runScript_86 rfl (fun hc13 => ?_) (fun hc13 => ?_)
          · have hf := ifn hc13 hf
            refine lv_iinc (v := (v6 + (1 : Int32))) F.1 F.2.1 dX4_runScript_92 hl (k := 3) rfl rfl (Nat.le_of_ble_eq_true rfl) rfl (fun ls hl => ?_)
            have hl : lv_has ls 7 [(6, .int (v6 + (1 : Int32))), (0, .ref (x + 0)), (1, .int a1), (2, .long a2)] := hl
            refine lv_goto (tgt := 69) F.1 F.2.1 dX4_runScript_95 rfl ?_
            exact ih.2 r11.2 (v6 + (1 : Int32)) _ _ _ (lv_sub hl [1, 2, 3, 0] rfl) hP hS hf
          · have hf := ifp hc13 hf
            refine lv_iload F.1 F.2.1 dX4_runScript_89 (lv_at hl 3 rfl) ?_
            obtain rfl := Option.some.inj hf
            exact x_iretT F hr hlk hP hS rfl (Nat.le_of_ble_eq_true rfl) (Nat.le_of_ble_eq_true rfl) dX4_runScript_91
  intro ls H locs hl hP hS
  have hl : lv_has ls 7 [(0, .ref (x + 0)), (1, .int a1), (2, .long a2)] := hl
  unfold f_X4_runScript at hf
  refine lv_iload_n F.1 F.2.1 dX4_runScript_0 rfl (lv_at hl 1 rfl) ?_
  refine lv_iconst (v := (1 : Int32)) F.1 F.2.1 dX4_runScript_1 (by decide) ?_
  refine lv_iconst (v := (3 : Int32)) F.1 F.2.1 dX4_runScript_2 (by decide) ?_
  obtain ⟨r1, hr2, hf⟩ := bnd hf
  refine x_callST F hK hG hP hS hx hlk (c_X4_needRange hlt a1 (1 : Int32) (3 : Int32) hr2) (va_cwS 3 F.2.2.2.2 gX4_runScript_X4_needRange rfl rfl rfl hd_X4_needRange ⟨(Nat.le_of_ble_eq_true rfl), (Nat.le_of_ble_eq_true rfl)⟩) rfl rfl hl.1 (Nat.le_of_ble_eq_true rfl) dX4_runScript_3 ⟨(Nat.le_of_ble_eq_true rfl), (Nat.le_of_ble_eq_true rfl)⟩ (Nat.le_of_ble_eq_true rfl) (Nat.le_of_ble_eq_true rfl) (fun hk => by have hf := ifn hk hf; obtain rfl := Option.some.inj hf; exact ⟨rfl, rfl⟩) (rest := []) (fun hk H locs hP hS => ?_)
  have hf := ifp hk hf
  refine W.eq (g2 := F0 m 6 ls []) rfl ?_
  refine lv_lconst (v := (1 : Int64)) F.1 F.2.1 dX4_runScript_6 rfl ?_
  refine lv_lstore F.1 F.2.1 dX4_runScript_7 hl (Nat.le_of_ble_eq_true rfl) rfl (fun ls hl => ?_)
  have hl : lv_has ls 7 [(4, .long (1 : Int64)), (0, .ref (x + 0)), (1, .int a1), (2, .long a2)] := hl
  refine lv_iconst (v := (0 : Int32)) F.1 F.2.1 dX4_runScript_9 (by decide) ?_
  refine lv_istore F.1 F.2.1 dX4_runScript_10 hl (Nat.le_of_ble_eq_true rfl) rfl (fun ls hl => ?_)
  have hl : lv_has ls 7 [(6, .int (0 : Int32)), (4, .long (1 : Int64)), (0, .ref (x + 0)), (1, .int a1), (2, .long a2)] := hl
  exact (KEY FU).1 μ (1 : Int64) (0 : Int32) _ _ _ (lv_sub hl [2, 3, 4, 1, 0] rfl) hP hS hf

-- FrostTubes.simulatedTurn(I)V
def fb_X4_simulatedTurn_1 (a1 : Int32) (K : Mem → Int32 → Option (Mem)) (μ : Mem) (v2 : Int32) : Option (Mem) := ((f_X0_perform (μ 1) (100 : Int32) (-(v2 - (v2 / (31 : Int32)) * (31 : Int32))) ((v2 / (32 : Int32)) - ((v2 / (32 : Int32)) / (4 : Int32)) * (4 : Int32)) ((1 : Int32) + ((v2 / (128 : Int32)) - ((v2 / (128 : Int32)) / (6 : Int32)) * (6 : Int32)))).bind fun r29 => some (va_up μ 1 r29.2))
def fl_X4_simulatedTurn (a1 : Int32) : Nat → Mem → Int32 → Option (Mem)
  | 0, _, _ => none
  | n + 1, μ, v2 => fb_X4_simulatedTurn_1 a1 (fl_X4_simulatedTurn a1 n) μ v2
def f_X4_simulatedTurn (μ : Mem) (a1 : Int32) : Option (Mem) := (if (a1 - (a1 / (16 : Int32)) * (16 : Int32)) = (0 : Int32) then ((f_X0_perform (μ 1) (115 : Int32) (0 : Int32) (0 : Int32) (0 : Int32)).bind fun r2 => some (va_up μ 1 r2.2)) else (if (a1 - (a1 / (16 : Int32)) * (16 : Int32)) = (1 : Int32) then ((f_X0_perform (μ 1) (116 : Int32) ((a1 / (16 : Int32)) - ((a1 / (16 : Int32)) / (4 : Int32)) * (4 : Int32)) ((1 : Int32) + (((a1 / (16 : Int32)) / (4 : Int32)) - (((a1 / (16 : Int32)) / (4 : Int32)) / (30 : Int32)) * (30 : Int32))) (0 : Int32)).bind fun r5 => some (va_up μ 1 r5.2)) else (if (a1 - (a1 / (16 : Int32)) * (16 : Int32)) = (2 : Int32) then ((f_X0_perform (μ 1) (112 : Int32) ((a1 / (16 : Int32)) - ((a1 / (16 : Int32)) / (4 : Int32)) * (4 : Int32)) (((a1 / (16 : Int32)) / (4 : Int32)) - (((a1 / (16 : Int32)) / (4 : Int32)) / (30 : Int32)) * (30 : Int32)) (0 : Int32)).bind fun r8 => some (va_up μ 1 r8.2)) else (if (a1 - (a1 / (16 : Int32)) * (16 : Int32)) = (3 : Int32) then ((f_X0_perform (μ 1) (102 : Int32) ((a1 / (16 : Int32)) - ((a1 / (16 : Int32)) / (4 : Int32)) * (4 : Int32)) (((a1 / (16 : Int32)) / (4 : Int32)) - (((a1 / (16 : Int32)) / (4 : Int32)) / (21 : Int32)) * (21 : Int32)) (0 : Int32)).bind fun r11 => some (va_up μ 1 r11.2)) else (if (a1 - (a1 / (16 : Int32)) * (16 : Int32)) = (4 : Int32) then ((f_X0_perform (μ 1) (120 : Int32) ((a1 / (16 : Int32)) - ((a1 / (16 : Int32)) / (4 : Int32)) * (4 : Int32)) (0 : Int32) (0 : Int32)).bind fun r14 => some (va_up μ 1 r14.2)) else (if (a1 - (a1 / (16 : Int32)) * (16 : Int32)) = (5 : Int32) then ((f_X0_perform (μ 1) (101 : Int32) ((a1 / (16 : Int32)) - ((a1 / (16 : Int32)) / (3 : Int32)) * (3 : Int32)) (((a1 / (16 : Int32)) / (4 : Int32)) - (((a1 / (16 : Int32)) / (4 : Int32)) / (31 : Int32)) * (31 : Int32)) (0 : Int32)).bind fun r17 => some (va_up μ 1 r17.2)) else (if (a1 - (a1 / (16 : Int32)) * (16 : Int32)) = (6 : Int32) then ((f_X0_perform (μ 1) (119 : Int32) (0 : Int32) (0 : Int32) (0 : Int32)).bind fun r20 => some (va_up μ 1 r20.2)) else (if (a1 - (a1 / (16 : Int32)) * (16 : Int32)) = (7 : Int32) then (fl_X4_simulatedTurn a1 FU μ (a1 / (16 : Int32))) else (if (a1 - (a1 / (16 : Int32)) * (16 : Int32)) = (8 : Int32) then (fl_X4_simulatedTurn a1 FU μ (a1 / (16 : Int32))) else (if (a1 - (a1 / (16 : Int32)) * (16 : Int32)) = (9 : Int32) then (fl_X4_simulatedTurn a1 FU μ (a1 / (16 : Int32))) else (if (a1 - (a1 / (16 : Int32)) * (16 : Int32)) = (10 : Int32) then (fl_X4_simulatedTurn a1 FU μ (a1 / (16 : Int32))) else (if (a1 - (a1 / (16 : Int32)) * (16 : Int32)) = (11 : Int32) then (fl_X4_simulatedTurn a1 FU μ (a1 / (16 : Int32))) else ((f_X0_perform (μ 1) (100 : Int32) ((a1 / (16 : Int32)) - ((a1 / (16 : Int32)) / (16 : Int32)) * (16 : Int32)) (0 : Int32) ((1 : Int32) + (((a1 / (16 : Int32)) / (16 : Int32)) - (((a1 / (16 : Int32)) / (16 : Int32)) / (4 : Int32)) * (4 : Int32)))).bind fun r27 => some (va_up μ 1 r27.2))))))))))))))
def rmX4_simulatedTurn : Room := { frames := 5, cells := 0, slots := 0, locals := 119 }
theorem hd_X4_simulatedTurn : yX4_simulatedTurn.cls ≠ "java/lang/invoke/MethodHandle" ∧ yX4_simulatedTurn.cls ≠ "java/lang/invoke/VarHandle" ∧ (parseMethodDescriptor yX4_simulatedTurn.desc).map (fun d => d.parameters.length) = some 1 := by decide +kernel
set_option maxHeartbeats 8000000 in
set_option maxRecDepth 100000 in
theorem c_X4_simulatedTurn {l : Launch} {D : va_G} {x : Nat} {μ : Mem} (a1 : Int32) {r : Mem} (hf : f_X4_simulatedTurn μ a1 = some r) : CX l yX4_simulatedTurn wsX4_simulatedTurn rmX4_simulatedTurn [.ref (x + 0), .int a1] D x μ (none) r := by
  refine CX.of (cc := cX4_simulatedTurn) (maxL := 3) (ret := none) pn_X4 rfl (Nat.le_of_ble_eq_true rfl) ?_
  intro p e s m args below meth c F hr hlk hK hG
  have KEY : ∀ n : Nat, (∀ (μ : Mem) (v2 : Int32) (ls : Array Slot) (H : Heap) (locs : List Loc), lv_has ls 3 [(0, .ref (x + 0)), (2, .int v2)] → va_P D vwCl (WL D x μ) H → va_S (rng x) s.heap H locs → fl_X4_simulatedTurn a1 n μ v2 = some r → W p l e rmX4_simulatedTurn s m args below meth c H locs 0 0 (MQ below (QX D x r (none)) args s 0 0 (rng x)) (F0 m 216 ls [])) := by
    intro n
    induction n with
    | zero => exact (fun _ _ _ _ _ _ _ _ h => nomatch h)
    | succ n ih =>
      skip
      intro μ v2  ls H locs hl hP hS hf
      have hf : fb_X4_simulatedTurn_1 a1 (fl_X4_simulatedTurn a1 n) μ v2 = some r := hf
      unfold fb_X4_simulatedTurn_1 at hf
      refine lv_aload_n F.1 F.2.1 dX4_simulatedTurn_216 rfl (lv_at hl 0 rfl) ?_
      refine gR_X4_trial F hK hP  (fun _ h => List.mem_cons_of_mem _ (List.mem_append_left _ (List.mem_append_left _ (List.mem_append_right _ h)))) (List.mem_of_getElem? (i := 1) rfl) dX4_simulatedTurn_217 ?_
      refine lv_bipush (v := (100 : Int32)) F.1 F.2.1 dX4_simulatedTurn_220 (by decide) ?_
      refine lv_iload_n F.1 F.2.1 dX4_simulatedTurn_222 rfl (lv_at hl 1 rfl) ?_
      refine lv_bipush (v := (31 : Int32)) F.1 F.2.1 dX4_simulatedTurn_223 (by decide) ?_
      refine lv_irem F.1 F.2.1 dX4_simulatedTurn_225 (by decide) ?_
      refine lv_ineg F.1 F.2.1 dX4_simulatedTurn_226 ?_
      refine lv_iload_n F.1 F.2.1 dX4_simulatedTurn_227 rfl (lv_at hl 1 rfl) ?_
      refine lv_bipush (v := (32 : Int32)) F.1 F.2.1 dX4_simulatedTurn_228 (by decide) ?_
      refine lv_idiv F.1 F.2.1 dX4_simulatedTurn_230 (by decide) ?_
      refine lv_iconst (v := (4 : Int32)) F.1 F.2.1 dX4_simulatedTurn_231 (by decide) ?_
      refine lv_irem F.1 F.2.1 dX4_simulatedTurn_232 (by decide) ?_
      refine lv_iconst (v := (1 : Int32)) F.1 F.2.1 dX4_simulatedTurn_233 (by decide) ?_
      refine lv_iload_n F.1 F.2.1 dX4_simulatedTurn_234 rfl (lv_at hl 1 rfl) ?_
      refine lv_sipush (v := (128 : Int32)) F.1 F.2.1 dX4_simulatedTurn_235 (by decide) ?_
      refine lv_idiv F.1 F.2.1 dX4_simulatedTurn_238 (by decide) ?_
      refine lv_bipush (v := (6 : Int32)) F.1 F.2.1 dX4_simulatedTurn_239 (by decide) ?_
      refine lv_irem F.1 F.2.1 dX4_simulatedTurn_241 (by decide) ?_
      refine lv_iadd F.1 F.2.1 dX4_simulatedTurn_242 ?_
      obtain ⟨r29, hr30, hf⟩ := bnd hf
      have hP := x_up 1 hP
      refine x_callV F hK hG hP hS (o_G (by decide) (c := 0) (by decide)) (kd_G 1 (by decide) 0 (by decide)) (ci := 0) (fun _ => rfl) rfl (c_X0_perform (by decide) (100 : Int32) (-(v2 - (v2 / (31 : Int32)) * (31 : Int32))) ((v2 / (32 : Int32)) - ((v2 / (32 : Int32)) / (4 : Int32)) * (4 : Int32)) ((1 : Int32) + ((v2 / (128 : Int32)) - ((v2 / (128 : Int32)) / (6 : Int32)) * (6 : Int32))) hr30) (cwV 4 F.2.2.2.2 gX4_simulatedTurn_X0_perform rfl rfl rfl ⟨rfl, hd_X0_perform⟩ ⟨(Nat.le_of_ble_eq_true rfl), (Nat.le_of_ble_eq_true rfl)⟩) rfl rfl hl.1 (Nat.le_of_ble_eq_true rfl) dX4_simulatedTurn_243 ⟨(Nat.le_of_ble_eq_true rfl), (Nat.le_of_ble_eq_true rfl)⟩ (rest := []) (fun H locs hP hS => ?_)
      refine W.eq (g2 := F0 m 246 ls [.int r29.1]) rfl ?_
      refine lv_pop F.1 F.2.1 dX4_simulatedTurn_246 rfl ?_
      refine lv_goto (tgt := 273) F.1 F.2.1 dX4_simulatedTurn_247 rfl ?_
      obtain rfl := Option.some.inj hf
      exact x_vret F hr hlk hP hS rfl dX4_simulatedTurn_273
  intro ls H locs hl hP hS
  have hl : lv_has ls 3 [(0, .ref (x + 0)), (1, .int a1)] := hl
  unfold f_X4_simulatedTurn at hf
  refine lv_iload_n F.1 F.2.1 dX4_simulatedTurn_0 rfl (lv_at hl 1 rfl) ?_
  refine lv_bipush (v := (16 : Int32)) F.1 F.2.1 dX4_simulatedTurn_1 (by decide) ?_
  refine lv_idiv F.1 F.2.1 dX4_simulatedTurn_3 (by decide) ?_
  refine lv_istore_n F.1 F.2.1 dX4_simulatedTurn_4 rfl hl (Nat.le_of_ble_eq_true rfl) rfl (fun ls hl => ?_)
  have hl : lv_has ls 3 [(2, .int (a1 / (16 : Int32))), (0, .ref (x + 0)), (1, .int a1)] := hl
  refine lv_iload_n F.1 F.2.1 dX4_simulatedTurn_5 rfl (lv_at hl 2 rfl) ?_
  refine lv_bipush (v := (16 : Int32)) F.1 F.2.1 dX4_simulatedTurn_6 (by decide) ?_
  refine lv_irem F.1 F.2.1 dX4_simulatedTurn_8 (by decide) ?_
  by_cases hc1 : (a1 - (a1 / (16 : Int32)) * (16 : Int32)) = (0 : Int32)
  · have hf := ifp hc1 hf
    refine lv_tableIn (off := 63) (tgt := 72) F.1 F.2.1 dX4_simulatedTurn_9 (by rw [hc1]; decide) (by rw [hc1]; decide) (by rw [hc1]; rfl) rfl ?_
    refine lv_aload_n F.1 F.2.1 dX4_simulatedTurn_72 rfl (lv_at hl 1 rfl) ?_
    refine gR_X4_trial F hK hP  (fun _ h => List.mem_cons_of_mem _ (List.mem_append_left _ (List.mem_append_left _ (List.mem_append_right _ h)))) (List.mem_of_getElem? (i := 1) rfl) dX4_simulatedTurn_73 ?_
    refine lv_bipush (v := (115 : Int32)) F.1 F.2.1 dX4_simulatedTurn_76 (by decide) ?_
    refine lv_iconst (v := (0 : Int32)) F.1 F.2.1 dX4_simulatedTurn_78 (by decide) ?_
    refine lv_iconst (v := (0 : Int32)) F.1 F.2.1 dX4_simulatedTurn_79 (by decide) ?_
    refine lv_iconst (v := (0 : Int32)) F.1 F.2.1 dX4_simulatedTurn_80 (by decide) ?_
    obtain ⟨r2, hr3, hf⟩ := bnd hf
    have hP := x_up 1 hP
    refine x_callV F hK hG hP hS (o_G (by decide) (c := 0) (by decide)) (kd_G 1 (by decide) 0 (by decide)) (ci := 0) (fun _ => rfl) rfl (c_X0_perform (by decide) (115 : Int32) (0 : Int32) (0 : Int32) (0 : Int32) hr3) (cwV 4 F.2.2.2.2 gX4_simulatedTurn_X0_perform rfl rfl rfl ⟨rfl, hd_X0_perform⟩ ⟨(Nat.le_of_ble_eq_true rfl), (Nat.le_of_ble_eq_true rfl)⟩) rfl rfl hl.1 (Nat.le_of_ble_eq_true rfl) dX4_simulatedTurn_81 ⟨(Nat.le_of_ble_eq_true rfl), (Nat.le_of_ble_eq_true rfl)⟩ (rest := []) (fun H locs hP hS => ?_)
    refine W.eq (g2 := F0 m 84 ls [.int r2.1]) rfl ?_
    refine lv_pop F.1 F.2.1 dX4_simulatedTurn_84 rfl ?_
    refine lv_goto (tgt := 273) F.1 F.2.1 dX4_simulatedTurn_85 rfl ?_
    obtain rfl := Option.some.inj hf
    exact x_vret F hr hlk hP hS rfl dX4_simulatedTurn_273
  have hf := ifn hc1 hf
  by_cases hc4 : (a1 - (a1 / (16 : Int32)) * (16 : Int32)) = (1 : Int32)
  · have hf := ifp hc4 hf
    refine lv_tableIn (off := 79) (tgt := 88) F.1 F.2.1 dX4_simulatedTurn_9 (by rw [hc4]; decide) (by rw [hc4]; decide) (by rw [hc4]; rfl) rfl ?_
    refine lv_aload_n F.1 F.2.1 dX4_simulatedTurn_88 rfl (lv_at hl 1 rfl) ?_
    refine gR_X4_trial F hK hP  (fun _ h => List.mem_cons_of_mem _ (List.mem_append_left _ (List.mem_append_left _ (List.mem_append_right _ h)))) (List.mem_of_getElem? (i := 1) rfl) dX4_simulatedTurn_89 ?_
    refine lv_bipush (v := (116 : Int32)) F.1 F.2.1 dX4_simulatedTurn_92 (by decide) ?_
    refine lv_iload_n F.1 F.2.1 dX4_simulatedTurn_94 rfl (lv_at hl 0 rfl) ?_
    refine lv_iconst (v := (4 : Int32)) F.1 F.2.1 dX4_simulatedTurn_95 (by decide) ?_
    refine lv_irem F.1 F.2.1 dX4_simulatedTurn_96 (by decide) ?_
    refine lv_iconst (v := (1 : Int32)) F.1 F.2.1 dX4_simulatedTurn_97 (by decide) ?_
    refine lv_iload_n F.1 F.2.1 dX4_simulatedTurn_98 rfl (lv_at hl 0 rfl) ?_
    refine lv_iconst (v := (4 : Int32)) F.1 F.2.1 dX4_simulatedTurn_99 (by decide) ?_
    refine lv_idiv F.1 F.2.1 dX4_simulatedTurn_100 (by decide) ?_
    refine lv_bipush (v := (30 : Int32)) F.1 F.2.1 dX4_simulatedTurn_101 (by decide) ?_
    refine lv_irem F.1 F.2.1 dX4_simulatedTurn_103 (by decide) ?_
    refine lv_iadd F.1 F.2.1 dX4_simulatedTurn_104 ?_
    refine lv_iconst (v := (0 : Int32)) F.1 F.2.1 dX4_simulatedTurn_105 (by decide) ?_
    obtain ⟨r5, hr6, hf⟩ := bnd hf
    have hP := x_up 1 hP
    refine x_callV F hK hG hP hS (o_G (by decide) (c := 0) (by decide)) (kd_G 1 (by decide) 0 (by decide)) (ci := 0) (fun _ => rfl) rfl (c_X0_perform (by decide) (116 : Int32) ((a1 / (16 : Int32)) - ((a1 / (16 : Int32)) / (4 : Int32)) * (4 : Int32)) ((1 : Int32) + (((a1 / (16 : Int32)) / (4 : Int32)) - (((a1 / (16 : Int32)) / (4 : Int32)) / (30 : Int32)) * (30 : Int32))) (0 : Int32) hr6) (cwV 4 F.2.2.2.2 gX4_simulatedTurn_X0_perform rfl rfl rfl ⟨rfl, hd_X0_perform⟩ ⟨(Nat.le_of_ble_eq_true rfl), (Nat.le_of_ble_eq_true rfl)⟩) rfl rfl hl.1 (Nat.le_of_ble_eq_true rfl) dX4_simulatedTurn_106 ⟨(Nat.le_of_ble_eq_true rfl), (Nat.le_of_ble_eq_true rfl)⟩ (rest := []) (fun H locs hP hS => ?_)
    refine W.eq (g2 := F0 m 109 ls [.int r5.1]) rfl ?_
    refine lv_pop F.1 F.2.1 dX4_simulatedTurn_109 rfl ?_
    refine lv_goto (tgt := 273) F.1 F.2.1 dX4_simulatedTurn_110 rfl ?_
    obtain rfl := Option.some.inj hf
    exact x_vret F hr hlk hP hS rfl dX4_simulatedTurn_273
  have hf := ifn hc4 hf
  by_cases hc7 : (a1 - (a1 / (16 : Int32)) * (16 : Int32)) = (2 : Int32)
  · have hf := ifp hc7 hf
    refine lv_tableIn (off := 104) (tgt := 113) F.1 F.2.1 dX4_simulatedTurn_9 (by rw [hc7]; decide) (by rw [hc7]; decide) (by rw [hc7]; rfl) rfl ?_
    refine lv_aload_n F.1 F.2.1 dX4_simulatedTurn_113 rfl (lv_at hl 1 rfl) ?_
    refine gR_X4_trial F hK hP  (fun _ h => List.mem_cons_of_mem _ (List.mem_append_left _ (List.mem_append_left _ (List.mem_append_right _ h)))) (List.mem_of_getElem? (i := 1) rfl) dX4_simulatedTurn_114 ?_
    refine lv_bipush (v := (112 : Int32)) F.1 F.2.1 dX4_simulatedTurn_117 (by decide) ?_
    refine lv_iload_n F.1 F.2.1 dX4_simulatedTurn_119 rfl (lv_at hl 0 rfl) ?_
    refine lv_iconst (v := (4 : Int32)) F.1 F.2.1 dX4_simulatedTurn_120 (by decide) ?_
    refine lv_irem F.1 F.2.1 dX4_simulatedTurn_121 (by decide) ?_
    refine lv_iload_n F.1 F.2.1 dX4_simulatedTurn_122 rfl (lv_at hl 0 rfl) ?_
    refine lv_iconst (v := (4 : Int32)) F.1 F.2.1 dX4_simulatedTurn_123 (by decide) ?_
    refine lv_idiv F.1 F.2.1 dX4_simulatedTurn_124 (by decide) ?_
    refine lv_bipush (v := (30 : Int32)) F.1 F.2.1 dX4_simulatedTurn_125 (by decide) ?_
    refine lv_irem F.1 F.2.1 dX4_simulatedTurn_127 (by decide) ?_
    refine lv_iconst (v := (0 : Int32)) F.1 F.2.1 dX4_simulatedTurn_128 (by decide) ?_
    obtain ⟨r8, hr9, hf⟩ := bnd hf
    have hP := x_up 1 hP
    refine x_callV F hK hG hP hS (o_G (by decide) (c := 0) (by decide)) (kd_G 1 (by decide) 0 (by decide)) (ci := 0) (fun _ => rfl) rfl (c_X0_perform (by decide) (112 : Int32) ((a1 / (16 : Int32)) - ((a1 / (16 : Int32)) / (4 : Int32)) * (4 : Int32)) (((a1 / (16 : Int32)) / (4 : Int32)) - (((a1 / (16 : Int32)) / (4 : Int32)) / (30 : Int32)) * (30 : Int32)) (0 : Int32) hr9) (cwV 4 F.2.2.2.2 gX4_simulatedTurn_X0_perform rfl rfl rfl ⟨rfl, hd_X0_perform⟩ ⟨(Nat.le_of_ble_eq_true rfl), (Nat.le_of_ble_eq_true rfl)⟩) rfl rfl hl.1 (Nat.le_of_ble_eq_true rfl) dX4_simulatedTurn_129 ⟨(Nat.le_of_ble_eq_true rfl), (Nat.le_of_ble_eq_true rfl)⟩ (rest := []) (fun H locs hP hS => ?_)
    refine W.eq (g2 := F0 m 132 ls [.int r8.1]) rfl ?_
    refine lv_pop F.1 F.2.1 dX4_simulatedTurn_132 rfl ?_
    refine lv_goto (tgt := 273) F.1 F.2.1 dX4_simulatedTurn_133 rfl ?_
    obtain rfl := Option.some.inj hf
    exact x_vret F hr hlk hP hS rfl dX4_simulatedTurn_273
  have hf := ifn hc7 hf
  by_cases hc10 : (a1 - (a1 / (16 : Int32)) * (16 : Int32)) = (3 : Int32)
  · have hf := ifp hc10 hf
    refine lv_tableIn (off := 127) (tgt := 136) F.1 F.2.1 dX4_simulatedTurn_9 (by rw [hc10]; decide) (by rw [hc10]; decide) (by rw [hc10]; rfl) rfl ?_
    refine lv_aload_n F.1 F.2.1 dX4_simulatedTurn_136 rfl (lv_at hl 1 rfl) ?_
    refine gR_X4_trial F hK hP  (fun _ h => List.mem_cons_of_mem _ (List.mem_append_left _ (List.mem_append_left _ (List.mem_append_right _ h)))) (List.mem_of_getElem? (i := 1) rfl) dX4_simulatedTurn_137 ?_
    refine lv_bipush (v := (102 : Int32)) F.1 F.2.1 dX4_simulatedTurn_140 (by decide) ?_
    refine lv_iload_n F.1 F.2.1 dX4_simulatedTurn_142 rfl (lv_at hl 0 rfl) ?_
    refine lv_iconst (v := (4 : Int32)) F.1 F.2.1 dX4_simulatedTurn_143 (by decide) ?_
    refine lv_irem F.1 F.2.1 dX4_simulatedTurn_144 (by decide) ?_
    refine lv_iload_n F.1 F.2.1 dX4_simulatedTurn_145 rfl (lv_at hl 0 rfl) ?_
    refine lv_iconst (v := (4 : Int32)) F.1 F.2.1 dX4_simulatedTurn_146 (by decide) ?_
    refine lv_idiv F.1 F.2.1 dX4_simulatedTurn_147 (by decide) ?_
    refine lv_bipush (v := (21 : Int32)) F.1 F.2.1 dX4_simulatedTurn_148 (by decide) ?_
    refine lv_irem F.1 F.2.1 dX4_simulatedTurn_150 (by decide) ?_
    refine lv_iconst (v := (0 : Int32)) F.1 F.2.1 dX4_simulatedTurn_151 (by decide) ?_
    obtain ⟨r11, hr12, hf⟩ := bnd hf
    have hP := x_up 1 hP
    refine x_callV F hK hG hP hS (o_G (by decide) (c := 0) (by decide)) (kd_G 1 (by decide) 0 (by decide)) (ci := 0) (fun _ => rfl) rfl (c_X0_perform (by decide) (102 : Int32) ((a1 / (16 : Int32)) - ((a1 / (16 : Int32)) / (4 : Int32)) * (4 : Int32)) (((a1 / (16 : Int32)) / (4 : Int32)) - (((a1 / (16 : Int32)) / (4 : Int32)) / (21 : Int32)) * (21 : Int32)) (0 : Int32) hr12) (cwV 4 F.2.2.2.2 gX4_simulatedTurn_X0_perform rfl rfl rfl ⟨rfl, hd_X0_perform⟩ ⟨(Nat.le_of_ble_eq_true rfl), (Nat.le_of_ble_eq_true rfl)⟩) rfl rfl hl.1 (Nat.le_of_ble_eq_true rfl) dX4_simulatedTurn_152 ⟨(Nat.le_of_ble_eq_true rfl), (Nat.le_of_ble_eq_true rfl)⟩ (rest := []) (fun H locs hP hS => ?_)
    refine W.eq (g2 := F0 m 155 ls [.int r11.1]) rfl ?_
    refine lv_pop F.1 F.2.1 dX4_simulatedTurn_155 rfl ?_
    refine lv_goto (tgt := 273) F.1 F.2.1 dX4_simulatedTurn_156 rfl ?_
    obtain rfl := Option.some.inj hf
    exact x_vret F hr hlk hP hS rfl dX4_simulatedTurn_273
  have hf := ifn hc10 hf
  by_cases hc13 : (a1 - (a1 / (16 : Int32)) * (16 : Int32)) = (4 : Int32)
  · have hf := ifp hc13 hf
    refine lv_tableIn (off := 150) (tgt := 159) F.1 F.2.1 dX4_simulatedTurn_9 (by rw [hc13]; decide) (by rw [hc13]; decide) (by rw [hc13]; rfl) rfl ?_
    refine lv_aload_n F.1 F.2.1 dX4_simulatedTurn_159 rfl (lv_at hl 1 rfl) ?_
    refine gR_X4_trial F hK hP  (fun _ h => List.mem_cons_of_mem _ (List.mem_append_left _ (List.mem_append_left _ (List.mem_append_right _ h)))) (List.mem_of_getElem? (i := 1) rfl) dX4_simulatedTurn_160 ?_
    refine lv_bipush (v := (120 : Int32)) F.1 F.2.1 dX4_simulatedTurn_163 (by decide) ?_
    refine lv_iload_n F.1 F.2.1 dX4_simulatedTurn_165 rfl (lv_at hl 0 rfl) ?_
    refine lv_iconst (v := (4 : Int32)) F.1 F.2.1 dX4_simulatedTurn_166 (by decide) ?_
    refine lv_irem F.1 F.2.1 dX4_simulatedTurn_167 (by decide) ?_
    refine lv_iconst (v := (0 : Int32)) F.1 F.2.1 dX4_simulatedTurn_168 (by decide) ?_
    refine lv_iconst (v := (0 : Int32)) F.1 F.2.1 dX4_simulatedTurn_169 (by decide) ?_
    obtain ⟨r14, hr15, hf⟩ := bnd hf
    have hP := x_up 1 hP
    refine x_callV F hK hG hP hS (o_G (by decide) (c := 0) (by decide)) (kd_G 1 (by decide) 0 (by decide)) (ci := 0) (fun _ => rfl) rfl (c_X0_perform (by decide) (120 : Int32) ((a1 / (16 : Int32)) - ((a1 / (16 : Int32)) / (4 : Int32)) * (4 : Int32)) (0 : Int32) (0 : Int32) hr15) (cwV 4 F.2.2.2.2 gX4_simulatedTurn_X0_perform rfl rfl rfl ⟨rfl, hd_X0_perform⟩ ⟨(Nat.le_of_ble_eq_true rfl), (Nat.le_of_ble_eq_true rfl)⟩) rfl rfl hl.1 (Nat.le_of_ble_eq_true rfl) dX4_simulatedTurn_170 ⟨(Nat.le_of_ble_eq_true rfl), (Nat.le_of_ble_eq_true rfl)⟩ (rest := []) (fun H locs hP hS => ?_)
    refine W.eq (g2 := F0 m 173 ls [.int r14.1]) rfl ?_
    refine lv_pop F.1 F.2.1 dX4_simulatedTurn_173 rfl ?_
    refine lv_goto (tgt := 273) F.1 F.2.1 dX4_simulatedTurn_174 rfl ?_
    obtain rfl := Option.some.inj hf
    exact x_vret F hr hlk hP hS rfl dX4_simulatedTurn_273
  have hf := ifn hc13 hf
  by_cases hc16 : (a1 - (a1 / (16 : Int32)) * (16 : Int32)) = (5 : Int32)
  · have hf := ifp hc16 hf
    refine lv_tableIn (off := 168) (tgt := 177) F.1 F.2.1 dX4_simulatedTurn_9 (by rw [hc16]; decide) (by rw [hc16]; decide) (by rw [hc16]; rfl) rfl ?_
    refine lv_aload_n F.1 F.2.1 dX4_simulatedTurn_177 rfl (lv_at hl 1 rfl) ?_
    refine gR_X4_trial F hK hP  (fun _ h => List.mem_cons_of_mem _ (List.mem_append_left _ (List.mem_append_left _ (List.mem_append_right _ h)))) (List.mem_of_getElem? (i := 1) rfl) dX4_simulatedTurn_178 ?_
    refine lv_bipush (v := (101 : Int32)) F.1 F.2.1 dX4_simulatedTurn_181 (by decide) ?_
    refine lv_iload_n F.1 F.2.1 dX4_simulatedTurn_183 rfl (lv_at hl 0 rfl) ?_
    refine lv_iconst (v := (3 : Int32)) F.1 F.2.1 dX4_simulatedTurn_184 (by decide) ?_
    refine lv_irem F.1 F.2.1 dX4_simulatedTurn_185 (by decide) ?_
    refine lv_iload_n F.1 F.2.1 dX4_simulatedTurn_186 rfl (lv_at hl 0 rfl) ?_
    refine lv_iconst (v := (4 : Int32)) F.1 F.2.1 dX4_simulatedTurn_187 (by decide) ?_
    refine lv_idiv F.1 F.2.1 dX4_simulatedTurn_188 (by decide) ?_
    refine lv_bipush (v := (31 : Int32)) F.1 F.2.1 dX4_simulatedTurn_189 (by decide) ?_
    refine lv_irem F.1 F.2.1 dX4_simulatedTurn_191 (by decide) ?_
    refine lv_iconst (v := (0 : Int32)) F.1 F.2.1 dX4_simulatedTurn_192 (by decide) ?_
    obtain ⟨r17, hr18, hf⟩ := bnd hf
    have hP := x_up 1 hP
    refine x_callV F hK hG hP hS (o_G (by decide) (c := 0) (by decide)) (kd_G 1 (by decide) 0 (by decide)) (ci := 0) (fun _ => rfl) rfl (c_X0_perform (by decide) (101 : Int32) ((a1 / (16 : Int32)) - ((a1 / (16 : Int32)) / (3 : Int32)) * (3 : Int32)) (((a1 / (16 : Int32)) / (4 : Int32)) - (((a1 / (16 : Int32)) / (4 : Int32)) / (31 : Int32)) * (31 : Int32)) (0 : Int32) hr18) (cwV 4 F.2.2.2.2 gX4_simulatedTurn_X0_perform rfl rfl rfl ⟨rfl, hd_X0_perform⟩ ⟨(Nat.le_of_ble_eq_true rfl), (Nat.le_of_ble_eq_true rfl)⟩) rfl rfl hl.1 (Nat.le_of_ble_eq_true rfl) dX4_simulatedTurn_193 ⟨(Nat.le_of_ble_eq_true rfl), (Nat.le_of_ble_eq_true rfl)⟩ (rest := []) (fun H locs hP hS => ?_)
    refine W.eq (g2 := F0 m 196 ls [.int r17.1]) rfl ?_
    refine lv_pop F.1 F.2.1 dX4_simulatedTurn_196 rfl ?_
    refine lv_goto (tgt := 273) F.1 F.2.1 dX4_simulatedTurn_197 rfl ?_
    obtain rfl := Option.some.inj hf
    exact x_vret F hr hlk hP hS rfl dX4_simulatedTurn_273
  have hf := ifn hc16 hf
  by_cases hc19 : (a1 - (a1 / (16 : Int32)) * (16 : Int32)) = (6 : Int32)
  · have hf := ifp hc19 hf
    refine lv_tableIn (off := 191) (tgt := 200) F.1 F.2.1 dX4_simulatedTurn_9 (by rw [hc19]; decide) (by rw [hc19]; decide) (by rw [hc19]; rfl) rfl ?_
    refine lv_aload_n F.1 F.2.1 dX4_simulatedTurn_200 rfl (lv_at hl 1 rfl) ?_
    refine gR_X4_trial F hK hP  (fun _ h => List.mem_cons_of_mem _ (List.mem_append_left _ (List.mem_append_left _ (List.mem_append_right _ h)))) (List.mem_of_getElem? (i := 1) rfl) dX4_simulatedTurn_201 ?_
    refine lv_bipush (v := (119 : Int32)) F.1 F.2.1 dX4_simulatedTurn_204 (by decide) ?_
    refine lv_iconst (v := (0 : Int32)) F.1 F.2.1 dX4_simulatedTurn_206 (by decide) ?_
    refine lv_iconst (v := (0 : Int32)) F.1 F.2.1 dX4_simulatedTurn_207 (by decide) ?_
    refine lv_iconst (v := (0 : Int32)) F.1 F.2.1 dX4_simulatedTurn_208 (by decide) ?_
    obtain ⟨r20, hr21, hf⟩ := bnd hf
    have hP := x_up 1 hP
    refine x_callV F hK hG hP hS (o_G (by decide) (c := 0) (by decide)) (kd_G 1 (by decide) 0 (by decide)) (ci := 0) (fun _ => rfl) rfl (c_X0_perform (by decide) (119 : Int32) (0 : Int32) (0 : Int32) (0 : Int32) hr21) (cwV 4 F.2.2.2.2 gX4_simulatedTurn_X0_perform rfl rfl rfl ⟨rfl, hd_X0_perform⟩ ⟨(Nat.le_of_ble_eq_true rfl), (Nat.le_of_ble_eq_true rfl)⟩) rfl rfl hl.1 (Nat.le_of_ble_eq_true rfl) dX4_simulatedTurn_209 ⟨(Nat.le_of_ble_eq_true rfl), (Nat.le_of_ble_eq_true rfl)⟩ (rest := []) (fun H locs hP hS => ?_)
    refine W.eq (g2 := F0 m 212 ls [.int r20.1]) rfl ?_
    refine lv_pop F.1 F.2.1 dX4_simulatedTurn_212 rfl ?_
    refine lv_goto (tgt := 273) F.1 F.2.1 dX4_simulatedTurn_213 rfl ?_
    obtain rfl := Option.some.inj hf
    exact x_vret F hr hlk hP hS rfl dX4_simulatedTurn_273
  have hf := ifn hc19 hf
  by_cases hc22 : (a1 - (a1 / (16 : Int32)) * (16 : Int32)) = (7 : Int32)
  · have hf := ifp hc22 hf
    refine lv_tableIn (off := 207) (tgt := 216) F.1 F.2.1 dX4_simulatedTurn_9 (by rw [hc22]; decide) (by rw [hc22]; decide) (by rw [hc22]; rfl) rfl ?_
    exact (KEY FU) μ (a1 / (16 : Int32)) _ _ _ (lv_sub hl [1, 0] rfl) hP hS hf
  have hf := ifn hc22 hf
  by_cases hc23 : (a1 - (a1 / (16 : Int32)) * (16 : Int32)) = (8 : Int32)
  · have hf := ifp hc23 hf
    refine lv_tableIn (off := 207) (tgt := 216) F.1 F.2.1 dX4_simulatedTurn_9 (by rw [hc23]; decide) (by rw [hc23]; decide) (by rw [hc23]; rfl) rfl ?_
    exact (KEY FU) μ (a1 / (16 : Int32)) _ _ _ (lv_sub hl [1, 0] rfl) hP hS hf
  have hf := ifn hc23 hf
  by_cases hc24 : (a1 - (a1 / (16 : Int32)) * (16 : Int32)) = (9 : Int32)
  · have hf := ifp hc24 hf
    refine lv_tableIn (off := 207) (tgt := 216) F.1 F.2.1 dX4_simulatedTurn_9 (by rw [hc24]; decide) (by rw [hc24]; decide) (by rw [hc24]; rfl) rfl ?_
    exact (KEY FU) μ (a1 / (16 : Int32)) _ _ _ (lv_sub hl [1, 0] rfl) hP hS hf
  have hf := ifn hc24 hf
  by_cases hc25 : (a1 - (a1 / (16 : Int32)) * (16 : Int32)) = (10 : Int32)
  · have hf := ifp hc25 hf
    refine lv_tableIn (off := 207) (tgt := 216) F.1 F.2.1 dX4_simulatedTurn_9 (by rw [hc25]; decide) (by rw [hc25]; decide) (by rw [hc25]; rfl) rfl ?_
    exact (KEY FU) μ (a1 / (16 : Int32)) _ _ _ (lv_sub hl [1, 0] rfl) hP hS hf
  have hf := ifn hc25 hf
  by_cases hc26 : (a1 - (a1 / (16 : Int32)) * (16 : Int32)) = (11 : Int32)
  · have hf := ifp hc26 hf
    refine lv_tableIn (off := 207) (tgt := 216) F.1 F.2.1 dX4_simulatedTurn_9 (by rw [hc26]; decide) (by rw [hc26]; decide) (by rw [hc26]; rfl) rfl ?_
    exact (KEY FU) μ (a1 / (16 : Int32)) _ _ _ (lv_sub hl [1, 0] rfl) hP hS hf
  have hf := ifn hc26 hf
  have hc1i := i32_ne hc1
  have hc4i := i32_ne hc4
  have hc7i := i32_ne hc7
  have hc10i := i32_ne hc10
  have hc13i := i32_ne hc13
  have hc16i := i32_ne hc16
  have hc19i := i32_ne hc19
  have hc22i := i32_ne hc22
  have hc23i := i32_ne hc23
  have hc24i := i32_ne hc24
  have hc25i := i32_ne hc25
  have hc26i := i32_ne hc26
  refine lv_tableOut (tgt := 250) F.1 F.2.1 dX4_simulatedTurn_9 (by have : ((0 : Int32)).toInt = 0 := rfl; have : ((1 : Int32)).toInt = 1 := rfl; have : ((2 : Int32)).toInt = 2 := rfl; have : ((3 : Int32)).toInt = 3 := rfl; have : ((4 : Int32)).toInt = 4 := rfl; have : ((5 : Int32)).toInt = 5 := rfl; have : ((6 : Int32)).toInt = 6 := rfl; have : ((7 : Int32)).toInt = 7 := rfl; have : ((8 : Int32)).toInt = 8 := rfl; have : ((9 : Int32)).toInt = 9 := rfl; have : ((10 : Int32)).toInt = 10 := rfl; have : ((11 : Int32)).toInt = 11 := rfl; omega) rfl ?_
  refine lv_aload_n F.1 F.2.1 dX4_simulatedTurn_250 rfl (lv_at hl 1 rfl) ?_
  refine gR_X4_trial F hK hP  (fun _ h => List.mem_cons_of_mem _ (List.mem_append_left _ (List.mem_append_left _ (List.mem_append_right _ h)))) (List.mem_of_getElem? (i := 1) rfl) dX4_simulatedTurn_251 ?_
  refine lv_bipush (v := (100 : Int32)) F.1 F.2.1 dX4_simulatedTurn_254 (by decide) ?_
  refine lv_iload_n F.1 F.2.1 dX4_simulatedTurn_256 rfl (lv_at hl 0 rfl) ?_
  refine lv_bipush (v := (16 : Int32)) F.1 F.2.1 dX4_simulatedTurn_257 (by decide) ?_
  refine lv_irem F.1 F.2.1 dX4_simulatedTurn_259 (by decide) ?_
  refine lv_iconst (v := (0 : Int32)) F.1 F.2.1 dX4_simulatedTurn_260 (by decide) ?_
  refine lv_iconst (v := (1 : Int32)) F.1 F.2.1 dX4_simulatedTurn_261 (by decide) ?_
  refine lv_iload_n F.1 F.2.1 dX4_simulatedTurn_262 rfl (lv_at hl 0 rfl) ?_
  refine lv_bipush (v := (16 : Int32)) F.1 F.2.1 dX4_simulatedTurn_263 (by decide) ?_
  refine lv_idiv F.1 F.2.1 dX4_simulatedTurn_265 (by decide) ?_
  refine lv_iconst (v := (4 : Int32)) F.1 F.2.1 dX4_simulatedTurn_266 (by decide) ?_
  refine lv_irem F.1 F.2.1 dX4_simulatedTurn_267 (by decide) ?_
  refine lv_iadd F.1 F.2.1 dX4_simulatedTurn_268 ?_
  obtain ⟨r27, hr28, hf⟩ := bnd hf
  have hP := x_up 1 hP
  refine x_callV F hK hG hP hS (o_G (by decide) (c := 0) (by decide)) (kd_G 1 (by decide) 0 (by decide)) (ci := 0) (fun _ => rfl) rfl (c_X0_perform (by decide) (100 : Int32) ((a1 / (16 : Int32)) - ((a1 / (16 : Int32)) / (16 : Int32)) * (16 : Int32)) (0 : Int32) ((1 : Int32) + (((a1 / (16 : Int32)) / (16 : Int32)) - (((a1 / (16 : Int32)) / (16 : Int32)) / (4 : Int32)) * (4 : Int32))) hr28) (cwV 4 F.2.2.2.2 gX4_simulatedTurn_X0_perform rfl rfl rfl ⟨rfl, hd_X0_perform⟩ ⟨(Nat.le_of_ble_eq_true rfl), (Nat.le_of_ble_eq_true rfl)⟩) rfl rfl hl.1 (Nat.le_of_ble_eq_true rfl) dX4_simulatedTurn_269 ⟨(Nat.le_of_ble_eq_true rfl), (Nat.le_of_ble_eq_true rfl)⟩ (rest := []) (fun H locs hP hS => ?_)
  refine W.eq (g2 := F0 m 272 ls [.int r27.1]) rfl ?_
  refine lv_pop F.1 F.2.1 dX4_simulatedTurn_272 rfl ?_
  obtain rfl := Option.some.inj hf
  exact x_vret F hr hlk hP hS rfl dX4_simulatedTurn_273

-- FrostTubes.simulate(JI)I
def fb_X4_simulate_1 (a1 : Int64) (a3 : Int32) (K : Mem → Int64 → Int32 → Option (Nat × Int32 × Mem)) (μ : Mem) (v4 : Int64) (v6 : Int32) : Option (Nat × Int32 × Mem) := (if a3 ≤ v6 then ((f_X0_layersOfAll (μ 1)).bind fun r6 => ((f_X0_frozenCells (μ 1)).bind fun r8 => some (0, ((((10000 : Int32) * r6) + ((10 : Int32) * r8)) + ((μ 1) 196)), μ))) else ((f_X4_simulatedTurn μ (((((v4 * (6364136223846793005 : Int64)) + (1442695040888963407 : Int64)).toUInt64 >>> ((33 : Int32).toInt64.toUInt64 &&& Int64.toUInt64 63)).toInt64).toInt32)).bind fun r10 => (K r10 ((v4 * (6364136223846793005 : Int64)) + (1442695040888963407 : Int64)) (v6 + (1 : Int32)))))
def fl_X4_simulate (a1 : Int64) (a3 : Int32) : Nat → Mem → Int64 → Int32 → Option (Nat × Int32 × Mem)
  | 0, _, _, _ => none
  | n + 1, μ, v4, v6 => fb_X4_simulate_1 a1 a3 (fl_X4_simulate a1 a3 n) μ v4 v6
def f_X4_simulate (μ : Mem) (a1 : Int64) (a3 : Int32) : Option (Nat × Int32 × Mem) := ((f_X4_needRange a3 (1 : Int32) (60 : Int32)).bind fun r1 => if r1 = 0 then ((f_X0_copyFrom (μ 1) (μ 0)).bind fun r3 => (fl_X4_simulate a1 a3 FU (va_up μ 1 r3) a1 (0 : Int32))) else some (r1, 0, μ))
def rmX4_simulate : Room := { frames := 7, cells := 1, slots := 6, locals := 141 }
theorem hd_X4_simulate : yX4_simulate.cls ≠ "java/lang/invoke/MethodHandle" ∧ yX4_simulate.cls ≠ "java/lang/invoke/VarHandle" ∧ (parseMethodDescriptor yX4_simulate.desc).map (fun d => d.parameters.length) = some 2 := by decide +kernel
set_option maxHeartbeats 8000000 in
set_option maxRecDepth 100000 in
theorem c_X4_simulate {l : Launch} (hlt : l.stackTraces = false) {D : va_G} {x : Nat} {μ : Mem} (a1 : Int64) (a3 : Int32) {r : Nat × Int32 × Mem} (hf : f_X4_simulate μ a1 a3 = some r) : TX l yX4_simulate wsX4_simulate rmX4_simulate 1 6 [.ref (x + 0), .long a1, .int a3] D x μ r.1 (some (.int r.2.1)) r.2.2 := by
  refine TX.of (cc := cX4_simulate) (maxL := 7) (ret := (some .int)) pn_X4 rfl (Nat.le_of_ble_eq_true rfl) ?_
  intro p e s m args below meth c F hr hlk hx hK hG
  have KEY : ∀ n : Nat, (∀ (μ : Mem) (v4 : Int64) (v6 : Int32) (ls : Array Slot) (H : Heap) (locs : List Loc), lv_has ls 7 [(0, .ref (x + 0)), (3, .int a3), (4, .long v4), (6, .int v6)] → va_P D vwCl (WL D x μ) H → va_S (rng x) s.heap H locs → fl_X4_simulate a1 a3 n μ v4 v6 = some r → W p l e rmX4_simulate s m args below meth c H locs 1 6 (vx_MQ below (QT D x r.2.2 r.1 (some (.int r.2.1))) (XT D x r.2.2 r.1) args s 1 6 (rng x)) (F0 m 24 ls [])) := by
    intro n
    induction n with
    | zero => exact (fun _ _ _ _ _ _ _ _ _ h => nomatch h)
    | succ n ih =>
      skip
      intro μ v4 v6  ls H locs hl hP hS hf
      have hf : fb_X4_simulate_1 a1 a3 (fl_X4_simulate a1 a3 n) μ v4 v6 = some r := hf
      unfold fb_X4_simulate_1 at hf
      refine lv_iload F.1 F.2.1 dX4_simulate_24 (lv_at hl 3 rfl) ?_
      refine lv_iload_n F.1 F.2.1 dX4_simulate_26 rfl (lv_at hl 1 rfl) ?_
      refine lv_icmp_ge (tgt := 58) F.1 F.2.1 dX4_simulate_27 rfl (fun hc5 => ?_) (fun hc5 => ?_)
      · have hf := ifp hc5 hf
        refine lv_sipush (v := (10000 : Int32)) F.1 F.2.1 dX4_simulate_58 (by decide) ?_
        refine lv_aload_n F.1 F.2.1 dX4_simulate_61 rfl (lv_at hl 0 rfl) ?_
        refine gR_X4_trial F hK hP  (fun _ h => List.mem_cons_of_mem _ (List.mem_append_left _ (List.mem_append_left _ (List.mem_append_left _ (List.mem_append_right _ h))))) (List.mem_of_getElem? (i := 1) rfl) dX4_simulate_62 ?_
        obtain ⟨r6, hr7, hf⟩ := bnd hf
        refine x_callV F hK hG hP hS (o_G (by decide) (c := 0) (by decide)) (kd_G 1 (by decide) 0 (by decide)) (ci := 0) (fun _ => rfl) rfl (c_X0_layersOfAll (by decide) rfl hr7) (cwV 0 F.2.2.2.2 gX4_simulate_X0_layersOfAll rfl rfl rfl ⟨rfl, hd_X0_layersOfAll⟩ ⟨(Nat.le_of_ble_eq_true rfl), (Nat.le_of_ble_eq_true rfl)⟩) rfl rfl hl.1 (Nat.le_of_ble_eq_true rfl) dX4_simulate_65 ⟨(Nat.le_of_ble_eq_true rfl), (Nat.le_of_ble_eq_true rfl)⟩ (rest := [.int (10000 : Int32)]) (fun H locs hP hS => ?_)
        refine W.eq (g2 := F0 m 68 ls [.int r6, .int (10000 : Int32)]) rfl ?_
        refine lv_imul F.1 F.2.1 dX4_simulate_68 ?_
        refine lv_bipush (v := (10 : Int32)) F.1 F.2.1 dX4_simulate_69 (by decide) ?_
        refine lv_aload_n F.1 F.2.1 dX4_simulate_71 rfl (lv_at hl 0 rfl) ?_
        refine gR_X4_trial F hK hP  (fun _ h => List.mem_cons_of_mem _ (List.mem_append_left _ (List.mem_append_left _ (List.mem_append_left _ (List.mem_append_right _ h))))) (List.mem_of_getElem? (i := 1) rfl) dX4_simulate_72 ?_
        obtain ⟨r8, hr9, hf⟩ := bnd hf
        refine x_callV F hK hG hP hS (o_G (by decide) (c := 0) (by decide)) (kd_G 1 (by decide) 0 (by decide)) (ci := 0) (fun _ => rfl) rfl (c_X0_frozenCells (by decide) rfl hr9) (cwV 0 F.2.2.2.2 gX4_simulate_X0_frozenCells rfl rfl rfl ⟨rfl, hd_X0_frozenCells⟩ ⟨(Nat.le_of_ble_eq_true rfl), (Nat.le_of_ble_eq_true rfl)⟩) rfl rfl hl.1 (Nat.le_of_ble_eq_true rfl) dX4_simulate_75 ⟨(Nat.le_of_ble_eq_true rfl), (Nat.le_of_ble_eq_true rfl)⟩ (rest := [.int (10 : Int32), .int ((10000 : Int32) * r6)]) (fun H locs hP hS => ?_)
        refine W.eq (g2 := F0 m 78 ls [.int r8, .int (10 : Int32), .int ((10000 : Int32) * r6)]) rfl ?_
        refine lv_imul F.1 F.2.1 dX4_simulate_78 ?_
        refine lv_iadd F.1 F.2.1 dX4_simulate_79 ?_
        refine lv_aload_n F.1 F.2.1 dX4_simulate_80 rfl (lv_at hl 0 rfl) ?_
        refine gR_X4_trial F hK hP  (fun _ h => List.mem_cons_of_mem _ (List.mem_append_left _ (List.mem_append_left _ (List.mem_append_left _ (List.mem_append_right _ h))))) (List.mem_of_getElem? (i := 1) rfl) dX4_simulate_81 ?_
        refine gI_X0_siteCount F hK hP (by decide) rfl (fun _ h => List.mem_cons_of_mem _ (List.mem_append_left _ (List.mem_append_left _ (List.mem_append_right _ h)))) (List.mem_of_getElem? (i := 5) rfl) dX4_simulate_84 ?_
        refine lv_iadd F.1 F.2.1 dX4_simulate_87 ?_
        obtain rfl := Option.some.inj hf
        exact x_iretT F hr hlk hP hS rfl (Nat.le_of_ble_eq_true rfl) (Nat.le_of_ble_eq_true rfl) dX4_simulate_88
      · have hf := ifn hc5 hf
        refine lv_lload F.1 F.2.1 dX4_simulate_30 (lv_at hl 2 rfl) ?_
        refine lv_ldc2 (v := (6364136223846793005 : Int64)) F.1 F.2.1 F.2.2.2.1 (F.2.2.2.2 _ (List.mem_of_getElem? (i := 3) rfl)) dX4_simulate_32 ?_
        refine lv_lmul F.1 F.2.1 dX4_simulate_35 ?_
        refine lv_ldc2 (v := (1442695040888963407 : Int64)) F.1 F.2.1 F.2.2.2.1 (F.2.2.2.2 _ (List.mem_of_getElem? (i := 4) rfl)) dX4_simulate_36 ?_
        refine lv_ladd F.1 F.2.1 dX4_simulate_39 ?_
        refine lv_lstore F.1 F.2.1 dX4_simulate_40 hl (Nat.le_of_ble_eq_true rfl) rfl (fun ls hl => ?_)
        have hl : lv_has ls 7 [(4, .long ((v4 * (6364136223846793005 : Int64)) + (1442695040888963407 : Int64))), (0, .ref (x + 0)), (3, .int a3), (6, .int v6)] := hl
        refine lv_aload_n F.1 F.2.1 dX4_simulate_42 rfl (lv_at hl 1 rfl) ?_
        refine lv_lload F.1 F.2.1 dX4_simulate_43 (lv_at hl 0 rfl) ?_
        refine lv_bipush (v := (33 : Int32)) F.1 F.2.1 dX4_simulate_45 (by decide) ?_
        refine lv_lushr (v := (((v4 * (6364136223846793005 : Int64)) + (1442695040888963407 : Int64)).toUInt64 >>> ((33 : Int32).toInt64.toUInt64 &&& Int64.toUInt64 63)).toInt64) F.1 F.2.1 dX4_simulate_47 rfl ?_
        refine lv_l2i (v := ((((v4 * (6364136223846793005 : Int64)) + (1442695040888963407 : Int64)).toUInt64 >>> ((33 : Int32).toInt64.toUInt64 &&& Int64.toUInt64 63)).toInt64).toInt32) F.1 F.2.1 dX4_simulate_48 rfl ?_
        obtain ⟨r10, hr11, hf⟩ := bnd hf
        refine x_callV F hK hG hP hS (o := 0) (by decide) (q := (0, 0, 0)) rfl (ci := 4) (fun _ => rfl) rfl (c_X4_simulatedTurn (((((v4 * (6364136223846793005 : Int64)) + (1442695040888963407 : Int64)).toUInt64 >>> ((33 : Int32).toInt64.toUInt64 &&& Int64.toUInt64 63)).toInt64).toInt32) hr11) (cwV 1 F.2.2.2.2 gX4_simulate_X4_simulatedTurn rfl rfl rfl ⟨rfl, hd_X4_simulatedTurn⟩ ⟨(Nat.le_of_ble_eq_true rfl), (Nat.le_of_ble_eq_true rfl)⟩) rfl rfl hl.1 (Nat.le_of_ble_eq_true rfl) dX4_simulate_49 ⟨(Nat.le_of_ble_eq_true rfl), (Nat.le_of_ble_eq_true rfl)⟩ (rest := []) (fun H locs hP hS => ?_)
        refine W.eq (g2 := F0 m 52 ls []) rfl ?_
        refine lv_iinc (v := (v6 + (1 : Int32))) F.1 F.2.1 dX4_simulate_52 hl (k := 3) rfl rfl (Nat.le_of_ble_eq_true rfl) rfl (fun ls hl => ?_)
        have hl : lv_has ls 7 [(6, .int (v6 + (1 : Int32))), (4, .long ((v4 * (6364136223846793005 : Int64)) + (1442695040888963407 : Int64))), (0, .ref (x + 0)), (3, .int a3)] := hl
        refine lv_goto (tgt := 24) F.1 F.2.1 dX4_simulate_55 rfl ?_
        exact ih r10 ((v4 * (6364136223846793005 : Int64)) + (1442695040888963407 : Int64)) (v6 + (1 : Int32)) _ _ _ (lv_sub hl [2, 3, 1, 0] rfl) hP hS hf
  intro ls H locs hl hP hS
  have hl : lv_has ls 7 [(0, .ref (x + 0)), (1, .long a1), (3, .int a3)] := hl
  unfold f_X4_simulate at hf
  refine lv_iload_n F.1 F.2.1 dX4_simulate_0 rfl (lv_at hl 2 rfl) ?_
  refine lv_iconst (v := (1 : Int32)) F.1 F.2.1 dX4_simulate_1 (by decide) ?_
  refine lv_bipush (v := (60 : Int32)) F.1 F.2.1 dX4_simulate_2 (by decide) ?_
  obtain ⟨r1, hr2, hf⟩ := bnd hf
  refine x_callST F hK hG hP hS hx hlk (c_X4_needRange hlt a3 (1 : Int32) (60 : Int32) hr2) (va_cwS 3 F.2.2.2.2 gX4_simulate_X4_needRange rfl rfl rfl hd_X4_needRange ⟨(Nat.le_of_ble_eq_true rfl), (Nat.le_of_ble_eq_true rfl)⟩) rfl rfl hl.1 (Nat.le_of_ble_eq_true rfl) dX4_simulate_4 ⟨(Nat.le_of_ble_eq_true rfl), (Nat.le_of_ble_eq_true rfl)⟩ (Nat.le_of_ble_eq_true rfl) (Nat.le_of_ble_eq_true rfl) (fun hk => by have hf := ifn hk hf; obtain rfl := Option.some.inj hf; exact ⟨rfl, rfl⟩) (rest := []) (fun hk H locs hP hS => ?_)
  have hf := ifp hk hf
  refine W.eq (g2 := F0 m 7 ls []) rfl ?_
  refine lv_aload_n F.1 F.2.1 dX4_simulate_7 rfl (lv_at hl 0 rfl) ?_
  refine gR_X4_trial F hK hP  (fun _ h => List.mem_cons_of_mem _ (List.mem_append_left _ (List.mem_append_left _ (List.mem_append_left _ (List.mem_append_right _ h))))) (List.mem_of_getElem? (i := 1) rfl) dX4_simulate_8 ?_
  refine lv_aload_n F.1 F.2.1 dX4_simulate_11 rfl (lv_at hl 0 rfl) ?_
  refine gR_X4_now F hK hP  (fun _ h => List.mem_cons_of_mem _ (List.mem_append_left _ (List.mem_append_left _ (List.mem_append_left _ (List.mem_append_right _ h))))) (List.mem_of_getElem? (i := 2) rfl) dX4_simulate_12 ?_
  obtain ⟨r3, hr4, hf⟩ := bnd hf
  have hP := x_up 1 hP
  refine x_callV F hK hG hP hS (o_G (by decide) (c := 0) (by decide)) (kd_G 1 (by decide) 0 (by decide)) (ci := 0) (fun _ => rfl) rfl (c_X0_copyFrom (by decide) (by decide) (by decide) rfl hr4) (cwV 1 F.2.2.2.2 gX4_simulate_X0_copyFrom rfl rfl rfl ⟨rfl, hd_X0_copyFrom⟩ ⟨(Nat.le_of_ble_eq_true rfl), (Nat.le_of_ble_eq_true rfl)⟩) rfl rfl hl.1 (Nat.le_of_ble_eq_true rfl) dX4_simulate_15 ⟨(Nat.le_of_ble_eq_true rfl), (Nat.le_of_ble_eq_true rfl)⟩ (rest := []) (fun H locs hP hS => ?_)
  refine W.eq (g2 := F0 m 18 ls []) rfl ?_
  refine lv_lload_n F.1 F.2.1 dX4_simulate_18 rfl (lv_at hl 1 rfl) ?_
  refine lv_lstore F.1 F.2.1 dX4_simulate_19 hl (Nat.le_of_ble_eq_true rfl) rfl (fun ls hl => ?_)
  have hl : lv_has ls 7 [(4, .long a1), (0, .ref (x + 0)), (1, .long a1), (3, .int a3)] := hl
  refine lv_iconst (v := (0 : Int32)) F.1 F.2.1 dX4_simulate_21 (by decide) ?_
  refine lv_istore F.1 F.2.1 dX4_simulate_22 hl (Nat.le_of_ble_eq_true rfl) rfl (fun ls hl => ?_)
  have hl : lv_has ls 7 [(6, .int (0 : Int32)), (4, .long a1), (0, .ref (x + 0)), (1, .long a1), (3, .int a3)] := hl
  exact (KEY FU) (va_up μ 1 r3) a1 (0 : Int32) _ _ _ (lv_sub hl [2, 4, 1, 0] rfl) hP hS hf

-- FrostTubes.needSlot(I)V
def f_X4_needSlot (a0 : Int32) : Option (Nat) := (if a0 < 0 then some 3 else (if a0 < (2 : Int32) then some 0 else some 3))
def rmX4_needSlot : Room := { frames := 6, cells := 1, slots := 6, locals := 82 }
theorem hd_X4_needSlot : yX4_needSlot.cls ≠ "java/lang/invoke/MethodHandle" ∧ yX4_needSlot.cls ≠ "java/lang/invoke/VarHandle" ∧ (parseMethodDescriptor yX4_needSlot.desc).map (fun d => d.parameters.length) = some 1 := by decide +kernel
set_option maxHeartbeats 8000000 in
set_option maxRecDepth 100000 in
theorem c_X4_needSlot {l : Launch} (hlt : l.stackTraces = false) {D : va_G} {x : Nat} {μ : Mem} (a0 : Int32) {r : Nat} (hf : f_X4_needSlot a0 = some r) : TX l yX4_needSlot wsX4_needSlot rmX4_needSlot 1 6 [.int a0] D x μ r (none) μ := by
  refine TX.of (cc := cX4_needSlot) (maxL := 1) (ret := none) pn_X4 rfl (Nat.le_of_ble_eq_true rfl) ?_
  intro p e s m args below meth c F hr hlk hx hK hG
  intro ls H locs hl hP hS
  have hl : lv_has ls 1 [(0, .int a0)] := hl
  unfold f_X4_needSlot at hf
  refine lv_iload_n F.1 F.2.1 dX4_needSlot_0 rfl (lv_at hl 0 rfl) ?_
  refine lv_if_lt (tgt := 9) F.1 F.2.1 dX4_needSlot_1 rfl (fun hc1 => ?_) (fun hc1 => ?_)
  · have hf := ifp hc1 hf
    obtain rfl := Option.some.inj hf
    exact x_throw3 F hlt hG hP hS hx hlk rfl (List.mem_of_getElem? (i := 1) rfl) (List.mem_of_getElem? (i := 2) rfl) (fun _ h => List.mem_cons_of_mem _ (List.mem_append_right _ h)) (is := 246) (text := "no such save slot") (List.mem_of_getElem? (i := 13) rfl) hl.1 dX4_needSlot_9 dX4_needSlot_12 dX4_needSlot_13 dX4_needSlot_15 dX4_needSlot_18 (Nat.le_of_ble_eq_true rfl) (Nat.le_of_ble_eq_true rfl) (Nat.le_of_ble_eq_true rfl) (Nat.le_of_ble_eq_true rfl) (Nat.le_of_ble_eq_true rfl) (Nat.le_of_ble_eq_true rfl)
  · have hf := ifn hc1 hf
    refine lv_iload_n F.1 F.2.1 dX4_needSlot_4 rfl (lv_at hl 0 rfl) ?_
    refine lv_iconst (v := (2 : Int32)) F.1 F.2.1 dX4_needSlot_5 (by decide) ?_
    refine lv_icmp_lt (tgt := 19) F.1 F.2.1 dX4_needSlot_6 rfl (fun hc2 => ?_) (fun hc2 => ?_)
    · have hf := ifp hc2 hf
      obtain rfl := Option.some.inj hf
      exact x_vretT F hr hlk hP hS rfl (Nat.le_of_ble_eq_true rfl) (Nat.le_of_ble_eq_true rfl) dX4_needSlot_19
    · have hf := ifn hc2 hf
      obtain rfl := Option.some.inj hf
      exact x_throw3 F hlt hG hP hS hx hlk rfl (List.mem_of_getElem? (i := 1) rfl) (List.mem_of_getElem? (i := 2) rfl) (fun _ h => List.mem_cons_of_mem _ (List.mem_append_right _ h)) (is := 246) (text := "no such save slot") (List.mem_of_getElem? (i := 13) rfl) hl.1 dX4_needSlot_9 dX4_needSlot_12 dX4_needSlot_13 dX4_needSlot_15 dX4_needSlot_18 (Nat.le_of_ble_eq_true rfl) (Nat.le_of_ble_eq_true rfl) (Nat.le_of_ble_eq_true rfl) (Nat.le_of_ble_eq_true rfl) (Nat.le_of_ble_eq_true rfl) (Nat.le_of_ble_eq_true rfl)

-- FrostTubes.save(I)I
def f_X4_save (μ : Mem) (a1 : Int32) : Option (Nat × Int32 × Mem) := ((f_X4_needSlot a1).bind fun r1 => if r1 = 0 then (if oob a1 2 then none else ((f_X0_copyFrom (μ (17 + a1.toNatClampNeg)) (μ 0)).bind fun r4 => (if oob a1 2 then none else some (0, (((va_up (va_up μ (17 + a1.toNatClampNeg) r4) 21 (upd ((va_up μ (17 + a1.toNatClampNeg) r4) 21) a1.toNatClampNeg (1 : Int32))) 0) 199), (va_up (va_up μ (17 + a1.toNatClampNeg) r4) 21 (upd ((va_up μ (17 + a1.toNatClampNeg) r4) 21) a1.toNatClampNeg (1 : Int32))))))) else some (r1, 0, μ))
def rmX4_save : Room := { frames := 7, cells := 1, slots := 6, locals := 123 }
theorem hd_X4_save : yX4_save.cls ≠ "java/lang/invoke/MethodHandle" ∧ yX4_save.cls ≠ "java/lang/invoke/VarHandle" ∧ (parseMethodDescriptor yX4_save.desc).map (fun d => d.parameters.length) = some 1 := by decide +kernel
set_option maxHeartbeats 8000000 in
set_option maxRecDepth 100000 in
theorem c_X4_save {l : Launch} (hlt : l.stackTraces = false) {D : va_G} {x : Nat} {μ : Mem} (a1 : Int32) {r : Nat × Int32 × Mem} (hf : f_X4_save μ a1 = some r) : TX l yX4_save wsX4_save rmX4_save 1 6 [.ref (x + 0), .int a1] D x μ r.1 (some (.int r.2.1)) r.2.2 := by
  refine TX.of (cc := cX4_save) (maxL := 2) (ret := (some .int)) pn_X4 rfl (Nat.le_of_ble_eq_true rfl) ?_
  intro p e s m args below meth c F hr hlk hx hK hG
  intro ls H locs hl hP hS
  have hl : lv_has ls 2 [(0, .ref (x + 0)), (1, .int a1)] := hl
  unfold f_X4_save at hf
  refine lv_iload_n F.1 F.2.1 dX4_save_0 rfl (lv_at hl 1 rfl) ?_
  obtain ⟨r1, hr2, hf⟩ := bnd hf
  refine x_callST F hK hG hP hS hx hlk (c_X4_needSlot hlt a1 hr2) (va_cwS 1 F.2.2.2.2 gX4_save_X4_needSlot rfl rfl rfl hd_X4_needSlot ⟨(Nat.le_of_ble_eq_true rfl), (Nat.le_of_ble_eq_true rfl)⟩) rfl rfl hl.1 (Nat.le_of_ble_eq_true rfl) dX4_save_1 ⟨(Nat.le_of_ble_eq_true rfl), (Nat.le_of_ble_eq_true rfl)⟩ (Nat.le_of_ble_eq_true rfl) (Nat.le_of_ble_eq_true rfl) (fun hk => by have hf := ifn hk hf; obtain rfl := Option.some.inj hf; exact ⟨rfl, rfl⟩) (rest := []) (fun hk H locs hP hS => ?_)
  have hf := ifp hk hf
  refine W.eq (g2 := F0 m 4 ls []) rfl ?_
  refine lv_aload_n F.1 F.2.1 dX4_save_4 rfl (lv_at hl 0 rfl) ?_
  refine gR_X4_slots F hK hP  (fun _ h => List.mem_cons_of_mem _ (List.mem_append_left _ (List.mem_append_left _ (List.mem_append_left _ (List.mem_append_right _ h))))) (List.mem_of_getElem? (i := 1) rfl) dX4_save_5 ?_
  refine lv_iload_n F.1 F.2.1 dX4_save_8 rfl (lv_at hl 1 rfl) ?_
  obtain ⟨hb3, hf⟩ := ifg hf
  refine lA_SL F hK hP hb3 dX4_save_9 ?_
  refine lv_aload_n F.1 F.2.1 dX4_save_10 rfl (lv_at hl 0 rfl) ?_
  refine gR_X4_now F hK hP  (fun _ h => List.mem_cons_of_mem _ (List.mem_append_left _ (List.mem_append_left _ (List.mem_append_left _ (List.mem_append_right _ h))))) (List.mem_of_getElem? (i := 2) rfl) dX4_save_11 ?_
  obtain ⟨r4, hr5, hf⟩ := bnd hf
  have hP := x_up (17 + a1.toNatClampNeg) hP
  refine x_callV F hK hG hP hS (o_G (by have := (oob_lt hb3); omega) (c := 0) (by decide)) (kd_G (17 + a1.toNatClampNeg) (by have := (oob_lt hb3); omega) 0 (by decide)) (ci := 0) (fun _ => rfl) rfl (c_X0_copyFrom (by have := (oob_lt hb3); omega) (by decide) (by omega) rfl hr5) (cwV 1 F.2.2.2.2 gX4_save_X0_copyFrom rfl rfl rfl ⟨rfl, hd_X0_copyFrom⟩ ⟨(Nat.le_of_ble_eq_true rfl), (Nat.le_of_ble_eq_true rfl)⟩) rfl rfl hl.1 (Nat.le_of_ble_eq_true rfl) dX4_save_14 ⟨(Nat.le_of_ble_eq_true rfl), (Nat.le_of_ble_eq_true rfl)⟩ (rest := []) (fun H locs hP hS => ?_)
  refine W.eq (g2 := F0 m 17 ls []) rfl ?_
  refine lv_aload_n F.1 F.2.1 dX4_save_17 rfl (lv_at hl 0 rfl) ?_
  refine gR_X4_slotFull F hK hP  (fun _ h => List.mem_cons_of_mem _ (List.mem_append_left _ (List.mem_append_left _ (List.mem_append_left _ (List.mem_append_right _ h))))) (List.mem_of_getElem? (i := 3) rfl) dX4_save_18 ?_
  refine lv_iload_n F.1 F.2.1 dX4_save_21 rfl (lv_at hl 1 rfl) ?_
  refine lv_iconst (v := (1 : Int32)) F.1 F.2.1 dX4_save_22 (by decide) ?_
  obtain ⟨hb6, hf⟩ := ifg hf
  have hP := x_up 21 hP
  refine sA_SF F hK hP hS hb6 rfl dX4_save_23 (fun H locs hP hS => ?_)
  refine lv_aload_n F.1 F.2.1 dX4_save_24 rfl (lv_at hl 0 rfl) ?_
  refine gR_X4_now F hK hP  (fun _ h => List.mem_cons_of_mem _ (List.mem_append_left _ (List.mem_append_left _ (List.mem_append_left _ (List.mem_append_right _ h))))) (List.mem_of_getElem? (i := 2) rfl) dX4_save_25 ?_
  refine gI_X0_dayCount F hK hP (by decide) rfl (fun _ h => List.mem_cons_of_mem _ (List.mem_append_left _ (List.mem_append_left _ (List.mem_append_right _ h)))) (List.mem_of_getElem? (i := 4) rfl) dX4_save_28 ?_
  obtain rfl := Option.some.inj hf
  exact x_iretT F hr hlk hP hS rfl (Nat.le_of_ble_eq_true rfl) (Nat.le_of_ble_eq_true rfl) dX4_save_31

-- FrostTubes.restore(I)I
def f_X4_restore (μ : Mem) (a1 : Int32) : Option (Nat × Int32 × Mem) := ((f_X4_needSlot a1).bind fun r1 => if r1 = 0 then (if oob a1 2 then none else (if ((μ 21) a1.toNatClampNeg) = 0 then some (2, 0, μ) else (if oob a1 2 then none else ((f_X0_copyFrom (μ 0) (μ (17 + a1.toNatClampNeg))).bind fun r6 => ((f_X1_forgetAll (va_up μ 0 r6)).bind fun r8 => some (0, ((r8 0) 199), r8)))))) else some (r1, 0, μ))
def rmX4_restore : Room := { frames := 7, cells := 2, slots := 12, locals := 123 }
theorem hd_X4_restore : yX4_restore.cls ≠ "java/lang/invoke/MethodHandle" ∧ yX4_restore.cls ≠ "java/lang/invoke/VarHandle" ∧ (parseMethodDescriptor yX4_restore.desc).map (fun d => d.parameters.length) = some 1 := by decide +kernel
set_option maxHeartbeats 8000000 in
set_option maxRecDepth 100000 in
theorem c_X4_restore {l : Launch} (hlt : l.stackTraces = false) {D : va_G} {x : Nat} {μ : Mem} (a1 : Int32) {r : Nat × Int32 × Mem} (hf : f_X4_restore μ a1 = some r) : TX l yX4_restore wsX4_restore rmX4_restore 2 12 [.ref (x + 0), .int a1] D x μ r.1 (some (.int r.2.1)) r.2.2 := by
  refine TX.of (cc := cX4_restore) (maxL := 2) (ret := (some .int)) pn_X4 rfl (Nat.le_of_ble_eq_true rfl) ?_
  intro p e s m args below meth c F hr hlk hx hK hG
  intro ls H locs hl hP hS
  have hl : lv_has ls 2 [(0, .ref (x + 0)), (1, .int a1)] := hl
  unfold f_X4_restore at hf
  refine lv_iload_n F.1 F.2.1 dX4_restore_0 rfl (lv_at hl 1 rfl) ?_
  obtain ⟨r1, hr2, hf⟩ := bnd hf
  refine x_callST F hK hG hP hS hx hlk (c_X4_needSlot hlt a1 hr2) (va_cwS 1 F.2.2.2.2 gX4_restore_X4_needSlot rfl rfl rfl hd_X4_needSlot ⟨(Nat.le_of_ble_eq_true rfl), (Nat.le_of_ble_eq_true rfl)⟩) rfl rfl hl.1 (Nat.le_of_ble_eq_true rfl) dX4_restore_1 ⟨(Nat.le_of_ble_eq_true rfl), (Nat.le_of_ble_eq_true rfl)⟩ (Nat.le_of_ble_eq_true rfl) (Nat.le_of_ble_eq_true rfl) (fun hk => by have hf := ifn hk hf; obtain rfl := Option.some.inj hf; exact ⟨rfl, rfl⟩) (rest := []) (fun hk H locs hP hS => ?_)
  have hf := ifp hk hf
  refine W.eq (g2 := F0 m 4 ls []) rfl ?_
  refine lv_aload_n F.1 F.2.1 dX4_restore_4 rfl (lv_at hl 0 rfl) ?_
  refine gR_X4_slotFull F hK hP  (fun _ h => List.mem_cons_of_mem _ (List.mem_append_left _ (List.mem_append_left _ (List.mem_append_left _ (List.mem_append_left _ (List.mem_append_left _ (List.mem_append_right _ h))))))) (List.mem_of_getElem? (i := 3) rfl) dX4_restore_5 ?_
  refine lv_iload_n F.1 F.2.1 dX4_restore_8 rfl (lv_at hl 1 rfl) ?_
  obtain ⟨hb3, hf⟩ := ifg hf
  refine lA_SF F hK hP rfl hb3 dX4_restore_9 ?_
  refine lv_if_ne (tgt := 23) F.1 F.2.1 dX4_restore_10 rfl (fun hc4 => ?_) (fun hc4 => ?_)
  · have hf := ifn hc4 hf
    refine lv_aload_n F.1 F.2.1 dX4_restore_23 rfl (lv_at hl 0 rfl) ?_
    refine gR_X4_now F hK hP  (fun _ h => List.mem_cons_of_mem _ (List.mem_append_left _ (List.mem_append_left _ (List.mem_append_left _ (List.mem_append_left _ (List.mem_append_left _ (List.mem_append_right _ h))))))) (List.mem_of_getElem? (i := 4) rfl) dX4_restore_24 ?_
    refine lv_aload_n F.1 F.2.1 dX4_restore_27 rfl (lv_at hl 0 rfl) ?_
    refine gR_X4_slots F hK hP  (fun _ h => List.mem_cons_of_mem _ (List.mem_append_left _ (List.mem_append_left _ (List.mem_append_left _ (List.mem_append_left _ (List.mem_append_left _ (List.mem_append_right _ h))))))) (List.mem_of_getElem? (i := 5) rfl) dX4_restore_28 ?_
    refine lv_iload_n F.1 F.2.1 dX4_restore_31 rfl (lv_at hl 1 rfl) ?_
    obtain ⟨hb5, hf⟩ := ifg hf
    refine lA_SL F hK hP hb5 dX4_restore_32 ?_
    obtain ⟨r6, hr7, hf⟩ := bnd hf
    have hP := x_up 0 hP
    refine x_callV F hK hG hP hS (o_G (by decide) (c := 0) (by decide)) (kd_G 0 (by decide) 0 (by decide)) (ci := 0) (fun _ => rfl) rfl (c_X0_copyFrom (by decide) (by have := (oob_lt hb5); omega) (by omega) rfl hr7) (cwV 1 F.2.2.2.2 gX4_restore_X0_copyFrom rfl rfl rfl ⟨rfl, hd_X0_copyFrom⟩ ⟨(Nat.le_of_ble_eq_true rfl), (Nat.le_of_ble_eq_true rfl)⟩) rfl rfl hl.1 (Nat.le_of_ble_eq_true rfl) dX4_restore_33 ⟨(Nat.le_of_ble_eq_true rfl), (Nat.le_of_ble_eq_true rfl)⟩ (rest := []) (fun H locs hP hS => ?_)
    refine W.eq (g2 := F0 m 36 ls []) rfl ?_
    refine lv_aload_n F.1 F.2.1 dX4_restore_36 rfl (lv_at hl 0 rfl) ?_
    refine gR_X4_past F hK hP  (fun _ h => List.mem_cons_of_mem _ (List.mem_append_left _ (List.mem_append_left _ (List.mem_append_left _ (List.mem_append_left _ (List.mem_append_left _ (List.mem_append_right _ h))))))) (List.mem_of_getElem? (i := 6) rfl) dX4_restore_37 ?_
    obtain ⟨r8, hr9, hf⟩ := bnd hf
    refine x_callV F hK hG hP hS (o := 57) (by decide) (q := (3, 0, 0)) rfl (ci := 1) (fun _ => rfl) rfl (c_X1_forgetAll hr9) (cwV 0 F.2.2.2.2 gX4_restore_X1_forgetAll rfl rfl rfl ⟨rfl, hd_X1_forgetAll⟩ ⟨(Nat.le_of_ble_eq_true rfl), (Nat.le_of_ble_eq_true rfl)⟩) rfl rfl hl.1 (Nat.le_of_ble_eq_true rfl) dX4_restore_40 ⟨(Nat.le_of_ble_eq_true rfl), (Nat.le_of_ble_eq_true rfl)⟩ (rest := []) (fun H locs hP hS => ?_)
    refine W.eq (g2 := F0 m 43 ls []) rfl ?_
    refine lv_aload_n F.1 F.2.1 dX4_restore_43 rfl (lv_at hl 0 rfl) ?_
    refine gR_X4_now F hK hP  (fun _ h => List.mem_cons_of_mem _ (List.mem_append_left _ (List.mem_append_left _ (List.mem_append_left _ (List.mem_append_left _ (List.mem_append_left _ (List.mem_append_right _ h))))))) (List.mem_of_getElem? (i := 4) rfl) dX4_restore_44 ?_
    refine gI_X0_dayCount F hK hP (by decide) rfl (fun _ h => List.mem_cons_of_mem _ (List.mem_append_left _ (List.mem_append_left _ (List.mem_append_left _ (List.mem_append_left _ (List.mem_append_right _ h)))))) (List.mem_of_getElem? (i := 7) rfl) dX4_restore_47 ?_
    obtain rfl := Option.some.inj hf
    exact x_iretT F hr hlk hP hS rfl (Nat.le_of_ble_eq_true rfl) (Nat.le_of_ble_eq_true rfl) dX4_restore_50
  · have hf := ifp hc4 hf
    obtain rfl := Option.some.inj hf
    exact x_throw2 F hlt hG hP hS hx hlk rfl (List.mem_of_getElem? (i := 1) rfl) (List.mem_of_getElem? (i := 2) rfl) (fun _ h => List.mem_cons_of_mem _ (List.mem_append_left _ (List.mem_append_right _ h))) (is := 230) (text := "nothing is saved there") (List.mem_of_getElem? (i := 14) rfl) hl.1 dX4_restore_13 dX4_restore_16 dX4_restore_17 dX4_restore_19 dX4_restore_22 (Nat.le_of_ble_eq_true rfl) (Nat.le_of_ble_eq_true rfl) (Nat.le_of_ble_eq_true rfl) (Nat.le_of_ble_eq_true rfl) (Nat.le_of_ble_eq_true rfl) (Nat.le_of_ble_eq_true rfl)
