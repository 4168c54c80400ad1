-- FrostTubes$Text.put(I)V
def f_X3_put (g : Row) (a1 : Int32) : Option (Row) := (if (120 : Int32) ≤ (g 131) then some g else (if oob (g 131) 120 then none else some (upd (upd g ((g 131).toNatClampNeg) a1) 131 (((upd g ((g 131).toNatClampNeg) a1) 131) + (1 : Int32)))))
def rmX3_put : Room := { frames := 0, cells := 0, slots := 0, locals := 0 }
theorem hd_X3_put : yX3_put.cls ≠ "java/lang/invoke/MethodHandle" ∧ yX3_put.cls ≠ "java/lang/invoke/VarHandle" ∧ (parseMethodDescriptor yX3_put.desc).map (fun d => d.parameters.length) = some 1 := by decide +kernel
set_option maxHeartbeats 8000000 in
set_option maxRecDepth 100000 in
theorem c_X3_put {l : Launch} {D : va_G} {x : Nat} {μ : Mem} {g : Row} (a1 : Int32) {r : Row} (hf : f_X3_put g a1 = some r) : CX l yX3_put wsX3_put rmX3_put [.ref (x + 1), .int a1] D x (va_up μ 19 g) (none) (va_up μ 19 r) := by
  refine CX.of (cc := cX3_put) (maxL := 2) (ret := none) pn_X3 rfl (Nat.le_of_ble_eq_true rfl) ?_
  intro p e s m args below meth c F hr hlk hK hG
  intro ls H locs hl hP hS
  have hl : lv_has ls 2 [(0, .ref (x + 1)), (1, .int a1)] := hl
  unfold f_X3_put at hf
  refine lv_aload_n F.1 F.2.1 dX3_put_0 rfl (lv_at hl 0 rfl) ?_
  refine gI_X3_length F hK hP  (mu_at _ _ _) (fun _ h => List.mem_cons_of_mem _ (List.mem_append_right _ h)) (List.mem_of_getElem? (i := 1) rfl) dX3_put_1 ?_
  refine lv_bipush (v := (120 : Int32)) F.1 F.2.1 dX3_put_4 (by decide) ?_
  refine lv_icmp_ge (tgt := 29) F.1 F.2.1 dX3_put_6 rfl (fun hc1 => ?_) (fun hc1 => ?_)
  · have hf := ifp hc1 hf
    obtain rfl := Option.some.inj hf
    exact x_vret F hr hlk hP hS rfl dX3_put_29
  · have hf := ifn hc1 hf
    refine lv_aload_n F.1 F.2.1 dX3_put_9 rfl (lv_at hl 0 rfl) ?_
    refine gR_X3_signs F hK hP  (fun _ h => List.mem_cons_of_mem _ (List.mem_append_right _ h)) (List.mem_of_getElem? (i := 2) rfl) dX3_put_10 ?_
    refine lv_aload_n F.1 F.2.1 dX3_put_13 rfl (lv_at hl 0 rfl) ?_
    refine gI_X3_length F hK hP  (mu_at _ _ _) (fun _ h => List.mem_cons_of_mem _ (List.mem_append_right _ h)) (List.mem_of_getElem? (i := 1) rfl) dX3_put_14 ?_
    refine lv_iload_n F.1 F.2.1 dX3_put_17 rfl (lv_at hl 1 rfl) ?_
    obtain ⟨hb2, hf⟩ := ifg hf
    refine sA_SGN F hK hP hS hb2 dX3_put_18 (fun H locs hP hS => ?_)
    refine lv_aload_n F.1 F.2.1 dX3_put_19 rfl (lv_at hl 0 rfl) ?_
    refine lv_dup F.1 F.2.1 dX3_put_20 rfl ?_
    refine gI_X3_length F hK hP  (mu_at _ _ _) (fun _ h => List.mem_cons_of_mem _ (List.mem_append_right _ h)) (List.mem_of_getElem? (i := 1) rfl) dX3_put_21 ?_
    refine lv_iconst (v := (1 : Int32)) F.1 F.2.1 dX3_put_24 (by decide) ?_
    refine lv_iadd F.1 F.2.1 dX3_put_25 ?_
    refine pI_X3_length F hK  hP hS (fun _ h => List.mem_cons_of_mem _ (List.mem_append_right _ h)) (List.mem_of_getElem? (i := 1) rfl) dX3_put_26 (fun H locs hP hS => ?_)
    obtain rfl := Option.some.inj hf
    exact x_vret F hr hlk hP hS rfl dX3_put_29

-- FrostTubes$Text.nextSign()I
def f_X3_nextSign (g : Row) : Option (Int32) := (if (g 132) < 0 then some (-1 : Int32) else (if (g 131) ≤ (g 132) then some (-1 : Int32) else (if (120 : Int32) ≤ (g 132) then some (-1 : Int32) else (if oob (g 132) 120 then none else some (g (g 132).toNatClampNeg)))))
def rmX3_nextSign : Room := { frames := 0, cells := 0, slots := 0, locals := 0 }
theorem hd_X3_nextSign : yX3_nextSign.cls ≠ "java/lang/invoke/MethodHandle" ∧ yX3_nextSign.cls ≠ "java/lang/invoke/VarHandle" ∧ (parseMethodDescriptor yX3_nextSign.desc).map (fun d => d.parameters.length) = some 0 := by decide +kernel
set_option maxHeartbeats 8000000 in
set_option maxRecDepth 100000 in
theorem c_X3_nextSign {l : Launch} {D : va_G} {x : Nat} {μ : Mem} {g : Row} (hg : μ 19 = g) {r : Int32} (hf : f_X3_nextSign g = some r) : CX l yX3_nextSign wsX3_nextSign rmX3_nextSign [.ref (x + 1)] D x μ (some (.int r)) μ := by
  refine CX.of (cc := cX3_nextSign) (maxL := 1) (ret := (some .int)) pn_X3 rfl (Nat.le_of_ble_eq_true rfl) ?_
  intro p e s m args below meth c F hr hlk hK hG
  intro ls H locs hl hP hS
  have hl : lv_has ls 1 [(0, .ref (x + 1))] := hl
  unfold f_X3_nextSign at hf
  refine lv_aload_n F.1 F.2.1 dX3_nextSign_0 rfl (lv_at hl 0 rfl) ?_
  refine gI_X3_at F hK hP  hg (fun _ h => List.mem_cons_of_mem _ (List.mem_append_right _ h)) (List.mem_of_getElem? (i := 1) rfl) dX3_nextSign_1 ?_
  refine lv_if_lt (tgt := 39) F.1 F.2.1 dX3_nextSign_4 rfl (fun hc1 => ?_) (fun hc1 => ?_)
  · have hf := ifp hc1 hf
    refine lv_iconst (v := (-1 : Int32)) F.1 F.2.1 dX3_nextSign_39 (by decide) ?_
    obtain rfl := Option.some.inj hf
    exact x_iret F hr hlk hP hS rfl dX3_nextSign_40
  · have hf := ifn hc1 hf
    refine lv_aload_n F.1 F.2.1 dX3_nextSign_7 rfl (lv_at hl 0 rfl) ?_
    refine gI_X3_at F hK hP  hg (fun _ h => List.mem_cons_of_mem _ (List.mem_append_right _ h)) (List.mem_of_getElem? (i := 1) rfl) dX3_nextSign_8 ?_
    refine lv_aload_n F.1 F.2.1 dX3_nextSign_11 rfl (lv_at hl 0 rfl) ?_
    refine gI_X3_length F hK hP  hg (fun _ h => List.mem_cons_of_mem _ (List.mem_append_right _ h)) (List.mem_of_getElem? (i := 2) rfl) dX3_nextSign_12 ?_
    refine lv_icmp_ge (tgt := 39) F.1 F.2.1 dX3_nextSign_15 rfl (fun hc2 => ?_) (fun hc2 => ?_)
    · have hf := ifp hc2 hf
      refine lv_iconst (v := (-1 : Int32)) F.1 F.2.1 dX3_nextSign_39 (by decide) ?_
      obtain rfl := Option.some.inj hf
      exact x_iret F hr hlk hP hS rfl dX3_nextSign_40
    · have hf := ifn hc2 hf
      refine lv_aload_n F.1 F.2.1 dX3_nextSign_18 rfl (lv_at hl 0 rfl) ?_
      refine gI_X3_at F hK hP  hg (fun _ h => List.mem_cons_of_mem _ (List.mem_append_right _ h)) (List.mem_of_getElem? (i := 1) rfl) dX3_nextSign_19 ?_
      refine lv_bipush (v := (120 : Int32)) F.1 F.2.1 dX3_nextSign_22 (by decide) ?_
      refine lv_icmp_ge (tgt := 39) F.1 F.2.1 dX3_nextSign_24 rfl (fun hc3 => ?_) (fun hc3 => ?_)
      · have hf := ifp hc3 hf
        refine lv_iconst (v := (-1 : Int32)) F.1 F.2.1 dX3_nextSign_39 (by decide) ?_
        obtain rfl := Option.some.inj hf
        exact x_iret F hr hlk hP hS rfl dX3_nextSign_40
      · have hf := ifn hc3 hf
        refine lv_aload_n F.1 F.2.1 dX3_nextSign_27 rfl (lv_at hl 0 rfl) ?_
        refine gR_X3_signs F hK hP  (fun _ h => List.mem_cons_of_mem _ (List.mem_append_right _ h)) (List.mem_of_getElem? (i := 3) rfl) dX3_nextSign_28 ?_
        refine lv_aload_n F.1 F.2.1 dX3_nextSign_31 rfl (lv_at hl 0 rfl) ?_
        refine gI_X3_at F hK hP  hg (fun _ h => List.mem_cons_of_mem _ (List.mem_append_right _ h)) (List.mem_of_getElem? (i := 1) rfl) dX3_nextSign_32 ?_
        obtain ⟨hb4, hf⟩ := ifg hf
        refine lA_SGN F hK hP hg hb4 dX3_nextSign_35 ?_
        refine lv_goto (tgt := 40) F.1 F.2.1 dX3_nextSign_36 rfl ?_
        obtain rfl := Option.some.inj hf
        exact x_iret F hr hlk hP hS rfl dX3_nextSign_40

-- FrostTubes$Text.startReading()V
def f_X3_startReading (g : Row) : Option (Row) := ((f_X3_nextSign (upd (upd g 132 (0 : Int32)) 133 (-1 : Int32))).bind fun r1 => (if r1 = (68 : Int32) then some (upd (upd (upd g 132 (0 : Int32)) 133 (-1 : Int32)) 132 (1 : Int32)) else some (upd (upd (upd g 132 (0 : Int32)) 133 (-1 : Int32)) 133 (0 : Int32))))
def rmX3_startReading : Room := { frames := 1, cells := 0, slots := 0, locals := 20 }
theorem hd_X3_startReading : yX3_startReading.cls ≠ "java/lang/invoke/MethodHandle" ∧ yX3_startReading.cls ≠ "java/lang/invoke/VarHandle" ∧ (parseMethodDescriptor yX3_startReading.desc).map (fun d => d.parameters.length) = some 0 := by decide +kernel
set_option maxHeartbeats 8000000 in
set_option maxRecDepth 100000 in
theorem c_X3_startReading {l : Launch} {D : va_G} {x : Nat} {μ : Mem} {g : Row} {r : Row} (hf : f_X3_startReading g = some r) : CX l yX3_startReading wsX3_startReading rmX3_startReading [.ref (x + 1)] D x (va_up μ 19 g) (none) (va_up μ 19 r) := by
  refine CX.of (cc := cX3_startReading) (maxL := 1) (ret := none) pn_X3 rfl (Nat.le_of_ble_eq_true rfl) ?_
  intro p e s m args below meth c F hr hlk hK hG
  intro ls H locs hl hP hS
  have hl : lv_has ls 1 [(0, .ref (x + 1))] := hl
  unfold f_X3_startReading at hf
  refine lv_aload_n F.1 F.2.1 dX3_startReading_0 rfl (lv_at hl 0 rfl) ?_
  refine lv_iconst (v := (0 : Int32)) F.1 F.2.1 dX3_startReading_1 (by decide) ?_
  refine pI_X3_at F hK  hP hS (fun _ h => List.mem_cons_of_mem _ (List.mem_append_right _ h)) (List.mem_of_getElem? (i := 1) rfl) dX3_startReading_2 (fun H locs hP hS => ?_)
  refine lv_aload_n F.1 F.2.1 dX3_startReading_5 rfl (lv_at hl 0 rfl) ?_
  refine lv_iconst (v := (-1 : Int32)) F.1 F.2.1 dX3_startReading_6 (by decide) ?_
  refine pI_X3_error F hK  hP hS (fun _ h => List.mem_cons_of_mem _ (List.mem_append_right _ h)) (List.mem_of_getElem? (i := 2) rfl) dX3_startReading_7 (fun H locs hP hS => ?_)
  refine lv_aload_n F.1 F.2.1 dX3_startReading_10 rfl (lv_at hl 0 rfl) ?_
  obtain ⟨r1, hr2, hf⟩ := bnd hf
  refine x_callV F hK hG hP hS (o := 1) (by decide) (q := (1, 0, 0)) rfl (ci := 3) (fun _ => rfl) rfl (c_X3_nextSign (mu_at _ _ _) hr2) (cwV 0 F.2.2.2.2 gX3_startReading_X3_nextSign rfl rfl rfl ⟨rfl, hd_X3_nextSign⟩ ⟨(Nat.le_of_ble_eq_true rfl), (Nat.le_of_ble_eq_true rfl)⟩) rfl rfl hl.1 (Nat.le_of_ble_eq_true rfl) dX3_startReading_11 ⟨(Nat.le_of_ble_eq_true rfl), (Nat.le_of_ble_eq_true rfl)⟩ (rest := []) (fun H locs hP hS => ?_)
  refine W.eq (g2 := F0 m 14 ls [.int r1]) rfl ?_
  refine lv_bipush (v := (68 : Int32)) F.1 F.2.1 dX3_startReading_14 (by decide) ?_
  refine lv_icmp_ne (tgt := 27) F.1 F.2.1 dX3_startReading_16 rfl (fun hc3 => ?_) (fun hc3 => ?_)
  · have hf := ifn hc3 hf
    refine lv_aload_n F.1 F.2.1 dX3_startReading_27 rfl (lv_at hl 0 rfl) ?_
    refine lv_iconst (v := (0 : Int32)) F.1 F.2.1 dX3_startReading_28 (by decide) ?_
    refine pI_X3_error F hK  hP hS (fun _ h => List.mem_cons_of_mem _ (List.mem_append_right _ h)) (List.mem_of_getElem? (i := 2) rfl) dX3_startReading_29 (fun H locs hP hS => ?_)
    obtain rfl := Option.some.inj hf
    exact x_vret F hr hlk hP hS rfl dX3_startReading_32
  · have hf := ifp hc3 hf
    refine lv_aload_n F.1 F.2.1 dX3_startReading_19 rfl (lv_at hl 0 rfl) ?_
    refine lv_iconst (v := (1 : Int32)) F.1 F.2.1 dX3_startReading_20 (by decide) ?_
    refine pI_X3_at F hK  hP hS (fun _ h => List.mem_cons_of_mem _ (List.mem_append_right _ h)) (List.mem_of_getElem? (i := 1) rfl) dX3_startReading_21 (fun H locs hP hS => ?_)
    refine lv_goto (tgt := 32) F.1 F.2.1 dX3_startReading_24 rfl ?_
    obtain rfl := Option.some.inj hf
    exact x_vret F hr hlk hP hS rfl dX3_startReading_32

-- FrostTubes$Text.hasCommand()Z
def f_X3_hasCommand (g : Row) : Option (Int32) := (if (g 133) = (-1 : Int32) then (if (g 131) ≤ (g 132) then some (0 : Int32) else some (1 : Int32)) else some (0 : Int32))
def rmX3_hasCommand : Room := { frames := 0, cells := 0, slots := 0, locals := 0 }
theorem hd_X3_hasCommand : yX3_hasCommand.cls ≠ "java/lang/invoke/MethodHandle" ∧ yX3_hasCommand.cls ≠ "java/lang/invoke/VarHandle" ∧ (parseMethodDescriptor yX3_hasCommand.desc).map (fun d => d.parameters.length) = some 0 := by decide +kernel
set_option maxHeartbeats 8000000 in
set_option maxRecDepth 100000 in
theorem c_X3_hasCommand {l : Launch} {D : va_G} {x : Nat} {μ : Mem} {g : Row} (hg : μ 19 = g) {r : Int32} (hf : f_X3_hasCommand g = some r) : CX l yX3_hasCommand wsX3_hasCommand rmX3_hasCommand [.ref (x + 1)] D x μ (some (.int r)) μ := by
  refine CX.of (cc := cX3_hasCommand) (maxL := 1) (ret := (some .boolean)) pn_X3 rfl (Nat.le_of_ble_eq_true rfl) ?_
  intro p e s m args below meth c F hr hlk hK hG
  intro ls H locs hl hP hS
  have hl : lv_has ls 1 [(0, .ref (x + 1))] := hl
  unfold f_X3_hasCommand at hf
  refine lv_aload_n F.1 F.2.1 dX3_hasCommand_0 rfl (lv_at hl 0 rfl) ?_
  refine gI_X3_error F hK hP  hg (fun _ h => List.mem_cons_of_mem _ (List.mem_append_right _ h)) (List.mem_of_getElem? (i := 1) rfl) dX3_hasCommand_1 ?_
  refine lv_iconst (v := (-1 : Int32)) F.1 F.2.1 dX3_hasCommand_4 (by decide) ?_
  refine lv_icmp_ne (tgt := 23) F.1 F.2.1 dX3_hasCommand_5 rfl (fun hc1 => ?_) (fun hc1 => ?_)
  · have hf := ifn hc1 hf
    refine lv_iconst (v := (0 : Int32)) F.1 F.2.1 dX3_hasCommand_23 (by decide) ?_
    obtain rfl := Option.some.inj hf
    exact x_zret F hr hlk hP hS rfl (b01_v (v := (0 : Int32)) (Or.inl rfl)) dX3_hasCommand_24
  · have hf := ifp hc1 hf
    refine lv_aload_n F.1 F.2.1 dX3_hasCommand_8 rfl (lv_at hl 0 rfl) ?_
    refine gI_X3_at F hK hP  hg (fun _ h => List.mem_cons_of_mem _ (List.mem_append_right _ h)) (List.mem_of_getElem? (i := 2) rfl) dX3_hasCommand_9 ?_
    refine lv_aload_n F.1 F.2.1 dX3_hasCommand_12 rfl (lv_at hl 0 rfl) ?_
    refine gI_X3_length F hK hP  hg (fun _ h => List.mem_cons_of_mem _ (List.mem_append_right _ h)) (List.mem_of_getElem? (i := 3) rfl) dX3_hasCommand_13 ?_
    refine lv_icmp_ge (tgt := 23) F.1 F.2.1 dX3_hasCommand_16 rfl (fun hc2 => ?_) (fun hc2 => ?_)
    · have hf := ifp hc2 hf
      refine lv_iconst (v := (0 : Int32)) F.1 F.2.1 dX3_hasCommand_23 (by decide) ?_
      obtain rfl := Option.some.inj hf
      exact x_zret F hr hlk hP hS rfl (b01_v (v := (0 : Int32)) (Or.inl rfl)) dX3_hasCommand_24
    · have hf := ifn hc2 hf
      refine lv_iconst (v := (1 : Int32)) F.1 F.2.1 dX3_hasCommand_19 (by decide) ?_
      refine lv_goto (tgt := 24) F.1 F.2.1 dX3_hasCommand_20 rfl ?_
      obtain rfl := Option.some.inj hf
      exact x_zret F hr hlk hP hS rfl (b01_v (v := (1 : Int32)) (Or.inr rfl)) dX3_hasCommand_24

-- FrostTubes$Text.readDigit(II)I
def f_X3_readDigit (g : Row) (a1 : Int32) (a2 : Int32) : Option (Int32 × Row) := (if (g 133) = (-1 : Int32) then ((f_X3_nextSign g).bind fun r2 => (if r2 < ((48 : Int32) + a1) then some ((0 : Int32), (upd g 133 (g 132))) else (if r2 ≤ ((48 : Int32) + a2) then some ((r2 - (48 : Int32)), (upd g 132 ((g 132) + (1 : Int32)))) else some ((0 : Int32), (upd g 133 (g 132)))))) else some ((0 : Int32), g))
def rmX3_readDigit : Room := { frames := 1, cells := 0, slots := 0, locals := 20 }
theorem hd_X3_readDigit : yX3_readDigit.cls ≠ "java/lang/invoke/MethodHandle" ∧ yX3_readDigit.cls ≠ "java/lang/invoke/VarHandle" ∧ (parseMethodDescriptor yX3_readDigit.desc).map (fun d => d.parameters.length) = some 2 := by decide +kernel
set_option maxHeartbeats 8000000 in
set_option maxRecDepth 100000 in
theorem c_X3_readDigit {l : Launch} {D : va_G} {x : Nat} {μ : Mem} {g : Row} (a1 : Int32) (a2 : Int32) {r : Int32 × Row} (hf : f_X3_readDigit g a1 a2 = some r) : CX l yX3_readDigit wsX3_readDigit rmX3_readDigit [.ref (x + 1), .int a1, .int a2] D x (va_up μ 19 g) (some (.int r.1)) (va_up μ 19 r.2) := by
  refine CX.of (cc := cX3_readDigit) (maxL := 4) (ret := (some .int)) pn_X3 rfl (Nat.le_of_ble_eq_true rfl) ?_
  intro p e s m args below meth c F hr hlk hK hG
  intro ls H locs hl hP hS
  have hl : lv_has ls 4 [(0, .ref (x + 1)), (1, .int a1), (2, .int a2)] := hl
  unfold f_X3_readDigit at hf
  refine lv_aload_n F.1 F.2.1 dX3_readDigit_0 rfl (lv_at hl 0 rfl) ?_
  refine gI_X3_error F hK hP  (mu_at _ _ _) (fun _ h => List.mem_cons_of_mem _ (List.mem_append_right _ h)) (List.mem_of_getElem? (i := 1) rfl) dX3_readDigit_1 ?_
  refine lv_iconst (v := (-1 : Int32)) F.1 F.2.1 dX3_readDigit_4 (by decide) ?_
  refine lv_icmp_eq (tgt := 10) F.1 F.2.1 dX3_readDigit_5 rfl (fun hc1 => ?_) (fun hc1 => ?_)
  · have hf := ifp hc1 hf
    refine lv_aload_n F.1 F.2.1 dX3_readDigit_10 rfl (lv_at hl 0 rfl) ?_
    obtain ⟨r2, hr3, hf⟩ := bnd hf
    refine x_callV F hK hG hP hS (o := 1) (by decide) (q := (1, 0, 0)) rfl (ci := 3) (fun _ => rfl) rfl (c_X3_nextSign (mu_at _ _ _) hr3) (cwV 0 F.2.2.2.2 gX3_readDigit_X3_nextSign rfl rfl rfl ⟨rfl, hd_X3_nextSign⟩ ⟨(Nat.le_of_ble_eq_true rfl), (Nat.le_of_ble_eq_true rfl)⟩) rfl rfl hl.1 (Nat.le_of_ble_eq_true rfl) dX3_readDigit_11 ⟨(Nat.le_of_ble_eq_true rfl), (Nat.le_of_ble_eq_true rfl)⟩ (rest := []) (fun H locs hP hS => ?_)
    refine W.eq (g2 := F0 m 14 ls [.int r2]) rfl ?_
    refine lv_istore_n F.1 F.2.1 dX3_readDigit_14 rfl hl (Nat.le_of_ble_eq_true rfl) rfl (fun ls hl => ?_)
    have hl : lv_has ls 4 [(3, .int r2), (0, .ref (x + 1)), (1, .int a1), (2, .int a2)] := hl
    refine lv_iload_n F.1 F.2.1 dX3_readDigit_15 rfl (lv_at hl 0 rfl) ?_
    refine lv_bipush (v := (48 : Int32)) F.1 F.2.1 dX3_readDigit_16 (by decide) ?_
    refine lv_iload_n F.1 F.2.1 dX3_readDigit_18 rfl (lv_at hl 2 rfl) ?_
    refine lv_iadd F.1 F.2.1 dX3_readDigit_19 ?_
    refine lv_icmp_lt (tgt := 31) F.1 F.2.1 dX3_readDigit_20 rfl (fun hc4 => ?_) (fun hc4 => ?_)
    · have hf := ifp hc4 hf
      refine lv_aload_n F.1 F.2.1 dX3_readDigit_31 rfl (lv_at hl 1 rfl) ?_
      refine lv_aload_n F.1 F.2.1 dX3_readDigit_32 rfl (lv_at hl 1 rfl) ?_
      refine gI_X3_at F hK hP  (mu_at _ _ _) (fun _ h => List.mem_cons_of_mem _ (List.mem_append_right _ h)) (List.mem_of_getElem? (i := 2) rfl) dX3_readDigit_33 ?_
      refine pI_X3_error F hK  hP hS (fun _ h => List.mem_cons_of_mem _ (List.mem_append_right _ h)) (List.mem_of_getElem? (i := 1) rfl) dX3_readDigit_36 (fun H locs hP hS => ?_)
      refine lv_iconst (v := (0 : Int32)) F.1 F.2.1 dX3_readDigit_39 (by decide) ?_
      obtain rfl := Option.some.inj hf
      exact x_iret F hr hlk hP hS rfl dX3_readDigit_40
    · have hf := ifn hc4 hf
      refine lv_iload_n F.1 F.2.1 dX3_readDigit_23 rfl (lv_at hl 0 rfl) ?_
      refine lv_bipush (v := (48 : Int32)) F.1 F.2.1 dX3_readDigit_24 (by decide) ?_
      refine lv_iload_n F.1 F.2.1 dX3_readDigit_26 rfl (lv_at hl 3 rfl) ?_
      refine lv_iadd F.1 F.2.1 dX3_readDigit_27 ?_
      refine lv_icmp_le (tgt := 41) F.1 F.2.1 dX3_readDigit_28 rfl (fun hc5 => ?_) (fun hc5 => ?_)
      · have hf := ifp hc5 hf
        refine lv_aload_n F.1 F.2.1 dX3_readDigit_41 rfl (lv_at hl 1 rfl) ?_
        refine lv_dup F.1 F.2.1 dX3_readDigit_42 rfl ?_
        refine gI_X3_at F hK hP  (mu_at _ _ _) (fun _ h => List.mem_cons_of_mem _ (List.mem_append_right _ h)) (List.mem_of_getElem? (i := 2) rfl) dX3_readDigit_43 ?_
        refine lv_iconst (v := (1 : Int32)) F.1 F.2.1 dX3_readDigit_46 (by decide) ?_
        refine lv_iadd F.1 F.2.1 dX3_readDigit_47 ?_
        refine pI_X3_at F hK  hP hS (fun _ h => List.mem_cons_of_mem _ (List.mem_append_right _ h)) (List.mem_of_getElem? (i := 2) rfl) dX3_readDigit_48 (fun H locs hP hS => ?_)
        refine lv_iload_n F.1 F.2.1 dX3_readDigit_51 rfl (lv_at hl 0 rfl) ?_
        refine lv_bipush (v := (48 : Int32)) F.1 F.2.1 dX3_readDigit_52 (by decide) ?_
        refine lv_isub F.1 F.2.1 dX3_readDigit_54 ?_
        obtain rfl := Option.some.inj hf
        exact x_iret F hr hlk hP hS rfl dX3_readDigit_55
      · have hf := ifn hc5 hf
        refine lv_aload_n F.1 F.2.1 dX3_readDigit_31 rfl (lv_at hl 1 rfl) ?_
        refine lv_aload_n F.1 F.2.1 dX3_readDigit_32 rfl (lv_at hl 1 rfl) ?_
        refine gI_X3_at F hK hP  (mu_at _ _ _) (fun _ h => List.mem_cons_of_mem _ (List.mem_append_right _ h)) (List.mem_of_getElem? (i := 2) rfl) dX3_readDigit_33 ?_
        refine pI_X3_error F hK  hP hS (fun _ h => List.mem_cons_of_mem _ (List.mem_append_right _ h)) (List.mem_of_getElem? (i := 1) rfl) dX3_readDigit_36 (fun H locs hP hS => ?_)
        refine lv_iconst (v := (0 : Int32)) F.1 F.2.1 dX3_readDigit_39 (by decide) ?_
        obtain rfl := Option.some.inj hf
        exact x_iret F hr hlk hP hS rfl dX3_readDigit_40
  · have hf := ifn hc1 hf
    refine lv_iconst (v := (0 : Int32)) F.1 F.2.1 dX3_readDigit_8 (by decide) ?_
    obtain rfl := Option.some.inj hf
    exact x_iret F hr hlk hP hS rfl dX3_readDigit_9

-- FrostTubes$Text.readNumber(II)I
def f_X3_readNumber (g : Row) (a1 : Int32) (a2 : Int32) : Option (Int32 × Row) := ((f_X3_readDigit g (a1 / (10 : Int32)) (a2 / (10 : Int32))).bind fun r1 => ((f_X3_readDigit r1.2 (if (0 : Int32) < (a1 - ((10 : Int32) * r1.1)) then (a1 - ((10 : Int32) * r1.1)) else (0 : Int32)) (if (a2 - ((10 : Int32) * r1.1)) < (9 : Int32) then (a2 - ((10 : Int32) * r1.1)) else (9 : Int32))).bind fun r3 => some ((((10 : Int32) * r1.1) + r3.1), r3.2)))
def rmX3_readNumber : Room := { frames := 2, cells := 0, slots := 0, locals := 43 }
theorem hd_X3_readNumber : yX3_readNumber.cls ≠ "java/lang/invoke/MethodHandle" ∧ yX3_readNumber.cls ≠ "java/lang/invoke/VarHandle" ∧ (parseMethodDescriptor yX3_readNumber.desc).map (fun d => d.parameters.length) = some 2 := by decide +kernel
set_option maxHeartbeats 8000000 in
set_option maxRecDepth 100000 in
theorem c_X3_readNumber {l : Launch} {D : va_G} {x : Nat} {μ : Mem} {g : Row} (a1 : Int32) (a2 : Int32) {r : Int32 × Row} (hf : f_X3_readNumber g a1 a2 = some r) : CX l yX3_readNumber wsX3_readNumber rmX3_readNumber [.ref (x + 1), .int a1, .int a2] D x (va_up μ 19 g) (some (.int r.1)) (va_up μ 19 r.2) := by
  refine CX.of (cc := cX3_readNumber) (maxL := 5) (ret := (some .int)) pn_X3 rfl (Nat.le_of_ble_eq_true rfl) ?_
  intro p e s m args below meth c F hr hlk hK hG
  intro ls H locs hl hP hS
  have hl : lv_has ls 5 [(0, .ref (x + 1)), (1, .int a1), (2, .int a2)] := hl
  unfold f_X3_readNumber at hf
  refine lv_aload_n F.1 F.2.1 dX3_readNumber_0 rfl (lv_at hl 0 rfl) ?_
  refine lv_iload_n F.1 F.2.1 dX3_readNumber_1 rfl (lv_at hl 1 rfl) ?_
  refine lv_bipush (v := (10 : Int32)) F.1 F.2.1 dX3_readNumber_2 (by decide) ?_
  refine lv_idiv F.1 F.2.1 dX3_readNumber_4 (by decide) ?_
  refine lv_iload_n F.1 F.2.1 dX3_readNumber_5 rfl (lv_at hl 2 rfl) ?_
  refine lv_bipush (v := (10 : Int32)) F.1 F.2.1 dX3_readNumber_6 (by decide) ?_
  refine lv_idiv F.1 F.2.1 dX3_readNumber_8 (by decide) ?_
  obtain ⟨r1, hr2, hf⟩ := bnd hf
  refine x_callV F hK hG hP hS (o := 1) (by decide) (q := (1, 0, 0)) rfl (ci := 3) (fun _ => rfl) rfl (c_X3_readDigit (a1 / (10 : Int32)) (a2 / (10 : Int32)) hr2) (cwV 2 F.2.2.2.2 gX3_readNumber_X3_readDigit rfl rfl rfl ⟨rfl, hd_X3_readDigit⟩ ⟨(Nat.le_of_ble_eq_true rfl), (Nat.le_of_ble_eq_true rfl)⟩) rfl rfl hl.1 (Nat.le_of_ble_eq_true rfl) dX3_readNumber_9 ⟨(Nat.le_of_ble_eq_true rfl), (Nat.le_of_ble_eq_true rfl)⟩ (rest := []) (fun H locs hP hS => ?_)
  refine W.eq (g2 := F0 m 12 ls [.int r1.1]) rfl ?_
  refine lv_istore_n F.1 F.2.1 dX3_readNumber_12 rfl hl (Nat.le_of_ble_eq_true rfl) rfl (fun ls hl => ?_)
  have hl : lv_has ls 5 [(3, .int r1.1), (0, .ref (x + 1)), (1, .int a1), (2, .int a2)] := hl
  refine lv_aload_n F.1 F.2.1 dX3_readNumber_13 rfl (lv_at hl 1 rfl) ?_
  refine lv_iconst (v := (0 : Int32)) F.1 F.2.1 dX3_readNumber_14 (by decide) ?_
  refine lv_iload_n F.1 F.2.1 dX3_readNumber_15 rfl (lv_at hl 2 rfl) ?_
  refine lv_bipush (v := (10 : Int32)) F.1 F.2.1 dX3_readNumber_16 (by decide) ?_
  refine lv_iload_n F.1 F.2.1 dX3_readNumber_18 rfl (lv_at hl 0 rfl) ?_
  refine lv_imul F.1 F.2.1 dX3_readNumber_19 ?_
  refine lv_isub F.1 F.2.1 dX3_readNumber_20 ?_
  refine va_mmax F.1 F.2.1 (F.2.2.1.trans hl.1.symm) F.2.2.2.1 (F.2.2.2.2 _ (List.mem_of_getElem? (i := 1) rfl)) (F.2.2.2.2 _ (List.mem_of_getElem? (i := 2) rfl)) (F.2.2.2.2 _ (List.mem_of_getElem? (i := 3) rfl)) (F.2.2.2.2 _ (List.mem_of_getElem? (i := 4) rfl)) (Nat.le_of_ble_eq_true rfl) (Nat.le_of_ble_eq_true rfl) (Nat.le_of_ble_eq_true rfl) (Nat.le_of_ble_eq_true rfl) dX3_readNumber_21 ?_
  refine lv_bipush (v := (9 : Int32)) F.1 F.2.1 dX3_readNumber_24 (by decide) ?_
  refine lv_iload_n F.1 F.2.1 dX3_readNumber_26 rfl (lv_at hl 3 rfl) ?_
  refine lv_bipush (v := (10 : Int32)) F.1 F.2.1 dX3_readNumber_27 (by decide) ?_
  refine lv_iload_n F.1 F.2.1 dX3_readNumber_29 rfl (lv_at hl 0 rfl) ?_
  refine lv_imul F.1 F.2.1 dX3_readNumber_30 ?_
  refine lv_isub F.1 F.2.1 dX3_readNumber_31 ?_
  refine va_mmin F.1 F.2.1 (F.2.2.1.trans hl.1.symm) F.2.2.2.1 (F.2.2.2.2 _ (List.mem_of_getElem? (i := 5) rfl)) (F.2.2.2.2 _ (List.mem_of_getElem? (i := 6) rfl)) (F.2.2.2.2 _ (List.mem_of_getElem? (i := 3) rfl)) (F.2.2.2.2 _ (List.mem_of_getElem? (i := 7) rfl)) (Nat.le_of_ble_eq_true rfl) (Nat.le_of_ble_eq_true rfl) (Nat.le_of_ble_eq_true rfl) (Nat.le_of_ble_eq_true rfl) dX3_readNumber_32 ?_
  obtain ⟨r3, hr4, hf⟩ := bnd hf
  refine x_callV F hK hG hP hS (o := 1) (by decide) (q := (1, 0, 0)) rfl (ci := 3) (fun _ => rfl) rfl (c_X3_readDigit (if (0 : Int32) < (a1 - ((10 : Int32) * r1.1)) then (a1 - ((10 : Int32) * r1.1)) else (0 : Int32)) (if (a2 - ((10 : Int32) * r1.1)) < (9 : Int32) then (a2 - ((10 : Int32) * r1.1)) else (9 : Int32)) hr4) (cwV 2 F.2.2.2.2 gX3_readNumber_X3_readDigit rfl rfl rfl ⟨rfl, hd_X3_readDigit⟩ ⟨(Nat.le_of_ble_eq_true rfl), (Nat.le_of_ble_eq_true rfl)⟩) rfl rfl hl.1 (Nat.le_of_ble_eq_true rfl) dX3_readNumber_35 ⟨(Nat.le_of_ble_eq_true rfl), (Nat.le_of_ble_eq_true rfl)⟩ (rest := []) (fun H locs hP hS => ?_)
  refine W.eq (g2 := F0 m 38 ls [.int r3.1]) rfl ?_
  refine lv_istore F.1 F.2.1 dX3_readNumber_38 hl (Nat.le_of_ble_eq_true rfl) rfl (fun ls hl => ?_)
  have hl : lv_has ls 5 [(4, .int r3.1), (3, .int r1.1), (0, .ref (x + 1)), (1, .int a1), (2, .int a2)] := hl
  refine lv_bipush (v := (10 : Int32)) F.1 F.2.1 dX3_readNumber_40 (by decide) ?_
  refine lv_iload_n F.1 F.2.1 dX3_readNumber_42 rfl (lv_at hl 1 rfl) ?_
  refine lv_imul F.1 F.2.1 dX3_readNumber_43 ?_
  refine lv_iload F.1 F.2.1 dX3_readNumber_44 (lv_at hl 0 rfl) ?_
  refine lv_iadd F.1 F.2.1 dX3_readNumber_46 ?_
  obtain rfl := Option.some.inj hf
  exact x_iret F hr hlk hP hS rfl dX3_readNumber_47

-- FrostTubes$Text.readTemperature()I
def fb_X3_readTemperature_1  (K : Row → Int32 → Option (Int32 × Row)) (g : Row) (v1 : Int32) : Option (Int32 × Row) := ((f_X3_readNumber (upd g 132 ((g 132) + (1 : Int32))) (0 : Int32) (30 : Int32)).bind fun r5 => (if v1 = (45 : Int32) then some ((-r5.1), r5.2) else some (r5.1, r5.2)))
def fl_X3_readTemperature  : Nat → Row → Int32 → Option (Int32 × Row)
  | 0, _, _ => none
  | n + 1, g, v1 => fb_X3_readTemperature_1  (fl_X3_readTemperature  n) g v1
def f_X3_readTemperature (g : Row) : Option (Int32 × Row) := ((f_X3_nextSign g).bind fun r1 => (if r1 = (43 : Int32) then (fl_X3_readTemperature  FU g r1) else (if r1 = (45 : Int32) then (fl_X3_readTemperature  FU g r1) else some ((0 : Int32), (upd g 133 (g 132))))))
def rmX3_readTemperature : Room := { frames := 3, cells := 0, slots := 0, locals := 67 }
theorem hd_X3_readTemperature : yX3_readTemperature.cls ≠ "java/lang/invoke/MethodHandle" ∧ yX3_readTemperature.cls ≠ "java/lang/invoke/VarHandle" ∧ (parseMethodDescriptor yX3_readTemperature.desc).map (fun d => d.parameters.length) = some 0 := by decide +kernel
set_option maxHeartbeats 8000000 in
set_option maxRecDepth 100000 in
theorem c_X3_readTemperature {l : Launch} {D : va_G} {x : Nat} {μ : Mem} {g : Row} {r : Int32 × Row} (hf : f_X3_readTemperature g = some r) : CX l yX3_readTemperature wsX3_readTemperature rmX3_readTemperature [.ref (x + 1)] D x (va_up μ 19 g) (some (.int r.1)) (va_up μ 19 r.2) := by
  refine CX.of (cc := cX3_readTemperature) (maxL := 3) (ret := (some .int)) pn_X3 rfl (Nat.le_of_ble_eq_true rfl) ?_
  intro p e s m args below meth c F hr hlk hK hG
  have KEY : ∀ n : Nat, (∀ (g : Row) (v1 : Int32) (ls : Array Slot) (H : Heap) (locs : List Loc), lv_has ls 3 [(0, .ref (x + 1)), (1, .int v1)] → va_P D vwCl (WL D x (va_up μ 19 g)) H → va_S (rng x) s.heap H locs → fl_X3_readTemperature  n g v1 = some r → W p l e rmX3_readTemperature s m args below meth c H locs 0 0 (MQ below (QX D x (va_up μ 19 r.2) (some (.int r.1))) args s 0 0 (rng x)) (F0 m 27 ls [])) := by
    intro n
    induction n with
    | zero => exact (fun _ _ _ _ _ _ _ _ h => nomatch h)
    | succ n ih =>
      skip
      intro g v1  ls H locs hl hP hS hf
      have hf : fb_X3_readTemperature_1  (fl_X3_readTemperature  n) g v1 = some r := hf
      unfold fb_X3_readTemperature_1 at hf
      refine lv_aload_n F.1 F.2.1 dX3_readTemperature_27 rfl (lv_at hl 0 rfl) ?_
      refine lv_dup F.1 F.2.1 dX3_readTemperature_28 rfl ?_
      refine gI_X3_at F hK hP  (mu_at _ _ _) (fun _ h => List.mem_cons_of_mem _ (List.mem_append_right _ h)) (List.mem_of_getElem? (i := 1) rfl) dX3_readTemperature_29 ?_
      refine lv_iconst (v := (1 : Int32)) F.1 F.2.1 dX3_readTemperature_32 (by decide) ?_
      refine lv_iadd F.1 F.2.1 dX3_readTemperature_33 ?_
      refine pI_X3_at F hK  hP hS (fun _ h => List.mem_cons_of_mem _ (List.mem_append_right _ h)) (List.mem_of_getElem? (i := 1) rfl) dX3_readTemperature_34 (fun H locs hP hS => ?_)
      refine lv_aload_n F.1 F.2.1 dX3_readTemperature_37 rfl (lv_at hl 0 rfl) ?_
      refine lv_iconst (v := (0 : Int32)) F.1 F.2.1 dX3_readTemperature_38 (by decide) ?_
      refine lv_bipush (v := (30 : Int32)) F.1 F.2.1 dX3_readTemperature_39 (by decide) ?_
      obtain ⟨r5, hr6, hf⟩ := bnd hf
      refine x_callV F hK hG hP hS (o := 1) (by decide) (q := (1, 0, 0)) rfl (ci := 3) (fun _ => rfl) rfl (c_X3_readNumber (0 : Int32) (30 : Int32) hr6) (cwV 2 F.2.2.2.2 gX3_readTemperature_X3_readNumber rfl rfl rfl ⟨rfl, hd_X3_readNumber⟩ ⟨(Nat.le_of_ble_eq_true rfl), (Nat.le_of_ble_eq_true rfl)⟩) rfl rfl hl.1 (Nat.le_of_ble_eq_true rfl) dX3_readTemperature_41 ⟨(Nat.le_of_ble_eq_true rfl), (Nat.le_of_ble_eq_true rfl)⟩ (rest := []) (fun H locs hP hS => ?_)
      refine W.eq (g2 := F0 m 44 ls [.int r5.1]) rfl ?_
      refine lv_istore_n F.1 F.2.1 dX3_readTemperature_44 rfl hl (Nat.le_of_ble_eq_true rfl) rfl (fun ls hl => ?_)
      have hl : lv_has ls 3 [(2, .int r5.1), (0, .ref (x + 1)), (1, .int v1)] := hl
      refine lv_iload_n F.1 F.2.1 dX3_readTemperature_45 rfl (lv_at hl 2 rfl) ?_
      refine lv_bipush (v := (45 : Int32)) F.1 F.2.1 dX3_readTemperature_46 (by decide) ?_
      refine lv_icmp_ne (tgt := 56) F.1 F.2.1 dX3_readTemperature_48 rfl (fun hc7 => ?_) (fun hc7 => ?_)
      · have hf := ifn hc7 hf
        refine lv_iload_n F.1 F.2.1 dX3_readTemperature_56 rfl (lv_at hl 0 rfl) ?_
        obtain rfl := Option.some.inj hf
        exact x_iret F hr hlk hP hS rfl dX3_readTemperature_57
      · have hf := ifp hc7 hf
        refine lv_iload_n F.1 F.2.1 dX3_readTemperature_51 rfl (lv_at hl 0 rfl) ?_
        refine lv_ineg F.1 F.2.1 dX3_readTemperature_52 ?_
        refine lv_goto (tgt := 57) F.1 F.2.1 dX3_readTemperature_53 rfl ?_
        obtain rfl := Option.some.inj hf
        exact x_iret F hr hlk hP hS rfl dX3_readTemperature_57
  intro ls H locs hl hP hS
  have hl : lv_has ls 3 [(0, .ref (x + 1))] := hl
  unfold f_X3_readTemperature at hf
  refine lv_aload_n F.1 F.2.1 dX3_readTemperature_0 rfl (lv_at hl 0 rfl) ?_
  obtain ⟨r1, hr2, hf⟩ := bnd hf
  refine x_callV F hK hG hP hS (o := 1) (by decide) (q := (1, 0, 0)) rfl (ci := 3) (fun _ => rfl) rfl (c_X3_nextSign (mu_at _ _ _) hr2) (cwV 0 F.2.2.2.2 gX3_readTemperature_X3_nextSign rfl rfl rfl ⟨rfl, hd_X3_nextSign⟩ ⟨(Nat.le_of_ble_eq_true rfl), (Nat.le_of_ble_eq_true rfl)⟩) rfl rfl hl.1 (Nat.le_of_ble_eq_true rfl) dX3_readTemperature_1 ⟨(Nat.le_of_ble_eq_true rfl), (Nat.le_of_ble_eq_true rfl)⟩ (rest := []) (fun H locs hP hS => ?_)
  refine W.eq (g2 := F0 m 4 ls [.int r1]) rfl ?_
  refine lv_istore_n F.1 F.2.1 dX3_readTemperature_4 rfl hl (Nat.le_of_ble_eq_true rfl) rfl (fun ls hl => ?_)
  have hl : lv_has ls 3 [(1, .int r1), (0, .ref (x + 1))] := hl
  refine lv_iload_n F.1 F.2.1 dX3_readTemperature_5 rfl (lv_at hl 0 rfl) ?_
  refine lv_bipush (v := (43 : Int32)) F.1 F.2.1 dX3_readTemperature_6 (by decide) ?_
  refine lv_icmp_eq (tgt := 27) F.1 F.2.1 dX3_readTemperature_8 rfl (fun hc3 => ?_) (fun hc3 => ?_)
  · have hf := ifp hc3 hf
    exact (KEY FU) g r1 _ _ _ (lv_sub hl [1, 0] rfl) hP hS hf
  · have hf := ifn hc3 hf
    refine lv_iload_n F.1 F.2.1 dX3_readTemperature_11 rfl (lv_at hl 0 rfl) ?_
    refine lv_bipush (v := (45 : Int32)) F.1 F.2.1 dX3_readTemperature_12 (by decide) ?_
    refine lv_icmp_eq (tgt := 27) F.1 F.2.1 dX3_readTemperature_14 rfl (fun hc4 => ?_) (fun hc4 => ?_)
    · have hf := ifp hc4 hf
      exact (KEY FU) g r1 _ _ _ (lv_sub hl [1, 0] rfl) hP hS hf
    · have hf := ifn hc4 hf
      refine lv_aload_n F.1 F.2.1 dX3_readTemperature_17 rfl (lv_at hl 1 rfl) ?_
      refine lv_aload_n F.1 F.2.1 dX3_readTemperature_18 rfl (lv_at hl 1 rfl) ?_
      refine gI_X3_at F hK hP  (mu_at _ _ _) (fun _ h => List.mem_cons_of_mem _ (List.mem_append_right _ h)) (List.mem_of_getElem? (i := 1) rfl) dX3_readTemperature_19 ?_
      refine pI_X3_error F hK  hP hS (fun _ h => List.mem_cons_of_mem _ (List.mem_append_right _ h)) (List.mem_of_getElem? (i := 2) rfl) dX3_readTemperature_22 (fun H locs hP hS => ?_)
      refine lv_iconst (v := (0 : Int32)) F.1 F.2.1 dX3_readTemperature_25 (by decide) ?_
      obtain rfl := Option.some.inj hf
      exact x_iret F hr hlk hP hS rfl dX3_readTemperature_26

-- FrostTubes$Text.readCommand()V
def f_X3_readCommand (g : Row) : Option (Row) := ((f_X3_nextSign g).bind fun r1 => (if ((upd (upd (upd (upd (upd g 134 r1) 135 (0 : Int32)) 136 (0 : Int32)) 137 (0 : Int32)) 132 (((upd (upd (upd (upd g 134 r1) 135 (0 : Int32)) 136 (0 : Int32)) 137 (0 : Int32)) 132) + (1 : Int32))) 134) = (100 : Int32) then ((f_X3_readTemperature (upd (upd (upd (upd (upd g 134 r1) 135 (0 : Int32)) 136 (0 : Int32)) 137 (0 : Int32)) 132 (((upd (upd (upd (upd g 134 r1) 135 (0 : Int32)) 136 (0 : Int32)) 137 (0 : Int32)) 132) + (1 : Int32)))).bind fun r4 => ((f_X3_readNumber (upd r4.2 135 r4.1) (0 : Int32) (30 : Int32)).bind fun r6 => ((f_X3_readNumber (upd r6.2 136 r6.1) (1 : Int32) (60 : Int32)).bind fun r8 => some (upd r8.2 137 r8.1)))) else (if ((upd (upd (upd (upd (upd g 134 r1) 135 (0 : Int32)) 136 (0 : Int32)) 137 (0 : Int32)) 132 (((upd (upd (upd (upd g 134 r1) 135 (0 : Int32)) 136 (0 : Int32)) 137 (0 : Int32)) 132) + (1 : Int32))) 134) = (101 : Int32) then ((f_X3_readDigit (upd (upd (upd (upd (upd g 134 r1) 135 (0 : Int32)) 136 (0 : Int32)) 137 (0 : Int32)) 132 (((upd (upd (upd (upd g 134 r1) 135 (0 : Int32)) 136 (0 : Int32)) 137 (0 : Int32)) 132) + (1 : Int32))) (0 : Int32) (2 : Int32)).bind fun r11 => ((f_X3_readNumber (upd r11.2 135 r11.1) (0 : Int32) (50 : Int32)).bind fun r13 => some (upd r13.2 136 r13.1))) else (if ((upd (upd (upd (upd (upd g 134 r1) 135 (0 : Int32)) 136 (0 : Int32)) 137 (0 : Int32)) 132 (((upd (upd (upd (upd g 134 r1) 135 (0 : Int32)) 136 (0 : Int32)) 137 (0 : Int32)) 132) + (1 : Int32))) 134) = (102 : Int32) then ((f_X3_readDigit (upd (upd (upd (upd (upd g 134 r1) 135 (0 : Int32)) 136 (0 : Int32)) 137 (0 : Int32)) 132 (((upd (upd (upd (upd g 134 r1) 135 (0 : Int32)) 136 (0 : Int32)) 137 (0 : Int32)) 132) + (1 : Int32))) (0 : Int32) (3 : Int32)).bind fun r16 => ((f_X3_readNumber (upd r16.2 135 r16.1) (0 : Int32) (20 : Int32)).bind fun r18 => some (upd r18.2 136 r18.1))) else (if ((upd (upd (upd (upd (upd g 134 r1) 135 (0 : Int32)) 136 (0 : Int32)) 137 (0 : Int32)) 132 (((upd (upd (upd (upd g 134 r1) 135 (0 : Int32)) 136 (0 : Int32)) 137 (0 : Int32)) 132) + (1 : Int32))) 134) = (112 : Int32) then ((f_X3_readDigit (upd (upd (upd (upd (upd g 134 r1) 135 (0 : Int32)) 136 (0 : Int32)) 137 (0 : Int32)) 132 (((upd (upd (upd (upd g 134 r1) 135 (0 : Int32)) 136 (0 : Int32)) 137 (0 : Int32)) 132) + (1 : Int32))) (0 : Int32) (3 : Int32)).bind fun r21 => ((f_X3_readNumber (upd r21.2 135 r21.1) (0 : Int32) (29 : Int32)).bind fun r23 => some (upd r23.2 136 r23.1))) else (if ((upd (upd (upd (upd (upd g 134 r1) 135 (0 : Int32)) 136 (0 : Int32)) 137 (0 : Int32)) 132 (((upd (upd (upd (upd g 134 r1) 135 (0 : Int32)) 136 (0 : Int32)) 137 (0 : Int32)) 132) + (1 : Int32))) 134) = (115 : Int32) then some (upd (upd (upd (upd (upd g 134 r1) 135 (0 : Int32)) 136 (0 : Int32)) 137 (0 : Int32)) 132 (((upd (upd (upd (upd g 134 r1) 135 (0 : Int32)) 136 (0 : Int32)) 137 (0 : Int32)) 132) + (1 : Int32))) else (if ((upd (upd (upd (upd (upd g 134 r1) 135 (0 : Int32)) 136 (0 : Int32)) 137 (0 : Int32)) 132 (((upd (upd (upd (upd g 134 r1) 135 (0 : Int32)) 136 (0 : Int32)) 137 (0 : Int32)) 132) + (1 : Int32))) 134) = (116 : Int32) then ((f_X3_readDigit (upd (upd (upd (upd (upd g 134 r1) 135 (0 : Int32)) 136 (0 : Int32)) 137 (0 : Int32)) 132 (((upd (upd (upd (upd g 134 r1) 135 (0 : Int32)) 136 (0 : Int32)) 137 (0 : Int32)) 132) + (1 : Int32))) (0 : Int32) (3 : Int32)).bind fun r27 => ((f_X3_readNumber (upd r27.2 135 r27.1) (1 : Int32) (30 : Int32)).bind fun r29 => some (upd r29.2 136 r29.1))) else (if ((upd (upd (upd (upd (upd g 134 r1) 135 (0 : Int32)) 136 (0 : Int32)) 137 (0 : Int32)) 132 (((upd (upd (upd (upd g 134 r1) 135 (0 : Int32)) 136 (0 : Int32)) 137 (0 : Int32)) 132) + (1 : Int32))) 134) = (119 : Int32) then some (upd (upd (upd (upd (upd g 134 r1) 135 (0 : Int32)) 136 (0 : Int32)) 137 (0 : Int32)) 132 (((upd (upd (upd (upd g 134 r1) 135 (0 : Int32)) 136 (0 : Int32)) 137 (0 : Int32)) 132) + (1 : Int32))) else (if ((upd (upd (upd (upd (upd g 134 r1) 135 (0 : Int32)) 136 (0 : Int32)) 137 (0 : Int32)) 132 (((upd (upd (upd (upd g 134 r1) 135 (0 : Int32)) 136 (0 : Int32)) 137 (0 : Int32)) 132) + (1 : Int32))) 134) = (120 : Int32) then ((f_X3_readDigit (upd (upd (upd (upd (upd g 134 r1) 135 (0 : Int32)) 136 (0 : Int32)) 137 (0 : Int32)) 132 (((upd (upd (upd (upd g 134 r1) 135 (0 : Int32)) 136 (0 : Int32)) 137 (0 : Int32)) 132) + (1 : Int32))) (0 : Int32) (3 : Int32)).bind fun r33 => some (upd r33.2 135 r33.1)) else some (upd (upd (upd (upd (upd (upd g 134 r1) 135 (0 : Int32)) 136 (0 : Int32)) 137 (0 : Int32)) 132 (((upd (upd (upd (upd g 134 r1) 135 (0 : Int32)) 136 (0 : Int32)) 137 (0 : Int32)) 132) + (1 : Int32))) 133 (((upd (upd (upd (upd (upd g 134 r1) 135 (0 : Int32)) 136 (0 : Int32)) 137 (0 : Int32)) 132 (((upd (upd (upd (upd g 134 r1) 135 (0 : Int32)) 136 (0 : Int32)) 137 (0 : Int32)) 132) + (1 : Int32))) 132) - (1 : Int32))))))))))))
def rmX3_readCommand : Room := { frames := 4, cells := 0, slots := 0, locals := 89 }
theorem hd_X3_readCommand : yX3_readCommand.cls ≠ "java/lang/invoke/MethodHandle" ∧ yX3_readCommand.cls ≠ "java/lang/invoke/VarHandle" ∧ (parseMethodDescriptor yX3_readCommand.desc).map (fun d => d.parameters.length) = some 0 := by decide +kernel
set_option maxHeartbeats 8000000 in
set_option maxRecDepth 100000 in
theorem c_X3_readCommand {l : Launch} {D : va_G} {x : Nat} {μ : Mem} {g : Row} {r : Row} (hf : f_X3_readCommand g = some r) : CX l yX3_readCommand wsX3_readCommand rmX3_readCommand [.ref (x + 1)] D x (va_up μ 19 g) (none) (va_up μ 19 r) := by
  refine CX.of (cc := cX3_readCommand) (maxL := 1) (ret := none) pn_X3 rfl (Nat.le_of_ble_eq_true rfl) ?_
  intro p e s m args below meth c F hr hlk hK hG
  intro ls H locs hl hP hS
  have hl : lv_has ls 1 [(0, .ref (x + 1))] := hl
  unfold f_X3_readCommand at hf
  refine lv_aload_n F.1 F.2.1 dX3_readCommand_0 rfl (lv_at hl 0 rfl) ?_
  refine lv_aload_n F.1 F.2.1 dX3_readCommand_1 rfl (lv_at hl 0 rfl) ?_
  obtain ⟨r1, hr2, hf⟩ := bnd hf
  refine x_callV F hK hG hP hS (o := 1) (by decide) (q := (1, 0, 0)) rfl (ci := 3) (fun _ => rfl) rfl (c_X3_nextSign (mu_at _ _ _) hr2) (cwV 0 F.2.2.2.2 gX3_readCommand_X3_nextSign rfl rfl rfl ⟨rfl, hd_X3_nextSign⟩ ⟨(Nat.le_of_ble_eq_true rfl), (Nat.le_of_ble_eq_true rfl)⟩) rfl rfl hl.1 (Nat.le_of_ble_eq_true rfl) dX3_readCommand_2 ⟨(Nat.le_of_ble_eq_true rfl), (Nat.le_of_ble_eq_true rfl)⟩ (rest := [.ref (x + 1)]) (fun H locs hP hS => ?_)
  refine W.eq (g2 := F0 m 5 ls [.int r1, .ref (x + 1)]) rfl ?_
  refine pI_X3_action F hK  hP hS (fun _ h => List.mem_cons_of_mem _ (List.mem_append_right _ h)) (List.mem_of_getElem? (i := 1) rfl) dX3_readCommand_5 (fun H locs hP hS => ?_)
  refine lv_aload_n F.1 F.2.1 dX3_readCommand_8 rfl (lv_at hl 0 rfl) ?_
  refine lv_iconst (v := (0 : Int32)) F.1 F.2.1 dX3_readCommand_9 (by decide) ?_
  refine pI_X3_first F hK  hP hS (fun _ h => List.mem_cons_of_mem _ (List.mem_append_right _ h)) (List.mem_of_getElem? (i := 2) rfl) dX3_readCommand_10 (fun H locs hP hS => ?_)
  refine lv_aload_n F.1 F.2.1 dX3_readCommand_13 rfl (lv_at hl 0 rfl) ?_
  refine lv_iconst (v := (0 : Int32)) F.1 F.2.1 dX3_readCommand_14 (by decide) ?_
  refine pI_X3_second F hK  hP hS (fun _ h => List.mem_cons_of_mem _ (List.mem_append_right _ h)) (List.mem_of_getElem? (i := 3) rfl) dX3_readCommand_15 (fun H locs hP hS => ?_)
  refine lv_aload_n F.1 F.2.1 dX3_readCommand_18 rfl (lv_at hl 0 rfl) ?_
  refine lv_iconst (v := (0 : Int32)) F.1 F.2.1 dX3_readCommand_19 (by decide) ?_
  refine pI_X3_third F hK  hP hS (fun _ h => List.mem_cons_of_mem _ (List.mem_append_right _ h)) (List.mem_of_getElem? (i := 4) rfl) dX3_readCommand_20 (fun H locs hP hS => ?_)
  refine lv_aload_n F.1 F.2.1 dX3_readCommand_23 rfl (lv_at hl 0 rfl) ?_
  refine lv_dup F.1 F.2.1 dX3_readCommand_24 rfl ?_
  refine gI_X3_at F hK hP  (mu_at _ _ _) (fun _ h => List.mem_cons_of_mem _ (List.mem_append_right _ h)) (List.mem_of_getElem? (i := 5) rfl) dX3_readCommand_25 ?_
  refine lv_iconst (v := (1 : Int32)) F.1 F.2.1 dX3_readCommand_28 (by decide) ?_
  refine lv_iadd F.1 F.2.1 dX3_readCommand_29 ?_
  refine pI_X3_at F hK  hP hS (fun _ h => List.mem_cons_of_mem _ (List.mem_append_right _ h)) (List.mem_of_getElem? (i := 5) rfl) dX3_readCommand_30 (fun H locs hP hS => ?_)
  refine lv_aload_n F.1 F.2.1 dX3_readCommand_33 rfl (lv_at hl 0 rfl) ?_
  refine gI_X3_action F hK hP  (mu_at _ _ _) (fun _ h => List.mem_cons_of_mem _ (List.mem_append_right _ h)) (List.mem_of_getElem? (i := 1) rfl) dX3_readCommand_34 ?_
  by_cases hc3 : ((upd (upd (upd (upd (upd g 134 r1) 135 (0 : Int32)) 136 (0 : Int32)) 137 (0 : Int32)) 132 (((upd (upd (upd (upd g 134 r1) 135 (0 : Int32)) 136 (0 : Int32)) 137 (0 : Int32)) 132) + (1 : Int32))) 134) = (100 : Int32)
  · have hf := ifp hc3 hf
    refine lv_tableIn (off := 187) (tgt := 224) F.1 F.2.1 dX3_readCommand_37 (by rw [hc3]; decide) (by rw [hc3]; decide) (by rw [hc3]; rfl) rfl ?_
    refine lv_aload_n F.1 F.2.1 dX3_readCommand_224 rfl (lv_at hl 0 rfl) ?_
    refine lv_aload_n F.1 F.2.1 dX3_readCommand_225 rfl (lv_at hl 0 rfl) ?_
    obtain ⟨r4, hr5, hf⟩ := bnd hf
    refine x_callV F hK hG hP hS (o := 1) (by decide) (q := (1, 0, 0)) rfl (ci := 3) (fun _ => rfl) rfl (c_X3_readTemperature hr5) (cwV 0 F.2.2.2.2 gX3_readCommand_X3_readTemperature rfl rfl rfl ⟨rfl, hd_X3_readTemperature⟩ ⟨(Nat.le_of_ble_eq_true rfl), (Nat.le_of_ble_eq_true rfl)⟩) rfl rfl hl.1 (Nat.le_of_ble_eq_true rfl) dX3_readCommand_226 ⟨(Nat.le_of_ble_eq_true rfl), (Nat.le_of_ble_eq_true rfl)⟩ (rest := [.ref (x + 1)]) (fun H locs hP hS => ?_)
    refine W.eq (g2 := F0 m 229 ls [.int r4.1, .ref (x + 1)]) rfl ?_
    refine pI_X3_first F hK  hP hS (fun _ h => List.mem_cons_of_mem _ (List.mem_append_right _ h)) (List.mem_of_getElem? (i := 2) rfl) dX3_readCommand_229 (fun H locs hP hS => ?_)
    refine lv_aload_n F.1 F.2.1 dX3_readCommand_232 rfl (lv_at hl 0 rfl) ?_
    refine lv_aload_n F.1 F.2.1 dX3_readCommand_233 rfl (lv_at hl 0 rfl) ?_
    refine lv_iconst (v := (0 : Int32)) F.1 F.2.1 dX3_readCommand_234 (by decide) ?_
    refine lv_bipush (v := (30 : Int32)) F.1 F.2.1 dX3_readCommand_235 (by decide) ?_
    obtain ⟨r6, hr7, hf⟩ := bnd hf
    refine x_callV F hK hG hP hS (o := 1) (by decide) (q := (1, 0, 0)) rfl (ci := 3) (fun _ => rfl) rfl (c_X3_readNumber (0 : Int32) (30 : Int32) hr7) (cwV 2 F.2.2.2.2 gX3_readCommand_X3_readNumber rfl rfl rfl ⟨rfl, hd_X3_readNumber⟩ ⟨(Nat.le_of_ble_eq_true rfl), (Nat.le_of_ble_eq_true rfl)⟩) rfl rfl hl.1 (Nat.le_of_ble_eq_true rfl) dX3_readCommand_237 ⟨(Nat.le_of_ble_eq_true rfl), (Nat.le_of_ble_eq_true rfl)⟩ (rest := [.ref (x + 1)]) (fun H locs hP hS => ?_)
    refine W.eq (g2 := F0 m 240 ls [.int r6.1, .ref (x + 1)]) rfl ?_
    refine pI_X3_second F hK  hP hS (fun _ h => List.mem_cons_of_mem _ (List.mem_append_right _ h)) (List.mem_of_getElem? (i := 3) rfl) dX3_readCommand_240 (fun H locs hP hS => ?_)
    refine lv_aload_n F.1 F.2.1 dX3_readCommand_243 rfl (lv_at hl 0 rfl) ?_
    refine lv_aload_n F.1 F.2.1 dX3_readCommand_244 rfl (lv_at hl 0 rfl) ?_
    refine lv_iconst (v := (1 : Int32)) F.1 F.2.1 dX3_readCommand_245 (by decide) ?_
    refine lv_bipush (v := (60 : Int32)) F.1 F.2.1 dX3_readCommand_246 (by decide) ?_
    obtain ⟨r8, hr9, hf⟩ := bnd hf
    refine x_callV F hK hG hP hS (o := 1) (by decide) (q := (1, 0, 0)) rfl (ci := 3) (fun _ => rfl) rfl (c_X3_readNumber (1 : Int32) (60 : Int32) hr9) (cwV 2 F.2.2.2.2 gX3_readCommand_X3_readNumber rfl rfl rfl ⟨rfl, hd_X3_readNumber⟩ ⟨(Nat.le_of_ble_eq_true rfl), (Nat.le_of_ble_eq_true rfl)⟩) rfl rfl hl.1 (Nat.le_of_ble_eq_true rfl) dX3_readCommand_248 ⟨(Nat.le_of_ble_eq_true rfl), (Nat.le_of_ble_eq_true rfl)⟩ (rest := [.ref (x + 1)]) (fun H locs hP hS => ?_)
    refine W.eq (g2 := F0 m 251 ls [.int r8.1, .ref (x + 1)]) rfl ?_
    refine pI_X3_third F hK  hP hS (fun _ h => List.mem_cons_of_mem _ (List.mem_append_right _ h)) (List.mem_of_getElem? (i := 4) rfl) dX3_readCommand_251 (fun H locs hP hS => ?_)
    refine lv_goto (tgt := 291) F.1 F.2.1 dX3_readCommand_254 rfl ?_
    obtain rfl := Option.some.inj hf
    exact x_vret F hr hlk hP hS rfl dX3_readCommand_291
  have hf := ifn hc3 hf
  by_cases hc10 : ((upd (upd (upd (upd (upd g 134 r1) 135 (0 : Int32)) 136 (0 : Int32)) 137 (0 : Int32)) 132 (((upd (upd (upd (upd g 134 r1) 135 (0 : Int32)) 136 (0 : Int32)) 137 (0 : Int32)) 132) + (1 : Int32))) 134) = (101 : Int32)
  · have hf := ifp hc10 hf
    refine lv_tableIn (off := 220) (tgt := 257) F.1 F.2.1 dX3_readCommand_37 (by rw [hc10]; decide) (by rw [hc10]; decide) (by rw [hc10]; rfl) rfl ?_
    refine lv_aload_n F.1 F.2.1 dX3_readCommand_257 rfl (lv_at hl 0 rfl) ?_
    refine lv_aload_n F.1 F.2.1 dX3_readCommand_258 rfl (lv_at hl 0 rfl) ?_
    refine lv_iconst (v := (0 : Int32)) F.1 F.2.1 dX3_readCommand_259 (by decide) ?_
    refine lv_iconst (v := (2 : Int32)) F.1 F.2.1 dX3_readCommand_260 (by decide) ?_
    obtain ⟨r11, hr12, hf⟩ := bnd hf
    refine x_callV F hK hG hP hS (o := 1) (by decide) (q := (1, 0, 0)) rfl (ci := 3) (fun _ => rfl) rfl (c_X3_readDigit (0 : Int32) (2 : Int32) hr12) (cwV 2 F.2.2.2.2 gX3_readCommand_X3_readDigit rfl rfl rfl ⟨rfl, hd_X3_readDigit⟩ ⟨(Nat.le_of_ble_eq_true rfl), (Nat.le_of_ble_eq_true rfl)⟩) rfl rfl hl.1 (Nat.le_of_ble_eq_true rfl) dX3_readCommand_261 ⟨(Nat.le_of_ble_eq_true rfl), (Nat.le_of_ble_eq_true rfl)⟩ (rest := [.ref (x + 1)]) (fun H locs hP hS => ?_)
    refine W.eq (g2 := F0 m 264 ls [.int r11.1, .ref (x + 1)]) rfl ?_
    refine pI_X3_first F hK  hP hS (fun _ h => List.mem_cons_of_mem _ (List.mem_append_right _ h)) (List.mem_of_getElem? (i := 2) rfl) dX3_readCommand_264 (fun H locs hP hS => ?_)
    refine lv_aload_n F.1 F.2.1 dX3_readCommand_267 rfl (lv_at hl 0 rfl) ?_
    refine lv_aload_n F.1 F.2.1 dX3_readCommand_268 rfl (lv_at hl 0 rfl) ?_
    refine lv_iconst (v := (0 : Int32)) F.1 F.2.1 dX3_readCommand_269 (by decide) ?_
    refine lv_bipush (v := (50 : Int32)) F.1 F.2.1 dX3_readCommand_270 (by decide) ?_
    obtain ⟨r13, hr14, hf⟩ := bnd hf
    refine x_callV F hK hG hP hS (o := 1) (by decide) (q := (1, 0, 0)) rfl (ci := 3) (fun _ => rfl) rfl (c_X3_readNumber (0 : Int32) (50 : Int32) hr14) (cwV 2 F.2.2.2.2 gX3_readCommand_X3_readNumber rfl rfl rfl ⟨rfl, hd_X3_readNumber⟩ ⟨(Nat.le_of_ble_eq_true rfl), (Nat.le_of_ble_eq_true rfl)⟩) rfl rfl hl.1 (Nat.le_of_ble_eq_true rfl) dX3_readCommand_272 ⟨(Nat.le_of_ble_eq_true rfl), (Nat.le_of_ble_eq_true rfl)⟩ (rest := [.ref (x + 1)]) (fun H locs hP hS => ?_)
    refine W.eq (g2 := F0 m 275 ls [.int r13.1, .ref (x + 1)]) rfl ?_
    refine pI_X3_second F hK  hP hS (fun _ h => List.mem_cons_of_mem _ (List.mem_append_right _ h)) (List.mem_of_getElem? (i := 3) rfl) dX3_readCommand_275 (fun H locs hP hS => ?_)
    refine lv_goto (tgt := 291) F.1 F.2.1 dX3_readCommand_278 rfl ?_
    obtain rfl := Option.some.inj hf
    exact x_vret F hr hlk hP hS rfl dX3_readCommand_291
  have hf := ifn hc10 hf
  by_cases hc15 : ((upd (upd (upd (upd (upd g 134 r1) 135 (0 : Int32)) 136 (0 : Int32)) 137 (0 : Int32)) 132 (((upd (upd (upd (upd g 134 r1) 135 (0 : Int32)) 136 (0 : Int32)) 137 (0 : Int32)) 132) + (1 : Int32))) 134) = (102 : Int32)
  · have hf := ifp hc15 hf
    refine lv_tableIn (off := 150) (tgt := 187) F.1 F.2.1 dX3_readCommand_37 (by rw [hc15]; decide) (by rw [hc15]; decide) (by rw [hc15]; rfl) rfl ?_
    refine lv_aload_n F.1 F.2.1 dX3_readCommand_187 rfl (lv_at hl 0 rfl) ?_
    refine lv_aload_n F.1 F.2.1 dX3_readCommand_188 rfl (lv_at hl 0 rfl) ?_
    refine lv_iconst (v := (0 : Int32)) F.1 F.2.1 dX3_readCommand_189 (by decide) ?_
    refine lv_iconst (v := (3 : Int32)) F.1 F.2.1 dX3_readCommand_190 (by decide) ?_
    obtain ⟨r16, hr17, hf⟩ := bnd hf
    refine x_callV F hK hG hP hS (o := 1) (by decide) (q := (1, 0, 0)) rfl (ci := 3) (fun _ => rfl) rfl (c_X3_readDigit (0 : Int32) (3 : Int32) hr17) (cwV 2 F.2.2.2.2 gX3_readCommand_X3_readDigit rfl rfl rfl ⟨rfl, hd_X3_readDigit⟩ ⟨(Nat.le_of_ble_eq_true rfl), (Nat.le_of_ble_eq_true rfl)⟩) rfl rfl hl.1 (Nat.le_of_ble_eq_true rfl) dX3_readCommand_191 ⟨(Nat.le_of_ble_eq_true rfl), (Nat.le_of_ble_eq_true rfl)⟩ (rest := [.ref (x + 1)]) (fun H locs hP hS => ?_)
    refine W.eq (g2 := F0 m 194 ls [.int r16.1, .ref (x + 1)]) rfl ?_
    refine pI_X3_first F hK  hP hS (fun _ h => List.mem_cons_of_mem _ (List.mem_append_right _ h)) (List.mem_of_getElem? (i := 2) rfl) dX3_readCommand_194 (fun H locs hP hS => ?_)
    refine lv_aload_n F.1 F.2.1 dX3_readCommand_197 rfl (lv_at hl 0 rfl) ?_
    refine lv_aload_n F.1 F.2.1 dX3_readCommand_198 rfl (lv_at hl 0 rfl) ?_
    refine lv_iconst (v := (0 : Int32)) F.1 F.2.1 dX3_readCommand_199 (by decide) ?_
    refine lv_bipush (v := (20 : Int32)) F.1 F.2.1 dX3_readCommand_200 (by decide) ?_
    obtain ⟨r18, hr19, hf⟩ := bnd hf
    refine x_callV F hK hG hP hS (o := 1) (by decide) (q := (1, 0, 0)) rfl (ci := 3) (fun _ => rfl) rfl (c_X3_readNumber (0 : Int32) (20 : Int32) hr19) (cwV 2 F.2.2.2.2 gX3_readCommand_X3_readNumber rfl rfl rfl ⟨rfl, hd_X3_readNumber⟩ ⟨(Nat.le_of_ble_eq_true rfl), (Nat.le_of_ble_eq_true rfl)⟩) rfl rfl hl.1 (Nat.le_of_ble_eq_true rfl) dX3_readCommand_202 ⟨(Nat.le_of_ble_eq_true rfl), (Nat.le_of_ble_eq_true rfl)⟩ (rest := [.ref (x + 1)]) (fun H locs hP hS => ?_)
    refine W.eq (g2 := F0 m 205 ls [.int r18.1, .ref (x + 1)]) rfl ?_
    refine pI_X3_second F hK  hP hS (fun _ h => List.mem_cons_of_mem _ (List.mem_append_right _ h)) (List.mem_of_getElem? (i := 3) rfl) dX3_readCommand_205 (fun H locs hP hS => ?_)
    refine lv_goto (tgt := 291) F.1 F.2.1 dX3_readCommand_208 rfl ?_
    obtain rfl := Option.some.inj hf
    exact x_vret F hr hlk hP hS rfl dX3_readCommand_291
  have hf := ifn hc15 hf
  by_cases hc20 : ((upd (upd (upd (upd (upd g 134 r1) 135 (0 : Int32)) 136 (0 : Int32)) 137 (0 : Int32)) 132 (((upd (upd (upd (upd g 134 r1) 135 (0 : Int32)) 136 (0 : Int32)) 137 (0 : Int32)) 132) + (1 : Int32))) 134) = (112 : Int32)
  · have hf := ifp hc20 hf
    refine lv_tableIn (off := 126) (tgt := 163) F.1 F.2.1 dX3_readCommand_37 (by rw [hc20]; decide) (by rw [hc20]; decide) (by rw [hc20]; rfl) rfl ?_
    refine lv_aload_n F.1 F.2.1 dX3_readCommand_163 rfl (lv_at hl 0 rfl) ?_
    refine lv_aload_n F.1 F.2.1 dX3_readCommand_164 rfl (lv_at hl 0 rfl) ?_
    refine lv_iconst (v := (0 : Int32)) F.1 F.2.1 dX3_readCommand_165 (by decide) ?_
    refine lv_iconst (v := (3 : Int32)) F.1 F.2.1 dX3_readCommand_166 (by decide) ?_
    obtain ⟨r21, hr22, hf⟩ := bnd hf
    refine x_callV F hK hG hP hS (o := 1) (by decide) (q := (1, 0, 0)) rfl (ci := 3) (fun _ => rfl) rfl (c_X3_readDigit (0 : Int32) (3 : Int32) hr22) (cwV 2 F.2.2.2.2 gX3_readCommand_X3_readDigit rfl rfl rfl ⟨rfl, hd_X3_readDigit⟩ ⟨(Nat.le_of_ble_eq_true rfl), (Nat.le_of_ble_eq_true rfl)⟩) rfl rfl hl.1 (Nat.le_of_ble_eq_true rfl) dX3_readCommand_167 ⟨(Nat.le_of_ble_eq_true rfl), (Nat.le_of_ble_eq_true rfl)⟩ (rest := [.ref (x + 1)]) (fun H locs hP hS => ?_)
    refine W.eq (g2 := F0 m 170 ls [.int r21.1, .ref (x + 1)]) rfl ?_
    refine pI_X3_first F hK  hP hS (fun _ h => List.mem_cons_of_mem _ (List.mem_append_right _ h)) (List.mem_of_getElem? (i := 2) rfl) dX3_readCommand_170 (fun H locs hP hS => ?_)
    refine lv_aload_n F.1 F.2.1 dX3_readCommand_173 rfl (lv_at hl 0 rfl) ?_
    refine lv_aload_n F.1 F.2.1 dX3_readCommand_174 rfl (lv_at hl 0 rfl) ?_
    refine lv_iconst (v := (0 : Int32)) F.1 F.2.1 dX3_readCommand_175 (by decide) ?_
    refine lv_bipush (v := (29 : Int32)) F.1 F.2.1 dX3_readCommand_176 (by decide) ?_
    obtain ⟨r23, hr24, hf⟩ := bnd hf
    refine x_callV F hK hG hP hS (o := 1) (by decide) (q := (1, 0, 0)) rfl (ci := 3) (fun _ => rfl) rfl (c_X3_readNumber (0 : Int32) (29 : Int32) hr24) (cwV 2 F.2.2.2.2 gX3_readCommand_X3_readNumber rfl rfl rfl ⟨rfl, hd_X3_readNumber⟩ ⟨(Nat.le_of_ble_eq_true rfl), (Nat.le_of_ble_eq_true rfl)⟩) rfl rfl hl.1 (Nat.le_of_ble_eq_true rfl) dX3_readCommand_178 ⟨(Nat.le_of_ble_eq_true rfl), (Nat.le_of_ble_eq_true rfl)⟩ (rest := [.ref (x + 1)]) (fun H locs hP hS => ?_)
    refine W.eq (g2 := F0 m 181 ls [.int r23.1, .ref (x + 1)]) rfl ?_
    refine pI_X3_second F hK  hP hS (fun _ h => List.mem_cons_of_mem _ (List.mem_append_right _ h)) (List.mem_of_getElem? (i := 3) rfl) dX3_readCommand_181 (fun H locs hP hS => ?_)
    refine lv_goto (tgt := 291) F.1 F.2.1 dX3_readCommand_184 rfl ?_
    obtain rfl := Option.some.inj hf
    exact x_vret F hr hlk hP hS rfl dX3_readCommand_291
  have hf := ifn hc20 hf
  by_cases hc25 : ((upd (upd (upd (upd (upd g 134 r1) 135 (0 : Int32)) 136 (0 : Int32)) 137 (0 : Int32)) 132 (((upd (upd (upd (upd g 134 r1) 135 (0 : Int32)) 136 (0 : Int32)) 137 (0 : Int32)) 132) + (1 : Int32))) 134) = (115 : Int32)
  · have hf := ifp hc25 hf
    refine lv_tableIn (off := 99) (tgt := 136) F.1 F.2.1 dX3_readCommand_37 (by rw [hc25]; decide) (by rw [hc25]; decide) (by rw [hc25]; rfl) rfl ?_
    refine lv_goto (tgt := 291) F.1 F.2.1 dX3_readCommand_136 rfl ?_
    obtain rfl := Option.some.inj hf
    exact x_vret F hr hlk hP hS rfl dX3_readCommand_291
  have hf := ifn hc25 hf
  by_cases hc26 : ((upd (upd (upd (upd (upd g 134 r1) 135 (0 : Int32)) 136 (0 : Int32)) 137 (0 : Int32)) 132 (((upd (upd (upd (upd g 134 r1) 135 (0 : Int32)) 136 (0 : Int32)) 137 (0 : Int32)) 132) + (1 : Int32))) 134) = (116 : Int32)
  · have hf := ifp hc26 hf
    refine lv_tableIn (off := 102) (tgt := 139) F.1 F.2.1 dX3_readCommand_37 (by rw [hc26]; decide) (by rw [hc26]; decide) (by rw [hc26]; rfl) rfl ?_
    refine lv_aload_n F.1 F.2.1 dX3_readCommand_139 rfl (lv_at hl 0 rfl) ?_
    refine lv_aload_n F.1 F.2.1 dX3_readCommand_140 rfl (lv_at hl 0 rfl) ?_
    refine lv_iconst (v := (0 : Int32)) F.1 F.2.1 dX3_readCommand_141 (by decide) ?_
    refine lv_iconst (v := (3 : Int32)) F.1 F.2.1 dX3_readCommand_142 (by decide) ?_
    obtain ⟨r27, hr28, hf⟩ := bnd hf
    refine x_callV F hK hG hP hS (o := 1) (by decide) (q := (1, 0, 0)) rfl (ci := 3) (fun _ => rfl) rfl (c_X3_readDigit (0 : Int32) (3 : Int32) hr28) (cwV 2 F.2.2.2.2 gX3_readCommand_X3_readDigit rfl rfl rfl ⟨rfl, hd_X3_readDigit⟩ ⟨(Nat.le_of_ble_eq_true rfl), (Nat.le_of_ble_eq_true rfl)⟩) rfl rfl hl.1 (Nat.le_of_ble_eq_true rfl) dX3_readCommand_143 ⟨(Nat.le_of_ble_eq_true rfl), (Nat.le_of_ble_eq_true rfl)⟩ (rest := [.ref (x + 1)]) (fun H locs hP hS => ?_)
    refine W.eq (g2 := F0 m 146 ls [.int r27.1, .ref (x + 1)]) rfl ?_
    refine pI_X3_first F hK  hP hS (fun _ h => List.mem_cons_of_mem _ (List.mem_append_right _ h)) (List.mem_of_getElem? (i := 2) rfl) dX3_readCommand_146 (fun H locs hP hS => ?_)
    refine lv_aload_n F.1 F.2.1 dX3_readCommand_149 rfl (lv_at hl 0 rfl) ?_
    refine lv_aload_n F.1 F.2.1 dX3_readCommand_150 rfl (lv_at hl 0 rfl) ?_
    refine lv_iconst (v := (1 : Int32)) F.1 F.2.1 dX3_readCommand_151 (by decide) ?_
    refine lv_bipush (v := (30 : Int32)) F.1 F.2.1 dX3_readCommand_152 (by decide) ?_
    obtain ⟨r29, hr30, hf⟩ := bnd hf
    refine x_callV F hK hG hP hS (o := 1) (by decide) (q := (1, 0, 0)) rfl (ci := 3) (fun _ => rfl) rfl (c_X3_readNumber (1 : Int32) (30 : Int32) hr30) (cwV 2 F.2.2.2.2 gX3_readCommand_X3_readNumber rfl rfl rfl ⟨rfl, hd_X3_readNumber⟩ ⟨(Nat.le_of_ble_eq_true rfl), (Nat.le_of_ble_eq_true rfl)⟩) rfl rfl hl.1 (Nat.le_of_ble_eq_true rfl) dX3_readCommand_154 ⟨(Nat.le_of_ble_eq_true rfl), (Nat.le_of_ble_eq_true rfl)⟩ (rest := [.ref (x + 1)]) (fun H locs hP hS => ?_)
    refine W.eq (g2 := F0 m 157 ls [.int r29.1, .ref (x + 1)]) rfl ?_
    refine pI_X3_second F hK  hP hS (fun _ h => List.mem_cons_of_mem _ (List.mem_append_right _ h)) (List.mem_of_getElem? (i := 3) rfl) dX3_readCommand_157 (fun H locs hP hS => ?_)
    refine lv_goto (tgt := 291) F.1 F.2.1 dX3_readCommand_160 rfl ?_
    obtain rfl := Option.some.inj hf
    exact x_vret F hr hlk hP hS rfl dX3_readCommand_291
  have hf := ifn hc26 hf
  by_cases hc31 : ((upd (upd (upd (upd (upd g 134 r1) 135 (0 : Int32)) 136 (0 : Int32)) 137 (0 : Int32)) 132 (((upd (upd (upd (upd g 134 r1) 135 (0 : Int32)) 136 (0 : Int32)) 137 (0 : Int32)) 132) + (1 : Int32))) 134) = (119 : Int32)
  · have hf := ifp hc31 hf
    refine lv_tableIn (off := 99) (tgt := 136) F.1 F.2.1 dX3_readCommand_37 (by rw [hc31]; decide) (by rw [hc31]; decide) (by rw [hc31]; rfl) rfl ?_
    refine lv_goto (tgt := 291) F.1 F.2.1 dX3_readCommand_136 rfl ?_
    obtain rfl := Option.some.inj hf
    exact x_vret F hr hlk hP hS rfl dX3_readCommand_291
  have hf := ifn hc31 hf
  by_cases hc32 : ((upd (upd (upd (upd (upd g 134 r1) 135 (0 : Int32)) 136 (0 : Int32)) 137 (0 : Int32)) 132 (((upd (upd (upd (upd g 134 r1) 135 (0 : Int32)) 136 (0 : Int32)) 137 (0 : Int32)) 132) + (1 : Int32))) 134) = (120 : Int32)
  · have hf := ifp hc32 hf
    refine lv_tableIn (off := 174) (tgt := 211) F.1 F.2.1 dX3_readCommand_37 (by rw [hc32]; decide) (by rw [hc32]; decide) (by rw [hc32]; rfl) rfl ?_
    refine lv_aload_n F.1 F.2.1 dX3_readCommand_211 rfl (lv_at hl 0 rfl) ?_
    refine lv_aload_n F.1 F.2.1 dX3_readCommand_212 rfl (lv_at hl 0 rfl) ?_
    refine lv_iconst (v := (0 : Int32)) F.1 F.2.1 dX3_readCommand_213 (by decide) ?_
    refine lv_iconst (v := (3 : Int32)) F.1 F.2.1 dX3_readCommand_214 (by decide) ?_
    obtain ⟨r33, hr34, hf⟩ := bnd hf
    refine x_callV F hK hG hP hS (o := 1) (by decide) (q := (1, 0, 0)) rfl (ci := 3) (fun _ => rfl) rfl (c_X3_readDigit (0 : Int32) (3 : Int32) hr34) (cwV 2 F.2.2.2.2 gX3_readCommand_X3_readDigit rfl rfl rfl ⟨rfl, hd_X3_readDigit⟩ ⟨(Nat.le_of_ble_eq_true rfl), (Nat.le_of_ble_eq_true rfl)⟩) rfl rfl hl.1 (Nat.le_of_ble_eq_true rfl) dX3_readCommand_215 ⟨(Nat.le_of_ble_eq_true rfl), (Nat.le_of_ble_eq_true rfl)⟩ (rest := [.ref (x + 1)]) (fun H locs hP hS => ?_)
    refine W.eq (g2 := F0 m 218 ls [.int r33.1, .ref (x + 1)]) rfl ?_
    refine pI_X3_first F hK  hP hS (fun _ h => List.mem_cons_of_mem _ (List.mem_append_right _ h)) (List.mem_of_getElem? (i := 2) rfl) dX3_readCommand_218 (fun H locs hP hS => ?_)
    refine lv_goto (tgt := 291) F.1 F.2.1 dX3_readCommand_221 rfl ?_
    obtain rfl := Option.some.inj hf
    exact x_vret F hr hlk hP hS rfl dX3_readCommand_291
  have hf := ifn hc32 hf
  have hc3i := i32_ne hc3
  have hc10i := i32_ne hc10
  have hc15i := i32_ne hc15
  have hc20i := i32_ne hc20
  have hc25i := i32_ne hc25
  have hc26i := i32_ne hc26
  have hc31i := i32_ne hc31
  have hc32i := i32_ne hc32
  have hgap : ((upd (upd (upd (upd (upd g 134 r1) 135 (0 : Int32)) 136 (0 : Int32)) 137 (0 : Int32)) 132 (((upd (upd (upd (upd g 134 r1) 135 (0 : Int32)) 136 (0 : Int32)) 137 (0 : Int32)) 132) + (1 : Int32))) 134).toInt < 100 ∨ 120 < ((upd (upd (upd (upd (upd g 134 r1) 135 (0 : Int32)) 136 (0 : Int32)) 137 (0 : Int32)) 132 (((upd (upd (upd (upd g 134 r1) 135 (0 : Int32)) 136 (0 : Int32)) 137 (0 : Int32)) 132) + (1 : Int32))) 134).toInt ∨ ((upd (upd (upd (upd (upd g 134 r1) 135 (0 : Int32)) 136 (0 : Int32)) 137 (0 : Int32)) 132 (((upd (upd (upd (upd g 134 r1) 135 (0 : Int32)) 136 (0 : Int32)) 137 (0 : Int32)) 132) + (1 : Int32))) 134).toInt = 103 ∨ ((upd (upd (upd (upd (upd g 134 r1) 135 (0 : Int32)) 136 (0 : Int32)) 137 (0 : Int32)) 132 (((upd (upd (upd (upd g 134 r1) 135 (0 : Int32)) 136 (0 : Int32)) 137 (0 : Int32)) 132) + (1 : Int32))) 134).toInt = 104 ∨ ((upd (upd (upd (upd (upd g 134 r1) 135 (0 : Int32)) 136 (0 : Int32)) 137 (0 : Int32)) 132 (((upd (upd (upd (upd g 134 r1) 135 (0 : Int32)) 136 (0 : Int32)) 137 (0 : Int32)) 132) + (1 : Int32))) 134).toInt = 105 ∨ ((upd (upd (upd (upd (upd g 134 r1) 135 (0 : Int32)) 136 (0 : Int32)) 137 (0 : Int32)) 132 (((upd (upd (upd (upd g 134 r1) 135 (0 : Int32)) 136 (0 : Int32)) 137 (0 : Int32)) 132) + (1 : Int32))) 134).toInt = 106 ∨ ((upd (upd (upd (upd (upd g 134 r1) 135 (0 : Int32)) 136 (0 : Int32)) 137 (0 : Int32)) 132 (((upd (upd (upd (upd g 134 r1) 135 (0 : Int32)) 136 (0 : Int32)) 137 (0 : Int32)) 132) + (1 : Int32))) 134).toInt = 107 ∨ ((upd (upd (upd (upd (upd g 134 r1) 135 (0 : Int32)) 136 (0 : Int32)) 137 (0 : Int32)) 132 (((upd (upd (upd (upd g 134 r1) 135 (0 : Int32)) 136 (0 : Int32)) 137 (0 : Int32)) 132) + (1 : Int32))) 134).toInt = 108 ∨ ((upd (upd (upd (upd (upd g 134 r1) 135 (0 : Int32)) 136 (0 : Int32)) 137 (0 : Int32)) 132 (((upd (upd (upd (upd g 134 r1) 135 (0 : Int32)) 136 (0 : Int32)) 137 (0 : Int32)) 132) + (1 : Int32))) 134).toInt = 109 ∨ ((upd (upd (upd (upd (upd g 134 r1) 135 (0 : Int32)) 136 (0 : Int32)) 137 (0 : Int32)) 132 (((upd (upd (upd (upd g 134 r1) 135 (0 : Int32)) 136 (0 : Int32)) 137 (0 : Int32)) 132) + (1 : Int32))) 134).toInt = 110 ∨ ((upd (upd (upd (upd (upd g 134 r1) 135 (0 : Int32)) 136 (0 : Int32)) 137 (0 : Int32)) 132 (((upd (upd (upd (upd g 134 r1) 135 (0 : Int32)) 136 (0 : Int32)) 137 (0 : Int32)) 132) + (1 : Int32))) 134).toInt = 111 ∨ ((upd (upd (upd (upd (upd g 134 r1) 135 (0 : Int32)) 136 (0 : Int32)) 137 (0 : Int32)) 132 (((upd (upd (upd (upd g 134 r1) 135 (0 : Int32)) 136 (0 : Int32)) 137 (0 : Int32)) 132) + (1 : Int32))) 134).toInt = 113 ∨ ((upd (upd (upd (upd (upd g 134 r1) 135 (0 : Int32)) 136 (0 : Int32)) 137 (0 : Int32)) 132 (((upd (upd (upd (upd g 134 r1) 135 (0 : Int32)) 136 (0 : Int32)) 137 (0 : Int32)) 132) + (1 : Int32))) 134).toInt = 114 ∨ ((upd (upd (upd (upd (upd g 134 r1) 135 (0 : Int32)) 136 (0 : Int32)) 137 (0 : Int32)) 132 (((upd (upd (upd (upd g 134 r1) 135 (0 : Int32)) 136 (0 : Int32)) 137 (0 : Int32)) 132) + (1 : Int32))) 134).toInt = 117 ∨ ((upd (upd (upd (upd (upd g 134 r1) 135 (0 : Int32)) 136 (0 : Int32)) 137 (0 : Int32)) 132 (((upd (upd (upd (upd g 134 r1) 135 (0 : Int32)) 136 (0 : Int32)) 137 (0 : Int32)) 132) + (1 : Int32))) 134).toInt = 118 := by have : ((100 : Int32)).toInt = 100 := rfl; have : ((101 : Int32)).toInt = 101 := rfl; have : ((102 : Int32)).toInt = 102 := rfl; have : ((112 : Int32)).toInt = 112 := rfl; have : ((115 : Int32)).toInt = 115 := rfl; have : ((116 : Int32)).toInt = 116 := rfl; have : ((119 : Int32)).toInt = 119 := rfl; have : ((120 : Int32)).toInt = 120 := rfl; omega
  refine lv_tableG (tgt := 281) F.1 F.2.1 dX3_readCommand_37 (by rcases hgap with h | h | h | h | h | h | h | h | h | h | h | h | h | h | h <;> first | exact Or.inl h | exact Or.inr (Or.inl h) | (refine Or.inr (Or.inr ?_); rw [h]; rfl)) rfl ?_
  refine lv_aload_n F.1 F.2.1 dX3_readCommand_281 rfl (lv_at hl 0 rfl) ?_
  refine lv_aload_n F.1 F.2.1 dX3_readCommand_282 rfl (lv_at hl 0 rfl) ?_
  refine gI_X3_at F hK hP  (mu_at _ _ _) (fun _ h => List.mem_cons_of_mem _ (List.mem_append_right _ h)) (List.mem_of_getElem? (i := 5) rfl) dX3_readCommand_283 ?_
  refine lv_iconst (v := (1 : Int32)) F.1 F.2.1 dX3_readCommand_286 (by decide) ?_
  refine lv_isub F.1 F.2.1 dX3_readCommand_287 ?_
  refine pI_X3_error F hK  hP hS (fun _ h => List.mem_cons_of_mem _ (List.mem_append_right _ h)) (List.mem_of_getElem? (i := 6) rfl) dX3_readCommand_288 (fun H locs hP hS => ?_)
  obtain rfl := Option.some.inj hf
  exact x_vret F hr hlk hP hS rfl dX3_readCommand_291

-- FrostTubes$Text.findError()I
def fb_X3_findError_1  (K : Row → Int32 → Option (Int32 × Row)) (g : Row) (v1 : Int32) : Option (Int32 × Row) := (if (120 : Int32) ≤ v1 then some ((g 133), g) else ((f_X3_hasCommand g).bind fun r4 => (if r4 = 0 then some ((g 133), g) else ((f_X3_readCommand g).bind fun r7 => (K r7 (v1 + (1 : Int32)))))))
def fl_X3_findError  : Nat → Row → Int32 → Option (Int32 × Row)
  | 0, _, _ => none
  | n + 1, g, v1 => fb_X3_findError_1  (fl_X3_findError  n) g v1
def f_X3_findError (g : Row) : Option (Int32 × Row) := ((f_X3_startReading g).bind fun r1 => (fl_X3_findError  FU r1 (0 : Int32)))
def rmX3_findError : Room := { frames := 5, cells := 0, slots := 0, locals := 109 }
theorem hd_X3_findError : yX3_findError.cls ≠ "java/lang/invoke/MethodHandle" ∧ yX3_findError.cls ≠ "java/lang/invoke/VarHandle" ∧ (parseMethodDescriptor yX3_findError.desc).map (fun d => d.parameters.length) = some 0 := by decide +kernel
set_option maxHeartbeats 8000000 in
set_option maxRecDepth 100000 in
theorem c_X3_findError {l : Launch} {D : va_G} {x : Nat} {μ : Mem} {g : Row} {r : Int32 × Row} (hf : f_X3_findError g = some r) : CX l yX3_findError wsX3_findError rmX3_findError [.ref (x + 1)] D x (va_up μ 19 g) (some (.int r.1)) (va_up μ 19 r.2) := by
  refine CX.of (cc := cX3_findError) (maxL := 2) (ret := (some .int)) pn_X3 rfl (Nat.le_of_ble_eq_true rfl) ?_
  intro p e s m args below meth c F hr hlk hK hG
  have KEY : ∀ n : Nat, (∀ (g : Row) (v1 : Int32) (ls : Array Slot) (H : Heap) (locs : List Loc), lv_has ls 2 [(0, .ref (x + 1)), (1, .int v1)] → va_P D vwCl (WL D x (va_up μ 19 g)) H → va_S (rng x) s.heap H locs → fl_X3_findError  n g v1 = some r → W p l e rmX3_findError s m args below meth c H locs 0 0 (MQ below (QX D x (va_up μ 19 r.2) (some (.int r.1))) args s 0 0 (rng x)) (F0 m 6 ls [])) := by
    intro n
    induction n with
    | zero => exact (fun _ _ _ _ _ _ _ _ h => nomatch h)
    | succ n ih =>
      skip
      intro g v1  ls H locs hl hP hS hf
      have hf : fb_X3_findError_1  (fl_X3_findError  n) g v1 = some r := hf
      unfold fb_X3_findError_1 at hf
      refine lv_iload_n F.1 F.2.1 dX3_findError_6 rfl (lv_at hl 1 rfl) ?_
      refine lv_bipush (v := (120 : Int32)) F.1 F.2.1 dX3_findError_7 (by decide) ?_
      refine lv_icmp_ge (tgt := 29) F.1 F.2.1 dX3_findError_9 rfl (fun hc3 => ?_) (fun hc3 => ?_)
      · have hf := ifp hc3 hf
        refine lv_aload_n F.1 F.2.1 dX3_findError_29 rfl (lv_at hl 0 rfl) ?_
        refine gI_X3_error F hK hP  (mu_at _ _ _) (fun _ h => List.mem_cons_of_mem _ (List.mem_append_right _ h)) (List.mem_of_getElem? (i := 1) rfl) dX3_findError_30 ?_
        obtain rfl := Option.some.inj hf
        exact x_iret F hr hlk hP hS rfl dX3_findError_33
      · have hf := ifn hc3 hf
        refine lv_aload_n F.1 F.2.1 dX3_findError_12 rfl (lv_at hl 0 rfl) ?_
        obtain ⟨r4, hr5, hf⟩ := bnd hf
        refine x_callV F hK hG hP hS (o := 1) (by decide) (q := (1, 0, 0)) rfl (ci := 3) (fun _ => rfl) rfl (c_X3_hasCommand (mu_at _ _ _) hr5) (cwV 0 F.2.2.2.2 gX3_findError_X3_hasCommand rfl rfl rfl ⟨rfl, hd_X3_hasCommand⟩ ⟨(Nat.le_of_ble_eq_true rfl), (Nat.le_of_ble_eq_true rfl)⟩) rfl rfl hl.1 (Nat.le_of_ble_eq_true rfl) dX3_findError_13 ⟨(Nat.le_of_ble_eq_true rfl), (Nat.le_of_ble_eq_true rfl)⟩ (rest := []) (fun H locs hP hS => ?_)
        refine W.eq (g2 := F0 m 16 ls [.int r4]) rfl ?_
        refine lv_if_eq (tgt := 29) F.1 F.2.1 dX3_findError_16 rfl (fun hc6 => ?_) (fun hc6 => ?_)
        · have hf := ifp hc6 hf
          refine lv_aload_n F.1 F.2.1 dX3_findError_29 rfl (lv_at hl 0 rfl) ?_
          refine gI_X3_error F hK hP  (mu_at _ _ _) (fun _ h => List.mem_cons_of_mem _ (List.mem_append_right _ h)) (List.mem_of_getElem? (i := 1) rfl) dX3_findError_30 ?_
          obtain rfl := Option.some.inj hf
          exact x_iret F hr hlk hP hS rfl dX3_findError_33
        · have hf := ifn hc6 hf
          refine lv_aload_n F.1 F.2.1 dX3_findError_19 rfl (lv_at hl 0 rfl) ?_
          obtain ⟨r7, hr8, hf⟩ := bnd hf
          refine x_callV F hK hG hP hS (o := 1) (by decide) (q := (1, 0, 0)) rfl (ci := 3) (fun _ => rfl) rfl (c_X3_readCommand hr8) (cwV 0 F.2.2.2.2 gX3_findError_X3_readCommand rfl rfl rfl ⟨rfl, hd_X3_readCommand⟩ ⟨(Nat.le_of_ble_eq_true rfl), (Nat.le_of_ble_eq_true rfl)⟩) rfl rfl hl.1 (Nat.le_of_ble_eq_true rfl) dX3_findError_20 ⟨(Nat.le_of_ble_eq_true rfl), (Nat.le_of_ble_eq_true rfl)⟩ (rest := []) (fun H locs hP hS => ?_)
          refine W.eq (g2 := F0 m 23 ls []) rfl ?_
          refine lv_iinc (v := (v1 + (1 : Int32))) F.1 F.2.1 dX3_findError_23 hl (k := 1) rfl rfl (Nat.le_of_ble_eq_true rfl) rfl (fun ls hl => ?_)
          have hl : lv_has ls 2 [(1, .int (v1 + (1 : Int32))), (0, .ref (x + 1))] := hl
          refine lv_goto (tgt := 6) F.1 F.2.1 dX3_findError_26 rfl ?_
          exact ih r7 (v1 + (1 : Int32)) _ _ _ (lv_sub hl [1, 0] rfl) hP hS hf
  intro ls H locs hl hP hS
  have hl : lv_has ls 2 [(0, .ref (x + 1))] := hl
  unfold f_X3_findError at hf
  refine lv_aload_n F.1 F.2.1 dX3_findError_0 rfl (lv_at hl 0 rfl) ?_
  obtain ⟨r1, hr2, hf⟩ := bnd hf
  refine x_callV F hK hG hP hS (o := 1) (by decide) (q := (1, 0, 0)) rfl (ci := 3) (fun _ => rfl) rfl (c_X3_startReading hr2) (cwV 0 F.2.2.2.2 gX3_findError_X3_startReading rfl rfl rfl ⟨rfl, hd_X3_startReading⟩ ⟨(Nat.le_of_ble_eq_true rfl), (Nat.le_of_ble_eq_true rfl)⟩) rfl rfl hl.1 (Nat.le_of_ble_eq_true rfl) dX3_findError_1 ⟨(Nat.le_of_ble_eq_true rfl), (Nat.le_of_ble_eq_true rfl)⟩ (rest := []) (fun H locs hP hS => ?_)
  refine W.eq (g2 := F0 m 4 ls []) rfl ?_
  refine lv_iconst (v := (0 : Int32)) F.1 F.2.1 dX3_findError_4 (by decide) ?_
  refine lv_istore_n F.1 F.2.1 dX3_findError_5 rfl hl (Nat.le_of_ble_eq_true rfl) rfl (fun ls hl => ?_)
  have hl : lv_has ls 2 [(1, .int (0 : Int32)), (0, .ref (x + 1))] := hl
  exact (KEY FU) r1 (0 : Int32) _ _ _ (lv_sub hl [1, 0] rfl) hP hS hf
