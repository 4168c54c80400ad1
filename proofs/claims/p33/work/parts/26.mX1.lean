-- FrostTubes$Past.remember(LFrostTubes$Ground;)V
def f_X1_remember (μ : Mem) : Option (Mem) := (if oob ((((μ 20) 1) + ((μ 20) 0)) - ((((μ 20) 1) + ((μ 20) 0)) / (14 : Int32)) * (14 : Int32)) 14 then none else ((f_X0_copyFrom (μ (3 + ((((μ 20) 1) + ((μ 20) 0)) - ((((μ 20) 1) + ((μ 20) 0)) / (14 : Int32)) * (14 : Int32)).toNatClampNeg)) (μ 0)).bind fun r2 => (if (14 : Int32) ≤ (((va_up μ (3 + ((((μ 20) 1) + ((μ 20) 0)) - ((((μ 20) 1) + ((μ 20) 0)) / (14 : Int32)) * (14 : Int32)).toNatClampNeg) r2) 20) 0) then some (va_up (va_up μ (3 + ((((μ 20) 1) + ((μ 20) 0)) - ((((μ 20) 1) + ((μ 20) 0)) / (14 : Int32)) * (14 : Int32)).toNatClampNeg) r2) 20 (upd ((va_up μ (3 + ((((μ 20) 1) + ((μ 20) 0)) - ((((μ 20) 1) + ((μ 20) 0)) / (14 : Int32)) * (14 : Int32)).toNatClampNeg) r2) 20) 1 (((((va_up μ (3 + ((((μ 20) 1) + ((μ 20) 0)) - ((((μ 20) 1) + ((μ 20) 0)) / (14 : Int32)) * (14 : Int32)).toNatClampNeg) r2) 20) 1) + (1 : Int32)) - (((((va_up μ (3 + ((((μ 20) 1) + ((μ 20) 0)) - ((((μ 20) 1) + ((μ 20) 0)) / (14 : Int32)) * (14 : Int32)).toNatClampNeg) r2) 20) 1) + (1 : Int32)) / (14 : Int32)) * (14 : Int32)))) else some (va_up (va_up μ (3 + ((((μ 20) 1) + ((μ 20) 0)) - ((((μ 20) 1) + ((μ 20) 0)) / (14 : Int32)) * (14 : Int32)).toNatClampNeg) r2) 20 (upd ((va_up μ (3 + ((((μ 20) 1) + ((μ 20) 0)) - ((((μ 20) 1) + ((μ 20) 0)) / (14 : Int32)) * (14 : Int32)).toNatClampNeg) r2) 20) 0 ((((va_up μ (3 + ((((μ 20) 1) + ((μ 20) 0)) - ((((μ 20) 1) + ((μ 20) 0)) / (14 : Int32)) * (14 : Int32)).toNatClampNeg) r2) 20) 0) + (1 : Int32)))))))
def rmX1_remember : Room := { frames := 3, cells := 0, slots := 0, locals := 123 }
theorem hd_X1_remember : yX1_remember.cls ≠ "java/lang/invoke/MethodHandle" ∧ yX1_remember.cls ≠ "java/lang/invoke/VarHandle" ∧ (parseMethodDescriptor yX1_remember.desc).map (fun d => d.parameters.length) = some 1 := by decide +kernel
set_option maxHeartbeats 8000000 in
set_option maxRecDepth 100000 in
theorem c_X1_remember {l : Launch} {D : va_G} {x : Nat} {μ : Mem} {r : Mem} (hf : f_X1_remember μ = some r) : CX l yX1_remember wsX1_remember rmX1_remember [.ref (x + 57), .ref (x + gb 0)] D x μ (none) r := by
  refine CX.of (cc := cX1_remember) (maxL := 2) (ret := none) pn_X1 rfl (Nat.le_of_ble_eq_true rfl) ?_
  intro p e s m args below meth c F hr hlk hK hG
  intro ls H locs hl hP hS
  have hl : lv_has ls 2 [(0, .ref (x + 57)), (1, .ref (x + gb 0))] := hl
  unfold f_X1_remember at hf
  refine lv_aload_n F.1 F.2.1 dX1_remember_0 rfl (lv_at hl 0 rfl) ?_
  refine gR_X1_states F hK hP  (fun _ h => List.mem_cons_of_mem _ (List.mem_append_left _ (List.mem_append_left _ (List.mem_append_right _ h)))) (List.mem_of_getElem? (i := 1) rfl) dX1_remember_1 ?_
  refine lv_aload_n F.1 F.2.1 dX1_remember_4 rfl (lv_at hl 0 rfl) ?_
  refine gI_X1_first F hK hP  rfl (fun _ h => List.mem_cons_of_mem _ (List.mem_append_left _ (List.mem_append_left _ (List.mem_append_right _ h)))) (List.mem_of_getElem? (i := 2) rfl) dX1_remember_5 ?_
  refine lv_aload_n F.1 F.2.1 dX1_remember_8 rfl (lv_at hl 0 rfl) ?_
  refine gI_X1_count F hK hP  rfl (fun _ h => List.mem_cons_of_mem _ (List.mem_append_left _ (List.mem_append_left _ (List.mem_append_right _ h)))) (List.mem_of_getElem? (i := 3) rfl) dX1_remember_9 ?_
  refine lv_iadd F.1 F.2.1 dX1_remember_12 ?_
  refine lv_bipush (v := (14 : Int32)) F.1 F.2.1 dX1_remember_13 (by decide) ?_
  refine lv_irem F.1 F.2.1 dX1_remember_15 (by decide) ?_
  obtain ⟨hb1, hf⟩ := ifg hf
  refine lA_PS F hK hP hb1 dX1_remember_16 ?_
  refine lv_aload_n F.1 F.2.1 dX1_remember_17 rfl (lv_at hl 1 rfl) ?_
  obtain ⟨r2, hr3, hf⟩ := bnd hf
  have hP := x_up (3 + ((((μ 20) 1) + ((μ 20) 0)) - ((((μ 20) 1) + ((μ 20) 0)) / (14 : Int32)) * (14 : Int32)).toNatClampNeg) hP
  refine x_callV F hK hG hP hS (o_G (by have := (oob_lt hb1); omega) (c := 0) (by decide)) (kd_G (3 + ((((μ 20) 1) + ((μ 20) 0)) - ((((μ 20) 1) + ((μ 20) 0)) / (14 : Int32)) * (14 : Int32)).toNatClampNeg) (by have := (oob_lt hb1); omega) 0 (by decide)) (ci := 0) (fun _ => rfl) rfl (c_X0_copyFrom (by have := (oob_lt hb1); omega) (by decide) (by omega) rfl hr3) (cwV 1 F.2.2.2.2 gX1_remember_X0_copyFrom rfl rfl rfl ⟨rfl, hd_X0_copyFrom⟩ ⟨(Nat.le_of_ble_eq_true rfl), (Nat.le_of_ble_eq_true rfl)⟩) rfl rfl hl.1 (Nat.le_of_ble_eq_true rfl) dX1_remember_18 ⟨(Nat.le_of_ble_eq_true rfl), (Nat.le_of_ble_eq_true rfl)⟩ (rest := []) (fun H locs hP hS => ?_)
  refine W.eq (g2 := F0 m 21 ls []) rfl ?_
  refine lv_aload_n F.1 F.2.1 dX1_remember_21 rfl (lv_at hl 0 rfl) ?_
  refine gI_X1_count F hK hP  rfl (fun _ h => List.mem_cons_of_mem _ (List.mem_append_left _ (List.mem_append_left _ (List.mem_append_right _ h)))) (List.mem_of_getElem? (i := 3) rfl) dX1_remember_22 ?_
  refine lv_bipush (v := (14 : Int32)) F.1 F.2.1 dX1_remember_25 (by decide) ?_
  refine lv_icmp_ge (tgt := 43) F.1 F.2.1 dX1_remember_27 rfl (fun hc4 => ?_) (fun hc4 => ?_)
  · have hf := ifp hc4 hf
    refine lv_aload_n F.1 F.2.1 dX1_remember_43 rfl (lv_at hl 0 rfl) ?_
    refine lv_aload_n F.1 F.2.1 dX1_remember_44 rfl (lv_at hl 0 rfl) ?_
    refine gI_X1_first F hK hP  rfl (fun _ h => List.mem_cons_of_mem _ (List.mem_append_left _ (List.mem_append_left _ (List.mem_append_right _ h)))) (List.mem_of_getElem? (i := 2) rfl) dX1_remember_45 ?_
    refine lv_iconst (v := (1 : Int32)) F.1 F.2.1 dX1_remember_48 (by decide) ?_
    refine lv_iadd F.1 F.2.1 dX1_remember_49 ?_
    refine lv_bipush (v := (14 : Int32)) F.1 F.2.1 dX1_remember_50 (by decide) ?_
    refine lv_irem F.1 F.2.1 dX1_remember_52 (by decide) ?_
    have hP := x_up 20 hP
    refine pI_X1_first F hK  hP hS (fun _ h => List.mem_cons_of_mem _ (List.mem_append_left _ (List.mem_append_left _ (List.mem_append_right _ h)))) (List.mem_of_getElem? (i := 2) rfl) dX1_remember_53 (fun H locs hP hS => ?_)
    obtain rfl := Option.some.inj hf
    exact x_vret F hr hlk hP hS rfl dX1_remember_56
  · have hf := ifn hc4 hf
    refine lv_aload_n F.1 F.2.1 dX1_remember_30 rfl (lv_at hl 0 rfl) ?_
    refine lv_dup F.1 F.2.1 dX1_remember_31 rfl ?_
    refine gI_X1_count F hK hP  rfl (fun _ h => List.mem_cons_of_mem _ (List.mem_append_left _ (List.mem_append_left _ (List.mem_append_right _ h)))) (List.mem_of_getElem? (i := 3) rfl) dX1_remember_32 ?_
    refine lv_iconst (v := (1 : Int32)) F.1 F.2.1 dX1_remember_35 (by decide) ?_
    refine lv_iadd F.1 F.2.1 dX1_remember_36 ?_
    have hP := x_up 20 hP
    refine pI_X1_count F hK  hP hS (fun _ h => List.mem_cons_of_mem _ (List.mem_append_left _ (List.mem_append_left _ (List.mem_append_right _ h)))) (List.mem_of_getElem? (i := 3) rfl) dX1_remember_37 (fun H locs hP hS => ?_)
    refine lv_goto (tgt := 56) F.1 F.2.1 dX1_remember_40 rfl ?_
    obtain rfl := Option.some.inj hf
    exact x_vret F hr hlk hP hS rfl dX1_remember_56

-- FrostTubes$Past.takeBack(LFrostTubes$Ground;)V
def f_X1_takeBack (μ : Mem) : Option (Mem) := (if ((μ 20) 0) ≤ 0 then some μ else (if oob (((((va_up μ 20 (upd (μ 20) 0 (((μ 20) 0) - (1 : Int32)))) 20) 1) + (((va_up μ 20 (upd (μ 20) 0 (((μ 20) 0) - (1 : Int32)))) 20) 0)) - (((((va_up μ 20 (upd (μ 20) 0 (((μ 20) 0) - (1 : Int32)))) 20) 1) + (((va_up μ 20 (upd (μ 20) 0 (((μ 20) 0) - (1 : Int32)))) 20) 0)) / (14 : Int32)) * (14 : Int32)) 14 then none else ((f_X0_copyFrom ((va_up μ 20 (upd (μ 20) 0 (((μ 20) 0) - (1 : Int32)))) 0) ((va_up μ 20 (upd (μ 20) 0 (((μ 20) 0) - (1 : Int32)))) (3 + (((((va_up μ 20 (upd (μ 20) 0 (((μ 20) 0) - (1 : Int32)))) 20) 1) + (((va_up μ 20 (upd (μ 20) 0 (((μ 20) 0) - (1 : Int32)))) 20) 0)) - (((((va_up μ 20 (upd (μ 20) 0 (((μ 20) 0) - (1 : Int32)))) 20) 1) + (((va_up μ 20 (upd (μ 20) 0 (((μ 20) 0) - (1 : Int32)))) 20) 0)) / (14 : Int32)) * (14 : Int32)).toNatClampNeg))).bind fun r3 => some (va_up (va_up μ 20 (upd (μ 20) 0 (((μ 20) 0) - (1 : Int32)))) 0 r3))))
def rmX1_takeBack : Room := { frames := 3, cells := 0, slots := 0, locals := 123 }
theorem hd_X1_takeBack : yX1_takeBack.cls ≠ "java/lang/invoke/MethodHandle" ∧ yX1_takeBack.cls ≠ "java/lang/invoke/VarHandle" ∧ (parseMethodDescriptor yX1_takeBack.desc).map (fun d => d.parameters.length) = some 1 := by decide +kernel
set_option maxHeartbeats 8000000 in
set_option maxRecDepth 100000 in
theorem c_X1_takeBack {l : Launch} {D : va_G} {x : Nat} {μ : Mem} {r : Mem} (hf : f_X1_takeBack μ = some r) : CX l yX1_takeBack wsX1_takeBack rmX1_takeBack [.ref (x + 57), .ref (x + gb 0)] D x μ (none) r := by
  refine CX.of (cc := cX1_takeBack) (maxL := 2) (ret := none) pn_X1 rfl (Nat.le_of_ble_eq_true rfl) ?_
  intro p e s m args below meth c F hr hlk hK hG
  intro ls H locs hl hP hS
  have hl : lv_has ls 2 [(0, .ref (x + 57)), (1, .ref (x + gb 0))] := hl
  unfold f_X1_takeBack at hf
  refine lv_aload_n F.1 F.2.1 dX1_takeBack_0 rfl (lv_at hl 0 rfl) ?_
  refine gI_X1_count F hK hP  rfl (fun _ h => List.mem_cons_of_mem _ (List.mem_append_left _ (List.mem_append_left _ (List.mem_append_right _ h)))) (List.mem_of_getElem? (i := 1) rfl) dX1_takeBack_1 ?_
  refine lv_if_le (tgt := 38) F.1 F.2.1 dX1_takeBack_4 rfl (fun hc1 => ?_) (fun hc1 => ?_)
  · have hf := ifp hc1 hf
    obtain rfl := Option.some.inj hf
    exact x_vret F hr hlk hP hS rfl dX1_takeBack_38
  · have hf := ifn hc1 hf
    refine lv_aload_n F.1 F.2.1 dX1_takeBack_7 rfl (lv_at hl 0 rfl) ?_
    refine lv_dup F.1 F.2.1 dX1_takeBack_8 rfl ?_
    refine gI_X1_count F hK hP  rfl (fun _ h => List.mem_cons_of_mem _ (List.mem_append_left _ (List.mem_append_left _ (List.mem_append_right _ h)))) (List.mem_of_getElem? (i := 1) rfl) dX1_takeBack_9 ?_
    refine lv_iconst (v := (1 : Int32)) F.1 F.2.1 dX1_takeBack_12 (by decide) ?_
    refine lv_isub F.1 F.2.1 dX1_takeBack_13 ?_
    have hP := x_up 20 hP
    refine pI_X1_count F hK  hP hS (fun _ h => List.mem_cons_of_mem _ (List.mem_append_left _ (List.mem_append_left _ (List.mem_append_right _ h)))) (List.mem_of_getElem? (i := 1) rfl) dX1_takeBack_14 (fun H locs hP hS => ?_)
    refine lv_aload_n F.1 F.2.1 dX1_takeBack_17 rfl (lv_at hl 1 rfl) ?_
    refine lv_aload_n F.1 F.2.1 dX1_takeBack_18 rfl (lv_at hl 0 rfl) ?_
    refine gR_X1_states F hK hP  (fun _ h => List.mem_cons_of_mem _ (List.mem_append_left _ (List.mem_append_left _ (List.mem_append_right _ h)))) (List.mem_of_getElem? (i := 2) rfl) dX1_takeBack_19 ?_
    refine lv_aload_n F.1 F.2.1 dX1_takeBack_22 rfl (lv_at hl 0 rfl) ?_
    refine gI_X1_first F hK hP  rfl (fun _ h => List.mem_cons_of_mem _ (List.mem_append_left _ (List.mem_append_left _ (List.mem_append_right _ h)))) (List.mem_of_getElem? (i := 3) rfl) dX1_takeBack_23 ?_
    refine lv_aload_n F.1 F.2.1 dX1_takeBack_26 rfl (lv_at hl 0 rfl) ?_
    refine gI_X1_count F hK hP  rfl (fun _ h => List.mem_cons_of_mem _ (List.mem_append_left _ (List.mem_append_left _ (List.mem_append_right _ h)))) (List.mem_of_getElem? (i := 1) rfl) dX1_takeBack_27 ?_
    refine lv_iadd F.1 F.2.1 dX1_takeBack_30 ?_
    refine lv_bipush (v := (14 : Int32)) F.1 F.2.1 dX1_takeBack_31 (by decide) ?_
    refine lv_irem F.1 F.2.1 dX1_takeBack_33 (by decide) ?_
    obtain ⟨hb2, hf⟩ := ifg hf
    refine lA_PS F hK hP hb2 dX1_takeBack_34 ?_
    obtain ⟨r3, hr4, hf⟩ := bnd hf
    have hP := x_up 0 hP
    refine x_callV F hK hG hP hS (o_G (by decide) (c := 0) (by decide)) (kd_G 0 (by decide) 0 (by decide)) (ci := 0) (fun _ => rfl) rfl (c_X0_copyFrom (by decide) (by have := (oob_lt hb2); omega) (by omega) rfl hr4) (cwV 1 F.2.2.2.2 gX1_takeBack_X0_copyFrom rfl rfl rfl ⟨rfl, hd_X0_copyFrom⟩ ⟨(Nat.le_of_ble_eq_true rfl), (Nat.le_of_ble_eq_true rfl)⟩) rfl rfl hl.1 (Nat.le_of_ble_eq_true rfl) dX1_takeBack_35 ⟨(Nat.le_of_ble_eq_true rfl), (Nat.le_of_ble_eq_true rfl)⟩ (rest := []) (fun H locs hP hS => ?_)
    refine W.eq (g2 := F0 m 38 ls []) rfl ?_
    obtain rfl := Option.some.inj hf
    exact x_vret F hr hlk hP hS rfl dX1_takeBack_38

-- FrostTubes$Past.forgetAll()V
def f_X1_forgetAll (μ : Mem) : Option (Mem) := some (va_up (va_up μ 20 (upd (μ 20) 0 (0 : Int32))) 20 (upd ((va_up μ 20 (upd (μ 20) 0 (0 : Int32))) 20) 1 (0 : Int32)))
def rmX1_forgetAll : Room := { frames := 0, cells := 0, slots := 0, locals := 0 }
theorem hd_X1_forgetAll : yX1_forgetAll.cls ≠ "java/lang/invoke/MethodHandle" ∧ yX1_forgetAll.cls ≠ "java/lang/invoke/VarHandle" ∧ (parseMethodDescriptor yX1_forgetAll.desc).map (fun d => d.parameters.length) = some 0 := by decide +kernel
set_option maxHeartbeats 8000000 in
set_option maxRecDepth 100000 in
theorem c_X1_forgetAll {l : Launch} {D : va_G} {x : Nat} {μ : Mem} {r : Mem} (hf : f_X1_forgetAll μ = some r) : CX l yX1_forgetAll wsX1_forgetAll rmX1_forgetAll [.ref (x + 57)] D x μ (none) r := by
  refine CX.of (cc := cX1_forgetAll) (maxL := 1) (ret := none) pn_X1 rfl (Nat.le_of_ble_eq_true rfl) ?_
  intro p e s m args below meth c F hr hlk hK hG
  intro ls H locs hl hP hS
  have hl : lv_has ls 1 [(0, .ref (x + 57))] := hl
  unfold f_X1_forgetAll at hf
  refine lv_aload_n F.1 F.2.1 dX1_forgetAll_0 rfl (lv_at hl 0 rfl) ?_
  refine lv_iconst (v := (0 : Int32)) F.1 F.2.1 dX1_forgetAll_1 (by decide) ?_
  have hP := x_up 20 hP
  refine pI_X1_count F hK  hP hS (fun _ h => List.mem_cons_of_mem _ (List.mem_append_right _ h)) (List.mem_of_getElem? (i := 1) rfl) dX1_forgetAll_2 (fun H locs hP hS => ?_)
  refine lv_aload_n F.1 F.2.1 dX1_forgetAll_5 rfl (lv_at hl 0 rfl) ?_
  refine lv_iconst (v := (0 : Int32)) F.1 F.2.1 dX1_forgetAll_6 (by decide) ?_
  have hP := x_up 20 hP
  refine pI_X1_first F hK  hP hS (fun _ h => List.mem_cons_of_mem _ (List.mem_append_right _ h)) (List.mem_of_getElem? (i := 2) rfl) dX1_forgetAll_7 (fun H locs hP hS => ?_)
  obtain rfl := Option.some.inj hf
  exact x_vret F hr hlk hP hS rfl dX1_forgetAll_10
