-- FrostTubesLaw.in(JJJ)Z
def rmL_in : Room := { frames := 0, cells := 0, slots := 0, locals := 0 }
theorem hd_L_in : yL_in.cls ≠ "java/lang/invoke/MethodHandle" ∧ yL_in.cls ≠ "java/lang/invoke/VarHandle" ∧ (parseMethodDescriptor yL_in.desc).map (fun d => d.parameters.length) = some 3 := by decide +kernel
set_option maxHeartbeats 8000000 in
set_option maxRecDepth 100000 in
theorem c_L_in {l : Launch} (hlt : l.stackTraces = false) {D : va_G} {x : Nat} {μ : Mem} (a0 : Int64) (a2 : Int64) (a4 : Int64) {r : Int32} (hf : f_L_in a0 a2 a4 = some r) : LC l yL_in wsB_in rmL_in 0 0 [.long a0, .long a2, .long a4] D x μ (some (.int r)) μ := by
  refine LC.of (cc := cL_in) (maxL := 6) (ret := (some .boolean)) (by decide +kernel) rfl (Nat.le_of_ble_eq_true rfl) ?_
  intro p e s m args below meth c F hr hlk hK hG
  intro ls H locs hl hP hS
  have hl : lv_has ls 6 [(0, .long a0), (2, .long a2), (4, .long a4)] := hl
  unfold f_L_in at hf
  refine lv_lload_n F.1 F.2.1 dL_in_0 rfl (lv_at hl 0 rfl) ?_
  refine lv_lload_n F.1 F.2.1 dL_in_1 rfl (lv_at hl 1 rfl) ?_
  refine W.lcmp F.1 F.2.1 dL_in_2 ?_
  refine lv_if_lt (tgt := 17) F.1 F.2.1 dL_in_3 rfl (fun hc1 => ?_) (fun hc1 => ?_)
  · have hf := ifp hc1 hf
    refine lv_iconst (v := (0 : Int32)) F.1 F.2.1 dL_in_17 (by decide) ?_
    obtain rfl := Option.some.inj hf
    exact s_zret F hr hlk hP hS rfl (b01_v (v := (0 : Int32)) (Or.inl rfl)) (Nat.le_of_ble_eq_true rfl) (Nat.le_of_ble_eq_true rfl) dL_in_18
  · have hf := ifn hc1 hf
    refine lv_lload_n F.1 F.2.1 dL_in_6 rfl (lv_at hl 0 rfl) ?_
    refine lv_lload F.1 F.2.1 dL_in_7 (lv_at hl 2 rfl) ?_
    refine W.lcmp F.1 F.2.1 dL_in_9 ?_
    refine lv_if_gt (tgt := 17) F.1 F.2.1 dL_in_10 rfl (fun hc2 => ?_) (fun hc2 => ?_)
    · have hf := ifp hc2 hf
      refine lv_iconst (v := (0 : Int32)) F.1 F.2.1 dL_in_17 (by decide) ?_
      obtain rfl := Option.some.inj hf
      exact s_zret F hr hlk hP hS rfl (b01_v (v := (0 : Int32)) (Or.inl rfl)) (Nat.le_of_ble_eq_true rfl) (Nat.le_of_ble_eq_true rfl) dL_in_18
    · have hf := ifn hc2 hf
      refine lv_iconst (v := (1 : Int32)) F.1 F.2.1 dL_in_13 (by decide) ?_
      refine lv_goto (tgt := 18) F.1 F.2.1 dL_in_14 rfl ?_
      obtain rfl := Option.some.inj hf
      exact s_zret F hr hlk hP hS rfl (b01_v (v := (1 : Int32)) (Or.inr rfl)) (Nat.le_of_ble_eq_true rfl) (Nat.le_of_ble_eq_true rfl) dL_in_18
