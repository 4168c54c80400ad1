-- FrostTubesLaw.says(LFrostTubes;IIII)Z
def rmL_says : Room := { frames := 9, cells := 8, slots := 48, locals := 147 }
theorem hd_L_says : yL_says.cls ≠ "java/lang/invoke/MethodHandle" ∧ yL_says.cls ≠ "java/lang/invoke/VarHandle" ∧ (parseMethodDescriptor yL_says.desc).map (fun d => d.parameters.length) = some 5 := by decide +kernel
set_option maxHeartbeats 8000000 in
set_option maxRecDepth 100000 in
theorem c_L_says {l : Launch} (hlt : l.stackTraces = false) {D : va_G} {x : Nat} {μ : Mem} (a1 : Int32) (a2 : Int32) (a3 : Int32) (a4 : Int32) {r : Int32 × Mem} (hf : f_L_says μ a1 a2 a3 a4 = some r) : LC l yL_says wsB_says rmL_says 8 48 [.ref (x + 0), .int a1, .int a2, .int a3, .int a4] D x μ (some (.int r.1)) r.2 := by
  refine LC.of (cc := cL_says) (maxL := 5) (ret := (some .boolean)) (by decide +kernel) rfl (Nat.le_of_ble_eq_true rfl) ?_
  intro p e s m args below meth c F hr hlk hK hG
  intro ls H locs hl hP hS
  have hl : lv_has ls 5 [(0, .ref (x + 0)), (1, .int a1), (2, .int a2), (3, .int a3), (4, .int a4)] := hl
  unfold f_L_says at hf
  refine lv_aload_n F.1 F.2.1 dL_says_0 rfl (lv_at hl 0 rfl) ?_
  refine lv_iload_n F.1 F.2.1 dL_says_1 rfl (lv_at hl 1 rfl) ?_
  obtain ⟨r1, hr2, hf⟩ := bnd hf
  refine a_H F hK (fun _ hU hW => sl_U hG hS hU hW) (fun _ h => h) hP hS (c_L_append hlt a1 hr2) (vx_cwSW 2 F.2.2.2.2 gB_says_L_append rfl rfl rfl hd_L_append ⟨(Nat.le_of_ble_eq_true rfl), (Nat.le_of_ble_eq_true rfl)⟩) rfl rfl hl.1 (Nat.le_of_ble_eq_true rfl) dL_says_2 ⟨(Nat.le_of_ble_eq_true rfl), (Nat.le_of_ble_eq_true rfl)⟩ (rest := []) (fun H locs hP hS _ => ?_)
  refine W.eq (g2 := F0 m 5 ls [.long r1.1]) rfl ?_
  refine lv_lconst (v := (0 : Int64)) F.1 F.2.1 dL_says_5 rfl ?_
  refine W.lcmp F.1 F.2.1 dL_says_6 ?_
  refine lv_if_le (tgt := 45) F.1 F.2.1 dL_says_7 rfl (fun hc3 => ?_) (fun hc3 => ?_)
  · have hf := ifp hc3 hf
    refine lv_iconst (v := (0 : Int32)) F.1 F.2.1 dL_says_45 (by decide) ?_
    obtain rfl := Option.some.inj hf
    exact s_zret F hr hlk hP hS rfl (b01_v (v := (0 : Int32)) (Or.inl rfl)) (Nat.le_of_ble_eq_true rfl) (Nat.le_of_ble_eq_true rfl) dL_says_46
  · have hf := ifn hc3 hf
    refine lv_aload_n F.1 F.2.1 dL_says_10 rfl (lv_at hl 0 rfl) ?_
    refine lv_iload_n F.1 F.2.1 dL_says_11 rfl (lv_at hl 2 rfl) ?_
    obtain ⟨r4, hr5, hf⟩ := bnd hf
    refine a_H F hK (fun _ hU hW => sl_U hG hS hU hW) (fun _ h => h) hP hS (c_L_append hlt a2 hr5) (vx_cwSW 2 F.2.2.2.2 gB_says_L_append rfl rfl rfl hd_L_append ⟨(Nat.le_of_ble_eq_true rfl), (Nat.le_of_ble_eq_true rfl)⟩) rfl rfl hl.1 (Nat.le_of_ble_eq_true rfl) dL_says_12 ⟨(Nat.le_of_ble_eq_true rfl), (Nat.le_of_ble_eq_true rfl)⟩ (rest := []) (fun H locs hP hS _ => ?_)
    refine W.eq (g2 := F0 m 15 ls [.long r4.1]) rfl ?_
    refine lv_lconst (v := (0 : Int64)) F.1 F.2.1 dL_says_15 rfl ?_
    refine W.lcmp F.1 F.2.1 dL_says_16 ?_
    refine lv_if_le (tgt := 45) F.1 F.2.1 dL_says_17 rfl (fun hc6 => ?_) (fun hc6 => ?_)
    · have hf := ifp hc6 hf
      refine lv_iconst (v := (0 : Int32)) F.1 F.2.1 dL_says_45 (by decide) ?_
      obtain rfl := Option.some.inj hf
      exact s_zret F hr hlk hP hS rfl (b01_v (v := (0 : Int32)) (Or.inl rfl)) (Nat.le_of_ble_eq_true rfl) (Nat.le_of_ble_eq_true rfl) dL_says_46
    · have hf := ifn hc6 hf
      refine lv_aload_n F.1 F.2.1 dL_says_20 rfl (lv_at hl 0 rfl) ?_
      refine lv_iload_n F.1 F.2.1 dL_says_21 rfl (lv_at hl 3 rfl) ?_
      obtain ⟨r7, hr8, hf⟩ := bnd hf
      refine a_H F hK (fun _ hU hW => sl_U hG hS hU hW) (fun _ h => h) hP hS (c_L_append hlt a3 hr8) (vx_cwSW 2 F.2.2.2.2 gB_says_L_append rfl rfl rfl hd_L_append ⟨(Nat.le_of_ble_eq_true rfl), (Nat.le_of_ble_eq_true rfl)⟩) rfl rfl hl.1 (Nat.le_of_ble_eq_true rfl) dL_says_22 ⟨(Nat.le_of_ble_eq_true rfl), (Nat.le_of_ble_eq_true rfl)⟩ (rest := []) (fun H locs hP hS _ => ?_)
      refine W.eq (g2 := F0 m 25 ls [.long r7.1]) rfl ?_
      refine lv_lconst (v := (0 : Int64)) F.1 F.2.1 dL_says_25 rfl ?_
      refine W.lcmp F.1 F.2.1 dL_says_26 ?_
      refine lv_if_le (tgt := 45) F.1 F.2.1 dL_says_27 rfl (fun hc9 => ?_) (fun hc9 => ?_)
      · have hf := ifp hc9 hf
        refine lv_iconst (v := (0 : Int32)) F.1 F.2.1 dL_says_45 (by decide) ?_
        obtain rfl := Option.some.inj hf
        exact s_zret F hr hlk hP hS rfl (b01_v (v := (0 : Int32)) (Or.inl rfl)) (Nat.le_of_ble_eq_true rfl) (Nat.le_of_ble_eq_true rfl) dL_says_46
      · have hf := ifn hc9 hf
        refine lv_aload_n F.1 F.2.1 dL_says_30 rfl (lv_at hl 0 rfl) ?_
        refine lv_iload F.1 F.2.1 dL_says_31 (lv_at hl 4 rfl) ?_
        obtain ⟨r10, hr11, hf⟩ := bnd hf
        refine a_H F hK (fun _ hU hW => sl_U hG hS hU hW) (fun _ h => h) hP hS (c_L_append hlt a4 hr11) (vx_cwSW 2 F.2.2.2.2 gB_says_L_append rfl rfl rfl hd_L_append ⟨(Nat.le_of_ble_eq_true rfl), (Nat.le_of_ble_eq_true rfl)⟩) rfl rfl hl.1 (Nat.le_of_ble_eq_true rfl) dL_says_33 ⟨(Nat.le_of_ble_eq_true rfl), (Nat.le_of_ble_eq_true rfl)⟩ (rest := []) (fun H locs hP hS _ => ?_)
        refine W.eq (g2 := F0 m 36 ls [.long r10.1]) rfl ?_
        refine lv_lconst (v := (0 : Int64)) F.1 F.2.1 dL_says_36 rfl ?_
        refine W.lcmp F.1 F.2.1 dL_says_37 ?_
        refine lv_if_le (tgt := 45) F.1 F.2.1 dL_says_38 rfl (fun hc12 => ?_) (fun hc12 => ?_)
        · have hf := ifp hc12 hf
          refine lv_iconst (v := (0 : Int32)) F.1 F.2.1 dL_says_45 (by decide) ?_
          obtain rfl := Option.some.inj hf
          exact s_zret F hr hlk hP hS rfl (b01_v (v := (0 : Int32)) (Or.inl rfl)) (Nat.le_of_ble_eq_true rfl) (Nat.le_of_ble_eq_true rfl) dL_says_46
        · have hf := ifn hc12 hf
          refine lv_iconst (v := (1 : Int32)) F.1 F.2.1 dL_says_41 (by decide) ?_
          refine lv_goto (tgt := 46) F.1 F.2.1 dL_says_42 rfl ?_
          obtain rfl := Option.some.inj hf
          exact s_zret F hr hlk hP hS rfl (b01_v (v := (1 : Int32)) (Or.inr rfl)) (Nat.le_of_ble_eq_true rfl) (Nat.le_of_ble_eq_true rfl) dL_says_46
