-- FrostTubes$Site.copyFrom(LFrostTubes$Site;)V
def f_X2_copyFrom (g : Row) (o : Row) (z : Nat) : Option (Row) := some (cpy 21 z o (upd (upd (upd (upd (upd g (35 * z + 0) (o (35 * z + 0))) (35 * z + 1) (o (35 * z + 1))) (35 * z + 2) (o (35 * z + 2))) (35 * z + 3) (o (35 * z + 3))) (35 * z + 4) (o (35 * z + 4))))
def rmX2_copyFrom : Room := { frames := 1, cells := 0, slots := 0, locals := 80 }
theorem hd_X2_copyFrom : yX2_copyFrom.cls ≠ "java/lang/invoke/MethodHandle" ∧ yX2_copyFrom.cls ≠ "java/lang/invoke/VarHandle" ∧ (parseMethodDescriptor yX2_copyFrom.desc).map (fun d => d.parameters.length) = some 1 := by decide +kernel
set_option maxHeartbeats 8000000 in
set_option maxRecDepth 100000 in
theorem c_X2_copyFrom {l : Launch} {D : va_G} {x : Nat} {μ : Mem} {i z : Nat} (hi : i < 19) (hz : z < 4) {g : Row} {j : Nat} (hj : j < 19) (hij : j ≠ i) {o : Row} (ho : μ j = o) {r : Row} (hf : f_X2_copyFrom g o z = some r) : CX l yX2_copyFrom wsX2_copyFrom rmX2_copyFrom [.ref (x + sb i z), .ref (x + sb j z)] D x (va_up μ i g) (none) (va_up μ i r) := by
  refine CX.of (cc := cX2_copyFrom) (maxL := 2) (ret := none) pn_X2 rfl (Nat.le_of_ble_eq_true rfl) ?_
  intro p e s m args below meth c F hr hlk hK hG
  intro ls H locs hl hP hS
  have hl : lv_has ls 2 [(0, .ref (x + sb i z)), (1, .ref (x + sb j z))] := hl
  unfold f_X2_copyFrom at hf
  refine lv_aload_n F.1 F.2.1 dX2_copyFrom_0 rfl (lv_at hl 0 rfl) ?_
  refine lv_aload_n F.1 F.2.1 dX2_copyFrom_1 rfl (lv_at hl 1 rfl) ?_
  refine gI_X2_snow F hK hP hj hz ((mu_off _ _ hij).trans ho) (fun _ h => List.mem_cons_of_mem _ (List.mem_append_right _ h)) (List.mem_of_getElem? (i := 1) rfl) dX2_copyFrom_2 ?_
  refine pI_X2_snow F hK hi hz hP hS (fun _ h => List.mem_cons_of_mem _ (List.mem_append_right _ h)) (List.mem_of_getElem? (i := 1) rfl) dX2_copyFrom_5 (fun H locs hP hS => ?_)
  refine lv_aload_n F.1 F.2.1 dX2_copyFrom_8 rfl (lv_at hl 0 rfl) ?_
  refine lv_aload_n F.1 F.2.1 dX2_copyFrom_9 rfl (lv_at hl 1 rfl) ?_
  refine gI_X2_fenceHeight F hK hP hj hz ((mu_off _ _ hij).trans ho) (fun _ h => List.mem_cons_of_mem _ (List.mem_append_right _ h)) (List.mem_of_getElem? (i := 2) rfl) dX2_copyFrom_10 ?_
  refine pI_X2_fenceHeight F hK hi hz hP hS (fun _ h => List.mem_cons_of_mem _ (List.mem_append_right _ h)) (List.mem_of_getElem? (i := 2) rfl) dX2_copyFrom_13 (fun H locs hP hS => ?_)
  refine lv_aload_n F.1 F.2.1 dX2_copyFrom_16 rfl (lv_at hl 0 rfl) ?_
  refine lv_aload_n F.1 F.2.1 dX2_copyFrom_17 rfl (lv_at hl 1 rfl) ?_
  refine gI_X2_cold F hK hP hj hz ((mu_off _ _ hij).trans ho) (fun _ h => List.mem_cons_of_mem _ (List.mem_append_right _ h)) (List.mem_of_getElem? (i := 3) rfl) dX2_copyFrom_18 ?_
  refine pI_X2_cold F hK hi hz hP hS (fun _ h => List.mem_cons_of_mem _ (List.mem_append_right _ h)) (List.mem_of_getElem? (i := 3) rfl) dX2_copyFrom_21 (fun H locs hP hS => ?_)
  refine lv_aload_n F.1 F.2.1 dX2_copyFrom_24 rfl (lv_at hl 0 rfl) ?_
  refine lv_aload_n F.1 F.2.1 dX2_copyFrom_25 rfl (lv_at hl 1 rfl) ?_
  refine gI_X2_warmth F hK hP hj hz ((mu_off _ _ hij).trans ho) (fun _ h => List.mem_cons_of_mem _ (List.mem_append_right _ h)) (List.mem_of_getElem? (i := 4) rfl) dX2_copyFrom_26 ?_
  refine pI_X2_warmth F hK hi hz hP hS (fun _ h => List.mem_cons_of_mem _ (List.mem_append_right _ h)) (List.mem_of_getElem? (i := 4) rfl) dX2_copyFrom_29 (fun H locs hP hS => ?_)
  refine lv_aload_n F.1 F.2.1 dX2_copyFrom_32 rfl (lv_at hl 0 rfl) ?_
  refine lv_aload_n F.1 F.2.1 dX2_copyFrom_33 rfl (lv_at hl 1 rfl) ?_
  refine gI_X2_coldSum F hK hP hj hz ((mu_off _ _ hij).trans ho) (fun _ h => List.mem_cons_of_mem _ (List.mem_append_right _ h)) (List.mem_of_getElem? (i := 5) rfl) dX2_copyFrom_34 ?_
  refine pI_X2_coldSum F hK hi hz hP hS (fun _ h => List.mem_cons_of_mem _ (List.mem_append_right _ h)) (List.mem_of_getElem? (i := 5) rfl) dX2_copyFrom_37 (fun H locs hP hS => ?_)
  refine lv_aload_n F.1 F.2.1 dX2_copyFrom_40 rfl (lv_at hl 1 rfl) ?_
  refine gR_X2_frozenSince F hK hP hj hz (fun _ h => List.mem_cons_of_mem _ (List.mem_append_right _ h)) (List.mem_of_getElem? (i := 6) rfl) dX2_copyFrom_41 ?_
  refine lv_iconst (v := (0 : Int32)) F.1 F.2.1 dX2_copyFrom_44 (by decide) ?_
  refine lv_aload_n F.1 F.2.1 dX2_copyFrom_45 rfl (lv_at hl 0 rfl) ?_
  refine gR_X2_frozenSince F hK hP hi hz (fun _ h => List.mem_cons_of_mem _ (List.mem_append_right _ h)) (List.mem_of_getElem? (i := 6) rfl) dX2_copyFrom_46 ?_
  refine lv_iconst (v := (0 : Int32)) F.1 F.2.1 dX2_copyFrom_49 (by decide) ?_
  refine lv_bipush (v := (30 : Int32)) F.1 F.2.1 dX2_copyFrom_50 (by decide) ?_
  refine x_copy F hK (K := 21) (z := z) hi hij ho hP hS (o_A hj hz) (o_A hi hz) (kd_A j hj z hz) (kd_A i hi z hz) (Nat.le_of_ble_eq_true rfl) (n := 30) (fun _ => rfl) (fun _ => rfl) rfl (nn := (30 : Int32)) rfl (by decide) (List.mem_of_getElem? (i := 7) rfl) (List.mem_of_getElem? (i := 8) rfl) (List.mem_of_getElem? (i := 9) rfl) (List.mem_of_getElem? (i := 10) rfl) hl.1 (Nat.le_of_ble_eq_true rfl) (Nat.le_of_ble_eq_true rfl) dX2_copyFrom_52 (fun H locs hP hS => ?_)
  obtain rfl := Option.some.inj hf
  exact x_vret F hr hlk hP hS rfl dX2_copyFrom_55

-- FrostTubes$Site.isFrozen(I)Z
def f_X2_isFrozen (g : Row) (z : Nat) (a1 : Int32) : Option (Int32) := (if a1 < 0 then some (0 : Int32) else (if (30 : Int32) ≤ a1 then some (0 : Int32) else (if oob a1 30 then none else (if (g (35 * z + (5 + a1.toNatClampNeg))) = (-1 : Int32) then some (0 : Int32) else some (1 : Int32)))))
def rmX2_isFrozen : Room := { frames := 0, cells := 0, slots := 0, locals := 0 }
theorem hd_X2_isFrozen : yX2_isFrozen.cls ≠ "java/lang/invoke/MethodHandle" ∧ yX2_isFrozen.cls ≠ "java/lang/invoke/VarHandle" ∧ (parseMethodDescriptor yX2_isFrozen.desc).map (fun d => d.parameters.length) = some 1 := by decide +kernel
set_option maxHeartbeats 8000000 in
set_option maxRecDepth 100000 in
theorem c_X2_isFrozen {l : Launch} {D : va_G} {x : Nat} {μ : Mem} {i z : Nat} (hi : i < 19) (hz : z < 4) {g : Row} (hg : μ i = g) (a1 : Int32) {r : Int32} (hf : f_X2_isFrozen g z a1 = some r) : CX l yX2_isFrozen wsX2_isFrozen rmX2_isFrozen [.ref (x + sb i z), .int a1] D x μ (some (.int r)) μ := by
  refine CX.of (cc := cX2_isFrozen) (maxL := 2) (ret := (some .boolean)) pn_X2 rfl (Nat.le_of_ble_eq_true rfl) ?_
  intro p e s m args below meth c F hr hlk hK hG
  intro ls H locs hl hP hS
  have hl : lv_has ls 2 [(0, .ref (x + sb i z)), (1, .int a1)] := hl
  unfold f_X2_isFrozen at hf
  refine lv_iload_n F.1 F.2.1 dX2_isFrozen_0 rfl (lv_at hl 1 rfl) ?_
  refine lv_if_lt (tgt := 24) F.1 F.2.1 dX2_isFrozen_1 rfl (fun hc1 => ?_) (fun hc1 => ?_)
  · have hf := ifp hc1 hf
    refine lv_iconst (v := (0 : Int32)) F.1 F.2.1 dX2_isFrozen_24 (by decide) ?_
    obtain rfl := Option.some.inj hf
    exact x_zret F hr hlk hP hS rfl (b01_v (v := (0 : Int32)) (Or.inl rfl)) dX2_isFrozen_25
  · have hf := ifn hc1 hf
    refine lv_iload_n F.1 F.2.1 dX2_isFrozen_4 rfl (lv_at hl 1 rfl) ?_
    refine lv_bipush (v := (30 : Int32)) F.1 F.2.1 dX2_isFrozen_5 (by decide) ?_
    refine lv_icmp_ge (tgt := 24) F.1 F.2.1 dX2_isFrozen_7 rfl (fun hc2 => ?_) (fun hc2 => ?_)
    · have hf := ifp hc2 hf
      refine lv_iconst (v := (0 : Int32)) F.1 F.2.1 dX2_isFrozen_24 (by decide) ?_
      obtain rfl := Option.some.inj hf
      exact x_zret F hr hlk hP hS rfl (b01_v (v := (0 : Int32)) (Or.inl rfl)) dX2_isFrozen_25
    · have hf := ifn hc2 hf
      refine lv_aload_n F.1 F.2.1 dX2_isFrozen_10 rfl (lv_at hl 0 rfl) ?_
      refine gR_X2_frozenSince F hK hP hi hz (fun _ h => List.mem_cons_of_mem _ (List.mem_append_right _ h)) (List.mem_of_getElem? (i := 1) rfl) dX2_isFrozen_11 ?_
      refine lv_iload_n F.1 F.2.1 dX2_isFrozen_14 rfl (lv_at hl 1 rfl) ?_
      obtain ⟨hb3, hf⟩ := ifg hf
      refine lA_SA F hK hP hi hz hg hb3 dX2_isFrozen_15 ?_
      refine lv_iconst (v := (-1 : Int32)) F.1 F.2.1 dX2_isFrozen_16 (by decide) ?_
      refine lv_icmp_eq (tgt := 24) F.1 F.2.1 dX2_isFrozen_17 rfl (fun hc4 => ?_) (fun hc4 => ?_)
      · have hf := ifp hc4 hf
        refine lv_iconst (v := (0 : Int32)) F.1 F.2.1 dX2_isFrozen_24 (by decide) ?_
        obtain rfl := Option.some.inj hf
        exact x_zret F hr hlk hP hS rfl (b01_v (v := (0 : Int32)) (Or.inl rfl)) dX2_isFrozen_25
      · have hf := ifn hc4 hf
        refine lv_iconst (v := (1 : Int32)) F.1 F.2.1 dX2_isFrozen_20 (by decide) ?_
        refine lv_goto (tgt := 25) F.1 F.2.1 dX2_isFrozen_21 rfl ?_
        obtain rfl := Option.some.inj hf
        exact x_zret F hr hlk hP hS rfl (b01_v (v := (1 : Int32)) (Or.inr rfl)) dX2_isFrozen_25

-- FrostTubes$Site.frozenWithin(I)I
def fb_X2_frozenWithin_1 (g : Row) (z : Nat) (a1 : Int32) (K : Int32 → Int32 → Option (Int32)) (v2 : Int32) (v3 : Int32) : Option (Int32) := (if a1 ≤ v3 then some v2 else (if (30 : Int32) ≤ v3 then some v2 else ((f_X2_isFrozen g z v3).bind fun r3 => (if r3 = 0 then (K v2 (v3 + (1 : Int32))) else (K (v2 + (1 : Int32)) (v3 + (1 : Int32)))))))
def fl_X2_frozenWithin (g : Row) (z : Nat) (a1 : Int32) : Nat → Int32 → Int32 → Option (Int32)
  | 0, _, _ => none
  | n + 1, v2, v3 => fb_X2_frozenWithin_1 g z a1 (fl_X2_frozenWithin g z a1 n) v2 v3
def f_X2_frozenWithin (g : Row) (z : Nat) (a1 : Int32) : Option (Int32) := (fl_X2_frozenWithin g z a1 FU (0 : Int32) (0 : Int32))
def rmX2_frozenWithin : Room := { frames := 1, cells := 0, slots := 0, locals := 21 }
theorem hd_X2_frozenWithin : yX2_frozenWithin.cls ≠ "java/lang/invoke/MethodHandle" ∧ yX2_frozenWithin.cls ≠ "java/lang/invoke/VarHandle" ∧ (parseMethodDescriptor yX2_frozenWithin.desc).map (fun d => d.parameters.length) = some 1 := by decide +kernel
set_option maxHeartbeats 8000000 in
set_option maxRecDepth 100000 in
theorem c_X2_frozenWithin {l : Launch} {D : va_G} {x : Nat} {μ : Mem} {i z : Nat} (hi : i < 19) (hz : z < 4) {g : Row} (hg : μ i = g) (a1 : Int32) {r : Int32} (hf : f_X2_frozenWithin g z a1 = some r) : CX l yX2_frozenWithin wsX2_frozenWithin rmX2_frozenWithin [.ref (x + sb i z), .int a1] D x μ (some (.int r)) μ := by
  refine CX.of (cc := cX2_frozenWithin) (maxL := 4) (ret := (some .int)) pn_X2 rfl (Nat.le_of_ble_eq_true rfl) ?_
  intro p e s m args below meth c F hr hlk hK hG
  have KEY : ∀ n : Nat, (∀ (v2 : Int32) (v3 : Int32) (ls : Array Slot) (H : Heap) (locs : List Loc), lv_has ls 4 [(0, .ref (x + sb i z)), (1, .int a1), (2, .int v2), (3, .int v3)] → va_P D vwCl (WL D x μ) H → va_S (rng x) s.heap H locs → fl_X2_frozenWithin g z a1 n v2 v3 = some r → W p l e rmX2_frozenWithin s m args below meth c H locs 0 0 (MQ below (QX D x μ (some (.int r))) args s 0 0 (rng x)) (F0 m 4 ls [])) := by
    intro n
    induction n with
    | zero => exact (fun _ _ _ _ _ _ _ _ h => nomatch h)
    | succ n ih =>
      skip
      intro v2 v3  ls H locs hl hP hS hf
      have hf : fb_X2_frozenWithin_1 g z a1 (fl_X2_frozenWithin g z a1 n) v2 v3 = some r := hf
      unfold fb_X2_frozenWithin_1 at hf
      refine lv_iload_n F.1 F.2.1 dX2_frozenWithin_4 rfl (lv_at hl 3 rfl) ?_
      refine lv_iload_n F.1 F.2.1 dX2_frozenWithin_5 rfl (lv_at hl 1 rfl) ?_
      refine lv_icmp_ge (tgt := 32) F.1 F.2.1 dX2_frozenWithin_6 rfl (fun hc1 => ?_) (fun hc1 => ?_)
      · have hf := ifp hc1 hf
        refine lv_iload_n F.1 F.2.1 dX2_frozenWithin_32 rfl (lv_at hl 2 rfl) ?_
        obtain rfl := Option.some.inj hf
        exact x_iret F hr hlk hP hS rfl dX2_frozenWithin_33
      · have hf := ifn hc1 hf
        refine lv_iload_n F.1 F.2.1 dX2_frozenWithin_9 rfl (lv_at hl 3 rfl) ?_
        refine lv_bipush (v := (30 : Int32)) F.1 F.2.1 dX2_frozenWithin_10 (by decide) ?_
        refine lv_icmp_ge (tgt := 32) F.1 F.2.1 dX2_frozenWithin_12 rfl (fun hc2 => ?_) (fun hc2 => ?_)
        · have hf := ifp hc2 hf
          refine lv_iload_n F.1 F.2.1 dX2_frozenWithin_32 rfl (lv_at hl 2 rfl) ?_
          obtain rfl := Option.some.inj hf
          exact x_iret F hr hlk hP hS rfl dX2_frozenWithin_33
        · have hf := ifn hc2 hf
          refine lv_aload_n F.1 F.2.1 dX2_frozenWithin_15 rfl (lv_at hl 0 rfl) ?_
          refine lv_iload_n F.1 F.2.1 dX2_frozenWithin_16 rfl (lv_at hl 3 rfl) ?_
          obtain ⟨r3, hr4, hf⟩ := bnd hf
          refine x_callV F hK hG hP hS (o_S hi hz) (kd_S i hi z hz) (ci := 2) (fun _ => rfl) rfl (c_X2_isFrozen hi hz hg v3 hr4) (cwV 1 F.2.2.2.2 gX2_frozenWithin_X2_isFrozen rfl rfl rfl ⟨rfl, hd_X2_isFrozen⟩ ⟨(Nat.le_of_ble_eq_true rfl), (Nat.le_of_ble_eq_true rfl)⟩) rfl rfl hl.1 (Nat.le_of_ble_eq_true rfl) dX2_frozenWithin_17 ⟨(Nat.le_of_ble_eq_true rfl), (Nat.le_of_ble_eq_true rfl)⟩ (rest := []) (fun H locs hP hS => ?_)
          refine W.eq (g2 := F0 m 20 ls [.int r3]) rfl ?_
          refine lv_if_eq (tgt := 26) F.1 F.2.1 dX2_frozenWithin_20 rfl (fun hc5 => ?_) (fun hc5 => ?_)
          · have hf := ifp hc5 hf
            refine lv_iinc (v := (v3 + (1 : Int32))) F.1 F.2.1 dX2_frozenWithin_26 hl (k := 3) rfl rfl (Nat.le_of_ble_eq_true rfl) rfl (fun ls hl => ?_)
            have hl : lv_has ls 4 [(3, .int (v3 + (1 : Int32))), (0, .ref (x + sb i z)), (1, .int a1), (2, .int v2)] := hl
            refine lv_goto (tgt := 4) F.1 F.2.1 dX2_frozenWithin_29 rfl ?_
            exact ih v2 (v3 + (1 : Int32)) _ _ _ (lv_sub hl [1, 2, 3, 0] rfl) hP hS hf
          · have hf := ifn hc5 hf
            refine lv_iinc (v := (v2 + (1 : Int32))) F.1 F.2.1 dX2_frozenWithin_23 hl (k := 2) rfl rfl (Nat.le_of_ble_eq_true rfl) rfl (fun ls hl => ?_)
            have hl : lv_has ls 4 [(2, .int (v2 + (1 : Int32))), (0, .ref (x + sb i z)), (1, .int a1), (3, .int v3)] := hl
            refine lv_iinc (v := (v3 + (1 : Int32))) F.1 F.2.1 dX2_frozenWithin_26 hl (k := 3) rfl rfl (Nat.le_of_ble_eq_true rfl) rfl (fun ls hl => ?_)
            have hl : lv_has ls 4 [(3, .int (v3 + (1 : Int32))), (2, .int (v2 + (1 : Int32))), (0, .ref (x + sb i z)), (1, .int a1)] := hl
            refine lv_goto (tgt := 4) F.1 F.2.1 dX2_frozenWithin_29 rfl ?_
            exact ih (v2 + (1 : Int32)) (v3 + (1 : Int32)) _ _ _ (lv_sub hl [2, 3, 1, 0] rfl) hP hS hf
  intro ls H locs hl hP hS
  have hl : lv_has ls 4 [(0, .ref (x + sb i z)), (1, .int a1)] := hl
  unfold f_X2_frozenWithin at hf
  refine lv_iconst (v := (0 : Int32)) F.1 F.2.1 dX2_frozenWithin_0 (by decide) ?_
  refine lv_istore_n F.1 F.2.1 dX2_frozenWithin_1 rfl hl (Nat.le_of_ble_eq_true rfl) rfl (fun ls hl => ?_)
  have hl : lv_has ls 4 [(2, .int (0 : Int32)), (0, .ref (x + sb i z)), (1, .int a1)] := hl
  refine lv_iconst (v := (0 : Int32)) F.1 F.2.1 dX2_frozenWithin_2 (by decide) ?_
  refine lv_istore_n F.1 F.2.1 dX2_frozenWithin_3 rfl hl (Nat.le_of_ble_eq_true rfl) rfl (fun ls hl => ?_)
  have hl : lv_has ls 4 [(3, .int (0 : Int32)), (2, .int (0 : Int32)), (0, .ref (x + sb i z)), (1, .int a1)] := hl
  exact (KEY FU) (0 : Int32) (0 : Int32) _ _ _ (lv_sub hl [2, 3, 1, 0] rfl) hP hS hf

-- FrostTubes$Site.beginsLayer(I)Z
def f_X2_beginsLayer (g : Row) (z : Nat) (a1 : Int32) : Option (Int32) := ((f_X2_isFrozen g z a1).bind fun r1 => (if r1 = 0 then some (0 : Int32) else ((f_X2_isFrozen g z (a1 - (1 : Int32))).bind fun r4 => (if r4 = 0 then some (1 : Int32) else some (0 : Int32)))))
def rmX2_beginsLayer : Room := { frames := 1, cells := 0, slots := 0, locals := 21 }
theorem hd_X2_beginsLayer : yX2_beginsLayer.cls ≠ "java/lang/invoke/MethodHandle" ∧ yX2_beginsLayer.cls ≠ "java/lang/invoke/VarHandle" ∧ (parseMethodDescriptor yX2_beginsLayer.desc).map (fun d => d.parameters.length) = some 1 := by decide +kernel
set_option maxHeartbeats 8000000 in
set_option maxRecDepth 100000 in
theorem c_X2_beginsLayer {l : Launch} {D : va_G} {x : Nat} {μ : Mem} {i z : Nat} (hi : i < 19) (hz : z < 4) {g : Row} (hg : μ i = g) (a1 : Int32) {r : Int32} (hf : f_X2_beginsLayer g z a1 = some r) : CX l yX2_beginsLayer wsX2_beginsLayer rmX2_beginsLayer [.ref (x + sb i z), .int a1] D x μ (some (.int r)) μ := by
  refine CX.of (cc := cX2_beginsLayer) (maxL := 2) (ret := (some .boolean)) pn_X2 rfl (Nat.le_of_ble_eq_true rfl) ?_
  intro p e s m args below meth c F hr hlk hK hG
  intro ls H locs hl hP hS
  have hl : lv_has ls 2 [(0, .ref (x + sb i z)), (1, .int a1)] := hl
  unfold f_X2_beginsLayer at hf
  refine lv_aload_n F.1 F.2.1 dX2_beginsLayer_0 rfl (lv_at hl 0 rfl) ?_
  refine lv_iload_n F.1 F.2.1 dX2_beginsLayer_1 rfl (lv_at hl 1 rfl) ?_
  obtain ⟨r1, hr2, hf⟩ := bnd hf
  refine x_callV F hK hG hP hS (o_S hi hz) (kd_S i hi z hz) (ci := 2) (fun _ => rfl) rfl (c_X2_isFrozen hi hz hg a1 hr2) (cwV 1 F.2.2.2.2 gX2_beginsLayer_X2_isFrozen rfl rfl rfl ⟨rfl, hd_X2_isFrozen⟩ ⟨(Nat.le_of_ble_eq_true rfl), (Nat.le_of_ble_eq_true rfl)⟩) rfl rfl hl.1 (Nat.le_of_ble_eq_true rfl) dX2_beginsLayer_2 ⟨(Nat.le_of_ble_eq_true rfl), (Nat.le_of_ble_eq_true rfl)⟩ (rest := []) (fun H locs hP hS => ?_)
  refine W.eq (g2 := F0 m 5 ls [.int r1]) rfl ?_
  refine lv_if_eq (tgt := 22) F.1 F.2.1 dX2_beginsLayer_5 rfl (fun hc3 => ?_) (fun hc3 => ?_)
  · have hf := ifp hc3 hf
    refine lv_iconst (v := (0 : Int32)) F.1 F.2.1 dX2_beginsLayer_22 (by decide) ?_
    obtain rfl := Option.some.inj hf
    exact x_zret F hr hlk hP hS rfl (b01_v (v := (0 : Int32)) (Or.inl rfl)) dX2_beginsLayer_23
  · have hf := ifn hc3 hf
    refine lv_aload_n F.1 F.2.1 dX2_beginsLayer_8 rfl (lv_at hl 0 rfl) ?_
    refine lv_iload_n F.1 F.2.1 dX2_beginsLayer_9 rfl (lv_at hl 1 rfl) ?_
    refine lv_iconst (v := (1 : Int32)) F.1 F.2.1 dX2_beginsLayer_10 (by decide) ?_
    refine lv_isub F.1 F.2.1 dX2_beginsLayer_11 ?_
    obtain ⟨r4, hr5, hf⟩ := bnd hf
    refine x_callV F hK hG hP hS (o_S hi hz) (kd_S i hi z hz) (ci := 2) (fun _ => rfl) rfl (c_X2_isFrozen hi hz hg (a1 - (1 : Int32)) hr5) (cwV 1 F.2.2.2.2 gX2_beginsLayer_X2_isFrozen rfl rfl rfl ⟨rfl, hd_X2_isFrozen⟩ ⟨(Nat.le_of_ble_eq_true rfl), (Nat.le_of_ble_eq_true rfl)⟩) rfl rfl hl.1 (Nat.le_of_ble_eq_true rfl) dX2_beginsLayer_12 ⟨(Nat.le_of_ble_eq_true rfl), (Nat.le_of_ble_eq_true rfl)⟩ (rest := []) (fun H locs hP hS => ?_)
    refine W.eq (g2 := F0 m 15 ls [.int r4]) rfl ?_
    refine lv_if_ne (tgt := 22) F.1 F.2.1 dX2_beginsLayer_15 rfl (fun hc6 => ?_) (fun hc6 => ?_)
    · have hf := ifn hc6 hf
      refine lv_iconst (v := (0 : Int32)) F.1 F.2.1 dX2_beginsLayer_22 (by decide) ?_
      obtain rfl := Option.some.inj hf
      exact x_zret F hr hlk hP hS rfl (b01_v (v := (0 : Int32)) (Or.inl rfl)) dX2_beginsLayer_23
    · have hf := ifp hc6 hf
      refine lv_iconst (v := (1 : Int32)) F.1 F.2.1 dX2_beginsLayer_18 (by decide) ?_
      refine lv_goto (tgt := 23) F.1 F.2.1 dX2_beginsLayer_19 rfl ?_
      obtain rfl := Option.some.inj hf
      exact x_zret F hr hlk hP hS rfl (b01_v (v := (1 : Int32)) (Or.inr rfl)) dX2_beginsLayer_23

-- FrostTubes$Site.layersWithin(I)I
def fb_X2_layersWithin_1 (g : Row) (z : Nat) (a1 : Int32) (K : Int32 → Int32 → Option (Int32)) (v2 : Int32) (v3 : Int32) : Option (Int32) := (if a1 ≤ v3 then some v2 else (if (30 : Int32) ≤ v3 then some v2 else ((f_X2_beginsLayer g z v3).bind fun r3 => (if r3 = 0 then (K v2 (v3 + (1 : Int32))) else (K (v2 + (1 : Int32)) (v3 + (1 : Int32)))))))
def fl_X2_layersWithin (g : Row) (z : Nat) (a1 : Int32) : Nat → Int32 → Int32 → Option (Int32)
  | 0, _, _ => none
  | n + 1, v2, v3 => fb_X2_layersWithin_1 g z a1 (fl_X2_layersWithin g z a1 n) v2 v3
def f_X2_layersWithin (g : Row) (z : Nat) (a1 : Int32) : Option (Int32) := (fl_X2_layersWithin g z a1 FU (0 : Int32) (0 : Int32))
def rmX2_layersWithin : Room := { frames := 2, cells := 0, slots := 0, locals := 42 }
theorem hd_X2_layersWithin : yX2_layersWithin.cls ≠ "java/lang/invoke/MethodHandle" ∧ yX2_layersWithin.cls ≠ "java/lang/invoke/VarHandle" ∧ (parseMethodDescriptor yX2_layersWithin.desc).map (fun d => d.parameters.length) = some 1 := by decide +kernel
set_option maxHeartbeats 8000000 in
set_option maxRecDepth 100000 in
theorem c_X2_layersWithin {l : Launch} {D : va_G} {x : Nat} {μ : Mem} {i z : Nat} (hi : i < 19) (hz : z < 4) {g : Row} (hg : μ i = g) (a1 : Int32) {r : Int32} (hf : f_X2_layersWithin g z a1 = some r) : CX l yX2_layersWithin wsX2_layersWithin rmX2_layersWithin [.ref (x + sb i z), .int a1] D x μ (some (.int r)) μ := by
  refine CX.of (cc := cX2_layersWithin) (maxL := 4) (ret := (some .int)) pn_X2 rfl (Nat.le_of_ble_eq_true rfl) ?_
  intro p e s m args below meth c F hr hlk hK hG
  have KEY : ∀ n : Nat, (∀ (v2 : Int32) (v3 : Int32) (ls : Array Slot) (H : Heap) (locs : List Loc), lv_has ls 4 [(0, .ref (x + sb i z)), (1, .int a1), (2, .int v2), (3, .int v3)] → va_P D vwCl (WL D x μ) H → va_S (rng x) s.heap H locs → fl_X2_layersWithin g z a1 n v2 v3 = some r → W p l e rmX2_layersWithin s m args below meth c H locs 0 0 (MQ below (QX D x μ (some (.int r))) args s 0 0 (rng x)) (F0 m 4 ls [])) := by
    intro n
    induction n with
    | zero => exact (fun _ _ _ _ _ _ _ _ h => nomatch h)
    | succ n ih =>
      skip
      intro v2 v3  ls H locs hl hP hS hf
      have hf : fb_X2_layersWithin_1 g z a1 (fl_X2_layersWithin g z a1 n) v2 v3 = some r := hf
      unfold fb_X2_layersWithin_1 at hf
      refine lv_iload_n F.1 F.2.1 dX2_layersWithin_4 rfl (lv_at hl 3 rfl) ?_
      refine lv_iload_n F.1 F.2.1 dX2_layersWithin_5 rfl (lv_at hl 1 rfl) ?_
      refine lv_icmp_ge (tgt := 32) F.1 F.2.1 dX2_layersWithin_6 rfl (fun hc1 => ?_) (fun hc1 => ?_)
      · have hf := ifp hc1 hf
        refine lv_iload_n F.1 F.2.1 dX2_layersWithin_32 rfl (lv_at hl 2 rfl) ?_
        obtain rfl := Option.some.inj hf
        exact x_iret F hr hlk hP hS rfl dX2_layersWithin_33
      · have hf := ifn hc1 hf
        refine lv_iload_n F.1 F.2.1 dX2_layersWithin_9 rfl (lv_at hl 3 rfl) ?_
        refine lv_bipush (v := (30 : Int32)) F.1 F.2.1 dX2_layersWithin_10 (by decide) ?_
        refine lv_icmp_ge (tgt := 32) F.1 F.2.1 dX2_layersWithin_12 rfl (fun hc2 => ?_) (fun hc2 => ?_)
        · have hf := ifp hc2 hf
          refine lv_iload_n F.1 F.2.1 dX2_layersWithin_32 rfl (lv_at hl 2 rfl) ?_
          obtain rfl := Option.some.inj hf
          exact x_iret F hr hlk hP hS rfl dX2_layersWithin_33
        · have hf := ifn hc2 hf
          refine lv_aload_n F.1 F.2.1 dX2_layersWithin_15 rfl (lv_at hl 0 rfl) ?_
          refine lv_iload_n F.1 F.2.1 dX2_layersWithin_16 rfl (lv_at hl 3 rfl) ?_
          obtain ⟨r3, hr4, hf⟩ := bnd hf
          refine x_callV F hK hG hP hS (o_S hi hz) (kd_S i hi z hz) (ci := 2) (fun _ => rfl) rfl (c_X2_beginsLayer hi hz hg v3 hr4) (cwV 1 F.2.2.2.2 gX2_layersWithin_X2_beginsLayer rfl rfl rfl ⟨rfl, hd_X2_beginsLayer⟩ ⟨(Nat.le_of_ble_eq_true rfl), (Nat.le_of_ble_eq_true rfl)⟩) rfl rfl hl.1 (Nat.le_of_ble_eq_true rfl) dX2_layersWithin_17 ⟨(Nat.le_of_ble_eq_true rfl), (Nat.le_of_ble_eq_true rfl)⟩ (rest := []) (fun H locs hP hS => ?_)
          refine W.eq (g2 := F0 m 20 ls [.int r3]) rfl ?_
          refine lv_if_eq (tgt := 26) F.1 F.2.1 dX2_layersWithin_20 rfl (fun hc5 => ?_) (fun hc5 => ?_)
          · have hf := ifp hc5 hf
            refine lv_iinc (v := (v3 + (1 : Int32))) F.1 F.2.1 dX2_layersWithin_26 hl (k := 3) rfl rfl (Nat.le_of_ble_eq_true rfl) rfl (fun ls hl => ?_)
            have hl : lv_has ls 4 [(3, .int (v3 + (1 : Int32))), (0, .ref (x + sb i z)), (1, .int a1), (2, .int v2)] := hl
            refine lv_goto (tgt := 4) F.1 F.2.1 dX2_layersWithin_29 rfl ?_
            exact ih v2 (v3 + (1 : Int32)) _ _ _ (lv_sub hl [1, 2, 3, 0] rfl) hP hS hf
          · have hf := ifn hc5 hf
            refine lv_iinc (v := (v2 + (1 : Int32))) F.1 F.2.1 dX2_layersWithin_23 hl (k := 2) rfl rfl (Nat.le_of_ble_eq_true rfl) rfl (fun ls hl => ?_)
            have hl : lv_has ls 4 [(2, .int (v2 + (1 : Int32))), (0, .ref (x + sb i z)), (1, .int a1), (3, .int v3)] := hl
            refine lv_iinc (v := (v3 + (1 : Int32))) F.1 F.2.1 dX2_layersWithin_26 hl (k := 3) rfl rfl (Nat.le_of_ble_eq_true rfl) rfl (fun ls hl => ?_)
            have hl : lv_has ls 4 [(3, .int (v3 + (1 : Int32))), (2, .int (v2 + (1 : Int32))), (0, .ref (x + sb i z)), (1, .int a1)] := hl
            refine lv_goto (tgt := 4) F.1 F.2.1 dX2_layersWithin_29 rfl ?_
            exact ih (v2 + (1 : Int32)) (v3 + (1 : Int32)) _ _ _ (lv_sub hl [2, 3, 1, 0] rfl) hP hS hf
  intro ls H locs hl hP hS
  have hl : lv_has ls 4 [(0, .ref (x + sb i z)), (1, .int a1)] := hl
  unfold f_X2_layersWithin at hf
  refine lv_iconst (v := (0 : Int32)) F.1 F.2.1 dX2_layersWithin_0 (by decide) ?_
  refine lv_istore_n F.1 F.2.1 dX2_layersWithin_1 rfl hl (Nat.le_of_ble_eq_true rfl) rfl (fun ls hl => ?_)
  have hl : lv_has ls 4 [(2, .int (0 : Int32)), (0, .ref (x + sb i z)), (1, .int a1)] := hl
  refine lv_iconst (v := (0 : Int32)) F.1 F.2.1 dX2_layersWithin_2 (by decide) ?_
  refine lv_istore_n F.1 F.2.1 dX2_layersWithin_3 rfl hl (Nat.le_of_ble_eq_true rfl) rfl (fun ls hl => ?_)
  have hl : lv_has ls 4 [(3, .int (0 : Int32)), (2, .int (0 : Int32)), (0, .ref (x + sb i z)), (1, .int a1)] := hl
  exact (KEY FU) (0 : Int32) (0 : Int32) _ _ _ (lv_sub hl [2, 3, 1, 0] rfl) hP hS hf

-- FrostTubes$Site.lowestWithin(I)I
def fb_X2_lowestWithin_1 (g : Row) (z : Nat) (a1 : Int32) (K : Int32 → Int32 → Option (Int32)) (v2 : Int32) (v3 : Int32) : Option (Int32) := (if a1 ≤ v3 then some v2 else (if (30 : Int32) ≤ v3 then some v2 else ((f_X2_isFrozen g z v3).bind fun r3 => (if r3 = 0 then (K v2 (v3 + (1 : Int32))) else (K v3 (v3 + (1 : Int32)))))))
def fl_X2_lowestWithin (g : Row) (z : Nat) (a1 : Int32) : Nat → Int32 → Int32 → Option (Int32)
  | 0, _, _ => none
  | n + 1, v2, v3 => fb_X2_lowestWithin_1 g z a1 (fl_X2_lowestWithin g z a1 n) v2 v3
def f_X2_lowestWithin (g : Row) (z : Nat) (a1 : Int32) : Option (Int32) := (fl_X2_lowestWithin g z a1 FU (-1 : Int32) (0 : Int32))
def rmX2_lowestWithin : Room := { frames := 1, cells := 0, slots := 0, locals := 21 }
theorem hd_X2_lowestWithin : yX2_lowestWithin.cls ≠ "java/lang/invoke/MethodHandle" ∧ yX2_lowestWithin.cls ≠ "java/lang/invoke/VarHandle" ∧ (parseMethodDescriptor yX2_lowestWithin.desc).map (fun d => d.parameters.length) = some 1 := by decide +kernel
set_option maxHeartbeats 8000000 in
set_option maxRecDepth 100000 in
theorem c_X2_lowestWithin {l : Launch} {D : va_G} {x : Nat} {μ : Mem} {i z : Nat} (hi : i < 19) (hz : z < 4) {g : Row} (hg : μ i = g) (a1 : Int32) {r : Int32} (hf : f_X2_lowestWithin g z a1 = some r) : CX l yX2_lowestWithin wsX2_lowestWithin rmX2_lowestWithin [.ref (x + sb i z), .int a1] D x μ (some (.int r)) μ := by
  refine CX.of (cc := cX2_lowestWithin) (maxL := 4) (ret := (some .int)) pn_X2 rfl (Nat.le_of_ble_eq_true rfl) ?_
  intro p e s m args below meth c F hr hlk hK hG
  have KEY : ∀ n : Nat, (∀ (v2 : Int32) (v3 : Int32) (ls : Array Slot) (H : Heap) (locs : List Loc), lv_has ls 4 [(0, .ref (x + sb i z)), (1, .int a1), (2, .int v2), (3, .int v3)] → va_P D vwCl (WL D x μ) H → va_S (rng x) s.heap H locs → fl_X2_lowestWithin g z a1 n v2 v3 = some r → W p l e rmX2_lowestWithin s m args below meth c H locs 0 0 (MQ below (QX D x μ (some (.int r))) args s 0 0 (rng x)) (F0 m 4 ls [])) := by
    intro n
    induction n with
    | zero => exact (fun _ _ _ _ _ _ _ _ h => nomatch h)
    | succ n ih =>
      skip
      intro v2 v3  ls H locs hl hP hS hf
      have hf : fb_X2_lowestWithin_1 g z a1 (fl_X2_lowestWithin g z a1 n) v2 v3 = some r := hf
      unfold fb_X2_lowestWithin_1 at hf
      refine lv_iload_n F.1 F.2.1 dX2_lowestWithin_4 rfl (lv_at hl 3 rfl) ?_
      refine lv_iload_n F.1 F.2.1 dX2_lowestWithin_5 rfl (lv_at hl 1 rfl) ?_
      refine lv_icmp_ge (tgt := 31) F.1 F.2.1 dX2_lowestWithin_6 rfl (fun hc1 => ?_) (fun hc1 => ?_)
      · have hf := ifp hc1 hf
        refine lv_iload_n F.1 F.2.1 dX2_lowestWithin_31 rfl (lv_at hl 2 rfl) ?_
        obtain rfl := Option.some.inj hf
        exact x_iret F hr hlk hP hS rfl dX2_lowestWithin_32
      · have hf := ifn hc1 hf
        refine lv_iload_n F.1 F.2.1 dX2_lowestWithin_9 rfl (lv_at hl 3 rfl) ?_
        refine lv_bipush (v := (30 : Int32)) F.1 F.2.1 dX2_lowestWithin_10 (by decide) ?_
        refine lv_icmp_ge (tgt := 31) F.1 F.2.1 dX2_lowestWithin_12 rfl (fun hc2 => ?_) (fun hc2 => ?_)
        · have hf := ifp hc2 hf
          refine lv_iload_n F.1 F.2.1 dX2_lowestWithin_31 rfl (lv_at hl 2 rfl) ?_
          obtain rfl := Option.some.inj hf
          exact x_iret F hr hlk hP hS rfl dX2_lowestWithin_32
        · have hf := ifn hc2 hf
          refine lv_aload_n F.1 F.2.1 dX2_lowestWithin_15 rfl (lv_at hl 0 rfl) ?_
          refine lv_iload_n F.1 F.2.1 dX2_lowestWithin_16 rfl (lv_at hl 3 rfl) ?_
          obtain ⟨r3, hr4, hf⟩ := bnd hf
          refine x_callV F hK hG hP hS (o_S hi hz) (kd_S i hi z hz) (ci := 2) (fun _ => rfl) rfl (c_X2_isFrozen hi hz hg v3 hr4) (cwV 1 F.2.2.2.2 gX2_lowestWithin_X2_isFrozen rfl rfl rfl ⟨rfl, hd_X2_isFrozen⟩ ⟨(Nat.le_of_ble_eq_true rfl), (Nat.le_of_ble_eq_true rfl)⟩) rfl rfl hl.1 (Nat.le_of_ble_eq_true rfl) dX2_lowestWithin_17 ⟨(Nat.le_of_ble_eq_true rfl), (Nat.le_of_ble_eq_true rfl)⟩ (rest := []) (fun H locs hP hS => ?_)
          refine W.eq (g2 := F0 m 20 ls [.int r3]) rfl ?_
          refine lv_if_eq (tgt := 25) F.1 F.2.1 dX2_lowestWithin_20 rfl (fun hc5 => ?_) (fun hc5 => ?_)
          · have hf := ifp hc5 hf
            refine lv_iinc (v := (v3 + (1 : Int32))) F.1 F.2.1 dX2_lowestWithin_25 hl (k := 3) rfl rfl (Nat.le_of_ble_eq_true rfl) rfl (fun ls hl => ?_)
            have hl : lv_has ls 4 [(3, .int (v3 + (1 : Int32))), (0, .ref (x + sb i z)), (1, .int a1), (2, .int v2)] := hl
            refine lv_goto (tgt := 4) F.1 F.2.1 dX2_lowestWithin_28 rfl ?_
            exact ih v2 (v3 + (1 : Int32)) _ _ _ (lv_sub hl [1, 2, 3, 0] rfl) hP hS hf
          · have hf := ifn hc5 hf
            refine lv_iload_n F.1 F.2.1 dX2_lowestWithin_23 rfl (lv_at hl 3 rfl) ?_
            refine lv_istore_n F.1 F.2.1 dX2_lowestWithin_24 rfl hl (Nat.le_of_ble_eq_true rfl) rfl (fun ls hl => ?_)
            have hl : lv_has ls 4 [(2, .int v3), (0, .ref (x + sb i z)), (1, .int a1), (3, .int v3)] := hl
            refine lv_iinc (v := (v3 + (1 : Int32))) F.1 F.2.1 dX2_lowestWithin_25 hl (k := 3) rfl rfl (Nat.le_of_ble_eq_true rfl) rfl (fun ls hl => ?_)
            have hl : lv_has ls 4 [(3, .int (v3 + (1 : Int32))), (2, .int v3), (0, .ref (x + sb i z)), (1, .int a1)] := hl
            refine lv_goto (tgt := 4) F.1 F.2.1 dX2_lowestWithin_28 rfl ?_
            exact ih v3 (v3 + (1 : Int32)) _ _ _ (lv_sub hl [2, 3, 1, 0] rfl) hP hS hf
  intro ls H locs hl hP hS
  have hl : lv_has ls 4 [(0, .ref (x + sb i z)), (1, .int a1)] := hl
  unfold f_X2_lowestWithin at hf
  refine lv_iconst (v := (-1 : Int32)) F.1 F.2.1 dX2_lowestWithin_0 (by decide) ?_
  refine lv_istore_n F.1 F.2.1 dX2_lowestWithin_1 rfl hl (Nat.le_of_ble_eq_true rfl) rfl (fun ls hl => ?_)
  have hl : lv_has ls 4 [(2, .int (-1 : Int32)), (0, .ref (x + sb i z)), (1, .int a1)] := hl
  refine lv_iconst (v := (0 : Int32)) F.1 F.2.1 dX2_lowestWithin_2 (by decide) ?_
  refine lv_istore_n F.1 F.2.1 dX2_lowestWithin_3 rfl hl (Nat.le_of_ble_eq_true rfl) rfl (fun ls hl => ?_)
  have hl : lv_has ls 4 [(3, .int (0 : Int32)), (2, .int (-1 : Int32)), (0, .ref (x + sb i z)), (1, .int a1)] := hl
  exact (KEY FU) (-1 : Int32) (0 : Int32) _ _ _ (lv_sub hl [2, 3, 1, 0] rfl) hP hS hf

-- FrostTubes$Site.takeSnow(I)V
def f_X2_takeSnow (g : Row) (z : Nat) (a1 : Int32) : Option (Row) := some (upd g (35 * z + 0) (if (((g (35 * z + 0)) + a1) + (if (g (35 * z + 1)) < a1 then (g (35 * z + 1)) else a1)) < (99 : Int32) then (((g (35 * z + 0)) + a1) + (if (g (35 * z + 1)) < a1 then (g (35 * z + 1)) else a1)) else (99 : Int32)))
def rmX2_takeSnow : Room := { frames := 1, cells := 0, slots := 0, locals := 16 }
theorem hd_X2_takeSnow : yX2_takeSnow.cls ≠ "java/lang/invoke/MethodHandle" ∧ yX2_takeSnow.cls ≠ "java/lang/invoke/VarHandle" ∧ (parseMethodDescriptor yX2_takeSnow.desc).map (fun d => d.parameters.length) = some 1 := by decide +kernel
set_option maxHeartbeats 8000000 in
set_option maxRecDepth 100000 in
theorem c_X2_takeSnow {l : Launch} {D : va_G} {x : Nat} {μ : Mem} {i z : Nat} (hi : i < 19) (hz : z < 4) {g : Row} (a1 : Int32) {r : Row} (hf : f_X2_takeSnow g z a1 = some r) : CX l yX2_takeSnow wsX2_takeSnow rmX2_takeSnow [.ref (x + sb i z), .int a1] D x (va_up μ i g) (none) (va_up μ i r) := by
  refine CX.of (cc := cX2_takeSnow) (maxL := 2) (ret := none) pn_X2 rfl (Nat.le_of_ble_eq_true rfl) ?_
  intro p e s m args below meth c F hr hlk hK hG
  intro ls H locs hl hP hS
  have hl : lv_has ls 2 [(0, .ref (x + sb i z)), (1, .int a1)] := hl
  unfold f_X2_takeSnow at hf
  refine lv_aload_n F.1 F.2.1 dX2_takeSnow_0 rfl (lv_at hl 0 rfl) ?_
  refine lv_bipush (v := (99 : Int32)) F.1 F.2.1 dX2_takeSnow_1 (by decide) ?_
  refine lv_aload_n F.1 F.2.1 dX2_takeSnow_3 rfl (lv_at hl 0 rfl) ?_
  refine gI_X2_snow F hK hP hi hz (mu_at _ _ _) (fun _ h => List.mem_cons_of_mem _ (List.mem_append_right _ h)) (List.mem_of_getElem? (i := 1) rfl) dX2_takeSnow_4 ?_
  refine lv_iload_n F.1 F.2.1 dX2_takeSnow_7 rfl (lv_at hl 1 rfl) ?_
  refine lv_iadd F.1 F.2.1 dX2_takeSnow_8 ?_
  refine lv_iload_n F.1 F.2.1 dX2_takeSnow_9 rfl (lv_at hl 1 rfl) ?_
  refine lv_aload_n F.1 F.2.1 dX2_takeSnow_10 rfl (lv_at hl 0 rfl) ?_
  refine gI_X2_fenceHeight F hK hP hi hz (mu_at _ _ _) (fun _ h => List.mem_cons_of_mem _ (List.mem_append_right _ h)) (List.mem_of_getElem? (i := 2) rfl) dX2_takeSnow_11 ?_
  refine va_mmin F.1 F.2.1 (F.2.2.1.trans hl.1.symm) F.2.2.2.1 (F.2.2.2.2 _ (List.mem_of_getElem? (i := 3) rfl)) (F.2.2.2.2 _ (List.mem_of_getElem? (i := 4) rfl)) (F.2.2.2.2 _ (List.mem_of_getElem? (i := 5) rfl)) (F.2.2.2.2 _ (List.mem_of_getElem? (i := 6) rfl)) (Nat.le_of_ble_eq_true rfl) (Nat.le_of_ble_eq_true rfl) (Nat.le_of_ble_eq_true rfl) (Nat.le_of_ble_eq_true rfl) dX2_takeSnow_14 ?_
  refine lv_iadd F.1 F.2.1 dX2_takeSnow_17 ?_
  refine va_mmin F.1 F.2.1 (F.2.2.1.trans hl.1.symm) F.2.2.2.1 (F.2.2.2.2 _ (List.mem_of_getElem? (i := 3) rfl)) (F.2.2.2.2 _ (List.mem_of_getElem? (i := 4) rfl)) (F.2.2.2.2 _ (List.mem_of_getElem? (i := 5) rfl)) (F.2.2.2.2 _ (List.mem_of_getElem? (i := 6) rfl)) (Nat.le_of_ble_eq_true rfl) (Nat.le_of_ble_eq_true rfl) (Nat.le_of_ble_eq_true rfl) (Nat.le_of_ble_eq_true rfl) dX2_takeSnow_18 ?_
  refine pI_X2_snow F hK hi hz hP hS (fun _ h => List.mem_cons_of_mem _ (List.mem_append_right _ h)) (List.mem_of_getElem? (i := 1) rfl) dX2_takeSnow_21 (fun H locs hP hS => ?_)
  obtain rfl := Option.some.inj hf
  exact x_vret F hr hlk hP hS rfl dX2_takeSnow_24

-- FrostTubes$Site.takeTemperature(II)V
def fb_X2_takeTemperature_1 (z : Nat) (a1 : Int32) (a2 : Int32) (K : Row → Int32 → Option (Row)) (g : Row) (t0 : Int32) : Option (Row) := some (upd (upd (upd g (35 * z + 2) ((g (35 * z + 2)) + t0)) (35 * z + 4) (((upd g (35 * z + 2) ((g (35 * z + 2)) + t0)) (35 * z + 4)) + t0)) (35 * z + 3) (0 : Int32))
def fl_X2_takeTemperature (z : Nat) (a1 : Int32) (a2 : Int32) : Nat → Row → Int32 → Option (Row)
  | 0, _, _ => none
  | n + 1, g, t0 => fb_X2_takeTemperature_1 z a1 a2 (fl_X2_takeTemperature z a1 a2 n) g t0
def f_X2_takeTemperature (g : Row) (z : Nat) (a1 : Int32) (a2 : Int32) : Option (Row) := (if a1 ≤ 0 then (if 0 ≤ a1 then some g else (if ((10 : Int32) + (g (35 * z + 0))) ≤ 0 then (fl_X2_takeTemperature z a1 a2 FU g (0 : Int32)) else (if ((10 : Int32) + (g (35 * z + 0))) = 0 then none else (fl_X2_takeTemperature z a1 a2 FU g (((10 : Int32) * (-a1)) / ((10 : Int32) + (g (35 * z + 0)))))))) else (if ((upd g (35 * z + 0) ((g (35 * z + 0)) - (if (a1 * a2) < (g (35 * z + 0)) then (a1 * a2) else (g (35 * z + 0))))) (35 * z + 0)) = 0 then (if a2 ≤ 0 then some (upd (upd g (35 * z + 0) ((g (35 * z + 0)) - (if (a1 * a2) < (g (35 * z + 0)) then (a1 * a2) else (g (35 * z + 0))))) (35 * z + 2) (0 : Int32)) else (if a2 = 0 then none else some (upd (upd (upd g (35 * z + 0) ((g (35 * z + 0)) - (if (a1 * a2) < (g (35 * z + 0)) then (a1 * a2) else (g (35 * z + 0))))) (35 * z + 3) (((upd g (35 * z + 0) ((g (35 * z + 0)) - (if (a1 * a2) < (g (35 * z + 0)) then (a1 * a2) else (g (35 * z + 0))))) (35 * z + 3)) + (a1 - ((if (a1 * a2) < (g (35 * z + 0)) then (a1 * a2) else (g (35 * z + 0))) / a2)))) (35 * z + 2) (0 : Int32)))) else some (upd (upd g (35 * z + 0) ((g (35 * z + 0)) - (if (a1 * a2) < (g (35 * z + 0)) then (a1 * a2) else (g (35 * z + 0))))) (35 * z + 2) (0 : Int32))))
def rmX2_takeTemperature : Room := { frames := 1, cells := 0, slots := 0, locals := 13 }
theorem hd_X2_takeTemperature : yX2_takeTemperature.cls ≠ "java/lang/invoke/MethodHandle" ∧ yX2_takeTemperature.cls ≠ "java/lang/invoke/VarHandle" ∧ (parseMethodDescriptor yX2_takeTemperature.desc).map (fun d => d.parameters.length) = some 2 := by decide +kernel
set_option maxHeartbeats 8000000 in
set_option maxRecDepth 100000 in
theorem c_X2_takeTemperature {l : Launch} {D : va_G} {x : Nat} {μ : Mem} {i z : Nat} (hi : i < 19) (hz : z < 4) {g : Row} (a1 : Int32) (a2 : Int32) {r : Row} (hf : f_X2_takeTemperature g z a1 a2 = some r) : CX l yX2_takeTemperature wsX2_takeTemperature rmX2_takeTemperature [.ref (x + sb i z), .int a1, .int a2] D x (va_up μ i g) (none) (va_up μ i r) := by
  refine CX.of (cc := cX2_takeTemperature) (maxL := 5) (ret := none) pn_X2 rfl (Nat.le_of_ble_eq_true rfl) ?_
  intro p e s m args below meth c F hr hlk hK hG
  have KEY : ∀ n : Nat, (∀ (g : Row) (t0 : Int32) (ls : Array Slot) (H : Heap) (locs : List Loc), lv_has ls 5 [(0, .ref (x + sb i z))] → va_P D vwCl (WL D x (va_up μ i g)) H → va_S (rng x) s.heap H locs → fl_X2_takeTemperature z a1 a2 n g t0 = some r → W p l e rmX2_takeTemperature s m args below meth c H locs 0 0 (MQ below (QX D x (va_up μ i r) (none)) args s 0 0 (rng x)) (F0 m 85 ls [.int t0])) := by
    intro n
    induction n with
    | zero => exact (fun _ _ _ _ _ _ _ _ h => nomatch h)
    | succ n ih =>
      skip
      intro g t0  ls H locs hl hP hS hf
      have hf : fb_X2_takeTemperature_1 z a1 a2 (fl_X2_takeTemperature z a1 a2 n) g t0 = some r := hf
      unfold fb_X2_takeTemperature_1 at hf
      refine lv_istore F.1 F.2.1 dX2_takeTemperature_85 hl (Nat.le_of_ble_eq_true rfl) rfl (fun ls hl => ?_)
      have hl : lv_has ls 5 [(4, .int t0), (0, .ref (x + sb i z))] := hl
      refine lv_aload_n F.1 F.2.1 dX2_takeTemperature_87 rfl (lv_at hl 1 rfl) ?_
      refine lv_dup F.1 F.2.1 dX2_takeTemperature_88 rfl ?_
      refine gI_X2_cold F hK hP hi hz (mu_at _ _ _) (fun _ h => List.mem_cons_of_mem _ (List.mem_append_right _ h)) (List.mem_of_getElem? (i := 7) rfl) dX2_takeTemperature_89 ?_
      refine lv_iload F.1 F.2.1 dX2_takeTemperature_92 (lv_at hl 0 rfl) ?_
      refine lv_iadd F.1 F.2.1 dX2_takeTemperature_94 ?_
      refine pI_X2_cold F hK hi hz hP hS (fun _ h => List.mem_cons_of_mem _ (List.mem_append_right _ h)) (List.mem_of_getElem? (i := 7) rfl) dX2_takeTemperature_95 (fun H locs hP hS => ?_)
      refine lv_aload_n F.1 F.2.1 dX2_takeTemperature_98 rfl (lv_at hl 1 rfl) ?_
      refine lv_dup F.1 F.2.1 dX2_takeTemperature_99 rfl ?_
      refine gI_X2_coldSum F hK hP hi hz (mu_at _ _ _) (fun _ h => List.mem_cons_of_mem _ (List.mem_append_right _ h)) (List.mem_of_getElem? (i := 8) rfl) dX2_takeTemperature_100 ?_
      refine lv_iload F.1 F.2.1 dX2_takeTemperature_103 (lv_at hl 0 rfl) ?_
      refine lv_iadd F.1 F.2.1 dX2_takeTemperature_105 ?_
      refine pI_X2_coldSum F hK hi hz hP hS (fun _ h => List.mem_cons_of_mem _ (List.mem_append_right _ h)) (List.mem_of_getElem? (i := 8) rfl) dX2_takeTemperature_106 (fun H locs hP hS => ?_)
      refine lv_aload_n F.1 F.2.1 dX2_takeTemperature_109 rfl (lv_at hl 1 rfl) ?_
      refine lv_iconst (v := (0 : Int32)) F.1 F.2.1 dX2_takeTemperature_110 (by decide) ?_
      refine pI_X2_warmth F hK hi hz hP hS (fun _ h => List.mem_cons_of_mem _ (List.mem_append_right _ h)) (List.mem_of_getElem? (i := 6) rfl) dX2_takeTemperature_111 (fun H locs hP hS => ?_)
      obtain rfl := Option.some.inj hf
      exact x_vret F hr hlk hP hS rfl dX2_takeTemperature_114
  intro ls H locs hl hP hS
  have hl : lv_has ls 5 [(0, .ref (x + sb i z)), (1, .int a1), (2, .int a2)] := hl
  unfold f_X2_takeTemperature at hf
  refine lv_iload_n F.1 F.2.1 dX2_takeTemperature_0 rfl (lv_at hl 1 rfl) ?_
  refine lv_if_le (tgt := 58) F.1 F.2.1 dX2_takeTemperature_1 rfl (fun hc1 => ?_) (fun hc1 => ?_)
  · have hf := ifp hc1 hf
    refine lv_iload_n F.1 F.2.1 dX2_takeTemperature_58 rfl (lv_at hl 1 rfl) ?_
    refine lv_if_ge (tgt := 114) F.1 F.2.1 dX2_takeTemperature_59 rfl (fun hc2 => ?_) (fun hc2 => ?_)
    · have hf := ifp hc2 hf
      obtain rfl := Option.some.inj hf
      exact x_vret F hr hlk hP hS rfl dX2_takeTemperature_114
    · have hf := ifn hc2 hf
      refine lv_bipush (v := (10 : Int32)) F.1 F.2.1 dX2_takeTemperature_62 (by decide) ?_
      refine lv_aload_n F.1 F.2.1 dX2_takeTemperature_64 rfl (lv_at hl 0 rfl) ?_
      refine gI_X2_snow F hK hP hi hz (mu_at _ _ _) (fun _ h => List.mem_cons_of_mem _ (List.mem_append_right _ h)) (List.mem_of_getElem? (i := 1) rfl) dX2_takeTemperature_65 ?_
      refine lv_iadd F.1 F.2.1 dX2_takeTemperature_68 ?_
      refine lv_istore_n F.1 F.2.1 dX2_takeTemperature_69 rfl hl (Nat.le_of_ble_eq_true rfl) rfl (fun ls hl => ?_)
      have hl : lv_has ls 5 [(3, .int ((10 : Int32) + (g (35 * z + 0)))), (0, .ref (x + sb i z)), (1, .int a1), (2, .int a2)] := hl
      refine lv_iload_n F.1 F.2.1 dX2_takeTemperature_70 rfl (lv_at hl 0 rfl) ?_
      refine lv_if_le (tgt := 84) F.1 F.2.1 dX2_takeTemperature_71 rfl (fun hc3 => ?_) (fun hc3 => ?_)
      · have hf := ifp hc3 hf
        refine lv_iconst (v := (0 : Int32)) F.1 F.2.1 dX2_takeTemperature_84 (by decide) ?_
        exact (KEY FU) g (0 : Int32) _ _ _ (lv_sub hl [1] rfl) hP hS hf
      · have hf := ifn hc3 hf
        refine lv_bipush (v := (10 : Int32)) F.1 F.2.1 dX2_takeTemperature_74 (by decide) ?_
        refine lv_iload_n F.1 F.2.1 dX2_takeTemperature_76 rfl (lv_at hl 2 rfl) ?_
        refine lv_ineg F.1 F.2.1 dX2_takeTemperature_77 ?_
        refine lv_imul F.1 F.2.1 dX2_takeTemperature_78 ?_
        refine lv_iload_n F.1 F.2.1 dX2_takeTemperature_79 rfl (lv_at hl 0 rfl) ?_
        obtain ⟨hz4, hf⟩ := ifg hf
        refine lv_idiv F.1 F.2.1 dX2_takeTemperature_80 hz4 ?_
        refine lv_goto (tgt := 85) F.1 F.2.1 dX2_takeTemperature_81 rfl ?_
        exact (KEY FU) g (((10 : Int32) * (-a1)) / ((10 : Int32) + (g (35 * z + 0)))) _ _ _ (lv_sub hl [1] rfl) hP hS hf
  · have hf := ifn hc1 hf
    refine lv_aload_n F.1 F.2.1 dX2_takeTemperature_4 rfl (lv_at hl 0 rfl) ?_
    refine gI_X2_snow F hK hP hi hz (mu_at _ _ _) (fun _ h => List.mem_cons_of_mem _ (List.mem_append_right _ h)) (List.mem_of_getElem? (i := 1) rfl) dX2_takeTemperature_5 ?_
    refine lv_iload_n F.1 F.2.1 dX2_takeTemperature_8 rfl (lv_at hl 1 rfl) ?_
    refine lv_iload_n F.1 F.2.1 dX2_takeTemperature_9 rfl (lv_at hl 2 rfl) ?_
    refine lv_imul F.1 F.2.1 dX2_takeTemperature_10 ?_
    refine va_mmin F.1 F.2.1 (F.2.2.1.trans hl.1.symm) F.2.2.2.1 (F.2.2.2.2 _ (List.mem_of_getElem? (i := 2) rfl)) (F.2.2.2.2 _ (List.mem_of_getElem? (i := 3) rfl)) (F.2.2.2.2 _ (List.mem_of_getElem? (i := 4) rfl)) (F.2.2.2.2 _ (List.mem_of_getElem? (i := 5) rfl)) (Nat.le_of_ble_eq_true rfl) (Nat.le_of_ble_eq_true rfl) (Nat.le_of_ble_eq_true rfl) (Nat.le_of_ble_eq_true rfl) dX2_takeTemperature_11 ?_
    refine lv_istore_n F.1 F.2.1 dX2_takeTemperature_14 rfl hl (Nat.le_of_ble_eq_true rfl) rfl (fun ls hl => ?_)
    have hl : lv_has ls 5 [(3, .int (if (a1 * a2) < (g (35 * z + 0)) then (a1 * a2) else (g (35 * z + 0)))), (0, .ref (x + sb i z)), (1, .int a1), (2, .int a2)] := hl
    refine lv_aload_n F.1 F.2.1 dX2_takeTemperature_15 rfl (lv_at hl 1 rfl) ?_
    refine lv_dup F.1 F.2.1 dX2_takeTemperature_16 rfl ?_
    refine gI_X2_snow F hK hP hi hz (mu_at _ _ _) (fun _ h => List.mem_cons_of_mem _ (List.mem_append_right _ h)) (List.mem_of_getElem? (i := 1) rfl) dX2_takeTemperature_17 ?_
    refine lv_iload_n F.1 F.2.1 dX2_takeTemperature_20 rfl (lv_at hl 0 rfl) ?_
    refine lv_isub F.1 F.2.1 dX2_takeTemperature_21 ?_
    refine pI_X2_snow F hK hi hz hP hS (fun _ h => List.mem_cons_of_mem _ (List.mem_append_right _ h)) (List.mem_of_getElem? (i := 1) rfl) dX2_takeTemperature_22 (fun H locs hP hS => ?_)
    refine lv_aload_n F.1 F.2.1 dX2_takeTemperature_25 rfl (lv_at hl 1 rfl) ?_
    refine gI_X2_snow F hK hP hi hz (mu_at _ _ _) (fun _ h => List.mem_cons_of_mem _ (List.mem_append_right _ h)) (List.mem_of_getElem? (i := 1) rfl) dX2_takeTemperature_26 ?_
    refine lv_if_ne (tgt := 50) F.1 F.2.1 dX2_takeTemperature_29 rfl (fun hc5 => ?_) (fun hc5 => ?_)
    · have hf := ifn hc5 hf
      refine lv_aload_n F.1 F.2.1 dX2_takeTemperature_50 rfl (lv_at hl 1 rfl) ?_
      refine lv_iconst (v := (0 : Int32)) F.1 F.2.1 dX2_takeTemperature_51 (by decide) ?_
      refine pI_X2_cold F hK hi hz hP hS (fun _ h => List.mem_cons_of_mem _ (List.mem_append_right _ h)) (List.mem_of_getElem? (i := 7) rfl) dX2_takeTemperature_52 (fun H locs hP hS => ?_)
      refine lv_goto (tgt := 114) F.1 F.2.1 dX2_takeTemperature_55 rfl ?_
      obtain rfl := Option.some.inj hf
      exact x_vret F hr hlk hP hS rfl dX2_takeTemperature_114
    · have hf := ifp hc5 hf
      refine lv_iload_n F.1 F.2.1 dX2_takeTemperature_32 rfl (lv_at hl 3 rfl) ?_
      refine lv_if_le (tgt := 50) F.1 F.2.1 dX2_takeTemperature_33 rfl (fun hc6 => ?_) (fun hc6 => ?_)
      · have hf := ifp hc6 hf
        refine lv_aload_n F.1 F.2.1 dX2_takeTemperature_50 rfl (lv_at hl 1 rfl) ?_
        refine lv_iconst (v := (0 : Int32)) F.1 F.2.1 dX2_takeTemperature_51 (by decide) ?_
        refine pI_X2_cold F hK hi hz hP hS (fun _ h => List.mem_cons_of_mem _ (List.mem_append_right _ h)) (List.mem_of_getElem? (i := 7) rfl) dX2_takeTemperature_52 (fun H locs hP hS => ?_)
        refine lv_goto (tgt := 114) F.1 F.2.1 dX2_takeTemperature_55 rfl ?_
        obtain rfl := Option.some.inj hf
        exact x_vret F hr hlk hP hS rfl dX2_takeTemperature_114
      · have hf := ifn hc6 hf
        refine lv_aload_n F.1 F.2.1 dX2_takeTemperature_36 rfl (lv_at hl 1 rfl) ?_
        refine lv_dup F.1 F.2.1 dX2_takeTemperature_37 rfl ?_
        refine gI_X2_warmth F hK hP hi hz (mu_at _ _ _) (fun _ h => List.mem_cons_of_mem _ (List.mem_append_right _ h)) (List.mem_of_getElem? (i := 6) rfl) dX2_takeTemperature_38 ?_
        refine lv_iload_n F.1 F.2.1 dX2_takeTemperature_41 rfl (lv_at hl 2 rfl) ?_
        refine lv_iload_n F.1 F.2.1 dX2_takeTemperature_42 rfl (lv_at hl 0 rfl) ?_
        refine lv_iload_n F.1 F.2.1 dX2_takeTemperature_43 rfl (lv_at hl 3 rfl) ?_
        obtain ⟨hz7, hf⟩ := ifg hf
        refine lv_idiv F.1 F.2.1 dX2_takeTemperature_44 hz7 ?_
        refine lv_isub F.1 F.2.1 dX2_takeTemperature_45 ?_
        refine lv_iadd F.1 F.2.1 dX2_takeTemperature_46 ?_
        refine pI_X2_warmth F hK hi hz hP hS (fun _ h => List.mem_cons_of_mem _ (List.mem_append_right _ h)) (List.mem_of_getElem? (i := 6) rfl) dX2_takeTemperature_47 (fun H locs hP hS => ?_)
        refine lv_aload_n F.1 F.2.1 dX2_takeTemperature_50 rfl (lv_at hl 1 rfl) ?_
        refine lv_iconst (v := (0 : Int32)) F.1 F.2.1 dX2_takeTemperature_51 (by decide) ?_
        refine pI_X2_cold F hK hi hz hP hS (fun _ h => List.mem_cons_of_mem _ (List.mem_append_right _ h)) (List.mem_of_getElem? (i := 7) rfl) dX2_takeTemperature_52 (fun H locs hP hS => ?_)
        refine lv_goto (tgt := 114) F.1 F.2.1 dX2_takeTemperature_55 rfl ?_
        obtain rfl := Option.some.inj hf
        exact x_vret F hr hlk hP hS rfl dX2_takeTemperature_114

-- FrostTubes$Site.frozeBefore(II)Z
def f_X2_frozeBefore (g : Row) (z : Nat) (a1 : Int32) (a2 : Int32) : Option (Int32) := ((f_X2_isFrozen g z a1).bind fun r1 => (if r1 = 0 then some (0 : Int32) else ((f_X2_isFrozen g z a2).bind fun r4 => (if r4 = 0 then some (0 : Int32) else (if oob a1 30 then none else (if oob a2 30 then none else (if (g (35 * z + (5 + a1.toNatClampNeg))) < (g (35 * z + (5 + a2.toNatClampNeg))) then some (1 : Int32) else (if (g (35 * z + (5 + a1.toNatClampNeg))) = (g (35 * z + (5 + a2.toNatClampNeg))) then (if a2 ≤ a1 then some (0 : Int32) else some (1 : Int32)) else some (0 : Int32)))))))))
def rmX2_frozeBefore : Room := { frames := 1, cells := 0, slots := 0, locals := 21 }
theorem hd_X2_frozeBefore : yX2_frozeBefore.cls ≠ "java/lang/invoke/MethodHandle" ∧ yX2_frozeBefore.cls ≠ "java/lang/invoke/VarHandle" ∧ (parseMethodDescriptor yX2_frozeBefore.desc).map (fun d => d.parameters.length) = some 2 := by decide +kernel
set_option maxHeartbeats 8000000 in
set_option maxRecDepth 100000 in
theorem c_X2_frozeBefore {l : Launch} {D : va_G} {x : Nat} {μ : Mem} {i z : Nat} (hi : i < 19) (hz : z < 4) {g : Row} (hg : μ i = g) (a1 : Int32) (a2 : Int32) {r : Int32} (hf : f_X2_frozeBefore g z a1 a2 = some r) : CX l yX2_frozeBefore wsX2_frozeBefore rmX2_frozeBefore [.ref (x + sb i z), .int a1, .int a2] D x μ (some (.int r)) μ := by
  refine CX.of (cc := cX2_frozeBefore) (maxL := 5) (ret := (some .boolean)) pn_X2 rfl (Nat.le_of_ble_eq_true rfl) ?_
  intro p e s m args below meth c F hr hlk hK hG
  intro ls H locs hl hP hS
  have hl : lv_has ls 5 [(0, .ref (x + sb i z)), (1, .int a1), (2, .int a2)] := hl
  unfold f_X2_frozeBefore at hf
  refine lv_aload_n F.1 F.2.1 dX2_frozeBefore_0 rfl (lv_at hl 0 rfl) ?_
  refine lv_iload_n F.1 F.2.1 dX2_frozeBefore_1 rfl (lv_at hl 1 rfl) ?_
  obtain ⟨r1, hr2, hf⟩ := bnd hf
  refine x_callV F hK hG hP hS (o_S hi hz) (kd_S i hi z hz) (ci := 2) (fun _ => rfl) rfl (c_X2_isFrozen hi hz hg a1 hr2) (cwV 1 F.2.2.2.2 gX2_frozeBefore_X2_isFrozen rfl rfl rfl ⟨rfl, hd_X2_isFrozen⟩ ⟨(Nat.le_of_ble_eq_true rfl), (Nat.le_of_ble_eq_true rfl)⟩) rfl rfl hl.1 (Nat.le_of_ble_eq_true rfl) dX2_frozeBefore_2 ⟨(Nat.le_of_ble_eq_true rfl), (Nat.le_of_ble_eq_true rfl)⟩ (rest := []) (fun H locs hP hS => ?_)
  refine W.eq (g2 := F0 m 5 ls [.int r1]) rfl ?_
  refine lv_if_eq (tgt := 16) F.1 F.2.1 dX2_frozeBefore_5 rfl (fun hc3 => ?_) (fun hc3 => ?_)
  · have hf := ifp hc3 hf
    refine lv_iconst (v := (0 : Int32)) F.1 F.2.1 dX2_frozeBefore_16 (by decide) ?_
    obtain rfl := Option.some.inj hf
    exact x_zret F hr hlk hP hS rfl (b01_v (v := (0 : Int32)) (Or.inl rfl)) dX2_frozeBefore_17
  · have hf := ifn hc3 hf
    refine lv_aload_n F.1 F.2.1 dX2_frozeBefore_8 rfl (lv_at hl 0 rfl) ?_
    refine lv_iload_n F.1 F.2.1 dX2_frozeBefore_9 rfl (lv_at hl 2 rfl) ?_
    obtain ⟨r4, hr5, hf⟩ := bnd hf
    refine x_callV F hK hG hP hS (o_S hi hz) (kd_S i hi z hz) (ci := 2) (fun _ => rfl) rfl (c_X2_isFrozen hi hz hg a2 hr5) (cwV 1 F.2.2.2.2 gX2_frozeBefore_X2_isFrozen rfl rfl rfl ⟨rfl, hd_X2_isFrozen⟩ ⟨(Nat.le_of_ble_eq_true rfl), (Nat.le_of_ble_eq_true rfl)⟩) rfl rfl hl.1 (Nat.le_of_ble_eq_true rfl) dX2_frozeBefore_10 ⟨(Nat.le_of_ble_eq_true rfl), (Nat.le_of_ble_eq_true rfl)⟩ (rest := []) (fun H locs hP hS => ?_)
    refine W.eq (g2 := F0 m 13 ls [.int r4]) rfl ?_
    refine lv_if_ne (tgt := 18) F.1 F.2.1 dX2_frozeBefore_13 rfl (fun hc6 => ?_) (fun hc6 => ?_)
    · have hf := ifn hc6 hf
      refine lv_aload_n F.1 F.2.1 dX2_frozeBefore_18 rfl (lv_at hl 0 rfl) ?_
      refine gR_X2_frozenSince F hK hP hi hz (fun _ h => List.mem_cons_of_mem _ (List.mem_append_right _ h)) (List.mem_of_getElem? (i := 1) rfl) dX2_frozeBefore_19 ?_
      refine lv_iload_n F.1 F.2.1 dX2_frozeBefore_22 rfl (lv_at hl 1 rfl) ?_
      obtain ⟨hb7, hf⟩ := ifg hf
      refine lA_SA F hK hP hi hz hg hb7 dX2_frozeBefore_23 ?_
      refine lv_istore_n F.1 F.2.1 dX2_frozeBefore_24 rfl hl (Nat.le_of_ble_eq_true rfl) rfl (fun ls hl => ?_)
      have hl : lv_has ls 5 [(3, .int (g (35 * z + (5 + a1.toNatClampNeg)))), (0, .ref (x + sb i z)), (1, .int a1), (2, .int a2)] := hl
      refine lv_aload_n F.1 F.2.1 dX2_frozeBefore_25 rfl (lv_at hl 1 rfl) ?_
      refine gR_X2_frozenSince F hK hP hi hz (fun _ h => List.mem_cons_of_mem _ (List.mem_append_right _ h)) (List.mem_of_getElem? (i := 1) rfl) dX2_frozeBefore_26 ?_
      refine lv_iload_n F.1 F.2.1 dX2_frozeBefore_29 rfl (lv_at hl 3 rfl) ?_
      obtain ⟨hb8, hf⟩ := ifg hf
      refine lA_SA F hK hP hi hz hg hb8 dX2_frozeBefore_30 ?_
      refine lv_istore F.1 F.2.1 dX2_frozeBefore_31 hl (Nat.le_of_ble_eq_true rfl) rfl (fun ls hl => ?_)
      have hl : lv_has ls 5 [(4, .int (g (35 * z + (5 + a2.toNatClampNeg)))), (3, .int (g (35 * z + (5 + a1.toNatClampNeg)))), (0, .ref (x + sb i z)), (1, .int a1), (2, .int a2)] := hl
      refine lv_iload_n F.1 F.2.1 dX2_frozeBefore_33 rfl (lv_at hl 1 rfl) ?_
      refine lv_iload F.1 F.2.1 dX2_frozeBefore_34 (lv_at hl 0 rfl) ?_
      refine lv_icmp_lt (tgt := 50) F.1 F.2.1 dX2_frozeBefore_36 rfl (fun hc9 => ?_) (fun hc9 => ?_)
      · have hf := ifp hc9 hf
        refine lv_iconst (v := (1 : Int32)) F.1 F.2.1 dX2_frozeBefore_50 (by decide) ?_
        refine lv_goto (tgt := 55) F.1 F.2.1 dX2_frozeBefore_51 rfl ?_
        obtain rfl := Option.some.inj hf
        exact x_zret F hr hlk hP hS rfl (b01_v (v := (1 : Int32)) (Or.inr rfl)) dX2_frozeBefore_55
      · have hf := ifn hc9 hf
        refine lv_iload_n F.1 F.2.1 dX2_frozeBefore_39 rfl (lv_at hl 1 rfl) ?_
        refine lv_iload F.1 F.2.1 dX2_frozeBefore_40 (lv_at hl 0 rfl) ?_
        refine lv_icmp_ne (tgt := 54) F.1 F.2.1 dX2_frozeBefore_42 rfl (fun hc10 => ?_) (fun hc10 => ?_)
        · have hf := ifn hc10 hf
          refine lv_iconst (v := (0 : Int32)) F.1 F.2.1 dX2_frozeBefore_54 (by decide) ?_
          obtain rfl := Option.some.inj hf
          exact x_zret F hr hlk hP hS rfl (b01_v (v := (0 : Int32)) (Or.inl rfl)) dX2_frozeBefore_55
        · have hf := ifp hc10 hf
          refine lv_iload_n F.1 F.2.1 dX2_frozeBefore_45 rfl (lv_at hl 3 rfl) ?_
          refine lv_iload_n F.1 F.2.1 dX2_frozeBefore_46 rfl (lv_at hl 4 rfl) ?_
          refine lv_icmp_ge (tgt := 54) F.1 F.2.1 dX2_frozeBefore_47 rfl (fun hc11 => ?_) (fun hc11 => ?_)
          · have hf := ifp hc11 hf
            refine lv_iconst (v := (0 : Int32)) F.1 F.2.1 dX2_frozeBefore_54 (by decide) ?_
            obtain rfl := Option.some.inj hf
            exact x_zret F hr hlk hP hS rfl (b01_v (v := (0 : Int32)) (Or.inl rfl)) dX2_frozeBefore_55
          · have hf := ifn hc11 hf
            refine lv_iconst (v := (1 : Int32)) F.1 F.2.1 dX2_frozeBefore_50 (by decide) ?_
            refine lv_goto (tgt := 55) F.1 F.2.1 dX2_frozeBefore_51 rfl ?_
            obtain rfl := Option.some.inj hf
            exact x_zret F hr hlk hP hS rfl (b01_v (v := (1 : Int32)) (Or.inr rfl)) dX2_frozeBefore_55
    · have hf := ifp hc6 hf
      refine lv_iconst (v := (0 : Int32)) F.1 F.2.1 dX2_frozeBefore_16 (by decide) ?_
      obtain rfl := Option.some.inj hf
      exact x_zret F hr hlk hP hS rfl (b01_v (v := (0 : Int32)) (Or.inl rfl)) dX2_frozeBefore_17

-- FrostTubes$Site.layersAsTheyFroze()I
def fb_X2_layersAsTheyFroze_1 (g : Row) (z : Nat) (K : Nat → Int32 → Int32 → Int32 → Int32 → Int32 → Option (Int32)) (t0 : Int32) (t1 : Int32) (t2 : Int32) (v1 : Int32) (v2 : Int32) : Option (Int32) := (if (30 : Int32) ≤ v2 then some v1 else ((f_X2_isFrozen g z v2).bind fun r2 => (if r2 = 0 then (K 1 0 0 0 v1 (v2 + (1 : Int32))) else ((f_X2_frozeBefore g z (v2 - (1 : Int32)) v2).bind fun r5 => (if r5 = 0 then (K 2 (0 : Int32) (1 : Int32) v1 0 v2) else (K 2 (1 : Int32) (1 : Int32) v1 0 v2))))))
def fb_X2_layersAsTheyFroze_2 (g : Row) (z : Nat) (K : Nat → Int32 → Int32 → Int32 → Int32 → Int32 → Option (Int32)) (t0 : Int32) (t1 : Int32) (t2 : Int32) (v1 : Int32) (v2 : Int32) : Option (Int32) := ((f_X2_frozeBefore g z (v2 + (1 : Int32)) v2).bind fun r8 => (if r8 = 0 then (K 1 0 0 0 (t2 + ((t1 - t0) - (0 : Int32))) (v2 + (1 : Int32))) else (K 1 0 0 0 (t2 + ((t1 - t0) - (1 : Int32))) (v2 + (1 : Int32)))))
def fl_X2_layersAsTheyFroze (g : Row) (z : Nat) : Nat → Nat → Int32 → Int32 → Int32 → Int32 → Int32 → Option (Int32)
  | 0, _, _, _, _, _, _ => none
  | n + 1, lab, t0, t1, t2, v1, v2 => match lab with
    | 1 => fb_X2_layersAsTheyFroze_1 g z (fl_X2_layersAsTheyFroze g z n) t0 t1 t2 v1 v2
    | _ => fb_X2_layersAsTheyFroze_2 g z (fl_X2_layersAsTheyFroze g z n) t0 t1 t2 v1 v2
def f_X2_layersAsTheyFroze (g : Row) (z : Nat) : Option (Int32) := (fl_X2_layersAsTheyFroze g z FU 1 0 0 0 (0 : Int32) (0 : Int32))
def rmX2_layersAsTheyFroze : Room := { frames := 2, cells := 0, slots := 0, locals := 45 }
theorem hd_X2_layersAsTheyFroze : yX2_layersAsTheyFroze.cls ≠ "java/lang/invoke/MethodHandle" ∧ yX2_layersAsTheyFroze.cls ≠ "java/lang/invoke/VarHandle" ∧ (parseMethodDescriptor yX2_layersAsTheyFroze.desc).map (fun d => d.parameters.length) = some 0 := by decide +kernel
set_option maxHeartbeats 8000000 in
set_option maxRecDepth 100000 in
theorem c_X2_layersAsTheyFroze {l : Launch} {D : va_G} {x : Nat} {μ : Mem} {i z : Nat} (hi : i < 19) (hz : z < 4) {g : Row} (hg : μ i = g) {r : Int32} (hf : f_X2_layersAsTheyFroze g z = some r) : CX l yX2_layersAsTheyFroze wsX2_layersAsTheyFroze rmX2_layersAsTheyFroze [.ref (x + sb i z)] D x μ (some (.int r)) μ := by
  refine CX.of (cc := cX2_layersAsTheyFroze) (maxL := 3) (ret := (some .int)) pn_X2 rfl (Nat.le_of_ble_eq_true rfl) ?_
  intro p e s m args below meth c F hr hlk hK hG
  have KEY : ∀ n : Nat, (∀ (v1 : Int32) (v2 : Int32) (ls : Array Slot) (H : Heap) (locs : List Loc), lv_has ls 3 [(0, .ref (x + sb i z)), (1, .int v1), (2, .int v2)] → va_P D vwCl (WL D x μ) H → va_S (rng x) s.heap H locs → fl_X2_layersAsTheyFroze g z n 1 0 0 0 v1 v2 = some r → W p l e rmX2_layersAsTheyFroze s m args below meth c H locs 0 0 (MQ below (QX D x μ (some (.int r))) args s 0 0 (rng x)) (F0 m 4 ls [])) ∧ (∀ (v2 : Int32) (t0 : Int32) (t1 : Int32) (t2 : Int32) (ls : Array Slot) (H : Heap) (locs : List Loc), lv_has ls 3 [(0, .ref (x + sb i z)), (2, .int v2)] → va_P D vwCl (WL D x μ) H → va_S (rng x) s.heap H locs → fl_X2_layersAsTheyFroze g z n 2 t0 t1 t2 0 v2 = some r → W p l e rmX2_layersAsTheyFroze s m args below meth c H locs 0 0 (MQ below (QX D x μ (some (.int r))) args s 0 0 (rng x)) (F0 m 36 ls [.int t0, .int t1, .int t2])) := by
    intro n
    induction n with
    | zero => exact ⟨(fun _ _ _ _ _ _ _ _ h => nomatch h), (fun _ _ _ _ _ _ _ _ _ _ h => nomatch h)⟩
    | succ n ih =>
      refine ⟨?_, ?_⟩
      · intro v1 v2  ls H locs hl hP hS hf
        have hf : fb_X2_layersAsTheyFroze_1 g z (fl_X2_layersAsTheyFroze g z n) 0 0 0 v1 v2 = some r := hf
        unfold fb_X2_layersAsTheyFroze_1 at hf
        refine lv_iload_n F.1 F.2.1 dX2_layersAsTheyFroze_4 rfl (lv_at hl 2 rfl) ?_
        refine lv_bipush (v := (30 : Int32)) F.1 F.2.1 dX2_layersAsTheyFroze_5 (by decide) ?_
        refine lv_icmp_ge (tgt := 62) F.1 F.2.1 dX2_layersAsTheyFroze_7 rfl (fun hc1 => ?_) (fun hc1 => ?_)
        · have hf := ifp hc1 hf
          refine lv_iload_n F.1 F.2.1 dX2_layersAsTheyFroze_62 rfl (lv_at hl 1 rfl) ?_
          obtain rfl := Option.some.inj hf
          exact x_iret F hr hlk hP hS rfl dX2_layersAsTheyFroze_63
        · have hf := ifn hc1 hf
          refine lv_aload_n F.1 F.2.1 dX2_layersAsTheyFroze_10 rfl (lv_at hl 0 rfl) ?_
          refine lv_iload_n F.1 F.2.1 dX2_layersAsTheyFroze_11 rfl (lv_at hl 2 rfl) ?_
          obtain ⟨r2, hr3, hf⟩ := bnd hf
          refine x_callV F hK hG hP hS (o_S hi hz) (kd_S i hi z hz) (ci := 2) (fun _ => rfl) rfl (c_X2_isFrozen hi hz hg v2 hr3) (cwV 1 F.2.2.2.2 gX2_layersAsTheyFroze_X2_isFrozen rfl rfl rfl ⟨rfl, hd_X2_isFrozen⟩ ⟨(Nat.le_of_ble_eq_true rfl), (Nat.le_of_ble_eq_true rfl)⟩) rfl rfl hl.1 (Nat.le_of_ble_eq_true rfl) dX2_layersAsTheyFroze_12 ⟨(Nat.le_of_ble_eq_true rfl), (Nat.le_of_ble_eq_true rfl)⟩ (rest := []) (fun H locs hP hS => ?_)
          refine W.eq (g2 := F0 m 15 ls [.int r2]) rfl ?_
          refine lv_if_eq (tgt := 56) F.1 F.2.1 dX2_layersAsTheyFroze_15 rfl (fun hc4 => ?_) (fun hc4 => ?_)
          · have hf := ifp hc4 hf
            refine lv_iinc (v := (v2 + (1 : Int32))) F.1 F.2.1 dX2_layersAsTheyFroze_56 hl (k := 2) rfl rfl (Nat.le_of_ble_eq_true rfl) rfl (fun ls hl => ?_)
            have hl : lv_has ls 3 [(2, .int (v2 + (1 : Int32))), (0, .ref (x + sb i z)), (1, .int v1)] := hl
            refine lv_goto (tgt := 4) F.1 F.2.1 dX2_layersAsTheyFroze_59 rfl ?_
            exact ih.1 v1 (v2 + (1 : Int32)) _ _ _ (lv_sub hl [1, 2, 0] rfl) hP hS hf
          · have hf := ifn hc4 hf
            refine lv_iload_n F.1 F.2.1 dX2_layersAsTheyFroze_18 rfl (lv_at hl 1 rfl) ?_
            refine lv_iconst (v := (1 : Int32)) F.1 F.2.1 dX2_layersAsTheyFroze_19 (by decide) ?_
            refine lv_aload_n F.1 F.2.1 dX2_layersAsTheyFroze_20 rfl (lv_at hl 0 rfl) ?_
            refine lv_iload_n F.1 F.2.1 dX2_layersAsTheyFroze_21 rfl (lv_at hl 2 rfl) ?_
            refine lv_iconst (v := (1 : Int32)) F.1 F.2.1 dX2_layersAsTheyFroze_22 (by decide) ?_
            refine lv_isub F.1 F.2.1 dX2_layersAsTheyFroze_23 ?_
            refine lv_iload_n F.1 F.2.1 dX2_layersAsTheyFroze_24 rfl (lv_at hl 2 rfl) ?_
            obtain ⟨r5, hr6, hf⟩ := bnd hf
            refine x_callV F hK hG hP hS (o_S hi hz) (kd_S i hi z hz) (ci := 2) (fun _ => rfl) rfl (c_X2_frozeBefore hi hz hg (v2 - (1 : Int32)) v2 hr6) (cwV 2 F.2.2.2.2 gX2_layersAsTheyFroze_X2_frozeBefore rfl rfl rfl ⟨rfl, hd_X2_frozeBefore⟩ ⟨(Nat.le_of_ble_eq_true rfl), (Nat.le_of_ble_eq_true rfl)⟩) rfl rfl hl.1 (Nat.le_of_ble_eq_true rfl) dX2_layersAsTheyFroze_25 ⟨(Nat.le_of_ble_eq_true rfl), (Nat.le_of_ble_eq_true rfl)⟩ (rest := [.int (1 : Int32), .int v1]) (fun H locs hP hS => ?_)
            refine W.eq (g2 := F0 m 28 ls [.int r5, .int (1 : Int32), .int v1]) rfl ?_
            refine lv_if_eq (tgt := 35) F.1 F.2.1 dX2_layersAsTheyFroze_28 rfl (fun hc7 => ?_) (fun hc7 => ?_)
            · have hf := ifp hc7 hf
              refine lv_iconst (v := (0 : Int32)) F.1 F.2.1 dX2_layersAsTheyFroze_35 (by decide) ?_
              exact ih.2 v2 (0 : Int32) (1 : Int32) v1 _ _ _ (lv_sub hl [0, 2] rfl) hP hS hf
            · have hf := ifn hc7 hf
              refine lv_iconst (v := (1 : Int32)) F.1 F.2.1 dX2_layersAsTheyFroze_31 (by decide) ?_
              refine lv_goto (tgt := 36) F.1 F.2.1 dX2_layersAsTheyFroze_32 rfl ?_
              exact ih.2 v2 (1 : Int32) (1 : Int32) v1 _ _ _ (lv_sub hl [0, 2] rfl) hP hS hf
      · intro v2 t0 t1 t2  ls H locs hl hP hS hf
        have hf : fb_X2_layersAsTheyFroze_2 g z (fl_X2_layersAsTheyFroze g z n) t0 t1 t2 0 v2 = some r := hf
        unfold fb_X2_layersAsTheyFroze_2 at hf
        refine lv_isub F.1 F.2.1 dX2_layersAsTheyFroze_36 ?_
        refine lv_aload_n F.1 F.2.1 dX2_layersAsTheyFroze_37 rfl (lv_at hl 0 rfl) ?_
        refine lv_iload_n F.1 F.2.1 dX2_layersAsTheyFroze_38 rfl (lv_at hl 1 rfl) ?_
        refine lv_iconst (v := (1 : Int32)) F.1 F.2.1 dX2_layersAsTheyFroze_39 (by decide) ?_
        refine lv_iadd F.1 F.2.1 dX2_layersAsTheyFroze_40 ?_
        refine lv_iload_n F.1 F.2.1 dX2_layersAsTheyFroze_41 rfl (lv_at hl 1 rfl) ?_
        obtain ⟨r8, hr9, hf⟩ := bnd hf
        refine x_callV F hK hG hP hS (o_S hi hz) (kd_S i hi z hz) (ci := 2) (fun _ => rfl) rfl (c_X2_frozeBefore hi hz hg (v2 + (1 : Int32)) v2 hr9) (cwV 2 F.2.2.2.2 gX2_layersAsTheyFroze_X2_frozeBefore rfl rfl rfl ⟨rfl, hd_X2_frozeBefore⟩ ⟨(Nat.le_of_ble_eq_true rfl), (Nat.le_of_ble_eq_true rfl)⟩) rfl rfl hl.1 (Nat.le_of_ble_eq_true rfl) dX2_layersAsTheyFroze_42 ⟨(Nat.le_of_ble_eq_true rfl), (Nat.le_of_ble_eq_true rfl)⟩ (rest := [.int (t1 - t0), .int t2]) (fun H locs hP hS => ?_)
        refine W.eq (g2 := F0 m 45 ls [.int r8, .int (t1 - t0), .int t2]) rfl ?_
        refine lv_if_eq (tgt := 52) F.1 F.2.1 dX2_layersAsTheyFroze_45 rfl (fun hc10 => ?_) (fun hc10 => ?_)
        · have hf := ifp hc10 hf
          refine lv_iconst (v := (0 : Int32)) F.1 F.2.1 dX2_layersAsTheyFroze_52 (by decide) ?_
          refine lv_isub F.1 F.2.1 dX2_layersAsTheyFroze_53 ?_
          refine lv_iadd F.1 F.2.1 dX2_layersAsTheyFroze_54 ?_
          refine lv_istore_n F.1 F.2.1 dX2_layersAsTheyFroze_55 rfl hl (Nat.le_of_ble_eq_true rfl) rfl (fun ls hl => ?_)
          have hl : lv_has ls 3 [(1, .int (t2 + ((t1 - t0) - (0 : Int32)))), (0, .ref (x + sb i z)), (2, .int v2)] := hl
          refine lv_iinc (v := (v2 + (1 : Int32))) F.1 F.2.1 dX2_layersAsTheyFroze_56 hl (k := 2) rfl rfl (Nat.le_of_ble_eq_true rfl) rfl (fun ls hl => ?_)
          have hl : lv_has ls 3 [(2, .int (v2 + (1 : Int32))), (1, .int (t2 + ((t1 - t0) - (0 : Int32)))), (0, .ref (x + sb i z))] := hl
          refine lv_goto (tgt := 4) F.1 F.2.1 dX2_layersAsTheyFroze_59 rfl ?_
          exact ih.1 (t2 + ((t1 - t0) - (0 : Int32))) (v2 + (1 : Int32)) _ _ _ (lv_sub hl [2, 1, 0] rfl) hP hS hf
        · have hf := ifn hc10 hf
          refine lv_iconst (v := (1 : Int32)) F.1 F.2.1 dX2_layersAsTheyFroze_48 (by decide) ?_
          refine lv_goto (tgt := 53) F.1 F.2.1 dX2_layersAsTheyFroze_49 rfl ?_
          refine lv_isub F.1 F.2.1 dX2_layersAsTheyFroze_53 ?_
          refine lv_iadd F.1 F.2.1 dX2_layersAsTheyFroze_54 ?_
          refine lv_istore_n F.1 F.2.1 dX2_layersAsTheyFroze_55 rfl hl (Nat.le_of_ble_eq_true rfl) rfl (fun ls hl => ?_)
          have hl : lv_has ls 3 [(1, .int (t2 + ((t1 - t0) - (1 : Int32)))), (0, .ref (x + sb i z)), (2, .int v2)] := hl
          refine lv_iinc (v := (v2 + (1 : Int32))) F.1 F.2.1 dX2_layersAsTheyFroze_56 hl (k := 2) rfl rfl (Nat.le_of_ble_eq_true rfl) rfl (fun ls hl => ?_)
          have hl : lv_has ls 3 [(2, .int (v2 + (1 : Int32))), (1, .int (t2 + ((t1 - t0) - (1 : Int32)))), (0, .ref (x + sb i z))] := hl
          refine lv_goto (tgt := 4) F.1 F.2.1 dX2_layersAsTheyFroze_59 rfl ?_
          exact ih.1 (t2 + ((t1 - t0) - (1 : Int32))) (v2 + (1 : Int32)) _ _ _ (lv_sub hl [2, 1, 0] rfl) hP hS hf
  intro ls H locs hl hP hS
  have hl : lv_has ls 3 [(0, .ref (x + sb i z))] := hl
  unfold f_X2_layersAsTheyFroze at hf
  refine lv_iconst (v := (0 : Int32)) F.1 F.2.1 dX2_layersAsTheyFroze_0 (by decide) ?_
  refine lv_istore_n F.1 F.2.1 dX2_layersAsTheyFroze_1 rfl hl (Nat.le_of_ble_eq_true rfl) rfl (fun ls hl => ?_)
  have hl : lv_has ls 3 [(1, .int (0 : Int32)), (0, .ref (x + sb i z))] := hl
  refine lv_iconst (v := (0 : Int32)) F.1 F.2.1 dX2_layersAsTheyFroze_2 (by decide) ?_
  refine lv_istore_n F.1 F.2.1 dX2_layersAsTheyFroze_3 rfl hl (Nat.le_of_ble_eq_true rfl) rfl (fun ls hl => ?_)
  have hl : lv_has ls 3 [(2, .int (0 : Int32)), (1, .int (0 : Int32)), (0, .ref (x + sb i z))] := hl
  exact (KEY FU).1 (0 : Int32) (0 : Int32) _ _ _ (lv_sub hl [2, 1, 0] rfl) hP hS hf

-- FrostTubes$Site.firstOfLayer(I)I
def fb_X2_firstOfLayer_1 (g : Row) (z : Nat) (a1 : Int32) (K : Int32 → Int32 → Option (Int32)) (v2 : Int32) (v3 : Int32) : Option (Int32) := (if (30 : Int32) ≤ v3 then some (-1 : Int32) else ((f_X2_beginsLayer g z v3).bind fun r2 => (if r2 = 0 then (K v2 (v3 + (1 : Int32))) else (if (v2 + (1 : Int32)) = a1 then some v3 else (K (v2 + (1 : Int32)) (v3 + (1 : Int32)))))))
def fl_X2_firstOfLayer (g : Row) (z : Nat) (a1 : Int32) : Nat → Int32 → Int32 → Option (Int32)
  | 0, _, _ => none
  | n + 1, v2, v3 => fb_X2_firstOfLayer_1 g z a1 (fl_X2_firstOfLayer g z a1 n) v2 v3
def f_X2_firstOfLayer (g : Row) (z : Nat) (a1 : Int32) : Option (Int32) := (fl_X2_firstOfLayer g z a1 FU (-1 : Int32) (0 : Int32))
def rmX2_firstOfLayer : Room := { frames := 2, cells := 0, slots := 0, locals := 42 }
theorem hd_X2_firstOfLayer : yX2_firstOfLayer.cls ≠ "java/lang/invoke/MethodHandle" ∧ yX2_firstOfLayer.cls ≠ "java/lang/invoke/VarHandle" ∧ (parseMethodDescriptor yX2_firstOfLayer.desc).map (fun d => d.parameters.length) = some 1 := by decide +kernel
set_option maxHeartbeats 8000000 in
set_option maxRecDepth 100000 in
theorem c_X2_firstOfLayer {l : Launch} {D : va_G} {x : Nat} {μ : Mem} {i z : Nat} (hi : i < 19) (hz : z < 4) {g : Row} (hg : μ i = g) (a1 : Int32) {r : Int32} (hf : f_X2_firstOfLayer g z a1 = some r) : CX l yX2_firstOfLayer wsX2_firstOfLayer rmX2_firstOfLayer [.ref (x + sb i z), .int a1] D x μ (some (.int r)) μ := by
  refine CX.of (cc := cX2_firstOfLayer) (maxL := 4) (ret := (some .int)) pn_X2 rfl (Nat.le_of_ble_eq_true rfl) ?_
  intro p e s m args below meth c F hr hlk hK hG
  have KEY : ∀ n : Nat, (∀ (v2 : Int32) (v3 : Int32) (ls : Array Slot) (H : Heap) (locs : List Loc), lv_has ls 4 [(0, .ref (x + sb i z)), (1, .int a1), (2, .int v2), (3, .int v3)] → va_P D vwCl (WL D x μ) H → va_S (rng x) s.heap H locs → fl_X2_firstOfLayer g z a1 n v2 v3 = some r → W p l e rmX2_firstOfLayer s m args below meth c H locs 0 0 (MQ below (QX D x μ (some (.int r))) args s 0 0 (rng x)) (F0 m 4 ls [])) := by
    intro n
    induction n with
    | zero => exact (fun _ _ _ _ _ _ _ _ h => nomatch h)
    | succ n ih =>
      skip
      intro v2 v3  ls H locs hl hP hS hf
      have hf : fb_X2_firstOfLayer_1 g z a1 (fl_X2_firstOfLayer g z a1 n) v2 v3 = some r := hf
      unfold fb_X2_firstOfLayer_1 at hf
      refine lv_iload_n F.1 F.2.1 dX2_firstOfLayer_4 rfl (lv_at hl 3 rfl) ?_
      refine lv_bipush (v := (30 : Int32)) F.1 F.2.1 dX2_firstOfLayer_5 (by decide) ?_
      refine lv_icmp_ge (tgt := 34) F.1 F.2.1 dX2_firstOfLayer_7 rfl (fun hc1 => ?_) (fun hc1 => ?_)
      · have hf := ifp hc1 hf
        refine lv_iconst (v := (-1 : Int32)) F.1 F.2.1 dX2_firstOfLayer_34 (by decide) ?_
        obtain rfl := Option.some.inj hf
        exact x_iret F hr hlk hP hS rfl dX2_firstOfLayer_35
      · have hf := ifn hc1 hf
        refine lv_aload_n F.1 F.2.1 dX2_firstOfLayer_10 rfl (lv_at hl 0 rfl) ?_
        refine lv_iload_n F.1 F.2.1 dX2_firstOfLayer_11 rfl (lv_at hl 3 rfl) ?_
        obtain ⟨r2, hr3, hf⟩ := bnd hf
        refine x_callV F hK hG hP hS (o_S hi hz) (kd_S i hi z hz) (ci := 2) (fun _ => rfl) rfl (c_X2_beginsLayer hi hz hg v3 hr3) (cwV 1 F.2.2.2.2 gX2_firstOfLayer_X2_beginsLayer rfl rfl rfl ⟨rfl, hd_X2_beginsLayer⟩ ⟨(Nat.le_of_ble_eq_true rfl), (Nat.le_of_ble_eq_true rfl)⟩) rfl rfl hl.1 (Nat.le_of_ble_eq_true rfl) dX2_firstOfLayer_12 ⟨(Nat.le_of_ble_eq_true rfl), (Nat.le_of_ble_eq_true rfl)⟩ (rest := []) (fun H locs hP hS => ?_)
        refine W.eq (g2 := F0 m 15 ls [.int r2]) rfl ?_
        refine lv_if_eq (tgt := 28) F.1 F.2.1 dX2_firstOfLayer_15 rfl (fun hc4 => ?_) (fun hc4 => ?_)
        · have hf := ifp hc4 hf
          refine lv_iinc (v := (v3 + (1 : Int32))) F.1 F.2.1 dX2_firstOfLayer_28 hl (k := 3) rfl rfl (Nat.le_of_ble_eq_true rfl) rfl (fun ls hl => ?_)
          have hl : lv_has ls 4 [(3, .int (v3 + (1 : Int32))), (0, .ref (x + sb i z)), (1, .int a1), (2, .int v2)] := hl
          refine lv_goto (tgt := 4) F.1 F.2.1 dX2_firstOfLayer_31 rfl ?_
          exact ih v2 (v3 + (1 : Int32)) _ _ _ (lv_sub hl [1, 2, 3, 0] rfl) hP hS hf
        · have hf := ifn hc4 hf
          refine lv_iinc (v := (v2 + (1 : Int32))) F.1 F.2.1 dX2_firstOfLayer_18 hl (k := 2) rfl rfl (Nat.le_of_ble_eq_true rfl) rfl (fun ls hl => ?_)
          have hl : lv_has ls 4 [(2, .int (v2 + (1 : Int32))), (0, .ref (x + sb i z)), (1, .int a1), (3, .int v3)] := hl
          refine lv_iload_n F.1 F.2.1 dX2_firstOfLayer_21 rfl (lv_at hl 0 rfl) ?_
          refine lv_iload_n F.1 F.2.1 dX2_firstOfLayer_22 rfl (lv_at hl 2 rfl) ?_
          refine lv_icmp_ne (tgt := 28) F.1 F.2.1 dX2_firstOfLayer_23 rfl (fun hc5 => ?_) (fun hc5 => ?_)
          · have hf := ifn hc5 hf
            refine lv_iinc (v := (v3 + (1 : Int32))) F.1 F.2.1 dX2_firstOfLayer_28 hl (k := 3) rfl rfl (Nat.le_of_ble_eq_true rfl) rfl (fun ls hl => ?_)
            have hl : lv_has ls 4 [(3, .int (v3 + (1 : Int32))), (2, .int (v2 + (1 : Int32))), (0, .ref (x + sb i z)), (1, .int a1)] := hl
            refine lv_goto (tgt := 4) F.1 F.2.1 dX2_firstOfLayer_31 rfl ?_
            exact ih (v2 + (1 : Int32)) (v3 + (1 : Int32)) _ _ _ (lv_sub hl [2, 3, 1, 0] rfl) hP hS hf
          · have hf := ifp hc5 hf
            refine lv_iload_n F.1 F.2.1 dX2_firstOfLayer_26 rfl (lv_at hl 3 rfl) ?_
            obtain rfl := Option.some.inj hf
            exact x_iret F hr hlk hP hS rfl dX2_firstOfLayer_27
  intro ls H locs hl hP hS
  have hl : lv_has ls 4 [(0, .ref (x + sb i z)), (1, .int a1)] := hl
  unfold f_X2_firstOfLayer at hf
  refine lv_iconst (v := (-1 : Int32)) F.1 F.2.1 dX2_firstOfLayer_0 (by decide) ?_
  refine lv_istore_n F.1 F.2.1 dX2_firstOfLayer_1 rfl hl (Nat.le_of_ble_eq_true rfl) rfl (fun ls hl => ?_)
  have hl : lv_has ls 4 [(2, .int (-1 : Int32)), (0, .ref (x + sb i z)), (1, .int a1)] := hl
  refine lv_iconst (v := (0 : Int32)) F.1 F.2.1 dX2_firstOfLayer_2 (by decide) ?_
  refine lv_istore_n F.1 F.2.1 dX2_firstOfLayer_3 rfl hl (Nat.le_of_ble_eq_true rfl) rfl (fun ls hl => ?_)
  have hl : lv_has ls 4 [(3, .int (0 : Int32)), (2, .int (-1 : Int32)), (0, .ref (x + sb i z)), (1, .int a1)] := hl
  exact (KEY FU) (-1 : Int32) (0 : Int32) _ _ _ (lv_sub hl [2, 3, 1, 0] rfl) hP hS hf

-- FrostTubes$Site.endOfLayer(I)I
def fb_X2_endOfLayer_1 (g : Row) (z : Nat) (a1 : Int32) (K : Int32 → Option (Int32)) (v2 : Int32) : Option (Int32) := (if (30 : Int32) ≤ v2 then some v2 else ((f_X2_isFrozen g z v2).bind fun r2 => (if r2 = 0 then some v2 else (K (v2 + (1 : Int32))))))
def fl_X2_endOfLayer (g : Row) (z : Nat) (a1 : Int32) : Nat → Int32 → Option (Int32)
  | 0, _ => none
  | n + 1, v2 => fb_X2_endOfLayer_1 g z a1 (fl_X2_endOfLayer g z a1 n) v2
def f_X2_endOfLayer (g : Row) (z : Nat) (a1 : Int32) : Option (Int32) := (fl_X2_endOfLayer g z a1 FU a1)
def rmX2_endOfLayer : Room := { frames := 1, cells := 0, slots := 0, locals := 21 }
theorem hd_X2_endOfLayer : yX2_endOfLayer.cls ≠ "java/lang/invoke/MethodHandle" ∧ yX2_endOfLayer.cls ≠ "java/lang/invoke/VarHandle" ∧ (parseMethodDescriptor yX2_endOfLayer.desc).map (fun d => d.parameters.length) = some 1 := by decide +kernel
set_option maxHeartbeats 8000000 in
set_option maxRecDepth 100000 in
theorem c_X2_endOfLayer {l : Launch} {D : va_G} {x : Nat} {μ : Mem} {i z : Nat} (hi : i < 19) (hz : z < 4) {g : Row} (hg : μ i = g) (a1 : Int32) {r : Int32} (hf : f_X2_endOfLayer g z a1 = some r) : CX l yX2_endOfLayer wsX2_endOfLayer rmX2_endOfLayer [.ref (x + sb i z), .int a1] D x μ (some (.int r)) μ := by
  refine CX.of (cc := cX2_endOfLayer) (maxL := 3) (ret := (some .int)) pn_X2 rfl (Nat.le_of_ble_eq_true rfl) ?_
  intro p e s m args below meth c F hr hlk hK hG
  have KEY : ∀ n : Nat, (∀ (v2 : Int32) (ls : Array Slot) (H : Heap) (locs : List Loc), lv_has ls 3 [(0, .ref (x + sb i z)), (2, .int v2)] → va_P D vwCl (WL D x μ) H → va_S (rng x) s.heap H locs → fl_X2_endOfLayer g z a1 n v2 = some r → W p l e rmX2_endOfLayer s m args below meth c H locs 0 0 (MQ below (QX D x μ (some (.int r))) args s 0 0 (rng x)) (F0 m 2 ls [])) := by
    intro n
    induction n with
    | zero => exact (fun _ _ _ _ _ _ _ h => nomatch h)
    | succ n ih =>
      skip
      intro v2  ls H locs hl hP hS hf
      have hf : fb_X2_endOfLayer_1 g z a1 (fl_X2_endOfLayer g z a1 n) v2 = some r := hf
      unfold fb_X2_endOfLayer_1 at hf
      refine lv_iload_n F.1 F.2.1 dX2_endOfLayer_2 rfl (lv_at hl 1 rfl) ?_
      refine lv_bipush (v := (30 : Int32)) F.1 F.2.1 dX2_endOfLayer_3 (by decide) ?_
      refine lv_icmp_ge (tgt := 22) F.1 F.2.1 dX2_endOfLayer_5 rfl (fun hc1 => ?_) (fun hc1 => ?_)
      · have hf := ifp hc1 hf
        refine lv_iload_n F.1 F.2.1 dX2_endOfLayer_22 rfl (lv_at hl 1 rfl) ?_
        obtain rfl := Option.some.inj hf
        exact x_iret F hr hlk hP hS rfl dX2_endOfLayer_23
      · have hf := ifn hc1 hf
        refine lv_aload_n F.1 F.2.1 dX2_endOfLayer_8 rfl (lv_at hl 0 rfl) ?_
        refine lv_iload_n F.1 F.2.1 dX2_endOfLayer_9 rfl (lv_at hl 1 rfl) ?_
        obtain ⟨r2, hr3, hf⟩ := bnd hf
        refine x_callV F hK hG hP hS (o_S hi hz) (kd_S i hi z hz) (ci := 2) (fun _ => rfl) rfl (c_X2_isFrozen hi hz hg v2 hr3) (cwV 1 F.2.2.2.2 gX2_endOfLayer_X2_isFrozen rfl rfl rfl ⟨rfl, hd_X2_isFrozen⟩ ⟨(Nat.le_of_ble_eq_true rfl), (Nat.le_of_ble_eq_true rfl)⟩) rfl rfl hl.1 (Nat.le_of_ble_eq_true rfl) dX2_endOfLayer_10 ⟨(Nat.le_of_ble_eq_true rfl), (Nat.le_of_ble_eq_true rfl)⟩ (rest := []) (fun H locs hP hS => ?_)
        refine W.eq (g2 := F0 m 13 ls [.int r2]) rfl ?_
        refine lv_if_eq (tgt := 22) F.1 F.2.1 dX2_endOfLayer_13 rfl (fun hc4 => ?_) (fun hc4 => ?_)
        · have hf := ifp hc4 hf
          refine lv_iload_n F.1 F.2.1 dX2_endOfLayer_22 rfl (lv_at hl 1 rfl) ?_
          obtain rfl := Option.some.inj hf
          exact x_iret F hr hlk hP hS rfl dX2_endOfLayer_23
        · have hf := ifn hc4 hf
          refine lv_iinc (v := (v2 + (1 : Int32))) F.1 F.2.1 dX2_endOfLayer_16 hl (k := 1) rfl rfl (Nat.le_of_ble_eq_true rfl) rfl (fun ls hl => ?_)
          have hl : lv_has ls 3 [(2, .int (v2 + (1 : Int32))), (0, .ref (x + sb i z))] := hl
          refine lv_goto (tgt := 2) F.1 F.2.1 dX2_endOfLayer_19 rfl ?_
          exact ih (v2 + (1 : Int32)) _ _ _ (lv_sub hl [1, 0] rfl) hP hS hf
  intro ls H locs hl hP hS
  have hl : lv_has ls 3 [(0, .ref (x + sb i z)), (1, .int a1)] := hl
  unfold f_X2_endOfLayer at hf
  refine lv_iload_n F.1 F.2.1 dX2_endOfLayer_0 rfl (lv_at hl 1 rfl) ?_
  refine lv_istore_n F.1 F.2.1 dX2_endOfLayer_1 rfl hl (Nat.le_of_ble_eq_true rfl) rfl (fun ls hl => ?_)
  have hl : lv_has ls 3 [(2, .int a1), (0, .ref (x + sb i z)), (1, .int a1)] := hl
  exact (KEY FU) a1 _ _ _ (lv_sub hl [1, 0] rfl) hP hS hf

-- FrostTubes$Site.gapBelow(I)I
def fb_X2_gapBelow_1 (g : Row) (z : Nat) (a1 : Int32) (K : Int32 → Option (Int32)) (v2 : Int32) : Option (Int32) := (if (30 : Int32) ≤ v2 then some (0 : Int32) else ((f_X2_isFrozen g z v2).bind fun r2 => (if r2 = 0 then (K (v2 + (1 : Int32))) else some (v2 - a1))))
def fl_X2_gapBelow (g : Row) (z : Nat) (a1 : Int32) : Nat → Int32 → Option (Int32)
  | 0, _ => none
  | n + 1, v2 => fb_X2_gapBelow_1 g z a1 (fl_X2_gapBelow g z a1 n) v2
def f_X2_gapBelow (g : Row) (z : Nat) (a1 : Int32) : Option (Int32) := (fl_X2_gapBelow g z a1 FU a1)
def rmX2_gapBelow : Room := { frames := 1, cells := 0, slots := 0, locals := 21 }
theorem hd_X2_gapBelow : yX2_gapBelow.cls ≠ "java/lang/invoke/MethodHandle" ∧ yX2_gapBelow.cls ≠ "java/lang/invoke/VarHandle" ∧ (parseMethodDescriptor yX2_gapBelow.desc).map (fun d => d.parameters.length) = some 1 := by decide +kernel
set_option maxHeartbeats 8000000 in
set_option maxRecDepth 100000 in
theorem c_X2_gapBelow {l : Launch} {D : va_G} {x : Nat} {μ : Mem} {i z : Nat} (hi : i < 19) (hz : z < 4) {g : Row} (hg : μ i = g) (a1 : Int32) {r : Int32} (hf : f_X2_gapBelow g z a1 = some r) : CX l yX2_gapBelow wsX2_gapBelow rmX2_gapBelow [.ref (x + sb i z), .int a1] D x μ (some (.int r)) μ := by
  refine CX.of (cc := cX2_gapBelow) (maxL := 3) (ret := (some .int)) pn_X2 rfl (Nat.le_of_ble_eq_true rfl) ?_
  intro p e s m args below meth c F hr hlk hK hG
  have KEY : ∀ n : Nat, (∀ (v2 : Int32) (ls : Array Slot) (H : Heap) (locs : List Loc), lv_has ls 3 [(0, .ref (x + sb i z)), (1, .int a1), (2, .int v2)] → va_P D vwCl (WL D x μ) H → va_S (rng x) s.heap H locs → fl_X2_gapBelow g z a1 n v2 = some r → W p l e rmX2_gapBelow s m args below meth c H locs 0 0 (MQ below (QX D x μ (some (.int r))) args s 0 0 (rng x)) (F0 m 2 ls [])) := by
    intro n
    induction n with
    | zero => exact (fun _ _ _ _ _ _ _ h => nomatch h)
    | succ n ih =>
      skip
      intro v2  ls H locs hl hP hS hf
      have hf : fb_X2_gapBelow_1 g z a1 (fl_X2_gapBelow g z a1 n) v2 = some r := hf
      unfold fb_X2_gapBelow_1 at hf
      refine lv_iload_n F.1 F.2.1 dX2_gapBelow_2 rfl (lv_at hl 2 rfl) ?_
      refine lv_bipush (v := (30 : Int32)) F.1 F.2.1 dX2_gapBelow_3 (by decide) ?_
      refine lv_icmp_ge (tgt := 26) F.1 F.2.1 dX2_gapBelow_5 rfl (fun hc1 => ?_) (fun hc1 => ?_)
      · have hf := ifp hc1 hf
        refine lv_iconst (v := (0 : Int32)) F.1 F.2.1 dX2_gapBelow_26 (by decide) ?_
        obtain rfl := Option.some.inj hf
        exact x_iret F hr hlk hP hS rfl dX2_gapBelow_27
      · have hf := ifn hc1 hf
        refine lv_aload_n F.1 F.2.1 dX2_gapBelow_8 rfl (lv_at hl 0 rfl) ?_
        refine lv_iload_n F.1 F.2.1 dX2_gapBelow_9 rfl (lv_at hl 2 rfl) ?_
        obtain ⟨r2, hr3, hf⟩ := bnd hf
        refine x_callV F hK hG hP hS (o_S hi hz) (kd_S i hi z hz) (ci := 2) (fun _ => rfl) rfl (c_X2_isFrozen hi hz hg v2 hr3) (cwV 1 F.2.2.2.2 gX2_gapBelow_X2_isFrozen rfl rfl rfl ⟨rfl, hd_X2_isFrozen⟩ ⟨(Nat.le_of_ble_eq_true rfl), (Nat.le_of_ble_eq_true rfl)⟩) rfl rfl hl.1 (Nat.le_of_ble_eq_true rfl) dX2_gapBelow_10 ⟨(Nat.le_of_ble_eq_true rfl), (Nat.le_of_ble_eq_true rfl)⟩ (rest := []) (fun H locs hP hS => ?_)
        refine W.eq (g2 := F0 m 13 ls [.int r2]) rfl ?_
        refine lv_if_eq (tgt := 20) F.1 F.2.1 dX2_gapBelow_13 rfl (fun hc4 => ?_) (fun hc4 => ?_)
        · have hf := ifp hc4 hf
          refine lv_iinc (v := (v2 + (1 : Int32))) F.1 F.2.1 dX2_gapBelow_20 hl (k := 2) rfl rfl (Nat.le_of_ble_eq_true rfl) rfl (fun ls hl => ?_)
          have hl : lv_has ls 3 [(2, .int (v2 + (1 : Int32))), (0, .ref (x + sb i z)), (1, .int a1)] := hl
          refine lv_goto (tgt := 2) F.1 F.2.1 dX2_gapBelow_23 rfl ?_
          exact ih (v2 + (1 : Int32)) _ _ _ (lv_sub hl [1, 2, 0] rfl) hP hS hf
        · have hf := ifn hc4 hf
          refine lv_iload_n F.1 F.2.1 dX2_gapBelow_16 rfl (lv_at hl 2 rfl) ?_
          refine lv_iload_n F.1 F.2.1 dX2_gapBelow_17 rfl (lv_at hl 1 rfl) ?_
          refine lv_isub F.1 F.2.1 dX2_gapBelow_18 ?_
          obtain rfl := Option.some.inj hf
          exact x_iret F hr hlk hP hS rfl dX2_gapBelow_19
  intro ls H locs hl hP hS
  have hl : lv_has ls 3 [(0, .ref (x + sb i z)), (1, .int a1)] := hl
  unfold f_X2_gapBelow at hf
  refine lv_iload_n F.1 F.2.1 dX2_gapBelow_0 rfl (lv_at hl 1 rfl) ?_
  refine lv_istore_n F.1 F.2.1 dX2_gapBelow_1 rfl hl (Nat.le_of_ble_eq_true rfl) rfl (fun ls hl => ?_)
  have hl : lv_has ls 3 [(2, .int a1), (0, .ref (x + sb i z)), (1, .int a1)] := hl
  exact (KEY FU) a1 _ _ _ (lv_sub hl [1, 2, 0] rfl) hP hS hf

-- FrostTubes$Site.oldestDay(II)I
def fb_X2_oldestDay_1 (g : Row) (z : Nat) (a1 : Int32) (a2 : Int32) (K : Int32 → Int32 → Option (Int32)) (v3 : Int32) (v4 : Int32) : Option (Int32) := (if a2 ≤ v4 then some v3 else (if (30 : Int32) ≤ v4 then some v3 else ((f_X2_isFrozen g z v4).bind fun r3 => (if r3 = 0 then (K v3 (v4 + (1 : Int32))) else (if oob v4 30 then none else (K (if (g (35 * z + (5 + v4.toNatClampNeg))) < v3 then (g (35 * z + (5 + v4.toNatClampNeg))) else v3) (v4 + (1 : Int32))))))))
def fl_X2_oldestDay (g : Row) (z : Nat) (a1 : Int32) (a2 : Int32) : Nat → Int32 → Int32 → Option (Int32)
  | 0, _, _ => none
  | n + 1, v3, v4 => fb_X2_oldestDay_1 g z a1 a2 (fl_X2_oldestDay g z a1 a2 n) v3 v4
def f_X2_oldestDay (g : Row) (z : Nat) (a1 : Int32) (a2 : Int32) : Option (Int32) := (fl_X2_oldestDay g z a1 a2 FU (9999 : Int32) a1)
def rmX2_oldestDay : Room := { frames := 1, cells := 0, slots := 0, locals := 21 }
theorem hd_X2_oldestDay : yX2_oldestDay.cls ≠ "java/lang/invoke/MethodHandle" ∧ yX2_oldestDay.cls ≠ "java/lang/invoke/VarHandle" ∧ (parseMethodDescriptor yX2_oldestDay.desc).map (fun d => d.parameters.length) = some 2 := by decide +kernel
set_option maxHeartbeats 8000000 in
set_option maxRecDepth 100000 in
theorem c_X2_oldestDay {l : Launch} {D : va_G} {x : Nat} {μ : Mem} {i z : Nat} (hi : i < 19) (hz : z < 4) {g : Row} (hg : μ i = g) (a1 : Int32) (a2 : Int32) {r : Int32} (hf : f_X2_oldestDay g z a1 a2 = some r) : CX l yX2_oldestDay wsX2_oldestDay rmX2_oldestDay [.ref (x + sb i z), .int a1, .int a2] D x μ (some (.int r)) μ := by
  refine CX.of (cc := cX2_oldestDay) (maxL := 5) (ret := (some .int)) pn_X2 rfl (Nat.le_of_ble_eq_true rfl) ?_
  intro p e s m args below meth c F hr hlk hK hG
  have KEY : ∀ n : Nat, (∀ (v3 : Int32) (v4 : Int32) (ls : Array Slot) (H : Heap) (locs : List Loc), lv_has ls 5 [(0, .ref (x + sb i z)), (2, .int a2), (3, .int v3), (4, .int v4)] → va_P D vwCl (WL D x μ) H → va_S (rng x) s.heap H locs → fl_X2_oldestDay g z a1 a2 n v3 v4 = some r → W p l e rmX2_oldestDay s m args below meth c H locs 0 0 (MQ below (QX D x μ (some (.int r))) args s 0 0 (rng x)) (F0 m 7 ls [])) := by
    intro n
    induction n with
    | zero => exact (fun _ _ _ _ _ _ _ _ h => nomatch h)
    | succ n ih =>
      skip
      intro v3 v4  ls H locs hl hP hS hf
      have hf : fb_X2_oldestDay_1 g z a1 a2 (fl_X2_oldestDay g z a1 a2 n) v3 v4 = some r := hf
      unfold fb_X2_oldestDay_1 at hf
      refine lv_iload F.1 F.2.1 dX2_oldestDay_7 (lv_at hl 3 rfl) ?_
      refine lv_iload_n F.1 F.2.1 dX2_oldestDay_9 rfl (lv_at hl 1 rfl) ?_
      refine lv_icmp_ge (tgt := 47) F.1 F.2.1 dX2_oldestDay_10 rfl (fun hc1 => ?_) (fun hc1 => ?_)
      · have hf := ifp hc1 hf
        refine lv_iload_n F.1 F.2.1 dX2_oldestDay_47 rfl (lv_at hl 2 rfl) ?_
        obtain rfl := Option.some.inj hf
        exact x_iret F hr hlk hP hS rfl dX2_oldestDay_48
      · have hf := ifn hc1 hf
        refine lv_iload F.1 F.2.1 dX2_oldestDay_13 (lv_at hl 3 rfl) ?_
        refine lv_bipush (v := (30 : Int32)) F.1 F.2.1 dX2_oldestDay_15 (by decide) ?_
        refine lv_icmp_ge (tgt := 47) F.1 F.2.1 dX2_oldestDay_17 rfl (fun hc2 => ?_) (fun hc2 => ?_)
        · have hf := ifp hc2 hf
          refine lv_iload_n F.1 F.2.1 dX2_oldestDay_47 rfl (lv_at hl 2 rfl) ?_
          obtain rfl := Option.some.inj hf
          exact x_iret F hr hlk hP hS rfl dX2_oldestDay_48
        · have hf := ifn hc2 hf
          refine lv_aload_n F.1 F.2.1 dX2_oldestDay_20 rfl (lv_at hl 0 rfl) ?_
          refine lv_iload F.1 F.2.1 dX2_oldestDay_21 (lv_at hl 3 rfl) ?_
          obtain ⟨r3, hr4, hf⟩ := bnd hf
          refine x_callV F hK hG hP hS (o_S hi hz) (kd_S i hi z hz) (ci := 2) (fun _ => rfl) rfl (c_X2_isFrozen hi hz hg v4 hr4) (cwV 1 F.2.2.2.2 gX2_oldestDay_X2_isFrozen rfl rfl rfl ⟨rfl, hd_X2_isFrozen⟩ ⟨(Nat.le_of_ble_eq_true rfl), (Nat.le_of_ble_eq_true rfl)⟩) rfl rfl hl.1 (Nat.le_of_ble_eq_true rfl) dX2_oldestDay_23 ⟨(Nat.le_of_ble_eq_true rfl), (Nat.le_of_ble_eq_true rfl)⟩ (rest := []) (fun H locs hP hS => ?_)
          refine W.eq (g2 := F0 m 26 ls [.int r3]) rfl ?_
          refine lv_if_eq (tgt := 41) F.1 F.2.1 dX2_oldestDay_26 rfl (fun hc5 => ?_) (fun hc5 => ?_)
          · have hf := ifp hc5 hf
            refine lv_iinc (v := (v4 + (1 : Int32))) F.1 F.2.1 dX2_oldestDay_41 hl (k := 3) rfl rfl (Nat.le_of_ble_eq_true rfl) rfl (fun ls hl => ?_)
            have hl : lv_has ls 5 [(4, .int (v4 + (1 : Int32))), (0, .ref (x + sb i z)), (2, .int a2), (3, .int v3)] := hl
            refine lv_goto (tgt := 7) F.1 F.2.1 dX2_oldestDay_44 rfl ?_
            exact ih v3 (v4 + (1 : Int32)) _ _ _ (lv_sub hl [1, 2, 3, 0] rfl) hP hS hf
          · have hf := ifn hc5 hf
            refine lv_iload_n F.1 F.2.1 dX2_oldestDay_29 rfl (lv_at hl 2 rfl) ?_
            refine lv_aload_n F.1 F.2.1 dX2_oldestDay_30 rfl (lv_at hl 0 rfl) ?_
            refine gR_X2_frozenSince F hK hP hi hz (fun _ h => List.mem_cons_of_mem _ (List.mem_append_right _ h)) (List.mem_of_getElem? (i := 1) rfl) dX2_oldestDay_31 ?_
            refine lv_iload F.1 F.2.1 dX2_oldestDay_34 (lv_at hl 3 rfl) ?_
            obtain ⟨hb6, hf⟩ := ifg hf
            refine lA_SA F hK hP hi hz hg hb6 dX2_oldestDay_36 ?_
            refine va_mmin F.1 F.2.1 (F.2.2.1.trans hl.1.symm) F.2.2.2.1 (F.2.2.2.2 _ (List.mem_of_getElem? (i := 2) rfl)) (F.2.2.2.2 _ (List.mem_of_getElem? (i := 3) rfl)) (F.2.2.2.2 _ (List.mem_of_getElem? (i := 4) rfl)) (F.2.2.2.2 _ (List.mem_of_getElem? (i := 5) rfl)) (Nat.le_of_ble_eq_true rfl) (Nat.le_of_ble_eq_true rfl) (Nat.le_of_ble_eq_true rfl) (Nat.le_of_ble_eq_true rfl) dX2_oldestDay_37 ?_
            refine lv_istore_n F.1 F.2.1 dX2_oldestDay_40 rfl hl (Nat.le_of_ble_eq_true rfl) rfl (fun ls hl => ?_)
            have hl : lv_has ls 5 [(3, .int (if (g (35 * z + (5 + v4.toNatClampNeg))) < v3 then (g (35 * z + (5 + v4.toNatClampNeg))) else v3)), (0, .ref (x + sb i z)), (2, .int a2), (4, .int v4)] := hl
            refine lv_iinc (v := (v4 + (1 : Int32))) F.1 F.2.1 dX2_oldestDay_41 hl (k := 3) rfl rfl (Nat.le_of_ble_eq_true rfl) rfl (fun ls hl => ?_)
            have hl : lv_has ls 5 [(4, .int (v4 + (1 : Int32))), (3, .int (if (g (35 * z + (5 + v4.toNatClampNeg))) < v3 then (g (35 * z + (5 + v4.toNatClampNeg))) else v3)), (0, .ref (x + sb i z)), (2, .int a2)] := hl
            refine lv_goto (tgt := 7) F.1 F.2.1 dX2_oldestDay_44 rfl ?_
            exact ih (if (g (35 * z + (5 + v4.toNatClampNeg))) < v3 then (g (35 * z + (5 + v4.toNatClampNeg))) else v3) (v4 + (1 : Int32)) _ _ _ (lv_sub hl [2, 3, 1, 0] rfl) hP hS hf
  intro ls H locs hl hP hS
  have hl : lv_has ls 5 [(0, .ref (x + sb i z)), (1, .int a1), (2, .int a2)] := hl
  unfold f_X2_oldestDay at hf
  refine lv_sipush (v := (9999 : Int32)) F.1 F.2.1 dX2_oldestDay_0 (by decide) ?_
  refine lv_istore_n F.1 F.2.1 dX2_oldestDay_3 rfl hl (Nat.le_of_ble_eq_true rfl) rfl (fun ls hl => ?_)
  have hl : lv_has ls 5 [(3, .int (9999 : Int32)), (0, .ref (x + sb i z)), (1, .int a1), (2, .int a2)] := hl
  refine lv_iload_n F.1 F.2.1 dX2_oldestDay_4 rfl (lv_at hl 2 rfl) ?_
  refine lv_istore F.1 F.2.1 dX2_oldestDay_5 hl (Nat.le_of_ble_eq_true rfl) rfl (fun ls hl => ?_)
  have hl : lv_has ls 5 [(4, .int a1), (3, .int (9999 : Int32)), (0, .ref (x + sb i z)), (1, .int a1), (2, .int a2)] := hl
  exact (KEY FU) (9999 : Int32) a1 _ _ _ (lv_sub hl [2, 4, 1, 0] rfl) hP hS hf

-- FrostTubes$Site.numberOfLayer(II)I
def f_X2_numberOfLayer (g : Row) (z : Nat) (a1 : Int32) (a2 : Int32) : Option (Int32) := ((f_X2_endOfLayer g z a1).bind fun r1 => (if a2 = (0 : Int32) then some a1 else (if a2 = (1 : Int32) then some (r1 - a1) else (if a2 = (2 : Int32) then ((f_X2_gapBelow g z r1).bind fun r6 => some r6) else ((f_X2_oldestDay g z a1 r1).bind fun r8 => some r8)))))
def rmX2_numberOfLayer : Room := { frames := 2, cells := 0, slots := 0, locals := 45 }
theorem hd_X2_numberOfLayer : yX2_numberOfLayer.cls ≠ "java/lang/invoke/MethodHandle" ∧ yX2_numberOfLayer.cls ≠ "java/lang/invoke/VarHandle" ∧ (parseMethodDescriptor yX2_numberOfLayer.desc).map (fun d => d.parameters.length) = some 2 := by decide +kernel
set_option maxHeartbeats 8000000 in
set_option maxRecDepth 100000 in
theorem c_X2_numberOfLayer {l : Launch} {D : va_G} {x : Nat} {μ : Mem} {i z : Nat} (hi : i < 19) (hz : z < 4) {g : Row} (hg : μ i = g) (a1 : Int32) (a2 : Int32) {r : Int32} (hf : f_X2_numberOfLayer g z a1 a2 = some r) : CX l yX2_numberOfLayer wsX2_numberOfLayer rmX2_numberOfLayer [.ref (x + sb i z), .int a1, .int a2] D x μ (some (.int r)) μ := by
  refine CX.of (cc := cX2_numberOfLayer) (maxL := 4) (ret := (some .int)) pn_X2 rfl (Nat.le_of_ble_eq_true rfl) ?_
  intro p e s m args below meth c F hr hlk hK hG
  intro ls H locs hl hP hS
  have hl : lv_has ls 4 [(0, .ref (x + sb i z)), (1, .int a1), (2, .int a2)] := hl
  unfold f_X2_numberOfLayer at hf
  refine lv_aload_n F.1 F.2.1 dX2_numberOfLayer_0 rfl (lv_at hl 0 rfl) ?_
  refine lv_iload_n F.1 F.2.1 dX2_numberOfLayer_1 rfl (lv_at hl 1 rfl) ?_
  obtain ⟨r1, hr2, hf⟩ := bnd hf
  refine x_callV F hK hG hP hS (o_S hi hz) (kd_S i hi z hz) (ci := 2) (fun _ => rfl) rfl (c_X2_endOfLayer hi hz hg a1 hr2) (cwV 1 F.2.2.2.2 gX2_numberOfLayer_X2_endOfLayer rfl rfl rfl ⟨rfl, hd_X2_endOfLayer⟩ ⟨(Nat.le_of_ble_eq_true rfl), (Nat.le_of_ble_eq_true rfl)⟩) rfl rfl hl.1 (Nat.le_of_ble_eq_true rfl) dX2_numberOfLayer_2 ⟨(Nat.le_of_ble_eq_true rfl), (Nat.le_of_ble_eq_true rfl)⟩ (rest := []) (fun H locs hP hS => ?_)
  refine W.eq (g2 := F0 m 5 ls [.int r1]) rfl ?_
  refine lv_istore_n F.1 F.2.1 dX2_numberOfLayer_5 rfl hl (Nat.le_of_ble_eq_true rfl) rfl (fun ls hl => ?_)
  have hl : lv_has ls 4 [(3, .int r1), (0, .ref (x + sb i z)), (1, .int a1), (2, .int a2)] := hl
  refine lv_iload_n F.1 F.2.1 dX2_numberOfLayer_6 rfl (lv_at hl 3 rfl) ?_
  by_cases hc3 : a2 = (0 : Int32)
  · have hf := ifp hc3 hf
    refine lv_tableIn (off := 25) (tgt := 32) F.1 F.2.1 dX2_numberOfLayer_7 (by rw [hc3]; decide) (by rw [hc3]; decide) (by rw [hc3]; rfl) rfl ?_
    refine lv_iload_n F.1 F.2.1 dX2_numberOfLayer_32 rfl (lv_at hl 2 rfl) ?_
    obtain rfl := Option.some.inj hf
    exact x_iret F hr hlk hP hS rfl dX2_numberOfLayer_33
  have hf := ifn hc3 hf
  by_cases hc4 : a2 = (1 : Int32)
  · have hf := ifp hc4 hf
    refine lv_tableIn (off := 27) (tgt := 34) F.1 F.2.1 dX2_numberOfLayer_7 (by rw [hc4]; decide) (by rw [hc4]; decide) (by rw [hc4]; rfl) rfl ?_
    refine lv_iload_n F.1 F.2.1 dX2_numberOfLayer_34 rfl (lv_at hl 0 rfl) ?_
    refine lv_iload_n F.1 F.2.1 dX2_numberOfLayer_35 rfl (lv_at hl 2 rfl) ?_
    refine lv_isub F.1 F.2.1 dX2_numberOfLayer_36 ?_
    obtain rfl := Option.some.inj hf
    exact x_iret F hr hlk hP hS rfl dX2_numberOfLayer_37
  have hf := ifn hc4 hf
  by_cases hc5 : a2 = (2 : Int32)
  · have hf := ifp hc5 hf
    refine lv_tableIn (off := 31) (tgt := 38) F.1 F.2.1 dX2_numberOfLayer_7 (by rw [hc5]; decide) (by rw [hc5]; decide) (by rw [hc5]; rfl) rfl ?_
    refine lv_aload_n F.1 F.2.1 dX2_numberOfLayer_38 rfl (lv_at hl 1 rfl) ?_
    refine lv_iload_n F.1 F.2.1 dX2_numberOfLayer_39 rfl (lv_at hl 0 rfl) ?_
    obtain ⟨r6, hr7, hf⟩ := bnd hf
    refine x_callV F hK hG hP hS (o_S hi hz) (kd_S i hi z hz) (ci := 2) (fun _ => rfl) rfl (c_X2_gapBelow hi hz hg r1 hr7) (cwV 1 F.2.2.2.2 gX2_numberOfLayer_X2_gapBelow rfl rfl rfl ⟨rfl, hd_X2_gapBelow⟩ ⟨(Nat.le_of_ble_eq_true rfl), (Nat.le_of_ble_eq_true rfl)⟩) rfl rfl hl.1 (Nat.le_of_ble_eq_true rfl) dX2_numberOfLayer_40 ⟨(Nat.le_of_ble_eq_true rfl), (Nat.le_of_ble_eq_true rfl)⟩ (rest := []) (fun H locs hP hS => ?_)
    refine W.eq (g2 := F0 m 43 ls [.int r6]) rfl ?_
    obtain rfl := Option.some.inj hf
    exact x_iret F hr hlk hP hS rfl dX2_numberOfLayer_43
  have hf := ifn hc5 hf
  have hc3i := i32_ne hc3
  have hc4i := i32_ne hc4
  have hc5i := i32_ne hc5
  refine lv_tableOut (tgt := 44) F.1 F.2.1 dX2_numberOfLayer_7 (by have : ((0 : Int32)).toInt = 0 := rfl; have : ((1 : Int32)).toInt = 1 := rfl; have : ((2 : Int32)).toInt = 2 := rfl; omega) rfl ?_
  refine lv_aload_n F.1 F.2.1 dX2_numberOfLayer_44 rfl (lv_at hl 1 rfl) ?_
  refine lv_iload_n F.1 F.2.1 dX2_numberOfLayer_45 rfl (lv_at hl 2 rfl) ?_
  refine lv_iload_n F.1 F.2.1 dX2_numberOfLayer_46 rfl (lv_at hl 0 rfl) ?_
  obtain ⟨r8, hr9, hf⟩ := bnd hf
  refine x_callV F hK hG hP hS (o_S hi hz) (kd_S i hi z hz) (ci := 2) (fun _ => rfl) rfl (c_X2_oldestDay hi hz hg a1 r1 hr9) (cwV 2 F.2.2.2.2 gX2_numberOfLayer_X2_oldestDay rfl rfl rfl ⟨rfl, hd_X2_oldestDay⟩ ⟨(Nat.le_of_ble_eq_true rfl), (Nat.le_of_ble_eq_true rfl)⟩) rfl rfl hl.1 (Nat.le_of_ble_eq_true rfl) dX2_numberOfLayer_47 ⟨(Nat.le_of_ble_eq_true rfl), (Nat.le_of_ble_eq_true rfl)⟩ (rest := []) (fun H locs hP hS => ?_)
  refine W.eq (g2 := F0 m 50 ls [.int r8]) rfl ?_
  obtain rfl := Option.some.inj hf
  exact x_iret F hr hlk hP hS rfl dX2_numberOfLayer_50

-- FrostTubes$Site.numberOf(I)I
def f_X2_numberOf (g : Row) (z : Nat) (a1 : Int32) : Option (Int32) := (if a1 = (0 : Int32) then some (g (35 * z + 0)) else (if a1 = (1 : Int32) then some (g (35 * z + 1)) else (if a1 = (2 : Int32) then some (g (35 * z + 2)) else (if a1 = (3 : Int32) then some (g (35 * z + 3)) else (if a1 = (4 : Int32) then some (g (35 * z + 4)) else (if a1 = (5 : Int32) then ((f_X2_frozenWithin g z (30 : Int32)).bind fun r7 => some r7) else (if a1 = (6 : Int32) then ((f_X2_layersWithin g z (30 : Int32)).bind fun r10 => some r10) else (if a1 = (7 : Int32) then ((f_X2_lowestWithin g z (30 : Int32)).bind fun r13 => some r13) else ((f_X2_isFrozen g z (0 : Int32)).bind fun r15 => (if r15 = 0 then some (0 : Int32) else some (1 : Int32)))))))))))
def rmX2_numberOf : Room := { frames := 3, cells := 0, slots := 0, locals := 65 }
theorem hd_X2_numberOf : yX2_numberOf.cls ≠ "java/lang/invoke/MethodHandle" ∧ yX2_numberOf.cls ≠ "java/lang/invoke/VarHandle" ∧ (parseMethodDescriptor yX2_numberOf.desc).map (fun d => d.parameters.length) = some 1 := by decide +kernel
set_option maxHeartbeats 8000000 in
set_option maxRecDepth 100000 in
theorem c_X2_numberOf {l : Launch} {D : va_G} {x : Nat} {μ : Mem} {i z : Nat} (hi : i < 19) (hz : z < 4) {g : Row} (hg : μ i = g) (a1 : Int32) {r : Int32} (hf : f_X2_numberOf g z a1 = some r) : CX l yX2_numberOf wsX2_numberOf rmX2_numberOf [.ref (x + sb i z), .int a1] D x μ (some (.int r)) μ := by
  refine CX.of (cc := cX2_numberOf) (maxL := 2) (ret := (some .int)) pn_X2 rfl (Nat.le_of_ble_eq_true rfl) ?_
  intro p e s m args below meth c F hr hlk hK hG
  intro ls H locs hl hP hS
  have hl : lv_has ls 2 [(0, .ref (x + sb i z)), (1, .int a1)] := hl
  unfold f_X2_numberOf at hf
  refine lv_iload_n F.1 F.2.1 dX2_numberOf_0 rfl (lv_at hl 1 rfl) ?_
  by_cases hc1 : a1 = (0 : Int32)
  · have hf := ifp hc1 hf
    refine lv_tableIn (off := 47) (tgt := 48) F.1 F.2.1 dX2_numberOf_1 (by rw [hc1]; decide) (by rw [hc1]; decide) (by rw [hc1]; rfl) rfl ?_
    refine lv_aload_n F.1 F.2.1 dX2_numberOf_48 rfl (lv_at hl 0 rfl) ?_
    refine gI_X2_snow F hK hP hi hz hg (fun _ h => List.mem_cons_of_mem _ (List.mem_append_right _ h)) (List.mem_of_getElem? (i := 1) rfl) dX2_numberOf_49 ?_
    obtain rfl := Option.some.inj hf
    exact x_iret F hr hlk hP hS rfl dX2_numberOf_52
  have hf := ifn hc1 hf
  by_cases hc2 : a1 = (1 : Int32)
  · have hf := ifp hc2 hf
    refine lv_tableIn (off := 52) (tgt := 53) F.1 F.2.1 dX2_numberOf_1 (by rw [hc2]; decide) (by rw [hc2]; decide) (by rw [hc2]; rfl) rfl ?_
    refine lv_aload_n F.1 F.2.1 dX2_numberOf_53 rfl (lv_at hl 0 rfl) ?_
    refine gI_X2_fenceHeight F hK hP hi hz hg (fun _ h => List.mem_cons_of_mem _ (List.mem_append_right _ h)) (List.mem_of_getElem? (i := 2) rfl) dX2_numberOf_54 ?_
    obtain rfl := Option.some.inj hf
    exact x_iret F hr hlk hP hS rfl dX2_numberOf_57
  have hf := ifn hc2 hf
  by_cases hc3 : a1 = (2 : Int32)
  · have hf := ifp hc3 hf
    refine lv_tableIn (off := 57) (tgt := 58) F.1 F.2.1 dX2_numberOf_1 (by rw [hc3]; decide) (by rw [hc3]; decide) (by rw [hc3]; rfl) rfl ?_
    refine lv_aload_n F.1 F.2.1 dX2_numberOf_58 rfl (lv_at hl 0 rfl) ?_
    refine gI_X2_cold F hK hP hi hz hg (fun _ h => List.mem_cons_of_mem _ (List.mem_append_right _ h)) (List.mem_of_getElem? (i := 3) rfl) dX2_numberOf_59 ?_
    obtain rfl := Option.some.inj hf
    exact x_iret F hr hlk hP hS rfl dX2_numberOf_62
  have hf := ifn hc3 hf
  by_cases hc4 : a1 = (3 : Int32)
  · have hf := ifp hc4 hf
    refine lv_tableIn (off := 62) (tgt := 63) F.1 F.2.1 dX2_numberOf_1 (by rw [hc4]; decide) (by rw [hc4]; decide) (by rw [hc4]; rfl) rfl ?_
    refine lv_aload_n F.1 F.2.1 dX2_numberOf_63 rfl (lv_at hl 0 rfl) ?_
    refine gI_X2_warmth F hK hP hi hz hg (fun _ h => List.mem_cons_of_mem _ (List.mem_append_right _ h)) (List.mem_of_getElem? (i := 4) rfl) dX2_numberOf_64 ?_
    obtain rfl := Option.some.inj hf
    exact x_iret F hr hlk hP hS rfl dX2_numberOf_67
  have hf := ifn hc4 hf
  by_cases hc5 : a1 = (4 : Int32)
  · have hf := ifp hc5 hf
    refine lv_tableIn (off := 67) (tgt := 68) F.1 F.2.1 dX2_numberOf_1 (by rw [hc5]; decide) (by rw [hc5]; decide) (by rw [hc5]; rfl) rfl ?_
    refine lv_aload_n F.1 F.2.1 dX2_numberOf_68 rfl (lv_at hl 0 rfl) ?_
    refine gI_X2_coldSum F hK hP hi hz hg (fun _ h => List.mem_cons_of_mem _ (List.mem_append_right _ h)) (List.mem_of_getElem? (i := 5) rfl) dX2_numberOf_69 ?_
    obtain rfl := Option.some.inj hf
    exact x_iret F hr hlk hP hS rfl dX2_numberOf_72
  have hf := ifn hc5 hf
  by_cases hc6 : a1 = (5 : Int32)
  · have hf := ifp hc6 hf
    refine lv_tableIn (off := 72) (tgt := 73) F.1 F.2.1 dX2_numberOf_1 (by rw [hc6]; decide) (by rw [hc6]; decide) (by rw [hc6]; rfl) rfl ?_
    refine lv_aload_n F.1 F.2.1 dX2_numberOf_73 rfl (lv_at hl 0 rfl) ?_
    refine lv_bipush (v := (30 : Int32)) F.1 F.2.1 dX2_numberOf_74 (by decide) ?_
    obtain ⟨r7, hr8, hf⟩ := bnd hf
    refine x_callV F hK hG hP hS (o_S hi hz) (kd_S i hi z hz) (ci := 2) (fun _ => rfl) rfl (c_X2_frozenWithin hi hz hg (30 : Int32) hr8) (cwV 1 F.2.2.2.2 gX2_numberOf_X2_frozenWithin rfl rfl rfl ⟨rfl, hd_X2_frozenWithin⟩ ⟨(Nat.le_of_ble_eq_true rfl), (Nat.le_of_ble_eq_true rfl)⟩) rfl rfl hl.1 (Nat.le_of_ble_eq_true rfl) dX2_numberOf_76 ⟨(Nat.le_of_ble_eq_true rfl), (Nat.le_of_ble_eq_true rfl)⟩ (rest := []) (fun H locs hP hS => ?_)
    refine W.eq (g2 := F0 m 79 ls [.int r7]) rfl ?_
    obtain rfl := Option.some.inj hf
    exact x_iret F hr hlk hP hS rfl dX2_numberOf_79
  have hf := ifn hc6 hf
  by_cases hc9 : a1 = (6 : Int32)
  · have hf := ifp hc9 hf
    refine lv_tableIn (off := 79) (tgt := 80) F.1 F.2.1 dX2_numberOf_1 (by rw [hc9]; decide) (by rw [hc9]; decide) (by rw [hc9]; rfl) rfl ?_
    refine lv_aload_n F.1 F.2.1 dX2_numberOf_80 rfl (lv_at hl 0 rfl) ?_
    refine lv_bipush (v := (30 : Int32)) F.1 F.2.1 dX2_numberOf_81 (by decide) ?_
    obtain ⟨r10, hr11, hf⟩ := bnd hf
    refine x_callV F hK hG hP hS (o_S hi hz) (kd_S i hi z hz) (ci := 2) (fun _ => rfl) rfl (c_X2_layersWithin hi hz hg (30 : Int32) hr11) (cwV 1 F.2.2.2.2 gX2_numberOf_X2_layersWithin rfl rfl rfl ⟨rfl, hd_X2_layersWithin⟩ ⟨(Nat.le_of_ble_eq_true rfl), (Nat.le_of_ble_eq_true rfl)⟩) rfl rfl hl.1 (Nat.le_of_ble_eq_true rfl) dX2_numberOf_83 ⟨(Nat.le_of_ble_eq_true rfl), (Nat.le_of_ble_eq_true rfl)⟩ (rest := []) (fun H locs hP hS => ?_)
    refine W.eq (g2 := F0 m 86 ls [.int r10]) rfl ?_
    obtain rfl := Option.some.inj hf
    exact x_iret F hr hlk hP hS rfl dX2_numberOf_86
  have hf := ifn hc9 hf
  by_cases hc12 : a1 = (7 : Int32)
  · have hf := ifp hc12 hf
    refine lv_tableIn (off := 86) (tgt := 87) F.1 F.2.1 dX2_numberOf_1 (by rw [hc12]; decide) (by rw [hc12]; decide) (by rw [hc12]; rfl) rfl ?_
    refine lv_aload_n F.1 F.2.1 dX2_numberOf_87 rfl (lv_at hl 0 rfl) ?_
    refine lv_bipush (v := (30 : Int32)) F.1 F.2.1 dX2_numberOf_88 (by decide) ?_
    obtain ⟨r13, hr14, hf⟩ := bnd hf
    refine x_callV F hK hG hP hS (o_S hi hz) (kd_S i hi z hz) (ci := 2) (fun _ => rfl) rfl (c_X2_lowestWithin hi hz hg (30 : Int32) hr14) (cwV 1 F.2.2.2.2 gX2_numberOf_X2_lowestWithin rfl rfl rfl ⟨rfl, hd_X2_lowestWithin⟩ ⟨(Nat.le_of_ble_eq_true rfl), (Nat.le_of_ble_eq_true rfl)⟩) rfl rfl hl.1 (Nat.le_of_ble_eq_true rfl) dX2_numberOf_90 ⟨(Nat.le_of_ble_eq_true rfl), (Nat.le_of_ble_eq_true rfl)⟩ (rest := []) (fun H locs hP hS => ?_)
    refine W.eq (g2 := F0 m 93 ls [.int r13]) rfl ?_
    obtain rfl := Option.some.inj hf
    exact x_iret F hr hlk hP hS rfl dX2_numberOf_93
  have hf := ifn hc12 hf
  have hc1i := i32_ne hc1
  have hc2i := i32_ne hc2
  have hc3i := i32_ne hc3
  have hc4i := i32_ne hc4
  have hc5i := i32_ne hc5
  have hc6i := i32_ne hc6
  have hc9i := i32_ne hc9
  have hc12i := i32_ne hc12
  refine lv_tableOut (tgt := 94) F.1 F.2.1 dX2_numberOf_1 (by have : ((0 : Int32)).toInt = 0 := rfl; have : ((1 : Int32)).toInt = 1 := rfl; have : ((2 : Int32)).toInt = 2 := rfl; have : ((3 : Int32)).toInt = 3 := rfl; have : ((4 : Int32)).toInt = 4 := rfl; have : ((5 : Int32)).toInt = 5 := rfl; have : ((6 : Int32)).toInt = 6 := rfl; have : ((7 : Int32)).toInt = 7 := rfl; omega) rfl ?_
  refine lv_aload_n F.1 F.2.1 dX2_numberOf_94 rfl (lv_at hl 0 rfl) ?_
  refine lv_iconst (v := (0 : Int32)) F.1 F.2.1 dX2_numberOf_95 (by decide) ?_
  obtain ⟨r15, hr16, hf⟩ := bnd hf
  refine x_callV F hK hG hP hS (o_S hi hz) (kd_S i hi z hz) (ci := 2) (fun _ => rfl) rfl (c_X2_isFrozen hi hz hg (0 : Int32) hr16) (cwV 1 F.2.2.2.2 gX2_numberOf_X2_isFrozen rfl rfl rfl ⟨rfl, hd_X2_isFrozen⟩ ⟨(Nat.le_of_ble_eq_true rfl), (Nat.le_of_ble_eq_true rfl)⟩) rfl rfl hl.1 (Nat.le_of_ble_eq_true rfl) dX2_numberOf_96 ⟨(Nat.le_of_ble_eq_true rfl), (Nat.le_of_ble_eq_true rfl)⟩ (rest := []) (fun H locs hP hS => ?_)
  refine W.eq (g2 := F0 m 99 ls [.int r15]) rfl ?_
  refine lv_if_eq (tgt := 106) F.1 F.2.1 dX2_numberOf_99 rfl (fun hc17 => ?_) (fun hc17 => ?_)
  · have hf := ifp hc17 hf
    refine lv_iconst (v := (0 : Int32)) F.1 F.2.1 dX2_numberOf_106 (by decide) ?_
    obtain rfl := Option.some.inj hf
    exact x_iret F hr hlk hP hS rfl dX2_numberOf_107
  · have hf := ifn hc17 hf
    refine lv_iconst (v := (1 : Int32)) F.1 F.2.1 dX2_numberOf_102 (by decide) ?_
    refine lv_goto (tgt := 107) F.1 F.2.1 dX2_numberOf_103 rfl ?_
    obtain rfl := Option.some.inj hf
    exact x_iret F hr hlk hP hS rfl dX2_numberOf_107
