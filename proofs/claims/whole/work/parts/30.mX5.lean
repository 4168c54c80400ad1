-- FrostTubesModel.thrown()I
def f_X5_thrown (ν : Mem) : Option (Int32) := some ((ν 0) 0)
def rmX5_thrown : Room := { frames := 0, cells := 0, slots := 0, locals := 0 }
theorem hd_X5_thrown : yX5_thrown.cls ≠ "java/lang/invoke/MethodHandle" ∧ yX5_thrown.cls ≠ "java/lang/invoke/VarHandle" ∧ (parseMethodDescriptor yX5_thrown.desc).map (fun d => d.parameters.length) = some 0 := by decide +kernel
set_option maxHeartbeats 8000000 in
set_option maxRecDepth 100000 in
theorem c_X5_thrown {l : Launch} {D : va_G} {y : Nat} {ν : Mem} {r : Int32} (hf : f_X5_thrown ν = some r) : CM l yX5_thrown wsX5_thrown rmX5_thrown [.ref (y)] D y ν (some (.int r)) ν := by
  refine CM.of (cc := cX5_thrown) (maxL := 1) (ret := (some .int)) pn_X5 rfl (Nat.le_of_ble_eq_true rfl) ?_
  intro p e s m args below meth c F hr hlk hK
  intro ls H locs hl hP hS
  have hl : lv_has ls 1 [(0, .ref (y))] := hl
  unfold f_X5_thrown at hf
  refine lv_aload_n F.1 F.2.1 dX5_thrown_0 rfl (lv_at hl 0 rfl) ?_
  refine m_getI F hK hP rfl (fun _ h => List.mem_cons_of_mem _ (List.mem_append_right _ h)) 0 (Nat.le_of_ble_eq_true rfl) (List.mem_of_getElem? (i := 1) rfl) rfl (fun _ => rfl) dX5_thrown_1 ?_
  obtain rfl := Option.some.inj hf
  exact m_iret F hr hlk hP hS rfl dX5_thrown_4

-- FrostTubesModel.refused(I)Z
def f_X5_refused (ν : Mem) (a1 : Int32) : Option (Int32 × Mem) := (if a1 = 0 then some ((0 : Int32), (va_up ν 0 (upd (ν 0) 0 a1))) else some ((1 : Int32), (va_up ν 0 (upd (ν 0) 0 a1))))
def rmX5_refused : Room := { frames := 0, cells := 0, slots := 0, locals := 0 }
theorem hd_X5_refused : yX5_refused.cls ≠ "java/lang/invoke/MethodHandle" ∧ yX5_refused.cls ≠ "java/lang/invoke/VarHandle" ∧ (parseMethodDescriptor yX5_refused.desc).map (fun d => d.parameters.length) = some 1 := by decide +kernel
set_option maxHeartbeats 8000000 in
set_option maxRecDepth 100000 in
theorem c_X5_refused {l : Launch} {D : va_G} {y : Nat} {ν : Mem} (a1 : Int32) {r : Int32 × Mem} (hf : f_X5_refused ν a1 = some r) : CM l yX5_refused wsX5_refused rmX5_refused [.ref (y), .int a1] D y ν (some (.int r.1)) r.2 := by
  refine CM.of (cc := cX5_refused) (maxL := 2) (ret := (some .boolean)) pn_X5 rfl (Nat.le_of_ble_eq_true rfl) ?_
  intro p e s m args below meth c F hr hlk hK
  intro ls H locs hl hP hS
  have hl : lv_has ls 2 [(0, .ref (y)), (1, .int a1)] := hl
  unfold f_X5_refused at hf
  refine lv_aload_n F.1 F.2.1 dX5_refused_0 rfl (lv_at hl 0 rfl) ?_
  refine lv_iload_n F.1 F.2.1 dX5_refused_1 rfl (lv_at hl 1 rfl) ?_
  have hP := m_up 0 hP
  refine m_putI F hK hP hS (fun _ h => List.mem_cons_of_mem _ (List.mem_append_right _ h)) 0 (Nat.le_of_ble_eq_true rfl) (List.mem_of_getElem? (i := 1) rfl) rfl rfl (ty := .int) rfl rfl rfl (fun _ _ => rfl) dX5_refused_2 (fun H locs hP hS => ?_)
  refine lv_iload_n F.1 F.2.1 dX5_refused_5 rfl (lv_at hl 1 rfl) ?_
  refine lv_if_eq (tgt := 13) F.1 F.2.1 dX5_refused_6 rfl (fun hc1 => ?_) (fun hc1 => ?_)
  · have hf := ifp hc1 hf
    refine lv_iconst (v := (0 : Int32)) F.1 F.2.1 dX5_refused_13 (by decide) ?_
    obtain rfl := Option.some.inj hf
    exact m_zret F hr hlk hP hS rfl (b01_v (v := (0 : Int32)) (Or.inl rfl)) dX5_refused_14
  · have hf := ifn hc1 hf
    refine lv_iconst (v := (1 : Int32)) F.1 F.2.1 dX5_refused_9 (by decide) ?_
    refine lv_goto (tgt := 14) F.1 F.2.1 dX5_refused_10 rfl ?_
    obtain rfl := Option.some.inj hf
    exact m_zret F hr hlk hP hS rfl (b01_v (v := (1 : Int32)) (Or.inr rfl)) dX5_refused_14

-- FrostTubesModel.in(JJJ)Z
def f_X5_in (a0 : Int64) (a2 : Int64) (a4 : Int64) : Option (Int32) := (if (lg_cmp a0 a2) < 0 then some (0 : Int32) else (if 0 < (lg_cmp a0 a4) then some (0 : Int32) else some (1 : Int32)))
def rmX5_in : Room := { frames := 0, cells := 0, slots := 0, locals := 0 }
theorem hd_X5_in : yX5_in.cls ≠ "java/lang/invoke/MethodHandle" ∧ yX5_in.cls ≠ "java/lang/invoke/VarHandle" ∧ (parseMethodDescriptor yX5_in.desc).map (fun d => d.parameters.length) = some 3 := by decide +kernel
set_option maxHeartbeats 8000000 in
set_option maxRecDepth 100000 in
theorem c_X5_in {l : Launch} {D : va_G} {y : Nat} {ν : Mem} (a0 : Int64) (a2 : Int64) (a4 : Int64) {r : Int32} (hf : f_X5_in a0 a2 a4 = some r) : CM l yX5_in wsX5_in rmX5_in [.long a0, .long a2, .long a4] D y ν (some (.int r)) ν := by
  refine CM.of (cc := cX5_in) (maxL := 6) (ret := (some .boolean)) pn_X5 rfl (Nat.le_of_ble_eq_true rfl) ?_
  intro p e s m args below meth c F hr hlk hK
  intro ls H locs hl hP hS
  have hl : lv_has ls 6 [(0, .long a0), (2, .long a2), (4, .long a4)] := hl
  unfold f_X5_in at hf
  refine lv_lload_n F.1 F.2.1 dX5_in_0 rfl (lv_at hl 0 rfl) ?_
  refine lv_lload_n F.1 F.2.1 dX5_in_1 rfl (lv_at hl 1 rfl) ?_
  refine W.lcmp F.1 F.2.1 dX5_in_2 ?_
  refine lv_if_lt (tgt := 17) F.1 F.2.1 dX5_in_3 rfl (fun hc1 => ?_) (fun hc1 => ?_)
  · have hf := ifp hc1 hf
    refine lv_iconst (v := (0 : Int32)) F.1 F.2.1 dX5_in_17 (by decide) ?_
    obtain rfl := Option.some.inj hf
    exact m_zret F hr hlk hP hS rfl (b01_v (v := (0 : Int32)) (Or.inl rfl)) dX5_in_18
  · have hf := ifn hc1 hf
    refine lv_lload_n F.1 F.2.1 dX5_in_6 rfl (lv_at hl 0 rfl) ?_
    refine lv_lload F.1 F.2.1 dX5_in_7 (lv_at hl 2 rfl) ?_
    refine W.lcmp F.1 F.2.1 dX5_in_9 ?_
    refine lv_if_gt (tgt := 17) F.1 F.2.1 dX5_in_10 rfl (fun hc2 => ?_) (fun hc2 => ?_)
    · have hf := ifp hc2 hf
      refine lv_iconst (v := (0 : Int32)) F.1 F.2.1 dX5_in_17 (by decide) ?_
      obtain rfl := Option.some.inj hf
      exact m_zret F hr hlk hP hS rfl (b01_v (v := (0 : Int32)) (Or.inl rfl)) dX5_in_18
    · have hf := ifn hc2 hf
      refine lv_iconst (v := (1 : Int32)) F.1 F.2.1 dX5_in_13 (by decide) ?_
      refine lv_goto (tgt := 18) F.1 F.2.1 dX5_in_14 rfl ?_
      obtain rfl := Option.some.inj hf
      exact m_zret F hr hlk hP hS rfl (b01_v (v := (1 : Int32)) (Or.inr rfl)) dX5_in_18

-- FrostTubesModel.tens(I)J
def fb_X5_tens_1 (a0 : Int32) (K : Int64 → Int32 → Option (Int64)) (v1 : Int64) (v3 : Int32) : Option (Int64) := (if a0 ≤ v3 then some v1 else (K (v1 * (10 : Int64)) (v3 + (1 : Int32))))
def fl_X5_tens (a0 : Int32) : Nat → Int64 → Int32 → Option (Int64)
  | 0, _, _ => none
  | n + 1, v1, v3 => fb_X5_tens_1 a0 (fl_X5_tens a0 n) v1 v3
def f_X5_tens (a0 : Int32) : Option (Int64) := (fl_X5_tens a0 FU (1 : Int64) (0 : Int32))
def rmX5_tens : Room := { frames := 0, cells := 0, slots := 0, locals := 0 }
theorem hd_X5_tens : yX5_tens.cls ≠ "java/lang/invoke/MethodHandle" ∧ yX5_tens.cls ≠ "java/lang/invoke/VarHandle" ∧ (parseMethodDescriptor yX5_tens.desc).map (fun d => d.parameters.length) = some 1 := by decide +kernel
set_option maxHeartbeats 8000000 in
set_option maxRecDepth 100000 in
theorem c_X5_tens {l : Launch} {D : va_G} {y : Nat} {ν : Mem} (a0 : Int32) {r : Int64} (hf : f_X5_tens a0 = some r) : CM l yX5_tens wsX5_tens rmX5_tens [.int a0] D y ν (some (.long r)) ν := by
  refine CM.of (cc := cX5_tens) (maxL := 4) (ret := (some .long)) pn_X5 rfl (Nat.le_of_ble_eq_true rfl) ?_
  intro p e s m args below meth c F hr hlk hK
  have KEY : ∀ n : Nat, (∀ (v1 : Int64) (v3 : Int32) (ls : Array Slot) (H : Heap) (locs : List Loc), lv_has ls 4 [(0, .int a0), (1, .long v1), (3, .int v3)] → va_P D vwCl (WM D y ν) H → va_S (rngM y) s.heap H locs → fl_X5_tens a0 n v1 v3 = some r → W p l e rmX5_tens s m args below meth c H locs 0 0 (MQ below (QM D y ν (some (.long r))) args s 0 0 (rngM y)) (F0 m 4 ls [])) := by
    intro n
    induction n with
    | zero => exact (fun _ _ _ _ _ _ _ _ h => nomatch h)
    | succ n ih =>
      skip
      intro v1 v3  ls H locs hl hP hS hf
      have hf : fb_X5_tens_1 a0 (fl_X5_tens a0 n) v1 v3 = some r := hf
      unfold fb_X5_tens_1 at hf
      refine lv_iload_n F.1 F.2.1 dX5_tens_4 rfl (lv_at hl 2 rfl) ?_
      refine lv_iload_n F.1 F.2.1 dX5_tens_5 rfl (lv_at hl 0 rfl) ?_
      refine lv_icmp_ge (tgt := 21) F.1 F.2.1 dX5_tens_6 rfl (fun hc1 => ?_) (fun hc1 => ?_)
      · have hf := ifp hc1 hf
        refine lv_lload_n F.1 F.2.1 dX5_tens_21 rfl (lv_at hl 1 rfl) ?_
        obtain rfl := Option.some.inj hf
        exact m_lret F hr hlk hP hS rfl dX5_tens_22
      · have hf := ifn hc1 hf
        refine lv_lload_n F.1 F.2.1 dX5_tens_9 rfl (lv_at hl 1 rfl) ?_
        refine lv_ldc2 (v := (10 : Int64)) F.1 F.2.1 F.2.2.2.1 (F.2.2.2.2 _ (List.mem_of_getElem? (i := 1) rfl)) dX5_tens_10 ?_
        refine lv_lmul F.1 F.2.1 dX5_tens_13 ?_
        refine lv_lstore_n F.1 F.2.1 dX5_tens_14 rfl hl (Nat.le_of_ble_eq_true rfl) rfl (fun ls hl => ?_)
        have hl : lv_has ls 4 [(1, .long (v1 * (10 : Int64))), (0, .int a0), (3, .int v3)] := hl
        refine lv_iinc (v := (v3 + (1 : Int32))) F.1 F.2.1 dX5_tens_15 hl (k := 2) rfl rfl (Nat.le_of_ble_eq_true rfl) rfl (fun ls hl => ?_)
        have hl : lv_has ls 4 [(3, .int (v3 + (1 : Int32))), (1, .long (v1 * (10 : Int64))), (0, .int a0)] := hl
        refine lv_goto (tgt := 4) F.1 F.2.1 dX5_tens_18 rfl ?_
        exact ih (v1 * (10 : Int64)) (v3 + (1 : Int32)) _ _ _ (lv_sub hl [2, 1, 0] rfl) hP hS hf
  intro ls H locs hl hP hS
  have hl : lv_has ls 4 [(0, .int a0)] := hl
  unfold f_X5_tens at hf
  refine lv_lconst (v := (1 : Int64)) F.1 F.2.1 dX5_tens_0 rfl ?_
  refine lv_lstore_n F.1 F.2.1 dX5_tens_1 rfl hl (Nat.le_of_ble_eq_true rfl) rfl (fun ls hl => ?_)
  have hl : lv_has ls 4 [(1, .long (1 : Int64)), (0, .int a0)] := hl
  refine lv_iconst (v := (0 : Int32)) F.1 F.2.1 dX5_tens_2 (by decide) ?_
  refine lv_istore_n F.1 F.2.1 dX5_tens_3 rfl hl (Nat.le_of_ble_eq_true rfl) rfl (fun ls hl => ?_)
  have hl : lv_has ls 4 [(3, .int (0 : Int32)), (1, .long (1 : Int64)), (0, .int a0)] := hl
  exact (KEY FU) (1 : Int64) (0 : Int32) _ _ _ (lv_sub hl [2, 1, 0] rfl) hP hS hf

-- FrostTubesModel.min(II)I
def f_X5_min (a0 : Int32) (a1 : Int32) : Option (Int32) := (if a1 ≤ a0 then some a1 else some a0)
def rmX5_min : Room := { frames := 0, cells := 0, slots := 0, locals := 0 }
theorem hd_X5_min : yX5_min.cls ≠ "java/lang/invoke/MethodHandle" ∧ yX5_min.cls ≠ "java/lang/invoke/VarHandle" ∧ (parseMethodDescriptor yX5_min.desc).map (fun d => d.parameters.length) = some 2 := by decide +kernel
set_option maxHeartbeats 8000000 in
set_option maxRecDepth 100000 in
theorem c_X5_min {l : Launch} {D : va_G} {y : Nat} {ν : Mem} (a0 : Int32) (a1 : Int32) {r : Int32} (hf : f_X5_min a0 a1 = some r) : CM l yX5_min wsX5_min rmX5_min [.int a0, .int a1] D y ν (some (.int r)) ν := by
  refine CM.of (cc := cX5_min) (maxL := 2) (ret := (some .int)) pn_X5 rfl (Nat.le_of_ble_eq_true rfl) ?_
  intro p e s m args below meth c F hr hlk hK
  intro ls H locs hl hP hS
  have hl : lv_has ls 2 [(0, .int a0), (1, .int a1)] := hl
  unfold f_X5_min at hf
  refine lv_iload_n F.1 F.2.1 dX5_min_0 rfl (lv_at hl 0 rfl) ?_
  refine lv_iload_n F.1 F.2.1 dX5_min_1 rfl (lv_at hl 1 rfl) ?_
  refine lv_icmp_ge (tgt := 9) F.1 F.2.1 dX5_min_2 rfl (fun hc1 => ?_) (fun hc1 => ?_)
  · have hf := ifp hc1 hf
    refine lv_iload_n F.1 F.2.1 dX5_min_9 rfl (lv_at hl 1 rfl) ?_
    obtain rfl := Option.some.inj hf
    exact m_iret F hr hlk hP hS rfl dX5_min_10
  · have hf := ifn hc1 hf
    refine lv_iload_n F.1 F.2.1 dX5_min_5 rfl (lv_at hl 0 rfl) ?_
    refine lv_goto (tgt := 10) F.1 F.2.1 dX5_min_6 rfl ?_
    obtain rfl := Option.some.inj hf
    exact m_iret F hr hlk hP hS rfl dX5_min_10

-- FrostTubesModel.fresh([I)V
def fb_X5_fresh_1  (K : Row → Int32 → Option (Row)) (g : Row) (v1 : Int32) : Option (Row) := (if (205 : Int32) ≤ v1 then some (upd (upd (upd g ((202 : Int32).toNatClampNeg) (5 : Int32)) ((203 : Int32).toNatClampNeg) (2 : Int32)) ((204 : Int32).toNatClampNeg) (10 : Int32)) else (if oob v1 205 then none else (K (upd g v1.toNatClampNeg (0 : Int32)) (v1 + (1 : Int32)))))
def fl_X5_fresh  : Nat → Row → Int32 → Option (Row)
  | 0, _, _ => none
  | n + 1, g, v1 => fb_X5_fresh_1  (fl_X5_fresh  n) g v1
def f_X5_fresh (g : Row) : Option (Row) := (fl_X5_fresh  FU g (0 : Int32))
def rmX5_fresh : Room := { frames := 0, cells := 0, slots := 0, locals := 0 }
theorem hd_X5_fresh : yX5_fresh.cls ≠ "java/lang/invoke/MethodHandle" ∧ yX5_fresh.cls ≠ "java/lang/invoke/VarHandle" ∧ (parseMethodDescriptor yX5_fresh.desc).map (fun d => d.parameters.length) = some 1 := by decide +kernel
set_option maxHeartbeats 8000000 in
set_option maxRecDepth 100000 in
theorem c_X5_fresh {l : Launch} {D : va_G} {y : Nat} {ν : Mem} {ρ : Nat} (h1 : 1 ≤ ρ) (h3 : ρ ≤ 3) {g : Row} {r : Row} (hf : f_X5_fresh g = some r) : CM l yX5_fresh wsX5_fresh rmX5_fresh [.ref (y + ρ)] D y (va_up ν ρ g) (none) (va_up ν ρ r) := by
  refine CM.of (cc := cX5_fresh) (maxL := 2) (ret := none) pn_X5 rfl (Nat.le_of_ble_eq_true rfl) ?_
  intro p e s m args below meth c F hr hlk hK
  have KEY : ∀ n : Nat, (∀ (g : Row) (v1 : Int32) (ls : Array Slot) (H : Heap) (locs : List Loc), lv_has ls 2 [(0, .ref (y + ρ)), (1, .int v1)] → va_P D vwCl (WM D y (va_up ν ρ g)) H → va_S (rngM y) s.heap H locs → fl_X5_fresh  n g v1 = some r → W p l e rmX5_fresh s m args below meth c H locs 0 0 (MQ below (QM D y (va_up ν ρ r) (none)) args s 0 0 (rngM y)) (F0 m 2 ls [])) := by
    intro n
    induction n with
    | zero => exact (fun _ _ _ _ _ _ _ _ h => nomatch h)
    | succ n ih =>
      skip
      intro g v1  ls H locs hl hP hS hf
      have hf : fb_X5_fresh_1  (fl_X5_fresh  n) g v1 = some r := hf
      unfold fb_X5_fresh_1 at hf
      refine lv_iload_n F.1 F.2.1 dX5_fresh_2 rfl (lv_at hl 1 rfl) ?_
      refine lv_sipush (v := (205 : Int32)) F.1 F.2.1 dX5_fresh_3 (by decide) ?_
      refine lv_icmp_ge (tgt := 19) F.1 F.2.1 dX5_fresh_6 rfl (fun hc1 => ?_) (fun hc1 => ?_)
      · have hf := ifp hc1 hf
        refine lv_aload_n F.1 F.2.1 dX5_fresh_19 rfl (lv_at hl 0 rfl) ?_
        refine lv_sipush (v := (202 : Int32)) F.1 F.2.1 dX5_fresh_20 (by decide) ?_
        refine lv_iconst (v := (5 : Int32)) F.1 F.2.1 dX5_fresh_23 (by decide) ?_
        refine m_iast F hK hP hS (by omega) (fun f => mkM_row h1 h3 D y f) (lnM_row h1 h3) (by decide) dX5_fresh_24 (fun H locs hP hS => ?_)
        refine lv_aload_n F.1 F.2.1 dX5_fresh_25 rfl (lv_at hl 0 rfl) ?_
        refine lv_sipush (v := (203 : Int32)) F.1 F.2.1 dX5_fresh_26 (by decide) ?_
        refine lv_iconst (v := (2 : Int32)) F.1 F.2.1 dX5_fresh_29 (by decide) ?_
        refine m_iast F hK hP hS (by omega) (fun f => mkM_row h1 h3 D y f) (lnM_row h1 h3) (by decide) dX5_fresh_30 (fun H locs hP hS => ?_)
        refine lv_aload_n F.1 F.2.1 dX5_fresh_31 rfl (lv_at hl 0 rfl) ?_
        refine lv_sipush (v := (204 : Int32)) F.1 F.2.1 dX5_fresh_32 (by decide) ?_
        refine lv_bipush (v := (10 : Int32)) F.1 F.2.1 dX5_fresh_35 (by decide) ?_
        refine m_iast F hK hP hS (by omega) (fun f => mkM_row h1 h3 D y f) (lnM_row h1 h3) (by decide) dX5_fresh_37 (fun H locs hP hS => ?_)
        obtain rfl := Option.some.inj hf
        exact m_vret F hr hlk hP hS rfl dX5_fresh_38
      · have hf := ifn hc1 hf
        refine lv_aload_n F.1 F.2.1 dX5_fresh_9 rfl (lv_at hl 0 rfl) ?_
        refine lv_iload_n F.1 F.2.1 dX5_fresh_10 rfl (lv_at hl 1 rfl) ?_
        refine lv_iconst (v := (0 : Int32)) F.1 F.2.1 dX5_fresh_11 (by decide) ?_
        obtain ⟨hb2, hf⟩ := ifg hf
        refine m_iast F hK hP hS (by omega) (fun f => mkM_row h1 h3 D y f) (lnM_row h1 h3) hb2 dX5_fresh_12 (fun H locs hP hS => ?_)
        refine lv_iinc (v := (v1 + (1 : Int32))) F.1 F.2.1 dX5_fresh_13 hl (k := 1) rfl rfl (Nat.le_of_ble_eq_true rfl) rfl (fun ls hl => ?_)
        have hl : lv_has ls 2 [(1, .int (v1 + (1 : Int32))), (0, .ref (y + ρ))] := hl
        refine lv_goto (tgt := 2) F.1 F.2.1 dX5_fresh_16 rfl ?_
        exact ih (upd g v1.toNatClampNeg (0 : Int32)) (v1 + (1 : Int32)) _ _ _ (lv_sub hl [1, 0] rfl) hP hS hf
  intro ls H locs hl hP hS
  have hl : lv_has ls 2 [(0, .ref (y + ρ))] := hl
  unfold f_X5_fresh at hf
  refine lv_iconst (v := (0 : Int32)) F.1 F.2.1 dX5_fresh_0 (by decide) ?_
  refine lv_istore_n F.1 F.2.1 dX5_fresh_1 rfl hl (Nat.le_of_ble_eq_true rfl) rfl (fun ls hl => ?_)
  have hl : lv_has ls 2 [(1, .int (0 : Int32)), (0, .ref (y + ρ))] := hl
  exact (KEY FU) g (0 : Int32) _ _ _ (lv_sub hl [1, 0] rfl) hP hS hf

-- FrostTubesModel.copy([I[I)V
def fb_X5_copy_1 (o : Row) (K : Row → Int32 → Option (Row)) (g : Row) (v2 : Int32) : Option (Row) := (if (205 : Int32) ≤ v2 then some g else (if oob v2 205 then none else (if oob v2 205 then none else (K (upd g v2.toNatClampNeg (o v2.toNatClampNeg)) (v2 + (1 : Int32))))))
def fl_X5_copy (o : Row) : Nat → Row → Int32 → Option (Row)
  | 0, _, _ => none
  | n + 1, g, v2 => fb_X5_copy_1 o (fl_X5_copy o n) g v2
def f_X5_copy (g : Row) (o : Row) : Option (Row) := (fl_X5_copy o FU g (0 : Int32))
def rmX5_copy : Room := { frames := 0, cells := 0, slots := 0, locals := 0 }
theorem hd_X5_copy : yX5_copy.cls ≠ "java/lang/invoke/MethodHandle" ∧ yX5_copy.cls ≠ "java/lang/invoke/VarHandle" ∧ (parseMethodDescriptor yX5_copy.desc).map (fun d => d.parameters.length) = some 2 := by decide +kernel
set_option maxHeartbeats 8000000 in
set_option maxRecDepth 100000 in
theorem c_X5_copy {l : Launch} {D : va_G} {y : Nat} {ν : Mem} {ρ : Nat} (h1 : 1 ≤ ρ) (h3 : ρ ≤ 3) {g : Row} {ρ2 : Nat} (k1 : 1 ≤ ρ2) (k3 : ρ2 ≤ 3) (hij : ρ2 ≠ ρ) {o : Row} (ho : ν ρ2 = o) {r : Row} (hf : f_X5_copy g o = some r) : CM l yX5_copy wsX5_copy rmX5_copy [.ref (y + ρ2), .ref (y + ρ)] D y (va_up ν ρ g) (none) (va_up ν ρ r) := by
  refine CM.of (cc := cX5_copy) (maxL := 3) (ret := none) pn_X5 rfl (Nat.le_of_ble_eq_true rfl) ?_
  intro p e s m args below meth c F hr hlk hK
  have KEY : ∀ n : Nat, (∀ (g : Row) (v2 : Int32) (ls : Array Slot) (H : Heap) (locs : List Loc), lv_has ls 3 [(0, .ref (y + ρ2)), (1, .ref (y + ρ)), (2, .int v2)] → va_P D vwCl (WM D y (va_up ν ρ g)) H → va_S (rngM y) s.heap H locs → fl_X5_copy o n g v2 = some r → W p l e rmX5_copy s m args below meth c H locs 0 0 (MQ below (QM D y (va_up ν ρ r) (none)) args s 0 0 (rngM y)) (F0 m 2 ls [])) := by
    intro n
    induction n with
    | zero => exact (fun _ _ _ _ _ _ _ _ h => nomatch h)
    | succ n ih =>
      skip
      intro g v2  ls H locs hl hP hS hf
      have hf : fb_X5_copy_1 o (fl_X5_copy o n) g v2 = some r := hf
      unfold fb_X5_copy_1 at hf
      refine lv_iload_n F.1 F.2.1 dX5_copy_2 rfl (lv_at hl 2 rfl) ?_
      refine lv_sipush (v := (205 : Int32)) F.1 F.2.1 dX5_copy_3 (by decide) ?_
      refine lv_icmp_ge (tgt := 21) F.1 F.2.1 dX5_copy_6 rfl (fun hc1 => ?_) (fun hc1 => ?_)
      · have hf := ifp hc1 hf
        obtain rfl := Option.some.inj hf
        exact m_vret F hr hlk hP hS rfl dX5_copy_21
      · have hf := ifn hc1 hf
        refine lv_aload_n F.1 F.2.1 dX5_copy_9 rfl (lv_at hl 1 rfl) ?_
        refine lv_iload_n F.1 F.2.1 dX5_copy_10 rfl (lv_at hl 2 rfl) ?_
        refine lv_aload_n F.1 F.2.1 dX5_copy_11 rfl (lv_at hl 0 rfl) ?_
        refine lv_iload_n F.1 F.2.1 dX5_copy_12 rfl (lv_at hl 2 rfl) ?_
        obtain ⟨hb2, hf⟩ := ifg hf
        refine m_iald F hK hP (o := ρ2) (by omega) ((mu_off _ _ hij).trans ho) (fun f => mkM_row k1 k3 D y f) (lnM_row k1 k3) hb2 dX5_copy_13 ?_
        obtain ⟨hb3, hf⟩ := ifg hf
        refine m_iast F hK hP hS (by omega) (fun f => mkM_row h1 h3 D y f) (lnM_row h1 h3) hb3 dX5_copy_14 (fun H locs hP hS => ?_)
        refine lv_iinc (v := (v2 + (1 : Int32))) F.1 F.2.1 dX5_copy_15 hl (k := 2) rfl rfl (Nat.le_of_ble_eq_true rfl) rfl (fun ls hl => ?_)
        have hl : lv_has ls 3 [(2, .int (v2 + (1 : Int32))), (0, .ref (y + ρ2)), (1, .ref (y + ρ))] := hl
        refine lv_goto (tgt := 2) F.1 F.2.1 dX5_copy_18 rfl ?_
        exact ih (upd g v2.toNatClampNeg (o v2.toNatClampNeg)) (v2 + (1 : Int32)) _ _ _ (lv_sub hl [1, 2, 0] rfl) hP hS hf
  intro ls H locs hl hP hS
  have hl : lv_has ls 3 [(0, .ref (y + ρ2)), (1, .ref (y + ρ))] := hl
  unfold f_X5_copy at hf
  refine lv_iconst (v := (0 : Int32)) F.1 F.2.1 dX5_copy_0 (by decide) ?_
  refine lv_istore_n F.1 F.2.1 dX5_copy_1 rfl hl (Nat.le_of_ble_eq_true rfl) rfl (fun ls hl => ?_)
  have hl : lv_has ls 3 [(2, .int (0 : Int32)), (0, .ref (y + ρ2)), (1, .ref (y + ρ))] := hl
  exact (KEY FU) g (0 : Int32) _ _ _ (lv_sub hl [1, 2, 0] rfl) hP hS hf

-- FrostTubesModel.isSite([II)Z
def f_X5_isSite (g : Row) (a1 : Int32) : Option (Int32) := ((f_X5_in a1.toInt64 (0 : Int64) (((g (196 : Int32).toNatClampNeg) - (1 : Int32)).toInt64)).bind fun r1 => (if r1 = 0 ∨ r1 = 1 then some r1 else none))
def rmX5_isSite : Room := { frames := 1, cells := 0, slots := 0, locals := 25 }
theorem hd_X5_isSite : yX5_isSite.cls ≠ "java/lang/invoke/MethodHandle" ∧ yX5_isSite.cls ≠ "java/lang/invoke/VarHandle" ∧ (parseMethodDescriptor yX5_isSite.desc).map (fun d => d.parameters.length) = some 2 := by decide +kernel
set_option maxHeartbeats 8000000 in
set_option maxRecDepth 100000 in
theorem c_X5_isSite {l : Launch} {D : va_G} {y : Nat} {ν : Mem} {ρ : Nat} (h1 : 1 ≤ ρ) (h3 : ρ ≤ 3) {g : Row} (hg : ν ρ = g) (a1 : Int32) {r : Int32} (hf : f_X5_isSite g a1 = some r) : CM l yX5_isSite wsX5_isSite rmX5_isSite [.ref (y + ρ), .int a1] D y ν (some (.int r)) ν := by
  refine CM.of (cc := cX5_isSite) (maxL := 2) (ret := (some .boolean)) pn_X5 rfl (Nat.le_of_ble_eq_true rfl) ?_
  intro p e s m args below meth c F hr hlk hK
  intro ls H locs hl hP hS
  have hl : lv_has ls 2 [(0, .ref (y + ρ)), (1, .int a1)] := hl
  unfold f_X5_isSite at hf
  refine lv_iload_n F.1 F.2.1 dX5_isSite_0 rfl (lv_at hl 1 rfl) ?_
  refine lv_i2l (v := a1.toInt64) F.1 F.2.1 dX5_isSite_1 rfl ?_
  refine lv_lconst (v := (0 : Int64)) F.1 F.2.1 dX5_isSite_2 rfl ?_
  refine lv_aload_n F.1 F.2.1 dX5_isSite_3 rfl (lv_at hl 0 rfl) ?_
  refine lv_sipush (v := (196 : Int32)) F.1 F.2.1 dX5_isSite_4 (by decide) ?_
  refine m_iald F hK hP (o := ρ) (by omega) hg (fun f => mkM_row h1 h3 D y f) (lnM_row h1 h3) (by decide) dX5_isSite_7 ?_
  refine lv_iconst (v := (1 : Int32)) F.1 F.2.1 dX5_isSite_8 (by decide) ?_
  refine lv_isub F.1 F.2.1 dX5_isSite_9 ?_
  refine lv_i2l (v := ((g (196 : Int32).toNatClampNeg) - (1 : Int32)).toInt64) F.1 F.2.1 dX5_isSite_10 rfl ?_
  obtain ⟨r1, hr2, hf⟩ := bnd hf
  refine m_callS F hK hP hS (c_X5_in a1.toInt64 (0 : Int64) (((g (196 : Int32).toNatClampNeg) - (1 : Int32)).toInt64) hr2) (va_cwS 3 F.2.2.2.2 gX5_isSite_X5_in rfl rfl rfl hd_X5_in ⟨(Nat.le_of_ble_eq_true rfl), (Nat.le_of_ble_eq_true rfl)⟩) rfl rfl hl.1 (Nat.le_of_ble_eq_true rfl) dX5_isSite_11 ⟨(Nat.le_of_ble_eq_true rfl), (Nat.le_of_ble_eq_true rfl)⟩ (rest := []) (fun H locs hP hS => ?_)
  refine W.eq (g2 := F0 m 14 ls [.int r1]) rfl ?_
  obtain ⟨hb3, hf⟩ := ifgp hf
  obtain rfl := Option.some.inj hf
  exact m_zret F hr hlk hP hS rfl (b01_v hb3) dX5_isSite_14

-- FrostTubesModel.isCell(I)Z
def f_X5_isCell (a0 : Int32) : Option (Int32) := ((f_X5_in a0.toInt64 (0 : Int64) (29 : Int64)).bind fun r1 => (if r1 = 0 ∨ r1 = 1 then some r1 else none))
def rmX5_isCell : Room := { frames := 1, cells := 0, slots := 0, locals := 25 }
theorem hd_X5_isCell : yX5_isCell.cls ≠ "java/lang/invoke/MethodHandle" ∧ yX5_isCell.cls ≠ "java/lang/invoke/VarHandle" ∧ (parseMethodDescriptor yX5_isCell.desc).map (fun d => d.parameters.length) = some 1 := by decide +kernel
set_option maxHeartbeats 8000000 in
set_option maxRecDepth 100000 in
theorem c_X5_isCell {l : Launch} {D : va_G} {y : Nat} {ν : Mem} (a0 : Int32) {r : Int32} (hf : f_X5_isCell a0 = some r) : CM l yX5_isCell wsX5_isCell rmX5_isCell [.int a0] D y ν (some (.int r)) ν := by
  refine CM.of (cc := cX5_isCell) (maxL := 1) (ret := (some .boolean)) pn_X5 rfl (Nat.le_of_ble_eq_true rfl) ?_
  intro p e s m args below meth c F hr hlk hK
  intro ls H locs hl hP hS
  have hl : lv_has ls 1 [(0, .int a0)] := hl
  unfold f_X5_isCell at hf
  refine lv_iload_n F.1 F.2.1 dX5_isCell_0 rfl (lv_at hl 0 rfl) ?_
  refine lv_i2l (v := a0.toInt64) F.1 F.2.1 dX5_isCell_1 rfl ?_
  refine lv_lconst (v := (0 : Int64)) F.1 F.2.1 dX5_isCell_2 rfl ?_
  refine lv_ldc2 (v := (29 : Int64)) F.1 F.2.1 F.2.2.2.1 (F.2.2.2.2 _ (List.mem_of_getElem? (i := 1) rfl)) dX5_isCell_3 ?_
  obtain ⟨r1, hr2, hf⟩ := bnd hf
  refine m_callS F hK hP hS (c_X5_in a0.toInt64 (0 : Int64) (29 : Int64) hr2) (va_cwS 3 F.2.2.2.2 gX5_isCell_X5_in rfl rfl rfl hd_X5_in ⟨(Nat.le_of_ble_eq_true rfl), (Nat.le_of_ble_eq_true rfl)⟩) rfl rfl hl.1 (Nat.le_of_ble_eq_true rfl) dX5_isCell_6 ⟨(Nat.le_of_ble_eq_true rfl), (Nat.le_of_ble_eq_true rfl)⟩ (rest := []) (fun H locs hP hS => ?_)
  refine W.eq (g2 := F0 m 9 ls [.int r1]) rfl ?_
  obtain ⟨hb3, hf⟩ := ifgp hf
  obtain rfl := Option.some.inj hf
  exact m_zret F hr hlk hP hS rfl (b01_v hb3) dX5_isCell_9

-- FrostTubesModel.isTube([II)Z
def f_X5_isTube (g : Row) (a1 : Int32) : Option (Int32) := ((f_X5_in a1.toInt64 (0 : Int64) (((g (197 : Int32).toNatClampNeg) - (1 : Int32)).toInt64)).bind fun r1 => (if r1 = 0 ∨ r1 = 1 then some r1 else none))
def rmX5_isTube : Room := { frames := 1, cells := 0, slots := 0, locals := 25 }
theorem hd_X5_isTube : yX5_isTube.cls ≠ "java/lang/invoke/MethodHandle" ∧ yX5_isTube.cls ≠ "java/lang/invoke/VarHandle" ∧ (parseMethodDescriptor yX5_isTube.desc).map (fun d => d.parameters.length) = some 2 := by decide +kernel
set_option maxHeartbeats 8000000 in
set_option maxRecDepth 100000 in
theorem c_X5_isTube {l : Launch} {D : va_G} {y : Nat} {ν : Mem} {ρ : Nat} (h1 : 1 ≤ ρ) (h3 : ρ ≤ 3) {g : Row} (hg : ν ρ = g) (a1 : Int32) {r : Int32} (hf : f_X5_isTube g a1 = some r) : CM l yX5_isTube wsX5_isTube rmX5_isTube [.ref (y + ρ), .int a1] D y ν (some (.int r)) ν := by
  refine CM.of (cc := cX5_isTube) (maxL := 2) (ret := (some .boolean)) pn_X5 rfl (Nat.le_of_ble_eq_true rfl) ?_
  intro p e s m args below meth c F hr hlk hK
  intro ls H locs hl hP hS
  have hl : lv_has ls 2 [(0, .ref (y + ρ)), (1, .int a1)] := hl
  unfold f_X5_isTube at hf
  refine lv_iload_n F.1 F.2.1 dX5_isTube_0 rfl (lv_at hl 1 rfl) ?_
  refine lv_i2l (v := a1.toInt64) F.1 F.2.1 dX5_isTube_1 rfl ?_
  refine lv_lconst (v := (0 : Int64)) F.1 F.2.1 dX5_isTube_2 rfl ?_
  refine lv_aload_n F.1 F.2.1 dX5_isTube_3 rfl (lv_at hl 0 rfl) ?_
  refine lv_sipush (v := (197 : Int32)) F.1 F.2.1 dX5_isTube_4 (by decide) ?_
  refine m_iald F hK hP (o := ρ) (by omega) hg (fun f => mkM_row h1 h3 D y f) (lnM_row h1 h3) (by decide) dX5_isTube_7 ?_
  refine lv_iconst (v := (1 : Int32)) F.1 F.2.1 dX5_isTube_8 (by decide) ?_
  refine lv_isub F.1 F.2.1 dX5_isTube_9 ?_
  refine lv_i2l (v := ((g (197 : Int32).toNatClampNeg) - (1 : Int32)).toInt64) F.1 F.2.1 dX5_isTube_10 rfl ?_
  obtain ⟨r1, hr2, hf⟩ := bnd hf
  refine m_callS F hK hP hS (c_X5_in a1.toInt64 (0 : Int64) (((g (197 : Int32).toNatClampNeg) - (1 : Int32)).toInt64) hr2) (va_cwS 3 F.2.2.2.2 gX5_isTube_X5_in rfl rfl rfl hd_X5_in ⟨(Nat.le_of_ble_eq_true rfl), (Nat.le_of_ble_eq_true rfl)⟩) rfl rfl hl.1 (Nat.le_of_ble_eq_true rfl) dX5_isTube_11 ⟨(Nat.le_of_ble_eq_true rfl), (Nat.le_of_ble_eq_true rfl)⟩ (rest := []) (fun H locs hP hS => ?_)
  refine W.eq (g2 := F0 m 14 ls [.int r1]) rfl ?_
  obtain ⟨hb3, hf⟩ := ifgp hf
  obtain rfl := Option.some.inj hf
  exact m_zret F hr hlk hP hS rfl (b01_v hb3) dX5_isTube_14

-- FrostTubesModel.isPipe([II)Z
def f_X5_isPipe (g : Row) (a1 : Int32) : Option (Int32) := ((f_X5_in a1.toInt64 (0 : Int64) (((g (198 : Int32).toNatClampNeg) - (1 : Int32)).toInt64)).bind fun r1 => (if r1 = 0 ∨ r1 = 1 then some r1 else none))
def rmX5_isPipe : Room := { frames := 1, cells := 0, slots := 0, locals := 25 }
theorem hd_X5_isPipe : yX5_isPipe.cls ≠ "java/lang/invoke/MethodHandle" ∧ yX5_isPipe.cls ≠ "java/lang/invoke/VarHandle" ∧ (parseMethodDescriptor yX5_isPipe.desc).map (fun d => d.parameters.length) = some 2 := by decide +kernel
set_option maxHeartbeats 8000000 in
set_option maxRecDepth 100000 in
theorem c_X5_isPipe {l : Launch} {D : va_G} {y : Nat} {ν : Mem} {ρ : Nat} (h1 : 1 ≤ ρ) (h3 : ρ ≤ 3) {g : Row} (hg : ν ρ = g) (a1 : Int32) {r : Int32} (hf : f_X5_isPipe g a1 = some r) : CM l yX5_isPipe wsX5_isPipe rmX5_isPipe [.ref (y + ρ), .int a1] D y ν (some (.int r)) ν := by
  refine CM.of (cc := cX5_isPipe) (maxL := 2) (ret := (some .boolean)) pn_X5 rfl (Nat.le_of_ble_eq_true rfl) ?_
  intro p e s m args below meth c F hr hlk hK
  intro ls H locs hl hP hS
  have hl : lv_has ls 2 [(0, .ref (y + ρ)), (1, .int a1)] := hl
  unfold f_X5_isPipe at hf
  refine lv_iload_n F.1 F.2.1 dX5_isPipe_0 rfl (lv_at hl 1 rfl) ?_
  refine lv_i2l (v := a1.toInt64) F.1 F.2.1 dX5_isPipe_1 rfl ?_
  refine lv_lconst (v := (0 : Int64)) F.1 F.2.1 dX5_isPipe_2 rfl ?_
  refine lv_aload_n F.1 F.2.1 dX5_isPipe_3 rfl (lv_at hl 0 rfl) ?_
  refine lv_sipush (v := (198 : Int32)) F.1 F.2.1 dX5_isPipe_4 (by decide) ?_
  refine m_iald F hK hP (o := ρ) (by omega) hg (fun f => mkM_row h1 h3 D y f) (lnM_row h1 h3) (by decide) dX5_isPipe_7 ?_
  refine lv_iconst (v := (1 : Int32)) F.1 F.2.1 dX5_isPipe_8 (by decide) ?_
  refine lv_isub F.1 F.2.1 dX5_isPipe_9 ?_
  refine lv_i2l (v := ((g (198 : Int32).toNatClampNeg) - (1 : Int32)).toInt64) F.1 F.2.1 dX5_isPipe_10 rfl ?_
  obtain ⟨r1, hr2, hf⟩ := bnd hf
  refine m_callS F hK hP hS (c_X5_in a1.toInt64 (0 : Int64) (((g (198 : Int32).toNatClampNeg) - (1 : Int32)).toInt64) hr2) (va_cwS 3 F.2.2.2.2 gX5_isPipe_X5_in rfl rfl rfl hd_X5_in ⟨(Nat.le_of_ble_eq_true rfl), (Nat.le_of_ble_eq_true rfl)⟩) rfl rfl hl.1 (Nat.le_of_ble_eq_true rfl) dX5_isPipe_11 ⟨(Nat.le_of_ble_eq_true rfl), (Nat.le_of_ble_eq_true rfl)⟩ (rest := []) (fun H locs hP hS => ?_)
  refine W.eq (g2 := F0 m 14 ls [.int r1]) rfl ?_
  obtain ⟨hb3, hf⟩ := ifgp hf
  obtain rfl := Option.some.inj hf
  exact m_zret F hr hlk hP hS rfl (b01_v hb3) dX5_isPipe_14

-- FrostTubesModel.isDegree(I)Z
def f_X5_isDegree (a0 : Int32) : Option (Int32) := ((f_X5_in a0.toInt64 (-30 : Int64) (30 : Int64)).bind fun r1 => (if r1 = 0 ∨ r1 = 1 then some r1 else none))
def rmX5_isDegree : Room := { frames := 1, cells := 0, slots := 0, locals := 25 }
theorem hd_X5_isDegree : yX5_isDegree.cls ≠ "java/lang/invoke/MethodHandle" ∧ yX5_isDegree.cls ≠ "java/lang/invoke/VarHandle" ∧ (parseMethodDescriptor yX5_isDegree.desc).map (fun d => d.parameters.length) = some 1 := by decide +kernel
set_option maxHeartbeats 8000000 in
set_option maxRecDepth 100000 in
theorem c_X5_isDegree {l : Launch} {D : va_G} {y : Nat} {ν : Mem} (a0 : Int32) {r : Int32} (hf : f_X5_isDegree a0 = some r) : CM l yX5_isDegree wsX5_isDegree rmX5_isDegree [.int a0] D y ν (some (.int r)) ν := by
  refine CM.of (cc := cX5_isDegree) (maxL := 1) (ret := (some .boolean)) pn_X5 rfl (Nat.le_of_ble_eq_true rfl) ?_
  intro p e s m args below meth c F hr hlk hK
  intro ls H locs hl hP hS
  have hl : lv_has ls 1 [(0, .int a0)] := hl
  unfold f_X5_isDegree at hf
  refine lv_iload_n F.1 F.2.1 dX5_isDegree_0 rfl (lv_at hl 0 rfl) ?_
  refine lv_i2l (v := a0.toInt64) F.1 F.2.1 dX5_isDegree_1 rfl ?_
  refine lv_ldc2 (v := (-30 : Int64)) F.1 F.2.1 F.2.2.2.1 (F.2.2.2.2 _ (List.mem_of_getElem? (i := 1) rfl)) dX5_isDegree_2 ?_
  refine lv_ldc2 (v := (30 : Int64)) F.1 F.2.1 F.2.2.2.1 (F.2.2.2.2 _ (List.mem_of_getElem? (i := 2) rfl)) dX5_isDegree_5 ?_
  obtain ⟨r1, hr2, hf⟩ := bnd hf
  refine m_callS F hK hP hS (c_X5_in a0.toInt64 (-30 : Int64) (30 : Int64) hr2) (va_cwS 3 F.2.2.2.2 gX5_isDegree_X5_in rfl rfl rfl hd_X5_in ⟨(Nat.le_of_ble_eq_true rfl), (Nat.le_of_ble_eq_true rfl)⟩) rfl rfl hl.1 (Nat.le_of_ble_eq_true rfl) dX5_isDegree_8 ⟨(Nat.le_of_ble_eq_true rfl), (Nat.le_of_ble_eq_true rfl)⟩ (rest := []) (fun H locs hP hS => ?_)
  refine W.eq (g2 := F0 m 11 ls [.int r1]) rfl ?_
  obtain ⟨hb3, hf⟩ := ifgp hf
  obtain rfl := Option.some.inj hf
  exact m_zret F hr hlk hP hS rfl (b01_v hb3) dX5_isDegree_11

-- FrostTubesModel.isSetting(II)Z
def f_X5_isSetting (a0 : Int32) (a1 : Int32) : Option (Int32) := (if a0 = 0 then ((f_X5_in a1.toInt64 (0 : Int64) (30 : Int64)).bind fun r10 => (if r10 = 0 ∨ r10 = 1 then some r10 else none)) else (if a0 = (1 : Int32) then ((f_X5_in a1.toInt64 (1 : Int64) (9 : Int64)).bind fun r7 => (if r7 = 0 ∨ r7 = 1 then some r7 else none)) else (if a0 = (2 : Int32) then ((f_X5_in a1.toInt64 (0 : Int64) (50 : Int64)).bind fun r4 => (if r4 = 0 then some (0 : Int32) else some (1 : Int32))) else some (0 : Int32))))
def rmX5_isSetting : Room := { frames := 1, cells := 0, slots := 0, locals := 25 }
theorem hd_X5_isSetting : yX5_isSetting.cls ≠ "java/lang/invoke/MethodHandle" ∧ yX5_isSetting.cls ≠ "java/lang/invoke/VarHandle" ∧ (parseMethodDescriptor yX5_isSetting.desc).map (fun d => d.parameters.length) = some 2 := by decide +kernel
set_option maxHeartbeats 8000000 in
set_option maxRecDepth 100000 in
theorem c_X5_isSetting {l : Launch} {D : va_G} {y : Nat} {ν : Mem} (a0 : Int32) (a1 : Int32) {r : Int32} (hf : f_X5_isSetting a0 a1 = some r) : CM l yX5_isSetting wsX5_isSetting rmX5_isSetting [.int a0, .int a1] D y ν (some (.int r)) ν := by
  refine CM.of (cc := cX5_isSetting) (maxL := 2) (ret := (some .boolean)) pn_X5 rfl (Nat.le_of_ble_eq_true rfl) ?_
  intro p e s m args below meth c F hr hlk hK
  intro ls H locs hl hP hS
  have hl : lv_has ls 2 [(0, .int a0), (1, .int a1)] := hl
  unfold f_X5_isSetting at hf
  refine lv_iload_n F.1 F.2.1 dX5_isSetting_0 rfl (lv_at hl 0 rfl) ?_
  refine lv_if_ne (tgt := 16) F.1 F.2.1 dX5_isSetting_1 rfl (fun hc1 => ?_) (fun hc1 => ?_)
  · have hf := ifn hc1 hf
    refine lv_iload_n F.1 F.2.1 dX5_isSetting_16 rfl (lv_at hl 0 rfl) ?_
    refine lv_iconst (v := (1 : Int32)) F.1 F.2.1 dX5_isSetting_17 (by decide) ?_
    refine lv_icmp_ne (tgt := 33) F.1 F.2.1 dX5_isSetting_18 rfl (fun hc2 => ?_) (fun hc2 => ?_)
    · have hf := ifn hc2 hf
      refine lv_iload_n F.1 F.2.1 dX5_isSetting_33 rfl (lv_at hl 0 rfl) ?_
      refine lv_iconst (v := (2 : Int32)) F.1 F.2.1 dX5_isSetting_34 (by decide) ?_
      refine lv_icmp_ne (tgt := 54) F.1 F.2.1 dX5_isSetting_35 rfl (fun hc3 => ?_) (fun hc3 => ?_)
      · have hf := ifn hc3 hf
        refine lv_iconst (v := (0 : Int32)) F.1 F.2.1 dX5_isSetting_54 (by decide) ?_
        obtain rfl := Option.some.inj hf
        exact m_zret F hr hlk hP hS rfl (b01_v (v := (0 : Int32)) (Or.inl rfl)) dX5_isSetting_55
      · have hf := ifp hc3 hf
        refine lv_iload_n F.1 F.2.1 dX5_isSetting_38 rfl (lv_at hl 1 rfl) ?_
        refine lv_i2l (v := a1.toInt64) F.1 F.2.1 dX5_isSetting_39 rfl ?_
        refine lv_lconst (v := (0 : Int64)) F.1 F.2.1 dX5_isSetting_40 rfl ?_
        refine lv_ldc2 (v := (50 : Int64)) F.1 F.2.1 F.2.2.2.1 (F.2.2.2.2 _ (List.mem_of_getElem? (i := 3) rfl)) dX5_isSetting_41 ?_
        obtain ⟨r4, hr5, hf⟩ := bnd hf
        refine m_callS F hK hP hS (c_X5_in a1.toInt64 (0 : Int64) (50 : Int64) hr5) (va_cwS 3 F.2.2.2.2 gX5_isSetting_X5_in rfl rfl rfl hd_X5_in ⟨(Nat.le_of_ble_eq_true rfl), (Nat.le_of_ble_eq_true rfl)⟩) rfl rfl hl.1 (Nat.le_of_ble_eq_true rfl) dX5_isSetting_44 ⟨(Nat.le_of_ble_eq_true rfl), (Nat.le_of_ble_eq_true rfl)⟩ (rest := []) (fun H locs hP hS => ?_)
        refine W.eq (g2 := F0 m 47 ls [.int r4]) rfl ?_
        refine lv_if_eq (tgt := 54) F.1 F.2.1 dX5_isSetting_47 rfl (fun hc6 => ?_) (fun hc6 => ?_)
        · have hf := ifp hc6 hf
          refine lv_iconst (v := (0 : Int32)) F.1 F.2.1 dX5_isSetting_54 (by decide) ?_
          obtain rfl := Option.some.inj hf
          exact m_zret F hr hlk hP hS rfl (b01_v (v := (0 : Int32)) (Or.inl rfl)) dX5_isSetting_55
        · have hf := ifn hc6 hf
          refine lv_iconst (v := (1 : Int32)) F.1 F.2.1 dX5_isSetting_50 (by decide) ?_
          refine lv_goto (tgt := 55) F.1 F.2.1 dX5_isSetting_51 rfl ?_
          obtain rfl := Option.some.inj hf
          exact m_zret F hr hlk hP hS rfl (b01_v (v := (1 : Int32)) (Or.inr rfl)) dX5_isSetting_55
    · have hf := ifp hc2 hf
      refine lv_iload_n F.1 F.2.1 dX5_isSetting_21 rfl (lv_at hl 1 rfl) ?_
      refine lv_i2l (v := a1.toInt64) F.1 F.2.1 dX5_isSetting_22 rfl ?_
      refine lv_lconst (v := (1 : Int64)) F.1 F.2.1 dX5_isSetting_23 rfl ?_
      refine lv_ldc2 (v := (9 : Int64)) F.1 F.2.1 F.2.2.2.1 (F.2.2.2.2 _ (List.mem_of_getElem? (i := 2) rfl)) dX5_isSetting_24 ?_
      obtain ⟨r7, hr8, hf⟩ := bnd hf
      refine m_callS F hK hP hS (c_X5_in a1.toInt64 (1 : Int64) (9 : Int64) hr8) (va_cwS 3 F.2.2.2.2 gX5_isSetting_X5_in rfl rfl rfl hd_X5_in ⟨(Nat.le_of_ble_eq_true rfl), (Nat.le_of_ble_eq_true rfl)⟩) rfl rfl hl.1 (Nat.le_of_ble_eq_true rfl) dX5_isSetting_27 ⟨(Nat.le_of_ble_eq_true rfl), (Nat.le_of_ble_eq_true rfl)⟩ (rest := []) (fun H locs hP hS => ?_)
      refine W.eq (g2 := F0 m 30 ls [.int r7]) rfl ?_
      refine lv_goto (tgt := 55) F.1 F.2.1 dX5_isSetting_30 rfl ?_
      obtain ⟨hb9, hf⟩ := ifgp hf
      obtain rfl := Option.some.inj hf
      exact m_zret F hr hlk hP hS rfl (b01_v hb9) dX5_isSetting_55
  · have hf := ifp hc1 hf
    refine lv_iload_n F.1 F.2.1 dX5_isSetting_4 rfl (lv_at hl 1 rfl) ?_
    refine lv_i2l (v := a1.toInt64) F.1 F.2.1 dX5_isSetting_5 rfl ?_
    refine lv_lconst (v := (0 : Int64)) F.1 F.2.1 dX5_isSetting_6 rfl ?_
    refine lv_ldc2 (v := (30 : Int64)) F.1 F.2.1 F.2.2.2.1 (F.2.2.2.2 _ (List.mem_of_getElem? (i := 1) rfl)) dX5_isSetting_7 ?_
    obtain ⟨r10, hr11, hf⟩ := bnd hf
    refine m_callS F hK hP hS (c_X5_in a1.toInt64 (0 : Int64) (30 : Int64) hr11) (va_cwS 3 F.2.2.2.2 gX5_isSetting_X5_in rfl rfl rfl hd_X5_in ⟨(Nat.le_of_ble_eq_true rfl), (Nat.le_of_ble_eq_true rfl)⟩) rfl rfl hl.1 (Nat.le_of_ble_eq_true rfl) dX5_isSetting_10 ⟨(Nat.le_of_ble_eq_true rfl), (Nat.le_of_ble_eq_true rfl)⟩ (rest := []) (fun H locs hP hS => ?_)
    refine W.eq (g2 := F0 m 13 ls [.int r10]) rfl ?_
    refine lv_goto (tgt := 55) F.1 F.2.1 dX5_isSetting_13 rfl ?_
    obtain ⟨hb12, hf⟩ := ifgp hf
    obtain rfl := Option.some.inj hf
    exact m_zret F hr hlk hP hS rfl (b01_v hb12) dX5_isSetting_55

-- FrostTubesModel.cell(II)I
def f_X5_cell (a0 : Int32) (a1 : Int32) : Option (Int32) := some ((((35 : Int32) * a0) + (5 : Int32)) + a1)
def rmX5_cell : Room := { frames := 0, cells := 0, slots := 0, locals := 0 }
theorem hd_X5_cell : yX5_cell.cls ≠ "java/lang/invoke/MethodHandle" ∧ yX5_cell.cls ≠ "java/lang/invoke/VarHandle" ∧ (parseMethodDescriptor yX5_cell.desc).map (fun d => d.parameters.length) = some 2 := by decide +kernel
set_option maxHeartbeats 8000000 in
set_option maxRecDepth 100000 in
theorem c_X5_cell {l : Launch} {D : va_G} {y : Nat} {ν : Mem} (a0 : Int32) (a1 : Int32) {r : Int32} (hf : f_X5_cell a0 a1 = some r) : CM l yX5_cell wsX5_cell rmX5_cell [.int a0, .int a1] D y ν (some (.int r)) ν := by
  refine CM.of (cc := cX5_cell) (maxL := 2) (ret := (some .int)) pn_X5 rfl (Nat.le_of_ble_eq_true rfl) ?_
  intro p e s m args below meth c F hr hlk hK
  intro ls H locs hl hP hS
  have hl : lv_has ls 2 [(0, .int a0), (1, .int a1)] := hl
  unfold f_X5_cell at hf
  refine lv_bipush (v := (35 : Int32)) F.1 F.2.1 dX5_cell_0 (by decide) ?_
  refine lv_iload_n F.1 F.2.1 dX5_cell_2 rfl (lv_at hl 0 rfl) ?_
  refine lv_imul F.1 F.2.1 dX5_cell_3 ?_
  refine lv_iconst (v := (5 : Int32)) F.1 F.2.1 dX5_cell_4 (by decide) ?_
  refine lv_iadd F.1 F.2.1 dX5_cell_5 ?_
  refine lv_iload_n F.1 F.2.1 dX5_cell_6 rfl (lv_at hl 1 rfl) ?_
  refine lv_iadd F.1 F.2.1 dX5_cell_7 ?_
  obtain rfl := Option.some.inj hf
  exact m_iret F hr hlk hP hS rfl dX5_cell_8

-- FrostTubesModel.frozen([III)Z
def f_X5_frozen (g : Row) (a1 : Int32) (a2 : Int32) : Option (Int32) := ((f_X5_cell a1 a2).bind fun r1 => (if oob r1 205 then none else (if (g r1.toNatClampNeg) ≤ 0 then some (0 : Int32) else some (1 : Int32))))
def rmX5_frozen : Room := { frames := 1, cells := 0, slots := 0, locals := 21 }
theorem hd_X5_frozen : yX5_frozen.cls ≠ "java/lang/invoke/MethodHandle" ∧ yX5_frozen.cls ≠ "java/lang/invoke/VarHandle" ∧ (parseMethodDescriptor yX5_frozen.desc).map (fun d => d.parameters.length) = some 3 := by decide +kernel
set_option maxHeartbeats 8000000 in
set_option maxRecDepth 100000 in
theorem c_X5_frozen {l : Launch} {D : va_G} {y : Nat} {ν : Mem} {ρ : Nat} (h1 : 1 ≤ ρ) (h3 : ρ ≤ 3) {g : Row} (hg : ν ρ = g) (a1 : Int32) (a2 : Int32) {r : Int32} (hf : f_X5_frozen g a1 a2 = some r) : CM l yX5_frozen wsX5_frozen rmX5_frozen [.ref (y + ρ), .int a1, .int a2] D y ν (some (.int r)) ν := by
  refine CM.of (cc := cX5_frozen) (maxL := 3) (ret := (some .boolean)) pn_X5 rfl (Nat.le_of_ble_eq_true rfl) ?_
  intro p e s m args below meth c F hr hlk hK
  intro ls H locs hl hP hS
  have hl : lv_has ls 3 [(0, .ref (y + ρ)), (1, .int a1), (2, .int a2)] := hl
  unfold f_X5_frozen at hf
  refine lv_aload_n F.1 F.2.1 dX5_frozen_0 rfl (lv_at hl 0 rfl) ?_
  refine lv_iload_n F.1 F.2.1 dX5_frozen_1 rfl (lv_at hl 1 rfl) ?_
  refine lv_iload_n F.1 F.2.1 dX5_frozen_2 rfl (lv_at hl 2 rfl) ?_
  obtain ⟨r1, hr2, hf⟩ := bnd hf
  refine m_callS F hK hP hS (c_X5_cell a1 a2 hr2) (va_cwS 2 F.2.2.2.2 gX5_frozen_X5_cell rfl rfl rfl hd_X5_cell ⟨(Nat.le_of_ble_eq_true rfl), (Nat.le_of_ble_eq_true rfl)⟩) rfl rfl hl.1 (Nat.le_of_ble_eq_true rfl) dX5_frozen_3 ⟨(Nat.le_of_ble_eq_true rfl), (Nat.le_of_ble_eq_true rfl)⟩ (rest := [.ref (y + ρ)]) (fun H locs hP hS => ?_)
  refine W.eq (g2 := F0 m 6 ls [.int r1, .ref (y + ρ)]) rfl ?_
  obtain ⟨hb3, hf⟩ := ifg hf
  refine m_iald F hK hP (o := ρ) (by omega) hg (fun f => mkM_row h1 h3 D y f) (lnM_row h1 h3) hb3 dX5_frozen_6 ?_
  refine lv_if_le (tgt := 14) F.1 F.2.1 dX5_frozen_7 rfl (fun hc4 => ?_) (fun hc4 => ?_)
  · have hf := ifp hc4 hf
    refine lv_iconst (v := (0 : Int32)) F.1 F.2.1 dX5_frozen_14 (by decide) ?_
    obtain rfl := Option.some.inj hf
    exact m_zret F hr hlk hP hS rfl (b01_v (v := (0 : Int32)) (Or.inl rfl)) dX5_frozen_15
  · have hf := ifn hc4 hf
    refine lv_iconst (v := (1 : Int32)) F.1 F.2.1 dX5_frozen_10 (by decide) ?_
    refine lv_goto (tgt := 15) F.1 F.2.1 dX5_frozen_11 rfl ?_
    obtain rfl := Option.some.inj hf
    exact m_zret F hr hlk hP hS rfl (b01_v (v := (1 : Int32)) (Or.inr rfl)) dX5_frozen_15

-- FrostTubesModel.first([IIZ)I
def fb_X5_first_1 (g : Row) (a1 : Int32) (a2 : Int32) (K : Int32 → Option (Int32)) (v3 : Int32) : Option (Int32) := (if (30 : Int32) ≤ v3 then some v3 else ((f_X5_frozen g a1 v3).bind fun r2 => (if r2 = a2 then some v3 else (K (v3 + (1 : Int32))))))
def fl_X5_first (g : Row) (a1 : Int32) (a2 : Int32) : Nat → Int32 → Option (Int32)
  | 0, _ => none
  | n + 1, v3 => fb_X5_first_1 g a1 a2 (fl_X5_first g a1 a2 n) v3
def f_X5_first (g : Row) (a1 : Int32) (a2 : Int32) : Option (Int32) := (fl_X5_first g a1 a2 FU (0 : Int32))
def rmX5_first : Room := { frames := 2, cells := 0, slots := 0, locals := 43 }
theorem hd_X5_first : yX5_first.cls ≠ "java/lang/invoke/MethodHandle" ∧ yX5_first.cls ≠ "java/lang/invoke/VarHandle" ∧ (parseMethodDescriptor yX5_first.desc).map (fun d => d.parameters.length) = some 3 := by decide +kernel
set_option maxHeartbeats 8000000 in
set_option maxRecDepth 100000 in
theorem c_X5_first {l : Launch} {D : va_G} {y : Nat} {ν : Mem} {ρ : Nat} (h1 : 1 ≤ ρ) (h3 : ρ ≤ 3) {g : Row} (hg : ν ρ = g) (a1 : Int32) (a2 : Int32) {r : Int32} (hf : f_X5_first g a1 a2 = some r) : CM l yX5_first wsX5_first rmX5_first [.ref (y + ρ), .int a1, .int a2] D y ν (some (.int r)) ν := by
  refine CM.of (cc := cX5_first) (maxL := 4) (ret := (some .int)) pn_X5 rfl (Nat.le_of_ble_eq_true rfl) ?_
  intro p e s m args below meth c F hr hlk hK
  have KEY : ∀ n : Nat, (∀ (v3 : Int32) (ls : Array Slot) (H : Heap) (locs : List Loc), lv_has ls 4 [(0, .ref (y + ρ)), (1, .int a1), (2, .int a2), (3, .int v3)] → va_P D vwCl (WM D y ν) H → va_S (rngM y) s.heap H locs → fl_X5_first g a1 a2 n v3 = some r → W p l e rmX5_first s m args below meth c H locs 0 0 (MQ below (QM D y ν (some (.int r))) args s 0 0 (rngM y)) (F0 m 2 ls [])) := by
    intro n
    induction n with
    | zero => exact (fun _ _ _ _ _ _ _ h => nomatch h)
    | succ n ih =>
      skip
      intro v3  ls H locs hl hP hS hf
      have hf : fb_X5_first_1 g a1 a2 (fl_X5_first g a1 a2 n) v3 = some r := hf
      unfold fb_X5_first_1 at hf
      refine lv_iload_n F.1 F.2.1 dX5_first_2 rfl (lv_at hl 3 rfl) ?_
      refine lv_bipush (v := (30 : Int32)) F.1 F.2.1 dX5_first_3 (by decide) ?_
      refine lv_icmp_ge (tgt := 24) F.1 F.2.1 dX5_first_5 rfl (fun hc1 => ?_) (fun hc1 => ?_)
      · have hf := ifp hc1 hf
        refine lv_iload_n F.1 F.2.1 dX5_first_24 rfl (lv_at hl 3 rfl) ?_
        obtain rfl := Option.some.inj hf
        exact m_iret F hr hlk hP hS rfl dX5_first_25
      · have hf := ifn hc1 hf
        refine lv_aload_n F.1 F.2.1 dX5_first_8 rfl (lv_at hl 0 rfl) ?_
        refine lv_iload_n F.1 F.2.1 dX5_first_9 rfl (lv_at hl 1 rfl) ?_
        refine lv_iload_n F.1 F.2.1 dX5_first_10 rfl (lv_at hl 3 rfl) ?_
        obtain ⟨r2, hr3, hf⟩ := bnd hf
        refine m_callS F hK hP hS (c_X5_frozen h1 h3 hg a1 v3 hr3) (va_cwS 3 F.2.2.2.2 gX5_first_X5_frozen rfl rfl rfl hd_X5_frozen ⟨(Nat.le_of_ble_eq_true rfl), (Nat.le_of_ble_eq_true rfl)⟩) rfl rfl hl.1 (Nat.le_of_ble_eq_true rfl) dX5_first_11 ⟨(Nat.le_of_ble_eq_true rfl), (Nat.le_of_ble_eq_true rfl)⟩ (rest := []) (fun H locs hP hS => ?_)
        refine W.eq (g2 := F0 m 14 ls [.int r2]) rfl ?_
        refine lv_iload_n F.1 F.2.1 dX5_first_14 rfl (lv_at hl 2 rfl) ?_
        refine lv_icmp_eq (tgt := 24) F.1 F.2.1 dX5_first_15 rfl (fun hc4 => ?_) (fun hc4 => ?_)
        · have hf := ifp hc4 hf
          refine lv_iload_n F.1 F.2.1 dX5_first_24 rfl (lv_at hl 3 rfl) ?_
          obtain rfl := Option.some.inj hf
          exact m_iret F hr hlk hP hS rfl dX5_first_25
        · have hf := ifn hc4 hf
          refine lv_iinc (v := (v3 + (1 : Int32))) F.1 F.2.1 dX5_first_18 hl (k := 3) rfl rfl (Nat.le_of_ble_eq_true rfl) rfl (fun ls hl => ?_)
          have hl : lv_has ls 4 [(3, .int (v3 + (1 : Int32))), (0, .ref (y + ρ)), (1, .int a1), (2, .int a2)] := hl
          refine lv_goto (tgt := 2) F.1 F.2.1 dX5_first_21 rfl ?_
          exact ih (v3 + (1 : Int32)) _ _ _ (lv_sub hl [1, 2, 3, 0] rfl) hP hS hf
  intro ls H locs hl hP hS
  have hl : lv_has ls 4 [(0, .ref (y + ρ)), (1, .int a1), (2, .int a2)] := hl
  unfold f_X5_first at hf
  refine lv_iconst (v := (0 : Int32)) F.1 F.2.1 dX5_first_0 (by decide) ?_
  refine lv_istore_n F.1 F.2.1 dX5_first_1 rfl hl (Nat.le_of_ble_eq_true rfl) rfl (fun ls hl => ?_)
  have hl : lv_has ls 4 [(3, .int (0 : Int32)), (0, .ref (y + ρ)), (1, .int a1), (2, .int a2)] := hl
  exact (KEY FU) (0 : Int32) _ _ _ (lv_sub hl [1, 2, 3, 0] rfl) hP hS hf

-- FrostTubesModel.lowest([II)I
def fb_X5_lowest_1 (g : Row) (a1 : Int32) (K : Int32 → Option (Int32)) (v2 : Int32) : Option (Int32) := (if v2 < 0 then some v2 else ((f_X5_frozen g a1 v2).bind fun r2 => (if r2 = 0 then (K (v2 + (-1 : Int32))) else some v2)))
def fl_X5_lowest (g : Row) (a1 : Int32) : Nat → Int32 → Option (Int32)
  | 0, _ => none
  | n + 1, v2 => fb_X5_lowest_1 g a1 (fl_X5_lowest g a1 n) v2
def f_X5_lowest (g : Row) (a1 : Int32) : Option (Int32) := (fl_X5_lowest g a1 FU (29 : Int32))
def rmX5_lowest : Room := { frames := 2, cells := 0, slots := 0, locals := 43 }
theorem hd_X5_lowest : yX5_lowest.cls ≠ "java/lang/invoke/MethodHandle" ∧ yX5_lowest.cls ≠ "java/lang/invoke/VarHandle" ∧ (parseMethodDescriptor yX5_lowest.desc).map (fun d => d.parameters.length) = some 2 := by decide +kernel
set_option maxHeartbeats 8000000 in
set_option maxRecDepth 100000 in
theorem c_X5_lowest {l : Launch} {D : va_G} {y : Nat} {ν : Mem} {ρ : Nat} (h1 : 1 ≤ ρ) (h3 : ρ ≤ 3) {g : Row} (hg : ν ρ = g) (a1 : Int32) {r : Int32} (hf : f_X5_lowest g a1 = some r) : CM l yX5_lowest wsX5_lowest rmX5_lowest [.ref (y + ρ), .int a1] D y ν (some (.int r)) ν := by
  refine CM.of (cc := cX5_lowest) (maxL := 3) (ret := (some .int)) pn_X5 rfl (Nat.le_of_ble_eq_true rfl) ?_
  intro p e s m args below meth c F hr hlk hK
  have KEY : ∀ n : Nat, (∀ (v2 : Int32) (ls : Array Slot) (H : Heap) (locs : List Loc), lv_has ls 3 [(0, .ref (y + ρ)), (1, .int a1), (2, .int v2)] → va_P D vwCl (WM D y ν) H → va_S (rngM y) s.heap H locs → fl_X5_lowest g a1 n v2 = some r → W p l e rmX5_lowest s m args below meth c H locs 0 0 (MQ below (QM D y ν (some (.int r))) args s 0 0 (rngM y)) (F0 m 3 ls [])) := by
    intro n
    induction n with
    | zero => exact (fun _ _ _ _ _ _ _ h => nomatch h)
    | succ n ih =>
      skip
      intro v2  ls H locs hl hP hS hf
      have hf : fb_X5_lowest_1 g a1 (fl_X5_lowest g a1 n) v2 = some r := hf
      unfold fb_X5_lowest_1 at hf
      refine lv_iload_n F.1 F.2.1 dX5_lowest_3 rfl (lv_at hl 2 rfl) ?_
      refine lv_if_lt (tgt := 22) F.1 F.2.1 dX5_lowest_4 rfl (fun hc1 => ?_) (fun hc1 => ?_)
      · have hf := ifp hc1 hf
        refine lv_iload_n F.1 F.2.1 dX5_lowest_22 rfl (lv_at hl 2 rfl) ?_
        obtain rfl := Option.some.inj hf
        exact m_iret F hr hlk hP hS rfl dX5_lowest_23
      · have hf := ifn hc1 hf
        refine lv_aload_n F.1 F.2.1 dX5_lowest_7 rfl (lv_at hl 0 rfl) ?_
        refine lv_iload_n F.1 F.2.1 dX5_lowest_8 rfl (lv_at hl 1 rfl) ?_
        refine lv_iload_n F.1 F.2.1 dX5_lowest_9 rfl (lv_at hl 2 rfl) ?_
        obtain ⟨r2, hr3, hf⟩ := bnd hf
        refine m_callS F hK hP hS (c_X5_frozen h1 h3 hg a1 v2 hr3) (va_cwS 3 F.2.2.2.2 gX5_lowest_X5_frozen rfl rfl rfl hd_X5_frozen ⟨(Nat.le_of_ble_eq_true rfl), (Nat.le_of_ble_eq_true rfl)⟩) rfl rfl hl.1 (Nat.le_of_ble_eq_true rfl) dX5_lowest_10 ⟨(Nat.le_of_ble_eq_true rfl), (Nat.le_of_ble_eq_true rfl)⟩ (rest := []) (fun H locs hP hS => ?_)
        refine W.eq (g2 := F0 m 13 ls [.int r2]) rfl ?_
        refine lv_if_ne (tgt := 22) F.1 F.2.1 dX5_lowest_13 rfl (fun hc4 => ?_) (fun hc4 => ?_)
        · have hf := ifn hc4 hf
          refine lv_iload_n F.1 F.2.1 dX5_lowest_22 rfl (lv_at hl 2 rfl) ?_
          obtain rfl := Option.some.inj hf
          exact m_iret F hr hlk hP hS rfl dX5_lowest_23
        · have hf := ifp hc4 hf
          refine lv_iinc (v := (v2 + (-1 : Int32))) F.1 F.2.1 dX5_lowest_16 hl (k := 2) rfl rfl (Nat.le_of_ble_eq_true rfl) rfl (fun ls hl => ?_)
          have hl : lv_has ls 3 [(2, .int (v2 + (-1 : Int32))), (0, .ref (y + ρ)), (1, .int a1)] := hl
          refine lv_goto (tgt := 3) F.1 F.2.1 dX5_lowest_19 rfl ?_
          exact ih (v2 + (-1 : Int32)) _ _ _ (lv_sub hl [1, 2, 0] rfl) hP hS hf
  intro ls H locs hl hP hS
  have hl : lv_has ls 3 [(0, .ref (y + ρ)), (1, .int a1)] := hl
  unfold f_X5_lowest at hf
  refine lv_bipush (v := (29 : Int32)) F.1 F.2.1 dX5_lowest_0 (by decide) ?_
  refine lv_istore_n F.1 F.2.1 dX5_lowest_2 rfl hl (Nat.le_of_ble_eq_true rfl) rfl (fun ls hl => ?_)
  have hl : lv_has ls 3 [(2, .int (29 : Int32)), (0, .ref (y + ρ)), (1, .int a1)] := hl
  exact (KEY FU) (29 : Int32) _ _ _ (lv_sub hl [1, 2, 0] rfl) hP hS hf

-- FrostTubesModel.freeze([III)V
def fb_X5_freeze_1 (a1 : Int32) (a2 : Int32) (K : Row → Int32 → Option (Row)) (g : Row) (v3 : Int32) : Option (Row) := (if (g (198 : Int32).toNatClampNeg) ≤ v3 then some g else (if oob ((156 : Int32) + ((5 : Int32) * v3)) 205 then none else (if (g ((156 : Int32) + ((5 : Int32) * v3)).toNatClampNeg) = a1 then (if oob (((156 : Int32) + ((5 : Int32) * v3)) + (1 : Int32)) 205 then none else (if (g (((156 : Int32) + ((5 : Int32) * v3)) + (1 : Int32)).toNatClampNeg) = a2 then (if oob (((156 : Int32) + ((5 : Int32) * v3)) + (2 : Int32)) 205 then none else (if oob (((156 : Int32) + ((5 : Int32) * v3)) + (2 : Int32)) 205 then none else (if oob (((156 : Int32) + ((5 : Int32) * v3)) + (2 : Int32)) 205 then none else (if oob (((156 : Int32) + ((5 : Int32) * v3)) + (3 : Int32)) 205 then none else (if ((upd g ((((156 : Int32) + ((5 : Int32) * v3)) + (2 : Int32)).toNatClampNeg) ((g (((156 : Int32) + ((5 : Int32) * v3)) + (2 : Int32)).toNatClampNeg) + (g (204 : Int32).toNatClampNeg))) (((156 : Int32) + ((5 : Int32) * v3)) + (2 : Int32)).toNatClampNeg) ≤ ((upd g ((((156 : Int32) + ((5 : Int32) * v3)) + (2 : Int32)).toNatClampNeg) ((g (((156 : Int32) + ((5 : Int32) * v3)) + (2 : Int32)).toNatClampNeg) + (g (204 : Int32).toNatClampNeg))) (((156 : Int32) + ((5 : Int32) * v3)) + (3 : Int32)).toNatClampNeg) then (if oob (((156 : Int32) + ((5 : Int32) * v3)) + (3 : Int32)) 205 then none else (if oob (((156 : Int32) + ((5 : Int32) * v3)) + (3 : Int32)) 205 then none else (if oob (((156 : Int32) + ((5 : Int32) * v3)) + (4 : Int32)) 205 then none else (if oob (((156 : Int32) + ((5 : Int32) * v3)) + (4 : Int32)) 205 then none else (K (upd (upd (upd g ((((156 : Int32) + ((5 : Int32) * v3)) + (2 : Int32)).toNatClampNeg) ((g (((156 : Int32) + ((5 : Int32) * v3)) + (2 : Int32)).toNatClampNeg) + (g (204 : Int32).toNatClampNeg))) ((((156 : Int32) + ((5 : Int32) * v3)) + (3 : Int32)).toNatClampNeg) ((upd g ((((156 : Int32) + ((5 : Int32) * v3)) + (2 : Int32)).toNatClampNeg) ((g (((156 : Int32) + ((5 : Int32) * v3)) + (2 : Int32)).toNatClampNeg) + (g (204 : Int32).toNatClampNeg))) (((156 : Int32) + ((5 : Int32) * v3)) + (3 : Int32)).toNatClampNeg)) ((((156 : Int32) + ((5 : Int32) * v3)) + (4 : Int32)).toNatClampNeg) (((upd (upd g ((((156 : Int32) + ((5 : Int32) * v3)) + (2 : Int32)).toNatClampNeg) ((g (((156 : Int32) + ((5 : Int32) * v3)) + (2 : Int32)).toNatClampNeg) + (g (204 : Int32).toNatClampNeg))) ((((156 : Int32) + ((5 : Int32) * v3)) + (3 : Int32)).toNatClampNeg) ((upd g ((((156 : Int32) + ((5 : Int32) * v3)) + (2 : Int32)).toNatClampNeg) ((g (((156 : Int32) + ((5 : Int32) * v3)) + (2 : Int32)).toNatClampNeg) + (g (204 : Int32).toNatClampNeg))) (((156 : Int32) + ((5 : Int32) * v3)) + (3 : Int32)).toNatClampNeg)) (((156 : Int32) + ((5 : Int32) * v3)) + (4 : Int32)).toNatClampNeg) + (1 : Int32))) (v3 + (1 : Int32))))))) else (if oob (((156 : Int32) + ((5 : Int32) * v3)) + (2 : Int32)) 205 then none else (if oob (((156 : Int32) + ((5 : Int32) * v3)) + (3 : Int32)) 205 then none else (if oob (((156 : Int32) + ((5 : Int32) * v3)) + (4 : Int32)) 205 then none else (if oob (((156 : Int32) + ((5 : Int32) * v3)) + (4 : Int32)) 205 then none else (K (upd (upd (upd g ((((156 : Int32) + ((5 : Int32) * v3)) + (2 : Int32)).toNatClampNeg) ((g (((156 : Int32) + ((5 : Int32) * v3)) + (2 : Int32)).toNatClampNeg) + (g (204 : Int32).toNatClampNeg))) ((((156 : Int32) + ((5 : Int32) * v3)) + (3 : Int32)).toNatClampNeg) ((upd g ((((156 : Int32) + ((5 : Int32) * v3)) + (2 : Int32)).toNatClampNeg) ((g (((156 : Int32) + ((5 : Int32) * v3)) + (2 : Int32)).toNatClampNeg) + (g (204 : Int32).toNatClampNeg))) (((156 : Int32) + ((5 : Int32) * v3)) + (2 : Int32)).toNatClampNeg)) ((((156 : Int32) + ((5 : Int32) * v3)) + (4 : Int32)).toNatClampNeg) (((upd (upd g ((((156 : Int32) + ((5 : Int32) * v3)) + (2 : Int32)).toNatClampNeg) ((g (((156 : Int32) + ((5 : Int32) * v3)) + (2 : Int32)).toNatClampNeg) + (g (204 : Int32).toNatClampNeg))) ((((156 : Int32) + ((5 : Int32) * v3)) + (3 : Int32)).toNatClampNeg) ((upd g ((((156 : Int32) + ((5 : Int32) * v3)) + (2 : Int32)).toNatClampNeg) ((g (((156 : Int32) + ((5 : Int32) * v3)) + (2 : Int32)).toNatClampNeg) + (g (204 : Int32).toNatClampNeg))) (((156 : Int32) + ((5 : Int32) * v3)) + (2 : Int32)).toNatClampNeg)) (((156 : Int32) + ((5 : Int32) * v3)) + (4 : Int32)).toNatClampNeg) + (1 : Int32))) (v3 + (1 : Int32)))))))))))) else (K g (v3 + (1 : Int32))))) else (K g (v3 + (1 : Int32))))))
def fl_X5_freeze (a1 : Int32) (a2 : Int32) : Nat → Row → Int32 → Option (Row)
  | 0, _, _ => none
  | n + 1, g, v3 => fb_X5_freeze_1 a1 a2 (fl_X5_freeze a1 a2 n) g v3
def f_X5_freeze (g : Row) (a1 : Int32) (a2 : Int32) : Option (Row) := ((f_X5_cell a1 a2).bind fun r1 => (if oob r1 205 then none else (fl_X5_freeze a1 a2 FU (upd g r1.toNatClampNeg (g (199 : Int32).toNatClampNeg)) (0 : Int32))))
def rmX5_freeze : Room := { frames := 1, cells := 0, slots := 0, locals := 21 }
theorem hd_X5_freeze : yX5_freeze.cls ≠ "java/lang/invoke/MethodHandle" ∧ yX5_freeze.cls ≠ "java/lang/invoke/VarHandle" ∧ (parseMethodDescriptor yX5_freeze.desc).map (fun d => d.parameters.length) = some 3 := by decide +kernel
set_option maxHeartbeats 8000000 in
set_option maxRecDepth 100000 in
theorem c_X5_freeze {l : Launch} {D : va_G} {y : Nat} {ν : Mem} {ρ : Nat} (h1 : 1 ≤ ρ) (h3 : ρ ≤ 3) {g : Row} (a1 : Int32) (a2 : Int32) {r : Row} (hf : f_X5_freeze g a1 a2 = some r) : CM l yX5_freeze wsX5_freeze rmX5_freeze [.ref (y + ρ), .int a1, .int a2] D y (va_up ν ρ g) (none) (va_up ν ρ r) := by
  refine CM.of (cc := cX5_freeze) (maxL := 5) (ret := none) pn_X5 rfl (Nat.le_of_ble_eq_true rfl) ?_
  intro p e s m args below meth c F hr hlk hK
  have KEY : ∀ n : Nat, (∀ (g : Row) (v3 : Int32) (ls : Array Slot) (H : Heap) (locs : List Loc), lv_has ls 5 [(0, .ref (y + ρ)), (1, .int a1), (2, .int a2), (3, .int v3)] → va_P D vwCl (WM D y (va_up ν ρ g)) H → va_S (rngM y) s.heap H locs → fl_X5_freeze a1 a2 n g v3 = some r → W p l e rmX5_freeze s m args below meth c H locs 0 0 (MQ below (QM D y (va_up ν ρ r) (none)) args s 0 0 (rngM y)) (F0 m 14 ls [])) := by
    intro n
    induction n with
    | zero => exact (fun _ _ _ _ _ _ _ _ h => nomatch h)
    | succ n ih =>
      skip
      intro g v3  ls H locs hl hP hS hf
      have hf : fb_X5_freeze_1 a1 a2 (fl_X5_freeze a1 a2 n) g v3 = some r := hf
      unfold fb_X5_freeze_1 at hf
      refine lv_iload_n F.1 F.2.1 dX5_freeze_14 rfl (lv_at hl 3 rfl) ?_
      refine lv_aload_n F.1 F.2.1 dX5_freeze_15 rfl (lv_at hl 0 rfl) ?_
      refine lv_sipush (v := (198 : Int32)) F.1 F.2.1 dX5_freeze_16 (by decide) ?_
      refine m_iald F hK hP (o := ρ) (by omega) (mu_at _ _ _) (fun f => mkM_row h1 h3 D y f) (lnM_row h1 h3) (by decide) dX5_freeze_19 ?_
      refine lv_icmp_ge (tgt := 116) F.1 F.2.1 dX5_freeze_20 rfl (fun hc4 => ?_) (fun hc4 => ?_)
      · have hf := ifp hc4 hf
        obtain rfl := Option.some.inj hf
        exact m_vret F hr hlk hP hS rfl dX5_freeze_116
      · have hf := ifn hc4 hf
        refine lv_sipush (v := (156 : Int32)) F.1 F.2.1 dX5_freeze_23 (by decide) ?_
        refine lv_iconst (v := (5 : Int32)) F.1 F.2.1 dX5_freeze_26 (by decide) ?_
        refine lv_iload_n F.1 F.2.1 dX5_freeze_27 rfl (lv_at hl 3 rfl) ?_
        refine lv_imul F.1 F.2.1 dX5_freeze_28 ?_
        refine lv_iadd F.1 F.2.1 dX5_freeze_29 ?_
        refine lv_istore F.1 F.2.1 dX5_freeze_30 hl (Nat.le_of_ble_eq_true rfl) rfl (fun ls hl => ?_)
        have hl : lv_has ls 5 [(4, .int ((156 : Int32) + ((5 : Int32) * v3))), (0, .ref (y + ρ)), (1, .int a1), (2, .int a2), (3, .int v3)] := hl
        refine lv_aload_n F.1 F.2.1 dX5_freeze_32 rfl (lv_at hl 1 rfl) ?_
        refine lv_iload F.1 F.2.1 dX5_freeze_33 (lv_at hl 0 rfl) ?_
        obtain ⟨hb5, hf⟩ := ifg hf
        refine m_iald F hK hP (o := ρ) (by omega) (mu_at _ _ _) (fun f => mkM_row h1 h3 D y f) (lnM_row h1 h3) hb5 dX5_freeze_35 ?_
        refine lv_iload_n F.1 F.2.1 dX5_freeze_36 rfl (lv_at hl 2 rfl) ?_
        refine lv_icmp_ne (tgt := 110) F.1 F.2.1 dX5_freeze_37 rfl (fun hc6 => ?_) (fun hc6 => ?_)
        · have hf := ifn hc6 hf
          refine lv_iinc (v := (v3 + (1 : Int32))) F.1 F.2.1 dX5_freeze_110 hl (k := 4) rfl rfl (Nat.le_of_ble_eq_true rfl) rfl (fun ls hl => ?_)
          have hl : lv_has ls 5 [(3, .int (v3 + (1 : Int32))), (4, .int ((156 : Int32) + ((5 : Int32) * v3))), (0, .ref (y + ρ)), (1, .int a1), (2, .int a2)] := hl
          refine lv_goto (tgt := 14) F.1 F.2.1 dX5_freeze_113 rfl ?_
          exact ih g (v3 + (1 : Int32)) _ _ _ (lv_sub hl [2, 3, 4, 0] rfl) hP hS hf
        · have hf := ifp hc6 hf
          refine lv_aload_n F.1 F.2.1 dX5_freeze_40 rfl (lv_at hl 1 rfl) ?_
          refine lv_iload F.1 F.2.1 dX5_freeze_41 (lv_at hl 0 rfl) ?_
          refine lv_iconst (v := (1 : Int32)) F.1 F.2.1 dX5_freeze_43 (by decide) ?_
          refine lv_iadd F.1 F.2.1 dX5_freeze_44 ?_
          obtain ⟨hb7, hf⟩ := ifg hf
          refine m_iald F hK hP (o := ρ) (by omega) (mu_at _ _ _) (fun f => mkM_row h1 h3 D y f) (lnM_row h1 h3) hb7 dX5_freeze_45 ?_
          refine lv_iload_n F.1 F.2.1 dX5_freeze_46 rfl (lv_at hl 3 rfl) ?_
          refine lv_icmp_ne (tgt := 110) F.1 F.2.1 dX5_freeze_47 rfl (fun hc8 => ?_) (fun hc8 => ?_)
          · have hf := ifn hc8 hf
            refine lv_iinc (v := (v3 + (1 : Int32))) F.1 F.2.1 dX5_freeze_110 hl (k := 4) rfl rfl (Nat.le_of_ble_eq_true rfl) rfl (fun ls hl => ?_)
            have hl : lv_has ls 5 [(3, .int (v3 + (1 : Int32))), (4, .int ((156 : Int32) + ((5 : Int32) * v3))), (0, .ref (y + ρ)), (1, .int a1), (2, .int a2)] := hl
            refine lv_goto (tgt := 14) F.1 F.2.1 dX5_freeze_113 rfl ?_
            exact ih g (v3 + (1 : Int32)) _ _ _ (lv_sub hl [2, 3, 4, 0] rfl) hP hS hf
          · have hf := ifp hc8 hf
            refine lv_aload_n F.1 F.2.1 dX5_freeze_50 rfl (lv_at hl 1 rfl) ?_
            refine lv_iload F.1 F.2.1 dX5_freeze_51 (lv_at hl 0 rfl) ?_
            refine lv_iconst (v := (2 : Int32)) F.1 F.2.1 dX5_freeze_53 (by decide) ?_
            refine lv_iadd F.1 F.2.1 dX5_freeze_54 ?_
            refine lv_dup2_11 F.1 F.2.1 dX5_freeze_55 rfl rfl ?_
            obtain ⟨hb9, hf⟩ := ifg hf
            refine m_iald F hK hP (o := ρ) (by omega) (mu_at _ _ _) (fun f => mkM_row h1 h3 D y f) (lnM_row h1 h3) hb9 dX5_freeze_56 ?_
            refine lv_aload_n F.1 F.2.1 dX5_freeze_57 rfl (lv_at hl 1 rfl) ?_
            refine lv_sipush (v := (204 : Int32)) F.1 F.2.1 dX5_freeze_58 (by decide) ?_
            refine m_iald F hK hP (o := ρ) (by omega) (mu_at _ _ _) (fun f => mkM_row h1 h3 D y f) (lnM_row h1 h3) (by decide) dX5_freeze_61 ?_
            refine lv_iadd F.1 F.2.1 dX5_freeze_62 ?_
            obtain ⟨hb10, hf⟩ := ifg hf
            refine m_iast F hK hP hS (by omega) (fun f => mkM_row h1 h3 D y f) (lnM_row h1 h3) hb10 dX5_freeze_63 (fun H locs hP hS => ?_)
            refine lv_aload_n F.1 F.2.1 dX5_freeze_64 rfl (lv_at hl 1 rfl) ?_
            refine lv_iload F.1 F.2.1 dX5_freeze_65 (lv_at hl 0 rfl) ?_
            refine lv_iconst (v := (3 : Int32)) F.1 F.2.1 dX5_freeze_67 (by decide) ?_
            refine lv_iadd F.1 F.2.1 dX5_freeze_68 ?_
            refine lv_aload_n F.1 F.2.1 dX5_freeze_69 rfl (lv_at hl 1 rfl) ?_
            refine lv_iload F.1 F.2.1 dX5_freeze_70 (lv_at hl 0 rfl) ?_
            refine lv_iconst (v := (2 : Int32)) F.1 F.2.1 dX5_freeze_72 (by decide) ?_
            refine lv_iadd F.1 F.2.1 dX5_freeze_73 ?_
            obtain ⟨hb11, hf⟩ := ifg hf
            refine m_iald F hK hP (o := ρ) (by omega) (mu_at _ _ _) (fun f => mkM_row h1 h3 D y f) (lnM_row h1 h3) hb11 dX5_freeze_74 ?_
            refine lv_aload_n F.1 F.2.1 dX5_freeze_75 rfl (lv_at hl 1 rfl) ?_
            refine lv_iload F.1 F.2.1 dX5_freeze_76 (lv_at hl 0 rfl) ?_
            refine lv_iconst (v := (3 : Int32)) F.1 F.2.1 dX5_freeze_78 (by decide) ?_
            refine lv_iadd F.1 F.2.1 dX5_freeze_79 ?_
            obtain ⟨hb12, hf⟩ := ifg hf
            refine m_iald F hK hP (o := ρ) (by omega) (mu_at _ _ _) (fun f => mkM_row h1 h3 D y f) (lnM_row h1 h3) hb12 dX5_freeze_80 ?_
            refine lv_icmp_le (tgt := 93) F.1 F.2.1 dX5_freeze_81 rfl (fun hc13 => ?_) (fun hc13 => ?_)
            · have hf := ifp hc13 hf
              refine lv_aload_n F.1 F.2.1 dX5_freeze_93 rfl (lv_at hl 1 rfl) ?_
              refine lv_iload F.1 F.2.1 dX5_freeze_94 (lv_at hl 0 rfl) ?_
              refine lv_iconst (v := (3 : Int32)) F.1 F.2.1 dX5_freeze_96 (by decide) ?_
              refine lv_iadd F.1 F.2.1 dX5_freeze_97 ?_
              obtain ⟨hb14, hf⟩ := ifg hf
              refine m_iald F hK hP (o := ρ) (by omega) (mu_at _ _ _) (fun f => mkM_row h1 h3 D y f) (lnM_row h1 h3) hb14 dX5_freeze_98 ?_
              obtain ⟨hb15, hf⟩ := ifg hf
              refine m_iast F hK hP hS (by omega) (fun f => mkM_row h1 h3 D y f) (lnM_row h1 h3) hb15 dX5_freeze_99 (fun H locs hP hS => ?_)
              refine lv_aload_n F.1 F.2.1 dX5_freeze_100 rfl (lv_at hl 1 rfl) ?_
              refine lv_iload F.1 F.2.1 dX5_freeze_101 (lv_at hl 0 rfl) ?_
              refine lv_iconst (v := (4 : Int32)) F.1 F.2.1 dX5_freeze_103 (by decide) ?_
              refine lv_iadd F.1 F.2.1 dX5_freeze_104 ?_
              refine lv_dup2_11 F.1 F.2.1 dX5_freeze_105 rfl rfl ?_
              obtain ⟨hb16, hf⟩ := ifg hf
              refine m_iald F hK hP (o := ρ) (by omega) (mu_at _ _ _) (fun f => mkM_row h1 h3 D y f) (lnM_row h1 h3) hb16 dX5_freeze_106 ?_
              refine lv_iconst (v := (1 : Int32)) F.1 F.2.1 dX5_freeze_107 (by decide) ?_
              refine lv_iadd F.1 F.2.1 dX5_freeze_108 ?_
              obtain ⟨hb17, hf⟩ := ifg hf
              refine m_iast F hK hP hS (by omega) (fun f => mkM_row h1 h3 D y f) (lnM_row h1 h3) hb17 dX5_freeze_109 (fun H locs hP hS => ?_)
              refine lv_iinc (v := (v3 + (1 : Int32))) F.1 F.2.1 dX5_freeze_110 hl (k := 4) rfl rfl (Nat.le_of_ble_eq_true rfl) rfl (fun ls hl => ?_)
              have hl : lv_has ls 5 [(3, .int (v3 + (1 : Int32))), (4, .int ((156 : Int32) + ((5 : Int32) * v3))), (0, .ref (y + ρ)), (1, .int a1), (2, .int a2)] := hl
              refine lv_goto (tgt := 14) F.1 F.2.1 dX5_freeze_113 rfl ?_
              exact ih (upd (upd (upd g ((((156 : Int32) + ((5 : Int32) * v3)) + (2 : Int32)).toNatClampNeg) ((g (((156 : Int32) + ((5 : Int32) * v3)) + (2 : Int32)).toNatClampNeg) + (g (204 : Int32).toNatClampNeg))) ((((156 : Int32) + ((5 : Int32) * v3)) + (3 : Int32)).toNatClampNeg) ((upd g ((((156 : Int32) + ((5 : Int32) * v3)) + (2 : Int32)).toNatClampNeg) ((g (((156 : Int32) + ((5 : Int32) * v3)) + (2 : Int32)).toNatClampNeg) + (g (204 : Int32).toNatClampNeg))) (((156 : Int32) + ((5 : Int32) * v3)) + (3 : Int32)).toNatClampNeg)) ((((156 : Int32) + ((5 : Int32) * v3)) + (4 : Int32)).toNatClampNeg) (((upd (upd g ((((156 : Int32) + ((5 : Int32) * v3)) + (2 : Int32)).toNatClampNeg) ((g (((156 : Int32) + ((5 : Int32) * v3)) + (2 : Int32)).toNatClampNeg) + (g (204 : Int32).toNatClampNeg))) ((((156 : Int32) + ((5 : Int32) * v3)) + (3 : Int32)).toNatClampNeg) ((upd g ((((156 : Int32) + ((5 : Int32) * v3)) + (2 : Int32)).toNatClampNeg) ((g (((156 : Int32) + ((5 : Int32) * v3)) + (2 : Int32)).toNatClampNeg) + (g (204 : Int32).toNatClampNeg))) (((156 : Int32) + ((5 : Int32) * v3)) + (3 : Int32)).toNatClampNeg)) (((156 : Int32) + ((5 : Int32) * v3)) + (4 : Int32)).toNatClampNeg) + (1 : Int32))) (v3 + (1 : Int32)) _ _ _ (lv_sub hl [2, 3, 4, 0] rfl) hP hS hf
            · have hf := ifn hc13 hf
              refine lv_aload_n F.1 F.2.1 dX5_freeze_84 rfl (lv_at hl 1 rfl) ?_
              refine lv_iload F.1 F.2.1 dX5_freeze_85 (lv_at hl 0 rfl) ?_
              refine lv_iconst (v := (2 : Int32)) F.1 F.2.1 dX5_freeze_87 (by decide) ?_
              refine lv_iadd F.1 F.2.1 dX5_freeze_88 ?_
              obtain ⟨hb18, hf⟩ := ifg hf
              refine m_iald F hK hP (o := ρ) (by omega) (mu_at _ _ _) (fun f => mkM_row h1 h3 D y f) (lnM_row h1 h3) hb18 dX5_freeze_89 ?_
              refine lv_goto (tgt := 99) F.1 F.2.1 dX5_freeze_90 rfl ?_
              obtain ⟨hb19, hf⟩ := ifg hf
              refine m_iast F hK hP hS (by omega) (fun f => mkM_row h1 h3 D y f) (lnM_row h1 h3) hb19 dX5_freeze_99 (fun H locs hP hS => ?_)
              refine lv_aload_n F.1 F.2.1 dX5_freeze_100 rfl (lv_at hl 1 rfl) ?_
              refine lv_iload F.1 F.2.1 dX5_freeze_101 (lv_at hl 0 rfl) ?_
              refine lv_iconst (v := (4 : Int32)) F.1 F.2.1 dX5_freeze_103 (by decide) ?_
              refine lv_iadd F.1 F.2.1 dX5_freeze_104 ?_
              refine lv_dup2_11 F.1 F.2.1 dX5_freeze_105 rfl rfl ?_
              obtain ⟨hb20, hf⟩ := ifg hf
              refine m_iald F hK hP (o := ρ) (by omega) (mu_at _ _ _) (fun f => mkM_row h1 h3 D y f) (lnM_row h1 h3) hb20 dX5_freeze_106 ?_
              refine lv_iconst (v := (1 : Int32)) F.1 F.2.1 dX5_freeze_107 (by decide) ?_
              refine lv_iadd F.1 F.2.1 dX5_freeze_108 ?_
              obtain ⟨hb21, hf⟩ := ifg hf
              refine m_iast F hK hP hS (by omega) (fun f => mkM_row h1 h3 D y f) (lnM_row h1 h3) hb21 dX5_freeze_109 (fun H locs hP hS => ?_)
              refine lv_iinc (v := (v3 + (1 : Int32))) F.1 F.2.1 dX5_freeze_110 hl (k := 4) rfl rfl (Nat.le_of_ble_eq_true rfl) rfl (fun ls hl => ?_)
              have hl : lv_has ls 5 [(3, .int (v3 + (1 : Int32))), (4, .int ((156 : Int32) + ((5 : Int32) * v3))), (0, .ref (y + ρ)), (1, .int a1), (2, .int a2)] := hl
              refine lv_goto (tgt := 14) F.1 F.2.1 dX5_freeze_113 rfl ?_
              exact ih (upd (upd (upd g ((((156 : Int32) + ((5 : Int32) * v3)) + (2 : Int32)).toNatClampNeg) ((g (((156 : Int32) + ((5 : Int32) * v3)) + (2 : Int32)).toNatClampNeg) + (g (204 : Int32).toNatClampNeg))) ((((156 : Int32) + ((5 : Int32) * v3)) + (3 : Int32)).toNatClampNeg) ((upd g ((((156 : Int32) + ((5 : Int32) * v3)) + (2 : Int32)).toNatClampNeg) ((g (((156 : Int32) + ((5 : Int32) * v3)) + (2 : Int32)).toNatClampNeg) + (g (204 : Int32).toNatClampNeg))) (((156 : Int32) + ((5 : Int32) * v3)) + (2 : Int32)).toNatClampNeg)) ((((156 : Int32) + ((5 : Int32) * v3)) + (4 : Int32)).toNatClampNeg) (((upd (upd g ((((156 : Int32) + ((5 : Int32) * v3)) + (2 : Int32)).toNatClampNeg) ((g (((156 : Int32) + ((5 : Int32) * v3)) + (2 : Int32)).toNatClampNeg) + (g (204 : Int32).toNatClampNeg))) ((((156 : Int32) + ((5 : Int32) * v3)) + (3 : Int32)).toNatClampNeg) ((upd g ((((156 : Int32) + ((5 : Int32) * v3)) + (2 : Int32)).toNatClampNeg) ((g (((156 : Int32) + ((5 : Int32) * v3)) + (2 : Int32)).toNatClampNeg) + (g (204 : Int32).toNatClampNeg))) (((156 : Int32) + ((5 : Int32) * v3)) + (2 : Int32)).toNatClampNeg)) (((156 : Int32) + ((5 : Int32) * v3)) + (4 : Int32)).toNatClampNeg) + (1 : Int32))) (v3 + (1 : Int32)) _ _ _ (lv_sub hl [2, 3, 4, 0] rfl) hP hS hf
  intro ls H locs hl hP hS
  have hl : lv_has ls 5 [(0, .ref (y + ρ)), (1, .int a1), (2, .int a2)] := hl
  unfold f_X5_freeze at hf
  refine lv_aload_n F.1 F.2.1 dX5_freeze_0 rfl (lv_at hl 0 rfl) ?_
  refine lv_iload_n F.1 F.2.1 dX5_freeze_1 rfl (lv_at hl 1 rfl) ?_
  refine lv_iload_n F.1 F.2.1 dX5_freeze_2 rfl (lv_at hl 2 rfl) ?_
  obtain ⟨r1, hr2, hf⟩ := bnd hf
  refine m_callS F hK hP hS (c_X5_cell a1 a2 hr2) (va_cwS 2 F.2.2.2.2 gX5_freeze_X5_cell rfl rfl rfl hd_X5_cell ⟨(Nat.le_of_ble_eq_true rfl), (Nat.le_of_ble_eq_true rfl)⟩) rfl rfl hl.1 (Nat.le_of_ble_eq_true rfl) dX5_freeze_3 ⟨(Nat.le_of_ble_eq_true rfl), (Nat.le_of_ble_eq_true rfl)⟩ (rest := [.ref (y + ρ)]) (fun H locs hP hS => ?_)
  refine W.eq (g2 := F0 m 6 ls [.int r1, .ref (y + ρ)]) rfl ?_
  refine lv_aload_n F.1 F.2.1 dX5_freeze_6 rfl (lv_at hl 0 rfl) ?_
  refine lv_sipush (v := (199 : Int32)) F.1 F.2.1 dX5_freeze_7 (by decide) ?_
  refine m_iald F hK hP (o := ρ) (by omega) (mu_at _ _ _) (fun f => mkM_row h1 h3 D y f) (lnM_row h1 h3) (by decide) dX5_freeze_10 ?_
  obtain ⟨hb3, hf⟩ := ifg hf
  refine m_iast F hK hP hS (by omega) (fun f => mkM_row h1 h3 D y f) (lnM_row h1 h3) hb3 dX5_freeze_11 (fun H locs hP hS => ?_)
  refine lv_iconst (v := (0 : Int32)) F.1 F.2.1 dX5_freeze_12 (by decide) ?_
  refine lv_istore_n F.1 F.2.1 dX5_freeze_13 rfl hl (Nat.le_of_ble_eq_true rfl) rfl (fun ls hl => ?_)
  have hl : lv_has ls 5 [(3, .int (0 : Int32)), (0, .ref (y + ρ)), (1, .int a1), (2, .int a2)] := hl
  exact (KEY FU) (upd g r1.toNatClampNeg (g (199 : Int32).toNatClampNeg)) (0 : Int32) _ _ _ (lv_sub hl [1, 2, 3, 0] rfl) hP hS hf

-- FrostTubesModel.thaw([III)V
def fb_X5_thaw_1 (a1 : Int32) (a2 : Int32) (K : Row → Int32 → Option (Row)) (g : Row) (v3 : Int32) : Option (Row) := (if (g (198 : Int32).toNatClampNeg) ≤ v3 then some g else (if oob (((156 : Int32) + ((5 : Int32) * v3)) + (2 : Int32)) 205 then none else (if oob ((156 : Int32) + ((5 : Int32) * v3)) 205 then none else (if (g ((156 : Int32) + ((5 : Int32) * v3)).toNatClampNeg) = a1 then (if oob (((156 : Int32) + ((5 : Int32) * v3)) + (1 : Int32)) 205 then none else (if (g (((156 : Int32) + ((5 : Int32) * v3)) + (1 : Int32)).toNatClampNeg) = a2 then (if oob (((156 : Int32) + ((5 : Int32) * v3)) + (2 : Int32)) 205 then none else (if oob (((156 : Int32) + ((5 : Int32) * v3)) + (2 : Int32)) 205 then none else (K (upd g ((((156 : Int32) + ((5 : Int32) * v3)) + (2 : Int32)).toNatClampNeg) ((g (((156 : Int32) + ((5 : Int32) * v3)) + (2 : Int32)).toNatClampNeg) - ((g (((156 : Int32) + ((5 : Int32) * v3)) + (2 : Int32)).toNatClampNeg) / (2 : Int32)))) (v3 + (1 : Int32))))) else (if oob (((156 : Int32) + ((5 : Int32) * v3)) + (2 : Int32)) 205 then none else (K (upd g ((((156 : Int32) + ((5 : Int32) * v3)) + (2 : Int32)).toNatClampNeg) ((g (((156 : Int32) + ((5 : Int32) * v3)) + (2 : Int32)).toNatClampNeg) - (0 : Int32))) (v3 + (1 : Int32)))))) else (if oob (((156 : Int32) + ((5 : Int32) * v3)) + (2 : Int32)) 205 then none else (K (upd g ((((156 : Int32) + ((5 : Int32) * v3)) + (2 : Int32)).toNatClampNeg) ((g (((156 : Int32) + ((5 : Int32) * v3)) + (2 : Int32)).toNatClampNeg) - (0 : Int32))) (v3 + (1 : Int32))))))))
def fl_X5_thaw (a1 : Int32) (a2 : Int32) : Nat → Row → Int32 → Option (Row)
  | 0, _, _ => none
  | n + 1, g, v3 => fb_X5_thaw_1 a1 a2 (fl_X5_thaw a1 a2 n) g v3
def f_X5_thaw (g : Row) (a1 : Int32) (a2 : Int32) : Option (Row) := ((f_X5_cell a1 a2).bind fun r1 => (if oob r1 205 then none else (fl_X5_thaw a1 a2 FU (upd g r1.toNatClampNeg (0 : Int32)) (0 : Int32))))
def rmX5_thaw : Room := { frames := 1, cells := 0, slots := 0, locals := 21 }
theorem hd_X5_thaw : yX5_thaw.cls ≠ "java/lang/invoke/MethodHandle" ∧ yX5_thaw.cls ≠ "java/lang/invoke/VarHandle" ∧ (parseMethodDescriptor yX5_thaw.desc).map (fun d => d.parameters.length) = some 3 := by decide +kernel
set_option maxHeartbeats 8000000 in
set_option maxRecDepth 100000 in
theorem c_X5_thaw {l : Launch} {D : va_G} {y : Nat} {ν : Mem} {ρ : Nat} (h1 : 1 ≤ ρ) (h3 : ρ ≤ 3) {g : Row} (a1 : Int32) (a2 : Int32) {r : Row} (hf : f_X5_thaw g a1 a2 = some r) : CM l yX5_thaw wsX5_thaw rmX5_thaw [.ref (y + ρ), .int a1, .int a2] D y (va_up ν ρ g) (none) (va_up ν ρ r) := by
  refine CM.of (cc := cX5_thaw) (maxL := 5) (ret := none) pn_X5 rfl (Nat.le_of_ble_eq_true rfl) ?_
  intro p e s m args below meth c F hr hlk hK
  have KEY : ∀ n : Nat, (∀ (g : Row) (v3 : Int32) (ls : Array Slot) (H : Heap) (locs : List Loc), lv_has ls 5 [(0, .ref (y + ρ)), (1, .int a1), (2, .int a2), (3, .int v3)] → va_P D vwCl (WM D y (va_up ν ρ g)) H → va_S (rngM y) s.heap H locs → fl_X5_thaw a1 a2 n g v3 = some r → W p l e rmX5_thaw s m args below meth c H locs 0 0 (MQ below (QM D y (va_up ν ρ r) (none)) args s 0 0 (rngM y)) (F0 m 10 ls [])) := by
    intro n
    induction n with
    | zero => exact (fun _ _ _ _ _ _ _ _ h => nomatch h)
    | succ n ih =>
      skip
      intro g v3  ls H locs hl hP hS hf
      have hf : fb_X5_thaw_1 a1 a2 (fl_X5_thaw a1 a2 n) g v3 = some r := hf
      unfold fb_X5_thaw_1 at hf
      refine lv_iload_n F.1 F.2.1 dX5_thaw_10 rfl (lv_at hl 3 rfl) ?_
      refine lv_aload_n F.1 F.2.1 dX5_thaw_11 rfl (lv_at hl 0 rfl) ?_
      refine lv_sipush (v := (198 : Int32)) F.1 F.2.1 dX5_thaw_12 (by decide) ?_
      refine m_iald F hK hP (o := ρ) (by omega) (mu_at _ _ _) (fun f => mkM_row h1 h3 D y f) (lnM_row h1 h3) (by decide) dX5_thaw_15 ?_
      refine lv_icmp_ge (tgt := 73) F.1 F.2.1 dX5_thaw_16 rfl (fun hc4 => ?_) (fun hc4 => ?_)
      · have hf := ifp hc4 hf
        obtain rfl := Option.some.inj hf
        exact m_vret F hr hlk hP hS rfl dX5_thaw_73
      · have hf := ifn hc4 hf
        refine lv_sipush (v := (156 : Int32)) F.1 F.2.1 dX5_thaw_19 (by decide) ?_
        refine lv_iconst (v := (5 : Int32)) F.1 F.2.1 dX5_thaw_22 (by decide) ?_
        refine lv_iload_n F.1 F.2.1 dX5_thaw_23 rfl (lv_at hl 3 rfl) ?_
        refine lv_imul F.1 F.2.1 dX5_thaw_24 ?_
        refine lv_iadd F.1 F.2.1 dX5_thaw_25 ?_
        refine lv_istore F.1 F.2.1 dX5_thaw_26 hl (Nat.le_of_ble_eq_true rfl) rfl (fun ls hl => ?_)
        have hl : lv_has ls 5 [(4, .int ((156 : Int32) + ((5 : Int32) * v3))), (0, .ref (y + ρ)), (1, .int a1), (2, .int a2), (3, .int v3)] := hl
        refine lv_aload_n F.1 F.2.1 dX5_thaw_28 rfl (lv_at hl 1 rfl) ?_
        refine lv_iload F.1 F.2.1 dX5_thaw_29 (lv_at hl 0 rfl) ?_
        refine lv_iconst (v := (2 : Int32)) F.1 F.2.1 dX5_thaw_31 (by decide) ?_
        refine lv_iadd F.1 F.2.1 dX5_thaw_32 ?_
        refine lv_dup2_11 F.1 F.2.1 dX5_thaw_33 rfl rfl ?_
        obtain ⟨hb5, hf⟩ := ifg hf
        refine m_iald F hK hP (o := ρ) (by omega) (mu_at _ _ _) (fun f => mkM_row h1 h3 D y f) (lnM_row h1 h3) hb5 dX5_thaw_34 ?_
        refine lv_aload_n F.1 F.2.1 dX5_thaw_35 rfl (lv_at hl 1 rfl) ?_
        refine lv_iload F.1 F.2.1 dX5_thaw_36 (lv_at hl 0 rfl) ?_
        obtain ⟨hb6, hf⟩ := ifg hf
        refine m_iald F hK hP (o := ρ) (by omega) (mu_at _ _ _) (fun f => mkM_row h1 h3 D y f) (lnM_row h1 h3) hb6 dX5_thaw_38 ?_
        refine lv_iload_n F.1 F.2.1 dX5_thaw_39 rfl (lv_at hl 2 rfl) ?_
        refine lv_icmp_ne (tgt := 64) F.1 F.2.1 dX5_thaw_40 rfl (fun hc7 => ?_) (fun hc7 => ?_)
        · have hf := ifn hc7 hf
          refine lv_iconst (v := (0 : Int32)) F.1 F.2.1 dX5_thaw_64 (by decide) ?_
          refine lv_isub F.1 F.2.1 dX5_thaw_65 ?_
          obtain ⟨hb8, hf⟩ := ifg hf
          refine m_iast F hK hP hS (by omega) (fun f => mkM_row h1 h3 D y f) (lnM_row h1 h3) hb8 dX5_thaw_66 (fun H locs hP hS => ?_)
          refine lv_iinc (v := (v3 + (1 : Int32))) F.1 F.2.1 dX5_thaw_67 hl (k := 4) rfl rfl (Nat.le_of_ble_eq_true rfl) rfl (fun ls hl => ?_)
          have hl : lv_has ls 5 [(3, .int (v3 + (1 : Int32))), (4, .int ((156 : Int32) + ((5 : Int32) * v3))), (0, .ref (y + ρ)), (1, .int a1), (2, .int a2)] := hl
          refine lv_goto (tgt := 10) F.1 F.2.1 dX5_thaw_70 rfl ?_
          exact ih (upd g ((((156 : Int32) + ((5 : Int32) * v3)) + (2 : Int32)).toNatClampNeg) ((g (((156 : Int32) + ((5 : Int32) * v3)) + (2 : Int32)).toNatClampNeg) - (0 : Int32))) (v3 + (1 : Int32)) _ _ _ (lv_sub hl [2, 3, 4, 0] rfl) hP hS hf
        · have hf := ifp hc7 hf
          refine lv_aload_n F.1 F.2.1 dX5_thaw_43 rfl (lv_at hl 1 rfl) ?_
          refine lv_iload F.1 F.2.1 dX5_thaw_44 (lv_at hl 0 rfl) ?_
          refine lv_iconst (v := (1 : Int32)) F.1 F.2.1 dX5_thaw_46 (by decide) ?_
          refine lv_iadd F.1 F.2.1 dX5_thaw_47 ?_
          obtain ⟨hb9, hf⟩ := ifg hf
          refine m_iald F hK hP (o := ρ) (by omega) (mu_at _ _ _) (fun f => mkM_row h1 h3 D y f) (lnM_row h1 h3) hb9 dX5_thaw_48 ?_
          refine lv_iload_n F.1 F.2.1 dX5_thaw_49 rfl (lv_at hl 3 rfl) ?_
          refine lv_icmp_ne (tgt := 64) F.1 F.2.1 dX5_thaw_50 rfl (fun hc10 => ?_) (fun hc10 => ?_)
          · have hf := ifn hc10 hf
            refine lv_iconst (v := (0 : Int32)) F.1 F.2.1 dX5_thaw_64 (by decide) ?_
            refine lv_isub F.1 F.2.1 dX5_thaw_65 ?_
            obtain ⟨hb11, hf⟩ := ifg hf
            refine m_iast F hK hP hS (by omega) (fun f => mkM_row h1 h3 D y f) (lnM_row h1 h3) hb11 dX5_thaw_66 (fun H locs hP hS => ?_)
            refine lv_iinc (v := (v3 + (1 : Int32))) F.1 F.2.1 dX5_thaw_67 hl (k := 4) rfl rfl (Nat.le_of_ble_eq_true rfl) rfl (fun ls hl => ?_)
            have hl : lv_has ls 5 [(3, .int (v3 + (1 : Int32))), (4, .int ((156 : Int32) + ((5 : Int32) * v3))), (0, .ref (y + ρ)), (1, .int a1), (2, .int a2)] := hl
            refine lv_goto (tgt := 10) F.1 F.2.1 dX5_thaw_70 rfl ?_
            exact ih (upd g ((((156 : Int32) + ((5 : Int32) * v3)) + (2 : Int32)).toNatClampNeg) ((g (((156 : Int32) + ((5 : Int32) * v3)) + (2 : Int32)).toNatClampNeg) - (0 : Int32))) (v3 + (1 : Int32)) _ _ _ (lv_sub hl [2, 3, 4, 0] rfl) hP hS hf
          · have hf := ifp hc10 hf
            refine lv_aload_n F.1 F.2.1 dX5_thaw_53 rfl (lv_at hl 1 rfl) ?_
            refine lv_iload F.1 F.2.1 dX5_thaw_54 (lv_at hl 0 rfl) ?_
            refine lv_iconst (v := (2 : Int32)) F.1 F.2.1 dX5_thaw_56 (by decide) ?_
            refine lv_iadd F.1 F.2.1 dX5_thaw_57 ?_
            obtain ⟨hb12, hf⟩ := ifg hf
            refine m_iald F hK hP (o := ρ) (by omega) (mu_at _ _ _) (fun f => mkM_row h1 h3 D y f) (lnM_row h1 h3) hb12 dX5_thaw_58 ?_
            refine lv_iconst (v := (2 : Int32)) F.1 F.2.1 dX5_thaw_59 (by decide) ?_
            refine lv_idiv F.1 F.2.1 dX5_thaw_60 (by decide) ?_
            refine lv_goto (tgt := 65) F.1 F.2.1 dX5_thaw_61 rfl ?_
            refine lv_isub F.1 F.2.1 dX5_thaw_65 ?_
            obtain ⟨hb13, hf⟩ := ifg hf
            refine m_iast F hK hP hS (by omega) (fun f => mkM_row h1 h3 D y f) (lnM_row h1 h3) hb13 dX5_thaw_66 (fun H locs hP hS => ?_)
            refine lv_iinc (v := (v3 + (1 : Int32))) F.1 F.2.1 dX5_thaw_67 hl (k := 4) rfl rfl (Nat.le_of_ble_eq_true rfl) rfl (fun ls hl => ?_)
            have hl : lv_has ls 5 [(3, .int (v3 + (1 : Int32))), (4, .int ((156 : Int32) + ((5 : Int32) * v3))), (0, .ref (y + ρ)), (1, .int a1), (2, .int a2)] := hl
            refine lv_goto (tgt := 10) F.1 F.2.1 dX5_thaw_70 rfl ?_
            exact ih (upd g ((((156 : Int32) + ((5 : Int32) * v3)) + (2 : Int32)).toNatClampNeg) ((g (((156 : Int32) + ((5 : Int32) * v3)) + (2 : Int32)).toNatClampNeg) - ((g (((156 : Int32) + ((5 : Int32) * v3)) + (2 : Int32)).toNatClampNeg) / (2 : Int32)))) (v3 + (1 : Int32)) _ _ _ (lv_sub hl [2, 3, 4, 0] rfl) hP hS hf
  intro ls H locs hl hP hS
  have hl : lv_has ls 5 [(0, .ref (y + ρ)), (1, .int a1), (2, .int a2)] := hl
  unfold f_X5_thaw at hf
  refine lv_aload_n F.1 F.2.1 dX5_thaw_0 rfl (lv_at hl 0 rfl) ?_
  refine lv_iload_n F.1 F.2.1 dX5_thaw_1 rfl (lv_at hl 1 rfl) ?_
  refine lv_iload_n F.1 F.2.1 dX5_thaw_2 rfl (lv_at hl 2 rfl) ?_
  obtain ⟨r1, hr2, hf⟩ := bnd hf
  refine m_callS F hK hP hS (c_X5_cell a1 a2 hr2) (va_cwS 2 F.2.2.2.2 gX5_thaw_X5_cell rfl rfl rfl hd_X5_cell ⟨(Nat.le_of_ble_eq_true rfl), (Nat.le_of_ble_eq_true rfl)⟩) rfl rfl hl.1 (Nat.le_of_ble_eq_true rfl) dX5_thaw_3 ⟨(Nat.le_of_ble_eq_true rfl), (Nat.le_of_ble_eq_true rfl)⟩ (rest := [.ref (y + ρ)]) (fun H locs hP hS => ?_)
  refine W.eq (g2 := F0 m 6 ls [.int r1, .ref (y + ρ)]) rfl ?_
  refine lv_iconst (v := (0 : Int32)) F.1 F.2.1 dX5_thaw_6 (by decide) ?_
  obtain ⟨hb3, hf⟩ := ifg hf
  refine m_iast F hK hP hS (by omega) (fun f => mkM_row h1 h3 D y f) (lnM_row h1 h3) hb3 dX5_thaw_7 (fun H locs hP hS => ?_)
  refine lv_iconst (v := (0 : Int32)) F.1 F.2.1 dX5_thaw_8 (by decide) ?_
  refine lv_istore_n F.1 F.2.1 dX5_thaw_9 rfl hl (Nat.le_of_ble_eq_true rfl) rfl (fun ls hl => ?_)
  have hl : lv_has ls 5 [(3, .int (0 : Int32)), (0, .ref (y + ρ)), (1, .int a1), (2, .int a2)] := hl
  exact (KEY FU) (upd g r1.toNatClampNeg (0 : Int32)) (0 : Int32) _ _ _ (lv_sub hl [1, 2, 3, 0] rfl) hP hS hf

-- FrostTubesModel.weather([IIII)V
def fb_X5_weather_1 (a1 : Int32) (a2 : Int32) (a3 : Int32) (K : Row → Int32 → Option (Row)) (g : Row) (v4 : Int32) : Option (Row) := (if 0 ≤ a2 then some g else (if oob (v4 + (0 : Int32)) 205 then none else (if ((10 : Int32) + (g (v4 + (0 : Int32)).toNatClampNeg)) = 0 then none else (if oob (v4 + (2 : Int32)) 205 then none else (if oob (v4 + (2 : Int32)) 205 then none else (if oob (v4 + (4 : Int32)) 205 then none else (if oob (v4 + (4 : Int32)) 205 then none else (if oob (v4 + (3 : Int32)) 205 then none else some (upd (upd (upd g ((v4 + (2 : Int32)).toNatClampNeg) ((g (v4 + (2 : Int32)).toNatClampNeg) + (((10 : Int32) * (-a2)) / ((10 : Int32) + (g (v4 + (0 : Int32)).toNatClampNeg))))) ((v4 + (4 : Int32)).toNatClampNeg) (((upd g ((v4 + (2 : Int32)).toNatClampNeg) ((g (v4 + (2 : Int32)).toNatClampNeg) + (((10 : Int32) * (-a2)) / ((10 : Int32) + (g (v4 + (0 : Int32)).toNatClampNeg))))) (v4 + (4 : Int32)).toNatClampNeg) + (((10 : Int32) * (-a2)) / ((10 : Int32) + (g (v4 + (0 : Int32)).toNatClampNeg))))) ((v4 + (3 : Int32)).toNatClampNeg) (0 : Int32))))))))))
def fl_X5_weather (a1 : Int32) (a2 : Int32) (a3 : Int32) : Nat → Row → Int32 → Option (Row)
  | 0, _, _ => none
  | n + 1, g, v4 => fb_X5_weather_1 a1 a2 a3 (fl_X5_weather a1 a2 a3 n) g v4
def f_X5_weather (g : Row) (a1 : Int32) (a2 : Int32) (a3 : Int32) : Option (Row) := (if oob (((35 : Int32) * a1) + (0 : Int32)) 205 then none else (if oob (((35 : Int32) * a1) + (1 : Int32)) 205 then none else ((f_X5_min a3 (g (((35 : Int32) * a1) + (1 : Int32)).toNatClampNeg)).bind fun r3 => ((f_X5_min (99 : Int32) (((g (((35 : Int32) * a1) + (0 : Int32)).toNatClampNeg) + a3) + r3)).bind fun r5 => (if oob (((35 : Int32) * a1) + (0 : Int32)) 205 then none else (if a2 ≤ 0 then (fl_X5_weather a1 a2 a3 FU (upd g ((((35 : Int32) * a1) + (0 : Int32)).toNatClampNeg) r5) ((35 : Int32) * a1)) else (if oob (((35 : Int32) * a1) + (0 : Int32)) 205 then none else ((f_X5_min (a2 * ((upd g ((((35 : Int32) * a1) + (0 : Int32)).toNatClampNeg) r5) (203 : Int32).toNatClampNeg)) ((upd g ((((35 : Int32) * a1) + (0 : Int32)).toNatClampNeg) r5) (((35 : Int32) * a1) + (0 : Int32)).toNatClampNeg)).bind fun r10 => (if oob (((35 : Int32) * a1) + (0 : Int32)) 205 then none else (if oob (((35 : Int32) * a1) + (0 : Int32)) 205 then none else (if oob (((35 : Int32) * a1) + (3 : Int32)) 205 then none else (if oob (((35 : Int32) * a1) + (0 : Int32)) 205 then none else (if ((upd (upd g ((((35 : Int32) * a1) + (0 : Int32)).toNatClampNeg) r5) ((((35 : Int32) * a1) + (0 : Int32)).toNatClampNeg) (((upd g ((((35 : Int32) * a1) + (0 : Int32)).toNatClampNeg) r5) (((35 : Int32) * a1) + (0 : Int32)).toNatClampNeg) - r10)) (((35 : Int32) * a1) + (0 : Int32)).toNatClampNeg) ≤ 0 then (if ((upd (upd g ((((35 : Int32) * a1) + (0 : Int32)).toNatClampNeg) r5) ((((35 : Int32) * a1) + (0 : Int32)).toNatClampNeg) (((upd g ((((35 : Int32) * a1) + (0 : Int32)).toNatClampNeg) r5) (((35 : Int32) * a1) + (0 : Int32)).toNatClampNeg) - r10)) (203 : Int32).toNatClampNeg) = 0 then none else (if oob (((35 : Int32) * a1) + (3 : Int32)) 205 then none else (if oob (((35 : Int32) * a1) + (2 : Int32)) 205 then none else (fl_X5_weather a1 a2 a3 FU (upd (upd (upd (upd g ((((35 : Int32) * a1) + (0 : Int32)).toNatClampNeg) r5) ((((35 : Int32) * a1) + (0 : Int32)).toNatClampNeg) (((upd g ((((35 : Int32) * a1) + (0 : Int32)).toNatClampNeg) r5) (((35 : Int32) * a1) + (0 : Int32)).toNatClampNeg) - r10)) ((((35 : Int32) * a1) + (3 : Int32)).toNatClampNeg) (((upd (upd g ((((35 : Int32) * a1) + (0 : Int32)).toNatClampNeg) r5) ((((35 : Int32) * a1) + (0 : Int32)).toNatClampNeg) (((upd g ((((35 : Int32) * a1) + (0 : Int32)).toNatClampNeg) r5) (((35 : Int32) * a1) + (0 : Int32)).toNatClampNeg) - r10)) (((35 : Int32) * a1) + (3 : Int32)).toNatClampNeg) + (a2 - (r10 / ((upd (upd g ((((35 : Int32) * a1) + (0 : Int32)).toNatClampNeg) r5) ((((35 : Int32) * a1) + (0 : Int32)).toNatClampNeg) (((upd g ((((35 : Int32) * a1) + (0 : Int32)).toNatClampNeg) r5) (((35 : Int32) * a1) + (0 : Int32)).toNatClampNeg) - r10)) (203 : Int32).toNatClampNeg))))) ((((35 : Int32) * a1) + (2 : Int32)).toNatClampNeg) (0 : Int32)) ((35 : Int32) * a1))))) else (if oob (((35 : Int32) * a1) + (3 : Int32)) 205 then none else (if oob (((35 : Int32) * a1) + (2 : Int32)) 205 then none else (fl_X5_weather a1 a2 a3 FU (upd (upd (upd (upd g ((((35 : Int32) * a1) + (0 : Int32)).toNatClampNeg) r5) ((((35 : Int32) * a1) + (0 : Int32)).toNatClampNeg) (((upd g ((((35 : Int32) * a1) + (0 : Int32)).toNatClampNeg) r5) (((35 : Int32) * a1) + (0 : Int32)).toNatClampNeg) - r10)) ((((35 : Int32) * a1) + (3 : Int32)).toNatClampNeg) (((upd (upd g ((((35 : Int32) * a1) + (0 : Int32)).toNatClampNeg) r5) ((((35 : Int32) * a1) + (0 : Int32)).toNatClampNeg) (((upd g ((((35 : Int32) * a1) + (0 : Int32)).toNatClampNeg) r5) (((35 : Int32) * a1) + (0 : Int32)).toNatClampNeg) - r10)) (((35 : Int32) * a1) + (3 : Int32)).toNatClampNeg) + (0 : Int32))) ((((35 : Int32) * a1) + (2 : Int32)).toNatClampNeg) (0 : Int32)) ((35 : Int32) * a1)))))))))))))))))
def rmX5_weather : Room := { frames := 1, cells := 0, slots := 0, locals := 21 }
theorem hd_X5_weather : yX5_weather.cls ≠ "java/lang/invoke/MethodHandle" ∧ yX5_weather.cls ≠ "java/lang/invoke/VarHandle" ∧ (parseMethodDescriptor yX5_weather.desc).map (fun d => d.parameters.length) = some 4 := by decide +kernel
set_option maxHeartbeats 8000000 in
set_option maxRecDepth 100000 in
theorem c_X5_weather {l : Launch} {D : va_G} {y : Nat} {ν : Mem} {ρ : Nat} (h1 : 1 ≤ ρ) (h3 : ρ ≤ 3) {g : Row} (a1 : Int32) (a2 : Int32) (a3 : Int32) {r : Row} (hf : f_X5_weather g a1 a2 a3 = some r) : CM l yX5_weather wsX5_weather rmX5_weather [.ref (y + ρ), .int a1, .int a2, .int a3] D y (va_up ν ρ g) (none) (va_up ν ρ r) := by
  refine CM.of (cc := cX5_weather) (maxL := 6) (ret := none) pn_X5 rfl (Nat.le_of_ble_eq_true rfl) ?_
  intro p e s m args below meth c F hr hlk hK
  have KEY : ∀ n : Nat, (∀ (g : Row) (v4 : Int32) (ls : Array Slot) (H : Heap) (locs : List Loc), lv_has ls 6 [(0, .ref (y + ρ)), (2, .int a2), (4, .int v4)] → va_P D vwCl (WM D y (va_up ν ρ g)) H → va_S (rngM y) s.heap H locs → fl_X5_weather a1 a2 a3 n g v4 = some r → W p l e rmX5_weather s m args below meth c H locs 0 0 (MQ below (QM D y (va_up ν ρ r) (none)) args s 0 0 (rngM y)) (F0 m 108 ls [])) := by
    intro n
    induction n with
    | zero => exact (fun _ _ _ _ _ _ _ _ h => nomatch h)
    | succ n ih =>
      skip
      intro g v4  ls H locs hl hP hS hf
      have hf : fb_X5_weather_1 a1 a2 a3 (fl_X5_weather a1 a2 a3 n) g v4 = some r := hf
      unfold fb_X5_weather_1 at hf
      refine lv_iload_n F.1 F.2.1 dX5_weather_108 rfl (lv_at hl 1 rfl) ?_
      refine lv_if_ge (tgt := 158) F.1 F.2.1 dX5_weather_109 rfl (fun hc22 => ?_) (fun hc22 => ?_)
      · have hf := ifp hc22 hf
        obtain rfl := Option.some.inj hf
        exact m_vret F hr hlk hP hS rfl dX5_weather_158
      · have hf := ifn hc22 hf
        refine lv_bipush (v := (10 : Int32)) F.1 F.2.1 dX5_weather_112 (by decide) ?_
        refine lv_iload_n F.1 F.2.1 dX5_weather_114 rfl (lv_at hl 1 rfl) ?_
        refine lv_ineg F.1 F.2.1 dX5_weather_115 ?_
        refine lv_imul F.1 F.2.1 dX5_weather_116 ?_
        refine lv_bipush (v := (10 : Int32)) F.1 F.2.1 dX5_weather_117 (by decide) ?_
        refine lv_aload_n F.1 F.2.1 dX5_weather_119 rfl (lv_at hl 0 rfl) ?_
        refine lv_iload F.1 F.2.1 dX5_weather_120 (lv_at hl 2 rfl) ?_
        refine lv_iconst (v := (0 : Int32)) F.1 F.2.1 dX5_weather_122 (by decide) ?_
        refine lv_iadd F.1 F.2.1 dX5_weather_123 ?_
        obtain ⟨hb23, hf⟩ := ifg hf
        refine m_iald F hK hP (o := ρ) (by omega) (mu_at _ _ _) (fun f => mkM_row h1 h3 D y f) (lnM_row h1 h3) hb23 dX5_weather_124 ?_
        refine lv_iadd F.1 F.2.1 dX5_weather_125 ?_
        obtain ⟨hz24, hf⟩ := ifg hf
        refine lv_idiv F.1 F.2.1 dX5_weather_126 hz24 ?_
        refine lv_istore F.1 F.2.1 dX5_weather_127 hl (Nat.le_of_ble_eq_true rfl) rfl (fun ls hl => ?_)
        have hl : lv_has ls 6 [(5, .int (((10 : Int32) * (-a2)) / ((10 : Int32) + (g (v4 + (0 : Int32)).toNatClampNeg)))), (0, .ref (y + ρ)), (2, .int a2), (4, .int v4)] := hl
        refine lv_aload_n F.1 F.2.1 dX5_weather_129 rfl (lv_at hl 1 rfl) ?_
        refine lv_iload F.1 F.2.1 dX5_weather_130 (lv_at hl 3 rfl) ?_
        refine lv_iconst (v := (2 : Int32)) F.1 F.2.1 dX5_weather_132 (by decide) ?_
        refine lv_iadd F.1 F.2.1 dX5_weather_133 ?_
        refine lv_dup2_11 F.1 F.2.1 dX5_weather_134 rfl rfl ?_
        obtain ⟨hb25, hf⟩ := ifg hf
        refine m_iald F hK hP (o := ρ) (by omega) (mu_at _ _ _) (fun f => mkM_row h1 h3 D y f) (lnM_row h1 h3) hb25 dX5_weather_135 ?_
        refine lv_iload F.1 F.2.1 dX5_weather_136 (lv_at hl 0 rfl) ?_
        refine lv_iadd F.1 F.2.1 dX5_weather_138 ?_
        obtain ⟨hb26, hf⟩ := ifg hf
        refine m_iast F hK hP hS (by omega) (fun f => mkM_row h1 h3 D y f) (lnM_row h1 h3) hb26 dX5_weather_139 (fun H locs hP hS => ?_)
        refine lv_aload_n F.1 F.2.1 dX5_weather_140 rfl (lv_at hl 1 rfl) ?_
        refine lv_iload F.1 F.2.1 dX5_weather_141 (lv_at hl 3 rfl) ?_
        refine lv_iconst (v := (4 : Int32)) F.1 F.2.1 dX5_weather_143 (by decide) ?_
        refine lv_iadd F.1 F.2.1 dX5_weather_144 ?_
        refine lv_dup2_11 F.1 F.2.1 dX5_weather_145 rfl rfl ?_
        obtain ⟨hb27, hf⟩ := ifg hf
        refine m_iald F hK hP (o := ρ) (by omega) (mu_at _ _ _) (fun f => mkM_row h1 h3 D y f) (lnM_row h1 h3) hb27 dX5_weather_146 ?_
        refine lv_iload F.1 F.2.1 dX5_weather_147 (lv_at hl 0 rfl) ?_
        refine lv_iadd F.1 F.2.1 dX5_weather_149 ?_
        obtain ⟨hb28, hf⟩ := ifg hf
        refine m_iast F hK hP hS (by omega) (fun f => mkM_row h1 h3 D y f) (lnM_row h1 h3) hb28 dX5_weather_150 (fun H locs hP hS => ?_)
        refine lv_aload_n F.1 F.2.1 dX5_weather_151 rfl (lv_at hl 1 rfl) ?_
        refine lv_iload F.1 F.2.1 dX5_weather_152 (lv_at hl 3 rfl) ?_
        refine lv_iconst (v := (3 : Int32)) F.1 F.2.1 dX5_weather_154 (by decide) ?_
        refine lv_iadd F.1 F.2.1 dX5_weather_155 ?_
        refine lv_iconst (v := (0 : Int32)) F.1 F.2.1 dX5_weather_156 (by decide) ?_
        obtain ⟨hb29, hf⟩ := ifg hf
        refine m_iast F hK hP hS (by omega) (fun f => mkM_row h1 h3 D y f) (lnM_row h1 h3) hb29 dX5_weather_157 (fun H locs hP hS => ?_)
        obtain rfl := Option.some.inj hf
        exact m_vret F hr hlk hP hS rfl dX5_weather_158
  intro ls H locs hl hP hS
  have hl : lv_has ls 6 [(0, .ref (y + ρ)), (1, .int a1), (2, .int a2), (3, .int a3)] := hl
  unfold f_X5_weather at hf
  refine lv_bipush (v := (35 : Int32)) F.1 F.2.1 dX5_weather_0 (by decide) ?_
  refine lv_iload_n F.1 F.2.1 dX5_weather_2 rfl (lv_at hl 1 rfl) ?_
  refine lv_imul F.1 F.2.1 dX5_weather_3 ?_
  refine lv_istore F.1 F.2.1 dX5_weather_4 hl (Nat.le_of_ble_eq_true rfl) rfl (fun ls hl => ?_)
  have hl : lv_has ls 6 [(4, .int ((35 : Int32) * a1)), (0, .ref (y + ρ)), (1, .int a1), (2, .int a2), (3, .int a3)] := hl
  refine lv_aload_n F.1 F.2.1 dX5_weather_6 rfl (lv_at hl 1 rfl) ?_
  refine lv_iload F.1 F.2.1 dX5_weather_7 (lv_at hl 0 rfl) ?_
  refine lv_iconst (v := (0 : Int32)) F.1 F.2.1 dX5_weather_9 (by decide) ?_
  refine lv_iadd F.1 F.2.1 dX5_weather_10 ?_
  refine lv_bipush (v := (99 : Int32)) F.1 F.2.1 dX5_weather_11 (by decide) ?_
  refine lv_aload_n F.1 F.2.1 dX5_weather_13 rfl (lv_at hl 1 rfl) ?_
  refine lv_iload F.1 F.2.1 dX5_weather_14 (lv_at hl 0 rfl) ?_
  refine lv_iconst (v := (0 : Int32)) F.1 F.2.1 dX5_weather_16 (by decide) ?_
  refine lv_iadd F.1 F.2.1 dX5_weather_17 ?_
  obtain ⟨hb1, hf⟩ := ifg hf
  refine m_iald F hK hP (o := ρ) (by omega) (mu_at _ _ _) (fun f => mkM_row h1 h3 D y f) (lnM_row h1 h3) hb1 dX5_weather_18 ?_
  refine lv_iload_n F.1 F.2.1 dX5_weather_19 rfl (lv_at hl 4 rfl) ?_
  refine lv_iadd F.1 F.2.1 dX5_weather_20 ?_
  refine lv_iload_n F.1 F.2.1 dX5_weather_21 rfl (lv_at hl 4 rfl) ?_
  refine lv_aload_n F.1 F.2.1 dX5_weather_22 rfl (lv_at hl 1 rfl) ?_
  refine lv_iload F.1 F.2.1 dX5_weather_23 (lv_at hl 0 rfl) ?_
  refine lv_iconst (v := (1 : Int32)) F.1 F.2.1 dX5_weather_25 (by decide) ?_
  refine lv_iadd F.1 F.2.1 dX5_weather_26 ?_
  obtain ⟨hb2, hf⟩ := ifg hf
  refine m_iald F hK hP (o := ρ) (by omega) (mu_at _ _ _) (fun f => mkM_row h1 h3 D y f) (lnM_row h1 h3) hb2 dX5_weather_27 ?_
  obtain ⟨r3, hr4, hf⟩ := bnd hf
  refine m_callS F hK hP hS (c_X5_min a3 (g (((35 : Int32) * a1) + (1 : Int32)).toNatClampNeg) hr4) (va_cwS 2 F.2.2.2.2 gX5_weather_X5_min rfl rfl rfl hd_X5_min ⟨(Nat.le_of_ble_eq_true rfl), (Nat.le_of_ble_eq_true rfl)⟩) rfl rfl hl.1 (Nat.le_of_ble_eq_true rfl) dX5_weather_28 ⟨(Nat.le_of_ble_eq_true rfl), (Nat.le_of_ble_eq_true rfl)⟩ (rest := [.int ((g (((35 : Int32) * a1) + (0 : Int32)).toNatClampNeg) + a3), .int (99 : Int32), .int (((35 : Int32) * a1) + (0 : Int32)), .ref (y + ρ)]) (fun H locs hP hS => ?_)
  refine W.eq (g2 := F0 m 31 ls [.int r3, .int ((g (((35 : Int32) * a1) + (0 : Int32)).toNatClampNeg) + a3), .int (99 : Int32), .int (((35 : Int32) * a1) + (0 : Int32)), .ref (y + ρ)]) rfl ?_
  refine lv_iadd F.1 F.2.1 dX5_weather_31 ?_
  obtain ⟨r5, hr6, hf⟩ := bnd hf
  refine m_callS F hK hP hS (c_X5_min (99 : Int32) (((g (((35 : Int32) * a1) + (0 : Int32)).toNatClampNeg) + a3) + r3) hr6) (va_cwS 2 F.2.2.2.2 gX5_weather_X5_min rfl rfl rfl hd_X5_min ⟨(Nat.le_of_ble_eq_true rfl), (Nat.le_of_ble_eq_true rfl)⟩) rfl rfl hl.1 (Nat.le_of_ble_eq_true rfl) dX5_weather_32 ⟨(Nat.le_of_ble_eq_true rfl), (Nat.le_of_ble_eq_true rfl)⟩ (rest := [.int (((35 : Int32) * a1) + (0 : Int32)), .ref (y + ρ)]) (fun H locs hP hS => ?_)
  refine W.eq (g2 := F0 m 35 ls [.int r5, .int (((35 : Int32) * a1) + (0 : Int32)), .ref (y + ρ)]) rfl ?_
  obtain ⟨hb7, hf⟩ := ifg hf
  refine m_iast F hK hP hS (by omega) (fun f => mkM_row h1 h3 D y f) (lnM_row h1 h3) hb7 dX5_weather_35 (fun H locs hP hS => ?_)
  refine lv_iload_n F.1 F.2.1 dX5_weather_36 rfl (lv_at hl 3 rfl) ?_
  refine lv_if_le (tgt := 108) F.1 F.2.1 dX5_weather_37 rfl (fun hc8 => ?_) (fun hc8 => ?_)
  · have hf := ifp hc8 hf
    exact (KEY FU) (upd g ((((35 : Int32) * a1) + (0 : Int32)).toNatClampNeg) r5) ((35 : Int32) * a1) _ _ _ (lv_sub hl [1, 3, 0] rfl) hP hS hf
  · have hf := ifn hc8 hf
    refine lv_iload_n F.1 F.2.1 dX5_weather_40 rfl (lv_at hl 3 rfl) ?_
    refine lv_aload_n F.1 F.2.1 dX5_weather_41 rfl (lv_at hl 1 rfl) ?_
    refine lv_sipush (v := (203 : Int32)) F.1 F.2.1 dX5_weather_42 (by decide) ?_
    refine m_iald F hK hP (o := ρ) (by omega) (mu_at _ _ _) (fun f => mkM_row h1 h3 D y f) (lnM_row h1 h3) (by decide) dX5_weather_45 ?_
    refine lv_imul F.1 F.2.1 dX5_weather_46 ?_
    refine lv_aload_n F.1 F.2.1 dX5_weather_47 rfl (lv_at hl 1 rfl) ?_
    refine lv_iload F.1 F.2.1 dX5_weather_48 (lv_at hl 0 rfl) ?_
    refine lv_iconst (v := (0 : Int32)) F.1 F.2.1 dX5_weather_50 (by decide) ?_
    refine lv_iadd F.1 F.2.1 dX5_weather_51 ?_
    obtain ⟨hb9, hf⟩ := ifg hf
    refine m_iald F hK hP (o := ρ) (by omega) (mu_at _ _ _) (fun f => mkM_row h1 h3 D y f) (lnM_row h1 h3) hb9 dX5_weather_52 ?_
    obtain ⟨r10, hr11, hf⟩ := bnd hf
    refine m_callS F hK hP hS (c_X5_min (a2 * ((upd g ((((35 : Int32) * a1) + (0 : Int32)).toNatClampNeg) r5) (203 : Int32).toNatClampNeg)) ((upd g ((((35 : Int32) * a1) + (0 : Int32)).toNatClampNeg) r5) (((35 : Int32) * a1) + (0 : Int32)).toNatClampNeg) hr11) (va_cwS 2 F.2.2.2.2 gX5_weather_X5_min rfl rfl rfl hd_X5_min ⟨(Nat.le_of_ble_eq_true rfl), (Nat.le_of_ble_eq_true rfl)⟩) rfl rfl hl.1 (Nat.le_of_ble_eq_true rfl) dX5_weather_53 ⟨(Nat.le_of_ble_eq_true rfl), (Nat.le_of_ble_eq_true rfl)⟩ (rest := []) (fun H locs hP hS => ?_)
    refine W.eq (g2 := F0 m 56 ls [.int r10]) rfl ?_
    refine lv_istore F.1 F.2.1 dX5_weather_56 hl (Nat.le_of_ble_eq_true rfl) rfl (fun ls hl => ?_)
    have hl : lv_has ls 6 [(5, .int r10), (4, .int ((35 : Int32) * a1)), (0, .ref (y + ρ)), (1, .int a1), (2, .int a2), (3, .int a3)] := hl
    refine lv_aload_n F.1 F.2.1 dX5_weather_58 rfl (lv_at hl 2 rfl) ?_
    refine lv_iload F.1 F.2.1 dX5_weather_59 (lv_at hl 1 rfl) ?_
    refine lv_iconst (v := (0 : Int32)) F.1 F.2.1 dX5_weather_61 (by decide) ?_
    refine lv_iadd F.1 F.2.1 dX5_weather_62 ?_
    refine lv_dup2_11 F.1 F.2.1 dX5_weather_63 rfl rfl ?_
    obtain ⟨hb12, hf⟩ := ifg hf
    refine m_iald F hK hP (o := ρ) (by omega) (mu_at _ _ _) (fun f => mkM_row h1 h3 D y f) (lnM_row h1 h3) hb12 dX5_weather_64 ?_
    refine lv_iload F.1 F.2.1 dX5_weather_65 (lv_at hl 0 rfl) ?_
    refine lv_isub F.1 F.2.1 dX5_weather_67 ?_
    obtain ⟨hb13, hf⟩ := ifg hf
    refine m_iast F hK hP hS (by omega) (fun f => mkM_row h1 h3 D y f) (lnM_row h1 h3) hb13 dX5_weather_68 (fun H locs hP hS => ?_)
    refine lv_aload_n F.1 F.2.1 dX5_weather_69 rfl (lv_at hl 2 rfl) ?_
    refine lv_iload F.1 F.2.1 dX5_weather_70 (lv_at hl 1 rfl) ?_
    refine lv_iconst (v := (3 : Int32)) F.1 F.2.1 dX5_weather_72 (by decide) ?_
    refine lv_iadd F.1 F.2.1 dX5_weather_73 ?_
    refine lv_dup2_11 F.1 F.2.1 dX5_weather_74 rfl rfl ?_
    obtain ⟨hb14, hf⟩ := ifg hf
    refine m_iald F hK hP (o := ρ) (by omega) (mu_at _ _ _) (fun f => mkM_row h1 h3 D y f) (lnM_row h1 h3) hb14 dX5_weather_75 ?_
    refine lv_aload_n F.1 F.2.1 dX5_weather_76 rfl (lv_at hl 2 rfl) ?_
    refine lv_iload F.1 F.2.1 dX5_weather_77 (lv_at hl 1 rfl) ?_
    refine lv_iconst (v := (0 : Int32)) F.1 F.2.1 dX5_weather_79 (by decide) ?_
    refine lv_iadd F.1 F.2.1 dX5_weather_80 ?_
    obtain ⟨hb15, hf⟩ := ifg hf
    refine m_iald F hK hP (o := ρ) (by omega) (mu_at _ _ _) (fun f => mkM_row h1 h3 D y f) (lnM_row h1 h3) hb15 dX5_weather_81 ?_
    refine lv_if_le (tgt := 89) F.1 F.2.1 dX5_weather_82 rfl (fun hc16 => ?_) (fun hc16 => ?_)
    · have hf := ifp hc16 hf
      refine lv_iload_n F.1 F.2.1 dX5_weather_89 rfl (lv_at hl 4 rfl) ?_
      refine lv_iload F.1 F.2.1 dX5_weather_90 (lv_at hl 0 rfl) ?_
      refine lv_aload_n F.1 F.2.1 dX5_weather_92 rfl (lv_at hl 2 rfl) ?_
      refine lv_sipush (v := (203 : Int32)) F.1 F.2.1 dX5_weather_93 (by decide) ?_
      refine m_iald F hK hP (o := ρ) (by omega) (mu_at _ _ _) (fun f => mkM_row h1 h3 D y f) (lnM_row h1 h3) (by decide) dX5_weather_96 ?_
      obtain ⟨hz17, hf⟩ := ifg hf
      refine lv_idiv F.1 F.2.1 dX5_weather_97 hz17 ?_
      refine lv_isub F.1 F.2.1 dX5_weather_98 ?_
      refine lv_iadd F.1 F.2.1 dX5_weather_99 ?_
      obtain ⟨hb18, hf⟩ := ifg hf
      refine m_iast F hK hP hS (by omega) (fun f => mkM_row h1 h3 D y f) (lnM_row h1 h3) hb18 dX5_weather_100 (fun H locs hP hS => ?_)
      refine lv_aload_n F.1 F.2.1 dX5_weather_101 rfl (lv_at hl 2 rfl) ?_
      refine lv_iload F.1 F.2.1 dX5_weather_102 (lv_at hl 1 rfl) ?_
      refine lv_iconst (v := (2 : Int32)) F.1 F.2.1 dX5_weather_104 (by decide) ?_
      refine lv_iadd F.1 F.2.1 dX5_weather_105 ?_
      refine lv_iconst (v := (0 : Int32)) F.1 F.2.1 dX5_weather_106 (by decide) ?_
      obtain ⟨hb19, hf⟩ := ifg hf
      refine m_iast F hK hP hS (by omega) (fun f => mkM_row h1 h3 D y f) (lnM_row h1 h3) hb19 dX5_weather_107 (fun H locs hP hS => ?_)
      exact (KEY FU) (upd (upd (upd (upd g ((((35 : Int32) * a1) + (0 : Int32)).toNatClampNeg) r5) ((((35 : Int32) * a1) + (0 : Int32)).toNatClampNeg) (((upd g ((((35 : Int32) * a1) + (0 : Int32)).toNatClampNeg) r5) (((35 : Int32) * a1) + (0 : Int32)).toNatClampNeg) - r10)) ((((35 : Int32) * a1) + (3 : Int32)).toNatClampNeg) (((upd (upd g ((((35 : Int32) * a1) + (0 : Int32)).toNatClampNeg) r5) ((((35 : Int32) * a1) + (0 : Int32)).toNatClampNeg) (((upd g ((((35 : Int32) * a1) + (0 : Int32)).toNatClampNeg) r5) (((35 : Int32) * a1) + (0 : Int32)).toNatClampNeg) - r10)) (((35 : Int32) * a1) + (3 : Int32)).toNatClampNeg) + (a2 - (r10 / ((upd (upd g ((((35 : Int32) * a1) + (0 : Int32)).toNatClampNeg) r5) ((((35 : Int32) * a1) + (0 : Int32)).toNatClampNeg) (((upd g ((((35 : Int32) * a1) + (0 : Int32)).toNatClampNeg) r5) (((35 : Int32) * a1) + (0 : Int32)).toNatClampNeg) - r10)) (203 : Int32).toNatClampNeg))))) ((((35 : Int32) * a1) + (2 : Int32)).toNatClampNeg) (0 : Int32)) ((35 : Int32) * a1) _ _ _ (lv_sub hl [2, 4, 1] rfl) hP hS hf
    · have hf := ifn hc16 hf
      refine lv_iconst (v := (0 : Int32)) F.1 F.2.1 dX5_weather_85 (by decide) ?_
      refine lv_goto (tgt := 99) F.1 F.2.1 dX5_weather_86 rfl ?_
      refine lv_iadd F.1 F.2.1 dX5_weather_99 ?_
      obtain ⟨hb20, hf⟩ := ifg hf
      refine m_iast F hK hP hS (by omega) (fun f => mkM_row h1 h3 D y f) (lnM_row h1 h3) hb20 dX5_weather_100 (fun H locs hP hS => ?_)
      refine lv_aload_n F.1 F.2.1 dX5_weather_101 rfl (lv_at hl 2 rfl) ?_
      refine lv_iload F.1 F.2.1 dX5_weather_102 (lv_at hl 1 rfl) ?_
      refine lv_iconst (v := (2 : Int32)) F.1 F.2.1 dX5_weather_104 (by decide) ?_
      refine lv_iadd F.1 F.2.1 dX5_weather_105 ?_
      refine lv_iconst (v := (0 : Int32)) F.1 F.2.1 dX5_weather_106 (by decide) ?_
      obtain ⟨hb21, hf⟩ := ifg hf
      refine m_iast F hK hP hS (by omega) (fun f => mkM_row h1 h3 D y f) (lnM_row h1 h3) hb21 dX5_weather_107 (fun H locs hP hS => ?_)
      exact (KEY FU) (upd (upd (upd (upd g ((((35 : Int32) * a1) + (0 : Int32)).toNatClampNeg) r5) ((((35 : Int32) * a1) + (0 : Int32)).toNatClampNeg) (((upd g ((((35 : Int32) * a1) + (0 : Int32)).toNatClampNeg) r5) (((35 : Int32) * a1) + (0 : Int32)).toNatClampNeg) - r10)) ((((35 : Int32) * a1) + (3 : Int32)).toNatClampNeg) (((upd (upd g ((((35 : Int32) * a1) + (0 : Int32)).toNatClampNeg) r5) ((((35 : Int32) * a1) + (0 : Int32)).toNatClampNeg) (((upd g ((((35 : Int32) * a1) + (0 : Int32)).toNatClampNeg) r5) (((35 : Int32) * a1) + (0 : Int32)).toNatClampNeg) - r10)) (((35 : Int32) * a1) + (3 : Int32)).toNatClampNeg) + (0 : Int32))) ((((35 : Int32) * a1) + (2 : Int32)).toNatClampNeg) (0 : Int32)) ((35 : Int32) * a1) _ _ _ (lv_sub hl [2, 4, 1] rfl) hP hS hf

-- FrostTubesModel.daySite([IIII)V
def fb_X5_daySite_1 (a1 : Int32) (a2 : Int32) (a3 : Int32) (K : Nat → Row → Int32 → Int32 → Option (Row)) (g : Row) (v4 : Int32) (v5 : Int32) : Option (Row) := (if (30 : Int32) ≤ v5 then ((f_X5_first g a1 (1 : Int32)).bind fun r6 => (K 2 g v4 r6)) else (if oob (v4 + (2 : Int32)) 205 then none else (if (g (v4 + (2 : Int32)).toNatClampNeg) < ((4 : Int32) + v5) then ((f_X5_first g a1 (1 : Int32)).bind fun r10 => (K 2 g v4 r10)) else ((f_X5_freeze g a1 v5).bind fun r12 => (if oob (v4 + (2 : Int32)) 205 then none else (if oob (v4 + (2 : Int32)) 205 then none else ((f_X5_first (upd r12 ((v4 + (2 : Int32)).toNatClampNeg) ((r12 (v4 + (2 : Int32)).toNatClampNeg) - ((4 : Int32) + v5))) a1 (0 : Int32)).bind fun r16 => (K 1 (upd r12 ((v4 + (2 : Int32)).toNatClampNeg) ((r12 (v4 + (2 : Int32)).toNatClampNeg) - ((4 : Int32) + v5))) v4 r16))))))))
def fb_X5_daySite_2 (a1 : Int32) (a2 : Int32) (a3 : Int32) (K : Nat → Row → Int32 → Int32 → Option (Row)) (g : Row) (v4 : Int32) (v5 : Int32) : Option (Row) := (if (30 : Int32) ≤ v5 then (K 3 g 0 0) else (if oob (v4 + (3 : Int32)) 205 then none else (if (g (v4 + (3 : Int32)).toNatClampNeg) < ((3 : Int32) + v5) then (K 3 g 0 0) else ((f_X5_thaw g a1 v5).bind fun r21 => (if oob (v4 + (3 : Int32)) 205 then none else (if oob (v4 + (3 : Int32)) 205 then none else ((f_X5_first (upd r21 ((v4 + (3 : Int32)).toNatClampNeg) ((r21 (v4 + (3 : Int32)).toNatClampNeg) - ((3 : Int32) + v5))) a1 (1 : Int32)).bind fun r25 => (K 2 (upd r21 ((v4 + (3 : Int32)).toNatClampNeg) ((r21 (v4 + (3 : Int32)).toNatClampNeg) - ((3 : Int32) + v5))) v4 r25))))))))
def fb_X5_daySite_3 (a1 : Int32) (a2 : Int32) (a3 : Int32) (K : Nat → Row → Int32 → Int32 → Option (Row)) (g : Row) (v4 : Int32) (v5 : Int32) : Option (Row) := ((f_X5_lowest g a1).bind fun r27 => (if (g (202 : Int32).toNatClampNeg) ≤ 0 then some g else (if (g (202 : Int32).toNatClampNeg) = 0 then none else (if ((g (199 : Int32).toNatClampNeg) - ((g (199 : Int32).toNatClampNeg) / (g (202 : Int32).toNatClampNeg)) * (g (202 : Int32).toNatClampNeg)) = 0 then (if r27 < 0 then some g else ((f_X5_thaw g a1 r27).bind fun r33 => some r33)) else some g))))
def fl_X5_daySite (a1 : Int32) (a2 : Int32) (a3 : Int32) : Nat → Nat → Row → Int32 → Int32 → Option (Row)
  | 0, _, _, _, _ => none
  | n + 1, lab, g, v4, v5 => match lab with
    | 1 => fb_X5_daySite_1 a1 a2 a3 (fl_X5_daySite a1 a2 a3 n) g v4 v5
    | 2 => fb_X5_daySite_2 a1 a2 a3 (fl_X5_daySite a1 a2 a3 n) g v4 v5
    | _ => fb_X5_daySite_3 a1 a2 a3 (fl_X5_daySite a1 a2 a3 n) g v4 v5
def f_X5_daySite (g : Row) (a1 : Int32) (a2 : Int32) (a3 : Int32) : Option (Row) := ((f_X5_weather g a1 a2 a3).bind fun r1 => ((f_X5_first r1 a1 (0 : Int32)).bind fun r3 => (fl_X5_daySite a1 a2 a3 FU 1 r1 ((35 : Int32) * a1) r3)))
def rmX5_daySite : Room := { frames := 3, cells := 0, slots := 0, locals := 66 }
theorem hd_X5_daySite : yX5_daySite.cls ≠ "java/lang/invoke/MethodHandle" ∧ yX5_daySite.cls ≠ "java/lang/invoke/VarHandle" ∧ (parseMethodDescriptor yX5_daySite.desc).map (fun d => d.parameters.length) = some 4 := by decide +kernel
set_option maxHeartbeats 8000000 in
set_option maxRecDepth 100000 in
theorem c_X5_daySite {l : Launch} {D : va_G} {y : Nat} {ν : Mem} {ρ : Nat} (h1 : 1 ≤ ρ) (h3 : ρ ≤ 3) {g : Row} (a1 : Int32) (a2 : Int32) (a3 : Int32) {r : Row} (hf : f_X5_daySite g a1 a2 a3 = some r) : CM l yX5_daySite wsX5_daySite rmX5_daySite [.ref (y + ρ), .int a1, .int a2, .int a3] D y (va_up ν ρ g) (none) (va_up ν ρ r) := by
  refine CM.of (cc := cX5_daySite) (maxL := 7) (ret := none) pn_X5 rfl (Nat.le_of_ble_eq_true rfl) ?_
  intro p e s m args below meth c F hr hlk hK
  have KEY : ∀ n : Nat, (∀ (g : Row) (v4 : Int32) (v5 : Int32) (ls : Array Slot) (H : Heap) (locs : List Loc), lv_has ls 7 [(0, .ref (y + ρ)), (1, .int a1), (4, .int v4), (5, .int v5)] → va_P D vwCl (WM D y (va_up ν ρ g)) H → va_S (rngM y) s.heap H locs → fl_X5_daySite a1 a2 a3 n 1 g v4 v5 = some r → W p l e rmX5_daySite s m args below meth c H locs 0 0 (MQ below (QM D y (va_up ν ρ r) (none)) args s 0 0 (rngM y)) (F0 m 21 ls [])) ∧ (∀ (g : Row) (v4 : Int32) (v5 : Int32) (ls : Array Slot) (H : Heap) (locs : List Loc), lv_has ls 7 [(0, .ref (y + ρ)), (1, .int a1), (4, .int v4), (5, .int v5)] → va_P D vwCl (WM D y (va_up ν ρ g)) H → va_S (rngM y) s.heap H locs → fl_X5_daySite a1 a2 a3 n 2 g v4 v5 = some r → W p l e rmX5_daySite s m args below meth c H locs 0 0 (MQ below (QM D y (va_up ν ρ r) (none)) args s 0 0 (rngM y)) (F0 m 80 ls [])) ∧ (∀ (g : Row) (ls : Array Slot) (H : Heap) (locs : List Loc), lv_has ls 7 [(0, .ref (y + ρ)), (1, .int a1)] → va_P D vwCl (WM D y (va_up ν ρ g)) H → va_S (rngM y) s.heap H locs → fl_X5_daySite a1 a2 a3 n 3 g 0 0 = some r → W p l e rmX5_daySite s m args below meth c H locs 0 0 (MQ below (QM D y (va_up ν ρ r) (none)) args s 0 0 (rngM y)) (F0 m 131 ls [])) := by
    intro n
    induction n with
    | zero => exact ⟨(fun _ _ _ _ _ _ _ _ _ h => nomatch h), (fun _ _ _ _ _ _ _ _ _ h => nomatch h), (fun _ _ _ _ _ _ _ h => nomatch h)⟩
    | succ n ih =>
      refine ⟨?_, ?_, ?_⟩
      · intro g v4 v5  ls H locs hl hP hS hf
        have hf : fb_X5_daySite_1 a1 a2 a3 (fl_X5_daySite a1 a2 a3 n) g v4 v5 = some r := hf
        unfold fb_X5_daySite_1 at hf
        refine lv_iload F.1 F.2.1 dX5_daySite_21 (lv_at hl 3 rfl) ?_
        refine lv_bipush (v := (30 : Int32)) F.1 F.2.1 dX5_daySite_23 (by decide) ?_
        refine lv_icmp_ge (tgt := 72) F.1 F.2.1 dX5_daySite_25 rfl (fun hc5 => ?_) (fun hc5 => ?_)
        · have hf := ifp hc5 hf
          refine lv_aload_n F.1 F.2.1 dX5_daySite_72 rfl (lv_at hl 0 rfl) ?_
          refine lv_iload_n F.1 F.2.1 dX5_daySite_73 rfl (lv_at hl 1 rfl) ?_
          refine lv_iconst (v := (1 : Int32)) F.1 F.2.1 dX5_daySite_74 (by decide) ?_
          obtain ⟨r6, hr7, hf⟩ := bnd hf
          refine m_callS F hK hP hS (c_X5_first h1 h3 (mu_at _ _ _) a1 (1 : Int32) hr7) (va_cwS 3 F.2.2.2.2 gX5_daySite_X5_first rfl rfl rfl hd_X5_first ⟨(Nat.le_of_ble_eq_true rfl), (Nat.le_of_ble_eq_true rfl)⟩) rfl rfl hl.1 (Nat.le_of_ble_eq_true rfl) dX5_daySite_75 ⟨(Nat.le_of_ble_eq_true rfl), (Nat.le_of_ble_eq_true rfl)⟩ (rest := []) (fun H locs hP hS => ?_)
          refine W.eq (g2 := F0 m 78 ls [.int r6]) rfl ?_
          refine lv_istore F.1 F.2.1 dX5_daySite_78 hl (Nat.le_of_ble_eq_true rfl) rfl (fun ls hl => ?_)
          have hl : lv_has ls 7 [(5, .int r6), (0, .ref (y + ρ)), (1, .int a1), (4, .int v4)] := hl
          exact ih.2.1 g v4 r6 _ _ _ (lv_sub hl [1, 2, 3, 0] rfl) hP hS hf
        · have hf := ifn hc5 hf
          refine lv_aload_n F.1 F.2.1 dX5_daySite_28 rfl (lv_at hl 0 rfl) ?_
          refine lv_iload F.1 F.2.1 dX5_daySite_29 (lv_at hl 2 rfl) ?_
          refine lv_iconst (v := (2 : Int32)) F.1 F.2.1 dX5_daySite_31 (by decide) ?_
          refine lv_iadd F.1 F.2.1 dX5_daySite_32 ?_
          obtain ⟨hb8, hf⟩ := ifg hf
          refine m_iald F hK hP (o := ρ) (by omega) (mu_at _ _ _) (fun f => mkM_row h1 h3 D y f) (lnM_row h1 h3) hb8 dX5_daySite_33 ?_
          refine lv_iconst (v := (4 : Int32)) F.1 F.2.1 dX5_daySite_34 (by decide) ?_
          refine lv_iload F.1 F.2.1 dX5_daySite_35 (lv_at hl 3 rfl) ?_
          refine lv_iadd F.1 F.2.1 dX5_daySite_37 ?_
          refine lv_icmp_lt (tgt := 72) F.1 F.2.1 dX5_daySite_38 rfl (fun hc9 => ?_) (fun hc9 => ?_)
          · have hf := ifp hc9 hf
            refine lv_aload_n F.1 F.2.1 dX5_daySite_72 rfl (lv_at hl 0 rfl) ?_
            refine lv_iload_n F.1 F.2.1 dX5_daySite_73 rfl (lv_at hl 1 rfl) ?_
            refine lv_iconst (v := (1 : Int32)) F.1 F.2.1 dX5_daySite_74 (by decide) ?_
            obtain ⟨r10, hr11, hf⟩ := bnd hf
            refine m_callS F hK hP hS (c_X5_first h1 h3 (mu_at _ _ _) a1 (1 : Int32) hr11) (va_cwS 3 F.2.2.2.2 gX5_daySite_X5_first rfl rfl rfl hd_X5_first ⟨(Nat.le_of_ble_eq_true rfl), (Nat.le_of_ble_eq_true rfl)⟩) rfl rfl hl.1 (Nat.le_of_ble_eq_true rfl) dX5_daySite_75 ⟨(Nat.le_of_ble_eq_true rfl), (Nat.le_of_ble_eq_true rfl)⟩ (rest := []) (fun H locs hP hS => ?_)
            refine W.eq (g2 := F0 m 78 ls [.int r10]) rfl ?_
            refine lv_istore F.1 F.2.1 dX5_daySite_78 hl (Nat.le_of_ble_eq_true rfl) rfl (fun ls hl => ?_)
            have hl : lv_has ls 7 [(5, .int r10), (0, .ref (y + ρ)), (1, .int a1), (4, .int v4)] := hl
            exact ih.2.1 g v4 r10 _ _ _ (lv_sub hl [1, 2, 3, 0] rfl) hP hS hf
          · have hf := ifn hc9 hf
            refine lv_aload_n F.1 F.2.1 dX5_daySite_41 rfl (lv_at hl 0 rfl) ?_
            refine lv_iload_n F.1 F.2.1 dX5_daySite_42 rfl (lv_at hl 1 rfl) ?_
            refine lv_iload F.1 F.2.1 dX5_daySite_43 (lv_at hl 3 rfl) ?_
            obtain ⟨r12, hr13, hf⟩ := bnd hf
            refine m_callS F hK hP hS (c_X5_freeze h1 h3 a1 v5 hr13) (va_cwS 3 F.2.2.2.2 gX5_daySite_X5_freeze rfl rfl rfl hd_X5_freeze ⟨(Nat.le_of_ble_eq_true rfl), (Nat.le_of_ble_eq_true rfl)⟩) rfl rfl hl.1 (Nat.le_of_ble_eq_true rfl) dX5_daySite_45 ⟨(Nat.le_of_ble_eq_true rfl), (Nat.le_of_ble_eq_true rfl)⟩ (rest := []) (fun H locs hP hS => ?_)
            refine W.eq (g2 := F0 m 48 ls []) rfl ?_
            refine lv_aload_n F.1 F.2.1 dX5_daySite_48 rfl (lv_at hl 0 rfl) ?_
            refine lv_iload F.1 F.2.1 dX5_daySite_49 (lv_at hl 2 rfl) ?_
            refine lv_iconst (v := (2 : Int32)) F.1 F.2.1 dX5_daySite_51 (by decide) ?_
            refine lv_iadd F.1 F.2.1 dX5_daySite_52 ?_
            refine lv_dup2_11 F.1 F.2.1 dX5_daySite_53 rfl rfl ?_
            obtain ⟨hb14, hf⟩ := ifg hf
            refine m_iald F hK hP (o := ρ) (by omega) (mu_at _ _ _) (fun f => mkM_row h1 h3 D y f) (lnM_row h1 h3) hb14 dX5_daySite_54 ?_
            refine lv_iconst (v := (4 : Int32)) F.1 F.2.1 dX5_daySite_55 (by decide) ?_
            refine lv_iload F.1 F.2.1 dX5_daySite_56 (lv_at hl 3 rfl) ?_
            refine lv_iadd F.1 F.2.1 dX5_daySite_58 ?_
            refine lv_isub F.1 F.2.1 dX5_daySite_59 ?_
            obtain ⟨hb15, hf⟩ := ifg hf
            refine m_iast F hK hP hS (by omega) (fun f => mkM_row h1 h3 D y f) (lnM_row h1 h3) hb15 dX5_daySite_60 (fun H locs hP hS => ?_)
            refine lv_aload_n F.1 F.2.1 dX5_daySite_61 rfl (lv_at hl 0 rfl) ?_
            refine lv_iload_n F.1 F.2.1 dX5_daySite_62 rfl (lv_at hl 1 rfl) ?_
            refine lv_iconst (v := (0 : Int32)) F.1 F.2.1 dX5_daySite_63 (by decide) ?_
            obtain ⟨r16, hr17, hf⟩ := bnd hf
            refine m_callS F hK hP hS (c_X5_first h1 h3 (mu_at _ _ _) a1 (0 : Int32) hr17) (va_cwS 3 F.2.2.2.2 gX5_daySite_X5_first rfl rfl rfl hd_X5_first ⟨(Nat.le_of_ble_eq_true rfl), (Nat.le_of_ble_eq_true rfl)⟩) rfl rfl hl.1 (Nat.le_of_ble_eq_true rfl) dX5_daySite_64 ⟨(Nat.le_of_ble_eq_true rfl), (Nat.le_of_ble_eq_true rfl)⟩ (rest := []) (fun H locs hP hS => ?_)
            refine W.eq (g2 := F0 m 67 ls [.int r16]) rfl ?_
            refine lv_istore F.1 F.2.1 dX5_daySite_67 hl (Nat.le_of_ble_eq_true rfl) rfl (fun ls hl => ?_)
            have hl : lv_has ls 7 [(5, .int r16), (0, .ref (y + ρ)), (1, .int a1), (4, .int v4)] := hl
            refine lv_goto (tgt := 21) F.1 F.2.1 dX5_daySite_69 rfl ?_
            exact ih.1 (upd r12 ((v4 + (2 : Int32)).toNatClampNeg) ((r12 (v4 + (2 : Int32)).toNatClampNeg) - ((4 : Int32) + v5))) v4 r16 _ _ _ (lv_sub hl [1, 2, 3, 0] rfl) hP hS hf
      · intro g v4 v5  ls H locs hl hP hS hf
        have hf : fb_X5_daySite_2 a1 a2 a3 (fl_X5_daySite a1 a2 a3 n) g v4 v5 = some r := hf
        unfold fb_X5_daySite_2 at hf
        refine lv_iload F.1 F.2.1 dX5_daySite_80 (lv_at hl 3 rfl) ?_
        refine lv_bipush (v := (30 : Int32)) F.1 F.2.1 dX5_daySite_82 (by decide) ?_
        refine lv_icmp_ge (tgt := 131) F.1 F.2.1 dX5_daySite_84 rfl (fun hc18 => ?_) (fun hc18 => ?_)
        · have hf := ifp hc18 hf
          exact ih.2.2 g  _ _ _ (lv_sub hl [0, 1] rfl) hP hS hf
        · have hf := ifn hc18 hf
          refine lv_aload_n F.1 F.2.1 dX5_daySite_87 rfl (lv_at hl 0 rfl) ?_
          refine lv_iload F.1 F.2.1 dX5_daySite_88 (lv_at hl 2 rfl) ?_
          refine lv_iconst (v := (3 : Int32)) F.1 F.2.1 dX5_daySite_90 (by decide) ?_
          refine lv_iadd F.1 F.2.1 dX5_daySite_91 ?_
          obtain ⟨hb19, hf⟩ := ifg hf
          refine m_iald F hK hP (o := ρ) (by omega) (mu_at _ _ _) (fun f => mkM_row h1 h3 D y f) (lnM_row h1 h3) hb19 dX5_daySite_92 ?_
          refine lv_iconst (v := (3 : Int32)) F.1 F.2.1 dX5_daySite_93 (by decide) ?_
          refine lv_iload F.1 F.2.1 dX5_daySite_94 (lv_at hl 3 rfl) ?_
          refine lv_iadd F.1 F.2.1 dX5_daySite_96 ?_
          refine lv_icmp_lt (tgt := 131) F.1 F.2.1 dX5_daySite_97 rfl (fun hc20 => ?_) (fun hc20 => ?_)
          · have hf := ifp hc20 hf
            exact ih.2.2 g  _ _ _ (lv_sub hl [0, 1] rfl) hP hS hf
          · have hf := ifn hc20 hf
            refine lv_aload_n F.1 F.2.1 dX5_daySite_100 rfl (lv_at hl 0 rfl) ?_
            refine lv_iload_n F.1 F.2.1 dX5_daySite_101 rfl (lv_at hl 1 rfl) ?_
            refine lv_iload F.1 F.2.1 dX5_daySite_102 (lv_at hl 3 rfl) ?_
            obtain ⟨r21, hr22, hf⟩ := bnd hf
            refine m_callS F hK hP hS (c_X5_thaw h1 h3 a1 v5 hr22) (va_cwS 3 F.2.2.2.2 gX5_daySite_X5_thaw rfl rfl rfl hd_X5_thaw ⟨(Nat.le_of_ble_eq_true rfl), (Nat.le_of_ble_eq_true rfl)⟩) rfl rfl hl.1 (Nat.le_of_ble_eq_true rfl) dX5_daySite_104 ⟨(Nat.le_of_ble_eq_true rfl), (Nat.le_of_ble_eq_true rfl)⟩ (rest := []) (fun H locs hP hS => ?_)
            refine W.eq (g2 := F0 m 107 ls []) rfl ?_
            refine lv_aload_n F.1 F.2.1 dX5_daySite_107 rfl (lv_at hl 0 rfl) ?_
            refine lv_iload F.1 F.2.1 dX5_daySite_108 (lv_at hl 2 rfl) ?_
            refine lv_iconst (v := (3 : Int32)) F.1 F.2.1 dX5_daySite_110 (by decide) ?_
            refine lv_iadd F.1 F.2.1 dX5_daySite_111 ?_
            refine lv_dup2_11 F.1 F.2.1 dX5_daySite_112 rfl rfl ?_
            obtain ⟨hb23, hf⟩ := ifg hf
            refine m_iald F hK hP (o := ρ) (by omega) (mu_at _ _ _) (fun f => mkM_row h1 h3 D y f) (lnM_row h1 h3) hb23 dX5_daySite_113 ?_
            refine lv_iconst (v := (3 : Int32)) F.1 F.2.1 dX5_daySite_114 (by decide) ?_
            refine lv_iload F.1 F.2.1 dX5_daySite_115 (lv_at hl 3 rfl) ?_
            refine lv_iadd F.1 F.2.1 dX5_daySite_117 ?_
            refine lv_isub F.1 F.2.1 dX5_daySite_118 ?_
            obtain ⟨hb24, hf⟩ := ifg hf
            refine m_iast F hK hP hS (by omega) (fun f => mkM_row h1 h3 D y f) (lnM_row h1 h3) hb24 dX5_daySite_119 (fun H locs hP hS => ?_)
            refine lv_aload_n F.1 F.2.1 dX5_daySite_120 rfl (lv_at hl 0 rfl) ?_
            refine lv_iload_n F.1 F.2.1 dX5_daySite_121 rfl (lv_at hl 1 rfl) ?_
            refine lv_iconst (v := (1 : Int32)) F.1 F.2.1 dX5_daySite_122 (by decide) ?_
            obtain ⟨r25, hr26, hf⟩ := bnd hf
            refine m_callS F hK hP hS (c_X5_first h1 h3 (mu_at _ _ _) a1 (1 : Int32) hr26) (va_cwS 3 F.2.2.2.2 gX5_daySite_X5_first rfl rfl rfl hd_X5_first ⟨(Nat.le_of_ble_eq_true rfl), (Nat.le_of_ble_eq_true rfl)⟩) rfl rfl hl.1 (Nat.le_of_ble_eq_true rfl) dX5_daySite_123 ⟨(Nat.le_of_ble_eq_true rfl), (Nat.le_of_ble_eq_true rfl)⟩ (rest := []) (fun H locs hP hS => ?_)
            refine W.eq (g2 := F0 m 126 ls [.int r25]) rfl ?_
            refine lv_istore F.1 F.2.1 dX5_daySite_126 hl (Nat.le_of_ble_eq_true rfl) rfl (fun ls hl => ?_)
            have hl : lv_has ls 7 [(5, .int r25), (0, .ref (y + ρ)), (1, .int a1), (4, .int v4)] := hl
            refine lv_goto (tgt := 80) F.1 F.2.1 dX5_daySite_128 rfl ?_
            exact ih.2.1 (upd r21 ((v4 + (3 : Int32)).toNatClampNeg) ((r21 (v4 + (3 : Int32)).toNatClampNeg) - ((3 : Int32) + v5))) v4 r25 _ _ _ (lv_sub hl [1, 2, 3, 0] rfl) hP hS hf
      · intro g  ls H locs hl hP hS hf
        have hf : fb_X5_daySite_3 a1 a2 a3 (fl_X5_daySite a1 a2 a3 n) g 0 0 = some r := hf
        unfold fb_X5_daySite_3 at hf
        refine lv_aload_n F.1 F.2.1 dX5_daySite_131 rfl (lv_at hl 0 rfl) ?_
        refine lv_iload_n F.1 F.2.1 dX5_daySite_132 rfl (lv_at hl 1 rfl) ?_
        obtain ⟨r27, hr28, hf⟩ := bnd hf
        refine m_callS F hK hP hS (c_X5_lowest h1 h3 (mu_at _ _ _) a1 hr28) (va_cwS 2 F.2.2.2.2 gX5_daySite_X5_lowest rfl rfl rfl hd_X5_lowest ⟨(Nat.le_of_ble_eq_true rfl), (Nat.le_of_ble_eq_true rfl)⟩) rfl rfl hl.1 (Nat.le_of_ble_eq_true rfl) dX5_daySite_133 ⟨(Nat.le_of_ble_eq_true rfl), (Nat.le_of_ble_eq_true rfl)⟩ (rest := []) (fun H locs hP hS => ?_)
        refine W.eq (g2 := F0 m 136 ls [.int r27]) rfl ?_
        refine lv_istore F.1 F.2.1 dX5_daySite_136 hl (Nat.le_of_ble_eq_true rfl) rfl (fun ls hl => ?_)
        have hl : lv_has ls 7 [(6, .int r27), (0, .ref (y + ρ)), (1, .int a1)] := hl
        refine lv_aload_n F.1 F.2.1 dX5_daySite_138 rfl (lv_at hl 1 rfl) ?_
        refine lv_sipush (v := (202 : Int32)) F.1 F.2.1 dX5_daySite_139 (by decide) ?_
        refine m_iald F hK hP (o := ρ) (by omega) (mu_at _ _ _) (fun f => mkM_row h1 h3 D y f) (lnM_row h1 h3) (by decide) dX5_daySite_142 ?_
        refine lv_if_le (tgt := 172) F.1 F.2.1 dX5_daySite_143 rfl (fun hc29 => ?_) (fun hc29 => ?_)
        · have hf := ifp hc29 hf
          obtain rfl := Option.some.inj hf
          exact m_vret F hr hlk hP hS rfl dX5_daySite_172
        · have hf := ifn hc29 hf
          refine lv_aload_n F.1 F.2.1 dX5_daySite_146 rfl (lv_at hl 1 rfl) ?_
          refine lv_sipush (v := (199 : Int32)) F.1 F.2.1 dX5_daySite_147 (by decide) ?_
          refine m_iald F hK hP (o := ρ) (by omega) (mu_at _ _ _) (fun f => mkM_row h1 h3 D y f) (lnM_row h1 h3) (by decide) dX5_daySite_150 ?_
          refine lv_aload_n F.1 F.2.1 dX5_daySite_151 rfl (lv_at hl 1 rfl) ?_
          refine lv_sipush (v := (202 : Int32)) F.1 F.2.1 dX5_daySite_152 (by decide) ?_
          refine m_iald F hK hP (o := ρ) (by omega) (mu_at _ _ _) (fun f => mkM_row h1 h3 D y f) (lnM_row h1 h3) (by decide) dX5_daySite_155 ?_
          obtain ⟨hz30, hf⟩ := ifg hf
          refine lv_irem F.1 F.2.1 dX5_daySite_156 hz30 ?_
          refine lv_if_ne (tgt := 172) F.1 F.2.1 dX5_daySite_157 rfl (fun hc31 => ?_) (fun hc31 => ?_)
          · have hf := ifn hc31 hf
            obtain rfl := Option.some.inj hf
            exact m_vret F hr hlk hP hS rfl dX5_daySite_172
          · have hf := ifp hc31 hf
            refine lv_iload F.1 F.2.1 dX5_daySite_160 (lv_at hl 0 rfl) ?_
            refine lv_if_lt (tgt := 172) F.1 F.2.1 dX5_daySite_162 rfl (fun hc32 => ?_) (fun hc32 => ?_)
            · have hf := ifp hc32 hf
              obtain rfl := Option.some.inj hf
              exact m_vret F hr hlk hP hS rfl dX5_daySite_172
            · have hf := ifn hc32 hf
              refine lv_aload_n F.1 F.2.1 dX5_daySite_165 rfl (lv_at hl 1 rfl) ?_
              refine lv_iload_n F.1 F.2.1 dX5_daySite_166 rfl (lv_at hl 2 rfl) ?_
              refine lv_iload F.1 F.2.1 dX5_daySite_167 (lv_at hl 0 rfl) ?_
              obtain ⟨r33, hr34, hf⟩ := bnd hf
              refine m_callS F hK hP hS (c_X5_thaw h1 h3 a1 r27 hr34) (va_cwS 3 F.2.2.2.2 gX5_daySite_X5_thaw rfl rfl rfl hd_X5_thaw ⟨(Nat.le_of_ble_eq_true rfl), (Nat.le_of_ble_eq_true rfl)⟩) rfl rfl hl.1 (Nat.le_of_ble_eq_true rfl) dX5_daySite_169 ⟨(Nat.le_of_ble_eq_true rfl), (Nat.le_of_ble_eq_true rfl)⟩ (rest := []) (fun H locs hP hS => ?_)
              refine W.eq (g2 := F0 m 172 ls []) rfl ?_
              obtain rfl := Option.some.inj hf
              exact m_vret F hr hlk hP hS rfl dX5_daySite_172
  intro ls H locs hl hP hS
  have hl : lv_has ls 7 [(0, .ref (y + ρ)), (1, .int a1), (2, .int a2), (3, .int a3)] := hl
  unfold f_X5_daySite at hf
  refine lv_bipush (v := (35 : Int32)) F.1 F.2.1 dX5_daySite_0 (by decide) ?_
  refine lv_iload_n F.1 F.2.1 dX5_daySite_2 rfl (lv_at hl 1 rfl) ?_
  refine lv_imul F.1 F.2.1 dX5_daySite_3 ?_
  refine lv_istore F.1 F.2.1 dX5_daySite_4 hl (Nat.le_of_ble_eq_true rfl) rfl (fun ls hl => ?_)
  have hl : lv_has ls 7 [(4, .int ((35 : Int32) * a1)), (0, .ref (y + ρ)), (1, .int a1), (2, .int a2), (3, .int a3)] := hl
  refine lv_aload_n F.1 F.2.1 dX5_daySite_6 rfl (lv_at hl 1 rfl) ?_
  refine lv_iload_n F.1 F.2.1 dX5_daySite_7 rfl (lv_at hl 2 rfl) ?_
  refine lv_iload_n F.1 F.2.1 dX5_daySite_8 rfl (lv_at hl 3 rfl) ?_
  refine lv_iload_n F.1 F.2.1 dX5_daySite_9 rfl (lv_at hl 4 rfl) ?_
  obtain ⟨r1, hr2, hf⟩ := bnd hf
  refine m_callS F hK hP hS (c_X5_weather h1 h3 a1 a2 a3 hr2) (va_cwS 4 F.2.2.2.2 gX5_daySite_X5_weather rfl rfl rfl hd_X5_weather ⟨(Nat.le_of_ble_eq_true rfl), (Nat.le_of_ble_eq_true rfl)⟩) rfl rfl hl.1 (Nat.le_of_ble_eq_true rfl) dX5_daySite_10 ⟨(Nat.le_of_ble_eq_true rfl), (Nat.le_of_ble_eq_true rfl)⟩ (rest := []) (fun H locs hP hS => ?_)
  refine W.eq (g2 := F0 m 13 ls []) rfl ?_
  refine lv_aload_n F.1 F.2.1 dX5_daySite_13 rfl (lv_at hl 1 rfl) ?_
  refine lv_iload_n F.1 F.2.1 dX5_daySite_14 rfl (lv_at hl 2 rfl) ?_
  refine lv_iconst (v := (0 : Int32)) F.1 F.2.1 dX5_daySite_15 (by decide) ?_
  obtain ⟨r3, hr4, hf⟩ := bnd hf
  refine m_callS F hK hP hS (c_X5_first h1 h3 (mu_at _ _ _) a1 (0 : Int32) hr4) (va_cwS 3 F.2.2.2.2 gX5_daySite_X5_first rfl rfl rfl hd_X5_first ⟨(Nat.le_of_ble_eq_true rfl), (Nat.le_of_ble_eq_true rfl)⟩) rfl rfl hl.1 (Nat.le_of_ble_eq_true rfl) dX5_daySite_16 ⟨(Nat.le_of_ble_eq_true rfl), (Nat.le_of_ble_eq_true rfl)⟩ (rest := []) (fun H locs hP hS => ?_)
  refine W.eq (g2 := F0 m 19 ls [.int r3]) rfl ?_
  refine lv_istore F.1 F.2.1 dX5_daySite_19 hl (Nat.le_of_ble_eq_true rfl) rfl (fun ls hl => ?_)
  have hl : lv_has ls 7 [(5, .int r3), (4, .int ((35 : Int32) * a1)), (0, .ref (y + ρ)), (1, .int a1), (2, .int a2), (3, .int a3)] := hl
  exact (KEY FU).1 r1 ((35 : Int32) * a1) r3 _ _ _ (lv_sub hl [2, 3, 1, 0] rfl) hP hS hf

-- FrostTubesModel.day([III)V
def fb_X5_day_1 (a1 : Int32) (a2 : Int32) (K : Row → Int32 → Option (Row)) (g : Row) (v3 : Int32) : Option (Row) := (if (g (196 : Int32).toNatClampNeg) ≤ v3 then some g else ((f_X5_daySite g v3 a1 a2).bind fun r2 => (K r2 (v3 + (1 : Int32)))))
def fl_X5_day (a1 : Int32) (a2 : Int32) : Nat → Row → Int32 → Option (Row)
  | 0, _, _ => none
  | n + 1, g, v3 => fb_X5_day_1 a1 a2 (fl_X5_day a1 a2 n) g v3
def f_X5_day (g : Row) (a1 : Int32) (a2 : Int32) : Option (Row) := (fl_X5_day a1 a2 FU (upd g ((199 : Int32).toNatClampNeg) ((g (199 : Int32).toNatClampNeg) + (1 : Int32))) (0 : Int32))
def rmX5_day : Room := { frames := 4, cells := 0, slots := 0, locals := 92 }
theorem hd_X5_day : yX5_day.cls ≠ "java/lang/invoke/MethodHandle" ∧ yX5_day.cls ≠ "java/lang/invoke/VarHandle" ∧ (parseMethodDescriptor yX5_day.desc).map (fun d => d.parameters.length) = some 3 := by decide +kernel
set_option maxHeartbeats 8000000 in
set_option maxRecDepth 100000 in
theorem c_X5_day {l : Launch} {D : va_G} {y : Nat} {ν : Mem} {ρ : Nat} (h1 : 1 ≤ ρ) (h3 : ρ ≤ 3) {g : Row} (a1 : Int32) (a2 : Int32) {r : Row} (hf : f_X5_day g a1 a2 = some r) : CM l yX5_day wsX5_day rmX5_day [.ref (y + ρ), .int a1, .int a2] D y (va_up ν ρ g) (none) (va_up ν ρ r) := by
  refine CM.of (cc := cX5_day) (maxL := 4) (ret := none) pn_X5 rfl (Nat.le_of_ble_eq_true rfl) ?_
  intro p e s m args below meth c F hr hlk hK
  have KEY : ∀ n : Nat, (∀ (g : Row) (v3 : Int32) (ls : Array Slot) (H : Heap) (locs : List Loc), lv_has ls 4 [(0, .ref (y + ρ)), (1, .int a1), (2, .int a2), (3, .int v3)] → va_P D vwCl (WM D y (va_up ν ρ g)) H → va_S (rngM y) s.heap H locs → fl_X5_day a1 a2 n g v3 = some r → W p l e rmX5_day s m args below meth c H locs 0 0 (MQ below (QM D y (va_up ν ρ r) (none)) args s 0 0 (rngM y)) (F0 m 11 ls [])) := by
    intro n
    induction n with
    | zero => exact (fun _ _ _ _ _ _ _ _ h => nomatch h)
    | succ n ih =>
      skip
      intro g v3  ls H locs hl hP hS hf
      have hf : fb_X5_day_1 a1 a2 (fl_X5_day a1 a2 n) g v3 = some r := hf
      unfold fb_X5_day_1 at hf
      refine lv_iload_n F.1 F.2.1 dX5_day_11 rfl (lv_at hl 3 rfl) ?_
      refine lv_aload_n F.1 F.2.1 dX5_day_12 rfl (lv_at hl 0 rfl) ?_
      refine lv_sipush (v := (196 : Int32)) F.1 F.2.1 dX5_day_13 (by decide) ?_
      refine m_iald F hK hP (o := ρ) (by omega) (mu_at _ _ _) (fun f => mkM_row h1 h3 D y f) (lnM_row h1 h3) (by decide) dX5_day_16 ?_
      refine lv_icmp_ge (tgt := 33) F.1 F.2.1 dX5_day_17 rfl (fun hc1 => ?_) (fun hc1 => ?_)
      · have hf := ifp hc1 hf
        obtain rfl := Option.some.inj hf
        exact m_vret F hr hlk hP hS rfl dX5_day_33
      · have hf := ifn hc1 hf
        refine lv_aload_n F.1 F.2.1 dX5_day_20 rfl (lv_at hl 0 rfl) ?_
        refine lv_iload_n F.1 F.2.1 dX5_day_21 rfl (lv_at hl 3 rfl) ?_
        refine lv_iload_n F.1 F.2.1 dX5_day_22 rfl (lv_at hl 1 rfl) ?_
        refine lv_iload_n F.1 F.2.1 dX5_day_23 rfl (lv_at hl 2 rfl) ?_
        obtain ⟨r2, hr3, hf⟩ := bnd hf
        refine m_callS F hK hP hS (c_X5_daySite h1 h3 v3 a1 a2 hr3) (va_cwS 4 F.2.2.2.2 gX5_day_X5_daySite rfl rfl rfl hd_X5_daySite ⟨(Nat.le_of_ble_eq_true rfl), (Nat.le_of_ble_eq_true rfl)⟩) rfl rfl hl.1 (Nat.le_of_ble_eq_true rfl) dX5_day_24 ⟨(Nat.le_of_ble_eq_true rfl), (Nat.le_of_ble_eq_true rfl)⟩ (rest := []) (fun H locs hP hS => ?_)
        refine W.eq (g2 := F0 m 27 ls []) rfl ?_
        refine lv_iinc (v := (v3 + (1 : Int32))) F.1 F.2.1 dX5_day_27 hl (k := 3) rfl rfl (Nat.le_of_ble_eq_true rfl) rfl (fun ls hl => ?_)
        have hl : lv_has ls 4 [(3, .int (v3 + (1 : Int32))), (0, .ref (y + ρ)), (1, .int a1), (2, .int a2)] := hl
        refine lv_goto (tgt := 11) F.1 F.2.1 dX5_day_30 rfl ?_
        exact ih r2 (v3 + (1 : Int32)) _ _ _ (lv_sub hl [1, 2, 3, 0] rfl) hP hS hf
  intro ls H locs hl hP hS
  have hl : lv_has ls 4 [(0, .ref (y + ρ)), (1, .int a1), (2, .int a2)] := hl
  unfold f_X5_day at hf
  refine lv_aload_n F.1 F.2.1 dX5_day_0 rfl (lv_at hl 0 rfl) ?_
  refine lv_sipush (v := (199 : Int32)) F.1 F.2.1 dX5_day_1 (by decide) ?_
  refine lv_dup2_11 F.1 F.2.1 dX5_day_4 rfl rfl ?_
  refine m_iald F hK hP (o := ρ) (by omega) (mu_at _ _ _) (fun f => mkM_row h1 h3 D y f) (lnM_row h1 h3) (by decide) dX5_day_5 ?_
  refine lv_iconst (v := (1 : Int32)) F.1 F.2.1 dX5_day_6 (by decide) ?_
  refine lv_iadd F.1 F.2.1 dX5_day_7 ?_
  refine m_iast F hK hP hS (by omega) (fun f => mkM_row h1 h3 D y f) (lnM_row h1 h3) (by decide) dX5_day_8 (fun H locs hP hS => ?_)
  refine lv_iconst (v := (0 : Int32)) F.1 F.2.1 dX5_day_9 (by decide) ?_
  refine lv_istore_n F.1 F.2.1 dX5_day_10 rfl hl (Nat.le_of_ble_eq_true rfl) rfl (fun ls hl => ?_)
  have hl : lv_has ls 4 [(3, .int (0 : Int32)), (0, .ref (y + ρ)), (1, .int a1), (2, .int a2)] := hl
  exact (KEY FU) (upd g ((199 : Int32).toNatClampNeg) ((g (199 : Int32).toNatClampNeg) + (1 : Int32))) (0 : Int32) _ _ _ (lv_sub hl [1, 2, 3, 0] rfl) hP hS hf

-- FrostTubesModel.cells([II)I
def fb_X5_cells_1 (g : Row) (a1 : Int32) (K : Int32 → Int32 → Option (Int32)) (v2 : Int32) (v3 : Int32) : Option (Int32) := (if (30 : Int32) ≤ v3 then some v2 else ((f_X5_frozen g a1 v3).bind fun r2 => (if r2 = 0 then (K (v2 + (0 : Int32)) (v3 + (1 : Int32))) else (K (v2 + (1 : Int32)) (v3 + (1 : Int32))))))
def fl_X5_cells (g : Row) (a1 : Int32) : Nat → Int32 → Int32 → Option (Int32)
  | 0, _, _ => none
  | n + 1, v2, v3 => fb_X5_cells_1 g a1 (fl_X5_cells g a1 n) v2 v3
def f_X5_cells (g : Row) (a1 : Int32) : Option (Int32) := (fl_X5_cells g a1 FU (0 : Int32) (0 : Int32))
def rmX5_cells : Room := { frames := 2, cells := 0, slots := 0, locals := 43 }
theorem hd_X5_cells : yX5_cells.cls ≠ "java/lang/invoke/MethodHandle" ∧ yX5_cells.cls ≠ "java/lang/invoke/VarHandle" ∧ (parseMethodDescriptor yX5_cells.desc).map (fun d => d.parameters.length) = some 2 := by decide +kernel
set_option maxHeartbeats 8000000 in
set_option maxRecDepth 100000 in
theorem c_X5_cells {l : Launch} {D : va_G} {y : Nat} {ν : Mem} {ρ : Nat} (h1 : 1 ≤ ρ) (h3 : ρ ≤ 3) {g : Row} (hg : ν ρ = g) (a1 : Int32) {r : Int32} (hf : f_X5_cells g a1 = some r) : CM l yX5_cells wsX5_cells rmX5_cells [.ref (y + ρ), .int a1] D y ν (some (.int r)) ν := by
  refine CM.of (cc := cX5_cells) (maxL := 4) (ret := (some .int)) pn_X5 rfl (Nat.le_of_ble_eq_true rfl) ?_
  intro p e s m args below meth c F hr hlk hK
  have KEY : ∀ n : Nat, (∀ (v2 : Int32) (v3 : Int32) (ls : Array Slot) (H : Heap) (locs : List Loc), lv_has ls 4 [(0, .ref (y + ρ)), (1, .int a1), (2, .int v2), (3, .int v3)] → va_P D vwCl (WM D y ν) H → va_S (rngM y) s.heap H locs → fl_X5_cells g a1 n v2 v3 = some r → W p l e rmX5_cells s m args below meth c H locs 0 0 (MQ below (QM D y ν (some (.int r))) args s 0 0 (rngM y)) (F0 m 4 ls [])) := by
    intro n
    induction n with
    | zero => exact (fun _ _ _ _ _ _ _ _ h => nomatch h)
    | succ n ih =>
      skip
      intro v2 v3  ls H locs hl hP hS hf
      have hf : fb_X5_cells_1 g a1 (fl_X5_cells g a1 n) v2 v3 = some r := hf
      unfold fb_X5_cells_1 at hf
      refine lv_iload_n F.1 F.2.1 dX5_cells_4 rfl (lv_at hl 3 rfl) ?_
      refine lv_bipush (v := (30 : Int32)) F.1 F.2.1 dX5_cells_5 (by decide) ?_
      refine lv_icmp_ge (tgt := 33) F.1 F.2.1 dX5_cells_7 rfl (fun hc1 => ?_) (fun hc1 => ?_)
      · have hf := ifp hc1 hf
        refine lv_iload_n F.1 F.2.1 dX5_cells_33 rfl (lv_at hl 2 rfl) ?_
        obtain rfl := Option.some.inj hf
        exact m_iret F hr hlk hP hS rfl dX5_cells_34
      · have hf := ifn hc1 hf
        refine lv_iload_n F.1 F.2.1 dX5_cells_10 rfl (lv_at hl 2 rfl) ?_
        refine lv_aload_n F.1 F.2.1 dX5_cells_11 rfl (lv_at hl 0 rfl) ?_
        refine lv_iload_n F.1 F.2.1 dX5_cells_12 rfl (lv_at hl 1 rfl) ?_
        refine lv_iload_n F.1 F.2.1 dX5_cells_13 rfl (lv_at hl 3 rfl) ?_
        obtain ⟨r2, hr3, hf⟩ := bnd hf
        refine m_callS F hK hP hS (c_X5_frozen h1 h3 hg a1 v3 hr3) (va_cwS 3 F.2.2.2.2 gX5_cells_X5_frozen rfl rfl rfl hd_X5_frozen ⟨(Nat.le_of_ble_eq_true rfl), (Nat.le_of_ble_eq_true rfl)⟩) rfl rfl hl.1 (Nat.le_of_ble_eq_true rfl) dX5_cells_14 ⟨(Nat.le_of_ble_eq_true rfl), (Nat.le_of_ble_eq_true rfl)⟩ (rest := [.int v2]) (fun H locs hP hS => ?_)
        refine W.eq (g2 := F0 m 17 ls [.int r2, .int v2]) rfl ?_
        refine lv_if_eq (tgt := 24) F.1 F.2.1 dX5_cells_17 rfl (fun hc4 => ?_) (fun hc4 => ?_)
        · have hf := ifp hc4 hf
          refine lv_iconst (v := (0 : Int32)) F.1 F.2.1 dX5_cells_24 (by decide) ?_
          refine lv_iadd F.1 F.2.1 dX5_cells_25 ?_
          refine lv_istore_n F.1 F.2.1 dX5_cells_26 rfl hl (Nat.le_of_ble_eq_true rfl) rfl (fun ls hl => ?_)
          have hl : lv_has ls 4 [(2, .int (v2 + (0 : Int32))), (0, .ref (y + ρ)), (1, .int a1), (3, .int v3)] := hl
          refine lv_iinc (v := (v3 + (1 : Int32))) F.1 F.2.1 dX5_cells_27 hl (k := 3) rfl rfl (Nat.le_of_ble_eq_true rfl) rfl (fun ls hl => ?_)
          have hl : lv_has ls 4 [(3, .int (v3 + (1 : Int32))), (2, .int (v2 + (0 : Int32))), (0, .ref (y + ρ)), (1, .int a1)] := hl
          refine lv_goto (tgt := 4) F.1 F.2.1 dX5_cells_30 rfl ?_
          exact ih (v2 + (0 : Int32)) (v3 + (1 : Int32)) _ _ _ (lv_sub hl [2, 3, 1, 0] rfl) hP hS hf
        · have hf := ifn hc4 hf
          refine lv_iconst (v := (1 : Int32)) F.1 F.2.1 dX5_cells_20 (by decide) ?_
          refine lv_goto (tgt := 25) F.1 F.2.1 dX5_cells_21 rfl ?_
          refine lv_iadd F.1 F.2.1 dX5_cells_25 ?_
          refine lv_istore_n F.1 F.2.1 dX5_cells_26 rfl hl (Nat.le_of_ble_eq_true rfl) rfl (fun ls hl => ?_)
          have hl : lv_has ls 4 [(2, .int (v2 + (1 : Int32))), (0, .ref (y + ρ)), (1, .int a1), (3, .int v3)] := hl
          refine lv_iinc (v := (v3 + (1 : Int32))) F.1 F.2.1 dX5_cells_27 hl (k := 3) rfl rfl (Nat.le_of_ble_eq_true rfl) rfl (fun ls hl => ?_)
          have hl : lv_has ls 4 [(3, .int (v3 + (1 : Int32))), (2, .int (v2 + (1 : Int32))), (0, .ref (y + ρ)), (1, .int a1)] := hl
          refine lv_goto (tgt := 4) F.1 F.2.1 dX5_cells_30 rfl ?_
          exact ih (v2 + (1 : Int32)) (v3 + (1 : Int32)) _ _ _ (lv_sub hl [2, 3, 1, 0] rfl) hP hS hf
  intro ls H locs hl hP hS
  have hl : lv_has ls 4 [(0, .ref (y + ρ)), (1, .int a1)] := hl
  unfold f_X5_cells at hf
  refine lv_iconst (v := (0 : Int32)) F.1 F.2.1 dX5_cells_0 (by decide) ?_
  refine lv_istore_n F.1 F.2.1 dX5_cells_1 rfl hl (Nat.le_of_ble_eq_true rfl) rfl (fun ls hl => ?_)
  have hl : lv_has ls 4 [(2, .int (0 : Int32)), (0, .ref (y + ρ)), (1, .int a1)] := hl
  refine lv_iconst (v := (0 : Int32)) F.1 F.2.1 dX5_cells_2 (by decide) ?_
  refine lv_istore_n F.1 F.2.1 dX5_cells_3 rfl hl (Nat.le_of_ble_eq_true rfl) rfl (fun ls hl => ?_)
  have hl : lv_has ls 4 [(3, .int (0 : Int32)), (2, .int (0 : Int32)), (0, .ref (y + ρ)), (1, .int a1)] := hl
  exact (KEY FU) (0 : Int32) (0 : Int32) _ _ _ (lv_sub hl [2, 3, 1, 0] rfl) hP hS hf

-- FrostTubesModel.allCells([I)I
def fb_X5_allCells_1 (g : Row) (K : Int32 → Int32 → Option (Int32)) (v1 : Int32) (v2 : Int32) : Option (Int32) := (if (g (196 : Int32).toNatClampNeg) ≤ v2 then some v1 else ((f_X5_cells g v2).bind fun r2 => (K (v1 + r2) (v2 + (1 : Int32)))))
def fl_X5_allCells (g : Row) : Nat → Int32 → Int32 → Option (Int32)
  | 0, _, _ => none
  | n + 1, v1, v2 => fb_X5_allCells_1 g (fl_X5_allCells g n) v1 v2
def f_X5_allCells (g : Row) : Option (Int32) := (fl_X5_allCells g FU (0 : Int32) (0 : Int32))
def rmX5_allCells : Room := { frames := 3, cells := 0, slots := 0, locals := 66 }
theorem hd_X5_allCells : yX5_allCells.cls ≠ "java/lang/invoke/MethodHandle" ∧ yX5_allCells.cls ≠ "java/lang/invoke/VarHandle" ∧ (parseMethodDescriptor yX5_allCells.desc).map (fun d => d.parameters.length) = some 1 := by decide +kernel
set_option maxHeartbeats 8000000 in
set_option maxRecDepth 100000 in
theorem c_X5_allCells {l : Launch} {D : va_G} {y : Nat} {ν : Mem} {ρ : Nat} (h1 : 1 ≤ ρ) (h3 : ρ ≤ 3) {g : Row} (hg : ν ρ = g) {r : Int32} (hf : f_X5_allCells g = some r) : CM l yX5_allCells wsX5_allCells rmX5_allCells [.ref (y + ρ)] D y ν (some (.int r)) ν := by
  refine CM.of (cc := cX5_allCells) (maxL := 3) (ret := (some .int)) pn_X5 rfl (Nat.le_of_ble_eq_true rfl) ?_
  intro p e s m args below meth c F hr hlk hK
  have KEY : ∀ n : Nat, (∀ (v1 : Int32) (v2 : Int32) (ls : Array Slot) (H : Heap) (locs : List Loc), lv_has ls 3 [(0, .ref (y + ρ)), (1, .int v1), (2, .int v2)] → va_P D vwCl (WM D y ν) H → va_S (rngM y) s.heap H locs → fl_X5_allCells g n v1 v2 = some r → W p l e rmX5_allCells s m args below meth c H locs 0 0 (MQ below (QM D y ν (some (.int r))) args s 0 0 (rngM y)) (F0 m 4 ls [])) := by
    intro n
    induction n with
    | zero => exact (fun _ _ _ _ _ _ _ _ h => nomatch h)
    | succ n ih =>
      skip
      intro v1 v2  ls H locs hl hP hS hf
      have hf : fb_X5_allCells_1 g (fl_X5_allCells g n) v1 v2 = some r := hf
      unfold fb_X5_allCells_1 at hf
      refine lv_iload_n F.1 F.2.1 dX5_allCells_4 rfl (lv_at hl 2 rfl) ?_
      refine lv_aload_n F.1 F.2.1 dX5_allCells_5 rfl (lv_at hl 0 rfl) ?_
      refine lv_sipush (v := (196 : Int32)) F.1 F.2.1 dX5_allCells_6 (by decide) ?_
      refine m_iald F hK hP (o := ρ) (by omega) hg (fun f => mkM_row h1 h3 D y f) (lnM_row h1 h3) (by decide) dX5_allCells_9 ?_
      refine lv_icmp_ge (tgt := 27) F.1 F.2.1 dX5_allCells_10 rfl (fun hc1 => ?_) (fun hc1 => ?_)
      · have hf := ifp hc1 hf
        refine lv_iload_n F.1 F.2.1 dX5_allCells_27 rfl (lv_at hl 1 rfl) ?_
        obtain rfl := Option.some.inj hf
        exact m_iret F hr hlk hP hS rfl dX5_allCells_28
      · have hf := ifn hc1 hf
        refine lv_iload_n F.1 F.2.1 dX5_allCells_13 rfl (lv_at hl 1 rfl) ?_
        refine lv_aload_n F.1 F.2.1 dX5_allCells_14 rfl (lv_at hl 0 rfl) ?_
        refine lv_iload_n F.1 F.2.1 dX5_allCells_15 rfl (lv_at hl 2 rfl) ?_
        obtain ⟨r2, hr3, hf⟩ := bnd hf
        refine m_callS F hK hP hS (c_X5_cells h1 h3 hg v2 hr3) (va_cwS 2 F.2.2.2.2 gX5_allCells_X5_cells rfl rfl rfl hd_X5_cells ⟨(Nat.le_of_ble_eq_true rfl), (Nat.le_of_ble_eq_true rfl)⟩) rfl rfl hl.1 (Nat.le_of_ble_eq_true rfl) dX5_allCells_16 ⟨(Nat.le_of_ble_eq_true rfl), (Nat.le_of_ble_eq_true rfl)⟩ (rest := [.int v1]) (fun H locs hP hS => ?_)
        refine W.eq (g2 := F0 m 19 ls [.int r2, .int v1]) rfl ?_
        refine lv_iadd F.1 F.2.1 dX5_allCells_19 ?_
        refine lv_istore_n F.1 F.2.1 dX5_allCells_20 rfl hl (Nat.le_of_ble_eq_true rfl) rfl (fun ls hl => ?_)
        have hl : lv_has ls 3 [(1, .int (v1 + r2)), (0, .ref (y + ρ)), (2, .int v2)] := hl
        refine lv_iinc (v := (v2 + (1 : Int32))) F.1 F.2.1 dX5_allCells_21 hl (k := 2) rfl rfl (Nat.le_of_ble_eq_true rfl) rfl (fun ls hl => ?_)
        have hl : lv_has ls 3 [(2, .int (v2 + (1 : Int32))), (1, .int (v1 + r2)), (0, .ref (y + ρ))] := hl
        refine lv_goto (tgt := 4) F.1 F.2.1 dX5_allCells_24 rfl ?_
        exact ih (v1 + r2) (v2 + (1 : Int32)) _ _ _ (lv_sub hl [2, 1, 0] rfl) hP hS hf
  intro ls H locs hl hP hS
  have hl : lv_has ls 3 [(0, .ref (y + ρ))] := hl
  unfold f_X5_allCells at hf
  refine lv_iconst (v := (0 : Int32)) F.1 F.2.1 dX5_allCells_0 (by decide) ?_
  refine lv_istore_n F.1 F.2.1 dX5_allCells_1 rfl hl (Nat.le_of_ble_eq_true rfl) rfl (fun ls hl => ?_)
  have hl : lv_has ls 3 [(1, .int (0 : Int32)), (0, .ref (y + ρ))] := hl
  refine lv_iconst (v := (0 : Int32)) F.1 F.2.1 dX5_allCells_2 (by decide) ?_
  refine lv_istore_n F.1 F.2.1 dX5_allCells_3 rfl hl (Nat.le_of_ble_eq_true rfl) rfl (fun ls hl => ?_)
  have hl : lv_has ls 3 [(2, .int (0 : Int32)), (1, .int (0 : Int32)), (0, .ref (y + ρ))] := hl
  exact (KEY FU) (0 : Int32) (0 : Int32) _ _ _ (lv_sub hl [2, 1, 0] rfl) hP hS hf

-- FrostTubesModel.goDays([IIII)I
def fb_X5_goDays_1 (a1 : Int32) (a2 : Int32) (a3 : Int32) (K : Row → Int32 → Option (Int32 × Row)) (g : Row) (v4 : Int32) : Option (Int32 × Row) := (if a3 ≤ v4 then ((f_X5_allCells g).bind fun r2 => some (r2, g)) else ((f_X5_day g a1 a2).bind fun r4 => (K r4 (v4 + (1 : Int32)))))
def fl_X5_goDays (a1 : Int32) (a2 : Int32) (a3 : Int32) : Nat → Row → Int32 → Option (Int32 × Row)
  | 0, _, _ => none
  | n + 1, g, v4 => fb_X5_goDays_1 a1 a2 a3 (fl_X5_goDays a1 a2 a3 n) g v4
def f_X5_goDays (g : Row) (a1 : Int32) (a2 : Int32) (a3 : Int32) : Option (Int32 × Row) := (fl_X5_goDays a1 a2 a3 FU g (0 : Int32))
def rmX5_goDays : Room := { frames := 5, cells := 0, slots := 0, locals := 115 }
theorem hd_X5_goDays : yX5_goDays.cls ≠ "java/lang/invoke/MethodHandle" ∧ yX5_goDays.cls ≠ "java/lang/invoke/VarHandle" ∧ (parseMethodDescriptor yX5_goDays.desc).map (fun d => d.parameters.length) = some 4 := by decide +kernel
set_option maxHeartbeats 8000000 in
set_option maxRecDepth 100000 in
theorem c_X5_goDays {l : Launch} {D : va_G} {y : Nat} {ν : Mem} {ρ : Nat} (h1 : 1 ≤ ρ) (h3 : ρ ≤ 3) {g : Row} (a1 : Int32) (a2 : Int32) (a3 : Int32) {r : Int32 × Row} (hf : f_X5_goDays g a1 a2 a3 = some r) : CM l yX5_goDays wsX5_goDays rmX5_goDays [.ref (y + ρ), .int a1, .int a2, .int a3] D y (va_up ν ρ g) (some (.int r.1)) (va_up ν ρ r.2) := by
  refine CM.of (cc := cX5_goDays) (maxL := 5) (ret := (some .int)) pn_X5 rfl (Nat.le_of_ble_eq_true rfl) ?_
  intro p e s m args below meth c F hr hlk hK
  have KEY : ∀ n : Nat, (∀ (g : Row) (v4 : Int32) (ls : Array Slot) (H : Heap) (locs : List Loc), lv_has ls 5 [(0, .ref (y + ρ)), (1, .int a1), (2, .int a2), (3, .int a3), (4, .int v4)] → va_P D vwCl (WM D y (va_up ν ρ g)) H → va_S (rngM y) s.heap H locs → fl_X5_goDays a1 a2 a3 n g v4 = some r → W p l e rmX5_goDays s m args below meth c H locs 0 0 (MQ below (QM D y (va_up ν ρ r.2) (some (.int r.1))) args s 0 0 (rngM y)) (F0 m 3 ls [])) := by
    intro n
    induction n with
    | zero => exact (fun _ _ _ _ _ _ _ _ h => nomatch h)
    | succ n ih =>
      skip
      intro g v4  ls H locs hl hP hS hf
      have hf : fb_X5_goDays_1 a1 a2 a3 (fl_X5_goDays a1 a2 a3 n) g v4 = some r := hf
      unfold fb_X5_goDays_1 at hf
      refine lv_iload F.1 F.2.1 dX5_goDays_3 (lv_at hl 4 rfl) ?_
      refine lv_iload_n F.1 F.2.1 dX5_goDays_5 rfl (lv_at hl 3 rfl) ?_
      refine lv_icmp_ge (tgt := 21) F.1 F.2.1 dX5_goDays_6 rfl (fun hc1 => ?_) (fun hc1 => ?_)
      · have hf := ifp hc1 hf
        refine lv_aload_n F.1 F.2.1 dX5_goDays_21 rfl (lv_at hl 0 rfl) ?_
        obtain ⟨r2, hr3, hf⟩ := bnd hf
        refine m_callS F hK hP hS (c_X5_allCells h1 h3 (mu_at _ _ _) hr3) (va_cwS 1 F.2.2.2.2 gX5_goDays_X5_allCells rfl rfl rfl hd_X5_allCells ⟨(Nat.le_of_ble_eq_true rfl), (Nat.le_of_ble_eq_true rfl)⟩) rfl rfl hl.1 (Nat.le_of_ble_eq_true rfl) dX5_goDays_22 ⟨(Nat.le_of_ble_eq_true rfl), (Nat.le_of_ble_eq_true rfl)⟩ (rest := []) (fun H locs hP hS => ?_)
        refine W.eq (g2 := F0 m 25 ls [.int r2]) rfl ?_
        obtain rfl := Option.some.inj hf
        exact m_iret F hr hlk hP hS rfl dX5_goDays_25
      · have hf := ifn hc1 hf
        refine lv_aload_n F.1 F.2.1 dX5_goDays_9 rfl (lv_at hl 0 rfl) ?_
        refine lv_iload_n F.1 F.2.1 dX5_goDays_10 rfl (lv_at hl 1 rfl) ?_
        refine lv_iload_n F.1 F.2.1 dX5_goDays_11 rfl (lv_at hl 2 rfl) ?_
        obtain ⟨r4, hr5, hf⟩ := bnd hf
        refine m_callS F hK hP hS (c_X5_day h1 h3 a1 a2 hr5) (va_cwS 3 F.2.2.2.2 gX5_goDays_X5_day rfl rfl rfl hd_X5_day ⟨(Nat.le_of_ble_eq_true rfl), (Nat.le_of_ble_eq_true rfl)⟩) rfl rfl hl.1 (Nat.le_of_ble_eq_true rfl) dX5_goDays_12 ⟨(Nat.le_of_ble_eq_true rfl), (Nat.le_of_ble_eq_true rfl)⟩ (rest := []) (fun H locs hP hS => ?_)
        refine W.eq (g2 := F0 m 15 ls []) rfl ?_
        refine lv_iinc (v := (v4 + (1 : Int32))) F.1 F.2.1 dX5_goDays_15 hl (k := 4) rfl rfl (Nat.le_of_ble_eq_true rfl) rfl (fun ls hl => ?_)
        have hl : lv_has ls 5 [(4, .int (v4 + (1 : Int32))), (0, .ref (y + ρ)), (1, .int a1), (2, .int a2), (3, .int a3)] := hl
        refine lv_goto (tgt := 3) F.1 F.2.1 dX5_goDays_18 rfl ?_
        exact ih r4 (v4 + (1 : Int32)) _ _ _ (lv_sub hl [1, 2, 3, 4, 0] rfl) hP hS hf
  intro ls H locs hl hP hS
  have hl : lv_has ls 5 [(0, .ref (y + ρ)), (1, .int a1), (2, .int a2), (3, .int a3)] := hl
  unfold f_X5_goDays at hf
  refine lv_iconst (v := (0 : Int32)) F.1 F.2.1 dX5_goDays_0 (by decide) ?_
  refine lv_istore F.1 F.2.1 dX5_goDays_1 hl (Nat.le_of_ble_eq_true rfl) rfl (fun ls hl => ?_)
  have hl : lv_has ls 5 [(4, .int (0 : Int32)), (0, .ref (y + ρ)), (1, .int a1), (2, .int a2), (3, .int a3)] := hl
  exact (KEY FU) g (0 : Int32) _ _ _ (lv_sub hl [1, 2, 3, 4, 0] rfl) hP hS hf

-- FrostTubesModel.isWeather(III)Z
def f_X5_isWeather (a0 : Int32) (a1 : Int32) (a2 : Int32) : Option (Int32) := ((f_X5_isDegree a0).bind fun r1 => (if r1 = 0 then some (0 : Int32) else ((f_X5_in a1.toInt64 (0 : Int64) (30 : Int64)).bind fun r4 => (if r4 = 0 then some (0 : Int32) else ((f_X5_in a2.toInt64 (1 : Int64) (60 : Int64)).bind fun r7 => (if r7 = 0 then some (0 : Int32) else some (1 : Int32)))))))
def rmX5_isWeather : Room := { frames := 2, cells := 0, slots := 0, locals := 45 }
theorem hd_X5_isWeather : yX5_isWeather.cls ≠ "java/lang/invoke/MethodHandle" ∧ yX5_isWeather.cls ≠ "java/lang/invoke/VarHandle" ∧ (parseMethodDescriptor yX5_isWeather.desc).map (fun d => d.parameters.length) = some 3 := by decide +kernel
set_option maxHeartbeats 8000000 in
set_option maxRecDepth 100000 in
theorem c_X5_isWeather {l : Launch} {D : va_G} {y : Nat} {ν : Mem} (a0 : Int32) (a1 : Int32) (a2 : Int32) {r : Int32} (hf : f_X5_isWeather a0 a1 a2 = some r) : CM l yX5_isWeather wsX5_isWeather rmX5_isWeather [.int a0, .int a1, .int a2] D y ν (some (.int r)) ν := by
  refine CM.of (cc := cX5_isWeather) (maxL := 3) (ret := (some .boolean)) pn_X5 rfl (Nat.le_of_ble_eq_true rfl) ?_
  intro p e s m args below meth c F hr hlk hK
  intro ls H locs hl hP hS
  have hl : lv_has ls 3 [(0, .int a0), (1, .int a1), (2, .int a2)] := hl
  unfold f_X5_isWeather at hf
  refine lv_iload_n F.1 F.2.1 dX5_isWeather_0 rfl (lv_at hl 0 rfl) ?_
  obtain ⟨r1, hr2, hf⟩ := bnd hf
  refine m_callS F hK hP hS (c_X5_isDegree a0 hr2) (va_cwS 1 F.2.2.2.2 gX5_isWeather_X5_isDegree rfl rfl rfl hd_X5_isDegree ⟨(Nat.le_of_ble_eq_true rfl), (Nat.le_of_ble_eq_true rfl)⟩) rfl rfl hl.1 (Nat.le_of_ble_eq_true rfl) dX5_isWeather_1 ⟨(Nat.le_of_ble_eq_true rfl), (Nat.le_of_ble_eq_true rfl)⟩ (rest := []) (fun H locs hP hS => ?_)
  refine W.eq (g2 := F0 m 4 ls [.int r1]) rfl ?_
  refine lv_if_eq (tgt := 35) F.1 F.2.1 dX5_isWeather_4 rfl (fun hc3 => ?_) (fun hc3 => ?_)
  · have hf := ifp hc3 hf
    refine lv_iconst (v := (0 : Int32)) F.1 F.2.1 dX5_isWeather_35 (by decide) ?_
    obtain rfl := Option.some.inj hf
    exact m_zret F hr hlk hP hS rfl (b01_v (v := (0 : Int32)) (Or.inl rfl)) dX5_isWeather_36
  · have hf := ifn hc3 hf
    refine lv_iload_n F.1 F.2.1 dX5_isWeather_7 rfl (lv_at hl 1 rfl) ?_
    refine lv_i2l (v := a1.toInt64) F.1 F.2.1 dX5_isWeather_8 rfl ?_
    refine lv_lconst (v := (0 : Int64)) F.1 F.2.1 dX5_isWeather_9 rfl ?_
    refine lv_ldc2 (v := (30 : Int64)) F.1 F.2.1 F.2.2.2.1 (F.2.2.2.2 _ (List.mem_of_getElem? (i := 1) rfl)) dX5_isWeather_10 ?_
    obtain ⟨r4, hr5, hf⟩ := bnd hf
    refine m_callS F hK hP hS (c_X5_in a1.toInt64 (0 : Int64) (30 : Int64) hr5) (va_cwS 3 F.2.2.2.2 gX5_isWeather_X5_in rfl rfl rfl hd_X5_in ⟨(Nat.le_of_ble_eq_true rfl), (Nat.le_of_ble_eq_true rfl)⟩) rfl rfl hl.1 (Nat.le_of_ble_eq_true rfl) dX5_isWeather_13 ⟨(Nat.le_of_ble_eq_true rfl), (Nat.le_of_ble_eq_true rfl)⟩ (rest := []) (fun H locs hP hS => ?_)
    refine W.eq (g2 := F0 m 16 ls [.int r4]) rfl ?_
    refine lv_if_eq (tgt := 35) F.1 F.2.1 dX5_isWeather_16 rfl (fun hc6 => ?_) (fun hc6 => ?_)
    · have hf := ifp hc6 hf
      refine lv_iconst (v := (0 : Int32)) F.1 F.2.1 dX5_isWeather_35 (by decide) ?_
      obtain rfl := Option.some.inj hf
      exact m_zret F hr hlk hP hS rfl (b01_v (v := (0 : Int32)) (Or.inl rfl)) dX5_isWeather_36
    · have hf := ifn hc6 hf
      refine lv_iload_n F.1 F.2.1 dX5_isWeather_19 rfl (lv_at hl 2 rfl) ?_
      refine lv_i2l (v := a2.toInt64) F.1 F.2.1 dX5_isWeather_20 rfl ?_
      refine lv_lconst (v := (1 : Int64)) F.1 F.2.1 dX5_isWeather_21 rfl ?_
      refine lv_ldc2 (v := (60 : Int64)) F.1 F.2.1 F.2.2.2.1 (F.2.2.2.2 _ (List.mem_of_getElem? (i := 2) rfl)) dX5_isWeather_22 ?_
      obtain ⟨r7, hr8, hf⟩ := bnd hf
      refine m_callS F hK hP hS (c_X5_in a2.toInt64 (1 : Int64) (60 : Int64) hr8) (va_cwS 3 F.2.2.2.2 gX5_isWeather_X5_in rfl rfl rfl hd_X5_in ⟨(Nat.le_of_ble_eq_true rfl), (Nat.le_of_ble_eq_true rfl)⟩) rfl rfl hl.1 (Nat.le_of_ble_eq_true rfl) dX5_isWeather_25 ⟨(Nat.le_of_ble_eq_true rfl), (Nat.le_of_ble_eq_true rfl)⟩ (rest := []) (fun H locs hP hS => ?_)
      refine W.eq (g2 := F0 m 28 ls [.int r7]) rfl ?_
      refine lv_if_eq (tgt := 35) F.1 F.2.1 dX5_isWeather_28 rfl (fun hc9 => ?_) (fun hc9 => ?_)
      · have hf := ifp hc9 hf
        refine lv_iconst (v := (0 : Int32)) F.1 F.2.1 dX5_isWeather_35 (by decide) ?_
        obtain rfl := Option.some.inj hf
        exact m_zret F hr hlk hP hS rfl (b01_v (v := (0 : Int32)) (Or.inl rfl)) dX5_isWeather_36
      · have hf := ifn hc9 hf
        refine lv_iconst (v := (1 : Int32)) F.1 F.2.1 dX5_isWeather_31 (by decide) ?_
        refine lv_goto (tgt := 36) F.1 F.2.1 dX5_isWeather_32 rfl ?_
        obtain rfl := Option.some.inj hf
        exact m_zret F hr hlk hP hS rfl (b01_v (v := (1 : Int32)) (Or.inr rfl)) dX5_isWeather_36

-- FrostTubesModel.hasDays([II)Z
def f_X5_hasDays (g : Row) (a1 : Int32) : Option (Int32) := (if (9999 : Int32) < ((g (199 : Int32).toNatClampNeg) + a1) then some (0 : Int32) else some (1 : Int32))
def rmX5_hasDays : Room := { frames := 0, cells := 0, slots := 0, locals := 0 }
theorem hd_X5_hasDays : yX5_hasDays.cls ≠ "java/lang/invoke/MethodHandle" ∧ yX5_hasDays.cls ≠ "java/lang/invoke/VarHandle" ∧ (parseMethodDescriptor yX5_hasDays.desc).map (fun d => d.parameters.length) = some 2 := by decide +kernel
set_option maxHeartbeats 8000000 in
set_option maxRecDepth 100000 in
theorem c_X5_hasDays {l : Launch} {D : va_G} {y : Nat} {ν : Mem} {ρ : Nat} (h1 : 1 ≤ ρ) (h3 : ρ ≤ 3) {g : Row} (hg : ν ρ = g) (a1 : Int32) {r : Int32} (hf : f_X5_hasDays g a1 = some r) : CM l yX5_hasDays wsX5_hasDays rmX5_hasDays [.ref (y + ρ), .int a1] D y ν (some (.int r)) ν := by
  refine CM.of (cc := cX5_hasDays) (maxL := 2) (ret := (some .boolean)) pn_X5 rfl (Nat.le_of_ble_eq_true rfl) ?_
  intro p e s m args below meth c F hr hlk hK
  intro ls H locs hl hP hS
  have hl : lv_has ls 2 [(0, .ref (y + ρ)), (1, .int a1)] := hl
  unfold f_X5_hasDays at hf
  refine lv_aload_n F.1 F.2.1 dX5_hasDays_0 rfl (lv_at hl 0 rfl) ?_
  refine lv_sipush (v := (199 : Int32)) F.1 F.2.1 dX5_hasDays_1 (by decide) ?_
  refine m_iald F hK hP (o := ρ) (by omega) hg (fun f => mkM_row h1 h3 D y f) (lnM_row h1 h3) (by decide) dX5_hasDays_4 ?_
  refine lv_iload_n F.1 F.2.1 dX5_hasDays_5 rfl (lv_at hl 1 rfl) ?_
  refine lv_iadd F.1 F.2.1 dX5_hasDays_6 ?_
  refine lv_sipush (v := (9999 : Int32)) F.1 F.2.1 dX5_hasDays_7 (by decide) ?_
  refine lv_icmp_gt (tgt := 17) F.1 F.2.1 dX5_hasDays_10 rfl (fun hc1 => ?_) (fun hc1 => ?_)
  · have hf := ifp hc1 hf
    refine lv_iconst (v := (0 : Int32)) F.1 F.2.1 dX5_hasDays_17 (by decide) ?_
    obtain rfl := Option.some.inj hf
    exact m_zret F hr hlk hP hS rfl (b01_v (v := (0 : Int32)) (Or.inl rfl)) dX5_hasDays_18
  · have hf := ifn hc1 hf
    refine lv_iconst (v := (1 : Int32)) F.1 F.2.1 dX5_hasDays_13 (by decide) ?_
    refine lv_goto (tgt := 18) F.1 F.2.1 dX5_hasDays_14 rfl ?_
    obtain rfl := Option.some.inj hf
    exact m_zret F hr hlk hP hS rfl (b01_v (v := (1 : Int32)) (Or.inr rfl)) dX5_hasDays_18

-- FrostTubesModel.begins([III)Z
def f_X5_begins (g : Row) (a1 : Int32) (a2 : Int32) : Option (Int32) := ((f_X5_frozen g a1 a2).bind fun r1 => (if r1 = 0 then some (0 : Int32) else (if a2 = 0 then some (1 : Int32) else ((f_X5_frozen g a1 (a2 - (1 : Int32))).bind fun r5 => (if r5 = 0 then some (1 : Int32) else some (0 : Int32))))))
def rmX5_begins : Room := { frames := 2, cells := 0, slots := 0, locals := 43 }
theorem hd_X5_begins : yX5_begins.cls ≠ "java/lang/invoke/MethodHandle" ∧ yX5_begins.cls ≠ "java/lang/invoke/VarHandle" ∧ (parseMethodDescriptor yX5_begins.desc).map (fun d => d.parameters.length) = some 3 := by decide +kernel
set_option maxHeartbeats 8000000 in
set_option maxRecDepth 100000 in
theorem c_X5_begins {l : Launch} {D : va_G} {y : Nat} {ν : Mem} {ρ : Nat} (h1 : 1 ≤ ρ) (h3 : ρ ≤ 3) {g : Row} (hg : ν ρ = g) (a1 : Int32) (a2 : Int32) {r : Int32} (hf : f_X5_begins g a1 a2 = some r) : CM l yX5_begins wsX5_begins rmX5_begins [.ref (y + ρ), .int a1, .int a2] D y ν (some (.int r)) ν := by
  refine CM.of (cc := cX5_begins) (maxL := 3) (ret := (some .boolean)) pn_X5 rfl (Nat.le_of_ble_eq_true rfl) ?_
  intro p e s m args below meth c F hr hlk hK
  intro ls H locs hl hP hS
  have hl : lv_has ls 3 [(0, .ref (y + ρ)), (1, .int a1), (2, .int a2)] := hl
  unfold f_X5_begins at hf
  refine lv_aload_n F.1 F.2.1 dX5_begins_0 rfl (lv_at hl 0 rfl) ?_
  refine lv_iload_n F.1 F.2.1 dX5_begins_1 rfl (lv_at hl 1 rfl) ?_
  refine lv_iload_n F.1 F.2.1 dX5_begins_2 rfl (lv_at hl 2 rfl) ?_
  obtain ⟨r1, hr2, hf⟩ := bnd hf
  refine m_callS F hK hP hS (c_X5_frozen h1 h3 hg a1 a2 hr2) (va_cwS 3 F.2.2.2.2 gX5_begins_X5_frozen rfl rfl rfl hd_X5_frozen ⟨(Nat.le_of_ble_eq_true rfl), (Nat.le_of_ble_eq_true rfl)⟩) rfl rfl hl.1 (Nat.le_of_ble_eq_true rfl) dX5_begins_3 ⟨(Nat.le_of_ble_eq_true rfl), (Nat.le_of_ble_eq_true rfl)⟩ (rest := []) (fun H locs hP hS => ?_)
  refine W.eq (g2 := F0 m 6 ls [.int r1]) rfl ?_
  refine lv_if_eq (tgt := 28) F.1 F.2.1 dX5_begins_6 rfl (fun hc3 => ?_) (fun hc3 => ?_)
  · have hf := ifp hc3 hf
    refine lv_iconst (v := (0 : Int32)) F.1 F.2.1 dX5_begins_28 (by decide) ?_
    obtain rfl := Option.some.inj hf
    exact m_zret F hr hlk hP hS rfl (b01_v (v := (0 : Int32)) (Or.inl rfl)) dX5_begins_29
  · have hf := ifn hc3 hf
    refine lv_iload_n F.1 F.2.1 dX5_begins_9 rfl (lv_at hl 2 rfl) ?_
    refine lv_if_eq (tgt := 24) F.1 F.2.1 dX5_begins_10 rfl (fun hc4 => ?_) (fun hc4 => ?_)
    · have hf := ifp hc4 hf
      refine lv_iconst (v := (1 : Int32)) F.1 F.2.1 dX5_begins_24 (by decide) ?_
      refine lv_goto (tgt := 29) F.1 F.2.1 dX5_begins_25 rfl ?_
      obtain rfl := Option.some.inj hf
      exact m_zret F hr hlk hP hS rfl (b01_v (v := (1 : Int32)) (Or.inr rfl)) dX5_begins_29
    · have hf := ifn hc4 hf
      refine lv_aload_n F.1 F.2.1 dX5_begins_13 rfl (lv_at hl 0 rfl) ?_
      refine lv_iload_n F.1 F.2.1 dX5_begins_14 rfl (lv_at hl 1 rfl) ?_
      refine lv_iload_n F.1 F.2.1 dX5_begins_15 rfl (lv_at hl 2 rfl) ?_
      refine lv_iconst (v := (1 : Int32)) F.1 F.2.1 dX5_begins_16 (by decide) ?_
      refine lv_isub F.1 F.2.1 dX5_begins_17 ?_
      obtain ⟨r5, hr6, hf⟩ := bnd hf
      refine m_callS F hK hP hS (c_X5_frozen h1 h3 hg a1 (a2 - (1 : Int32)) hr6) (va_cwS 3 F.2.2.2.2 gX5_begins_X5_frozen rfl rfl rfl hd_X5_frozen ⟨(Nat.le_of_ble_eq_true rfl), (Nat.le_of_ble_eq_true rfl)⟩) rfl rfl hl.1 (Nat.le_of_ble_eq_true rfl) dX5_begins_18 ⟨(Nat.le_of_ble_eq_true rfl), (Nat.le_of_ble_eq_true rfl)⟩ (rest := []) (fun H locs hP hS => ?_)
      refine W.eq (g2 := F0 m 21 ls [.int r5]) rfl ?_
      refine lv_if_ne (tgt := 28) F.1 F.2.1 dX5_begins_21 rfl (fun hc7 => ?_) (fun hc7 => ?_)
      · have hf := ifn hc7 hf
        refine lv_iconst (v := (0 : Int32)) F.1 F.2.1 dX5_begins_28 (by decide) ?_
        obtain rfl := Option.some.inj hf
        exact m_zret F hr hlk hP hS rfl (b01_v (v := (0 : Int32)) (Or.inl rfl)) dX5_begins_29
      · have hf := ifp hc7 hf
        refine lv_iconst (v := (1 : Int32)) F.1 F.2.1 dX5_begins_24 (by decide) ?_
        refine lv_goto (tgt := 29) F.1 F.2.1 dX5_begins_25 rfl ?_
        obtain rfl := Option.some.inj hf
        exact m_zret F hr hlk hP hS rfl (b01_v (v := (1 : Int32)) (Or.inr rfl)) dX5_begins_29

-- FrostTubesModel.countLayers([II)I
def fb_X5_countLayers_1 (g : Row) (a1 : Int32) (K : Int32 → Int32 → Option (Int32)) (v2 : Int32) (v3 : Int32) : Option (Int32) := (if (30 : Int32) ≤ v3 then some v2 else ((f_X5_begins g a1 v3).bind fun r2 => (if r2 = 0 then (K (v2 + (0 : Int32)) (v3 + (1 : Int32))) else (K (v2 + (1 : Int32)) (v3 + (1 : Int32))))))
def fl_X5_countLayers (g : Row) (a1 : Int32) : Nat → Int32 → Int32 → Option (Int32)
  | 0, _, _ => none
  | n + 1, v2, v3 => fb_X5_countLayers_1 g a1 (fl_X5_countLayers g a1 n) v2 v3
def f_X5_countLayers (g : Row) (a1 : Int32) : Option (Int32) := (fl_X5_countLayers g a1 FU (0 : Int32) (0 : Int32))
def rmX5_countLayers : Room := { frames := 3, cells := 0, slots := 0, locals := 65 }
theorem hd_X5_countLayers : yX5_countLayers.cls ≠ "java/lang/invoke/MethodHandle" ∧ yX5_countLayers.cls ≠ "java/lang/invoke/VarHandle" ∧ (parseMethodDescriptor yX5_countLayers.desc).map (fun d => d.parameters.length) = some 2 := by decide +kernel
set_option maxHeartbeats 8000000 in
set_option maxRecDepth 100000 in
theorem c_X5_countLayers {l : Launch} {D : va_G} {y : Nat} {ν : Mem} {ρ : Nat} (h1 : 1 ≤ ρ) (h3 : ρ ≤ 3) {g : Row} (hg : ν ρ = g) (a1 : Int32) {r : Int32} (hf : f_X5_countLayers g a1 = some r) : CM l yX5_countLayers wsX5_countLayers rmX5_countLayers [.ref (y + ρ), .int a1] D y ν (some (.int r)) ν := by
  refine CM.of (cc := cX5_countLayers) (maxL := 4) (ret := (some .int)) pn_X5 rfl (Nat.le_of_ble_eq_true rfl) ?_
  intro p e s m args below meth c F hr hlk hK
  have KEY : ∀ n : Nat, (∀ (v2 : Int32) (v3 : Int32) (ls : Array Slot) (H : Heap) (locs : List Loc), lv_has ls 4 [(0, .ref (y + ρ)), (1, .int a1), (2, .int v2), (3, .int v3)] → va_P D vwCl (WM D y ν) H → va_S (rngM y) s.heap H locs → fl_X5_countLayers g a1 n v2 v3 = some r → W p l e rmX5_countLayers s m args below meth c H locs 0 0 (MQ below (QM D y ν (some (.int r))) args s 0 0 (rngM y)) (F0 m 4 ls [])) := by
    intro n
    induction n with
    | zero => exact (fun _ _ _ _ _ _ _ _ h => nomatch h)
    | succ n ih =>
      skip
      intro v2 v3  ls H locs hl hP hS hf
      have hf : fb_X5_countLayers_1 g a1 (fl_X5_countLayers g a1 n) v2 v3 = some r := hf
      unfold fb_X5_countLayers_1 at hf
      refine lv_iload_n F.1 F.2.1 dX5_countLayers_4 rfl (lv_at hl 3 rfl) ?_
      refine lv_bipush (v := (30 : Int32)) F.1 F.2.1 dX5_countLayers_5 (by decide) ?_
      refine lv_icmp_ge (tgt := 33) F.1 F.2.1 dX5_countLayers_7 rfl (fun hc1 => ?_) (fun hc1 => ?_)
      · have hf := ifp hc1 hf
        refine lv_iload_n F.1 F.2.1 dX5_countLayers_33 rfl (lv_at hl 2 rfl) ?_
        obtain rfl := Option.some.inj hf
        exact m_iret F hr hlk hP hS rfl dX5_countLayers_34
      · have hf := ifn hc1 hf
        refine lv_iload_n F.1 F.2.1 dX5_countLayers_10 rfl (lv_at hl 2 rfl) ?_
        refine lv_aload_n F.1 F.2.1 dX5_countLayers_11 rfl (lv_at hl 0 rfl) ?_
        refine lv_iload_n F.1 F.2.1 dX5_countLayers_12 rfl (lv_at hl 1 rfl) ?_
        refine lv_iload_n F.1 F.2.1 dX5_countLayers_13 rfl (lv_at hl 3 rfl) ?_
        obtain ⟨r2, hr3, hf⟩ := bnd hf
        refine m_callS F hK hP hS (c_X5_begins h1 h3 hg a1 v3 hr3) (va_cwS 3 F.2.2.2.2 gX5_countLayers_X5_begins rfl rfl rfl hd_X5_begins ⟨(Nat.le_of_ble_eq_true rfl), (Nat.le_of_ble_eq_true rfl)⟩) rfl rfl hl.1 (Nat.le_of_ble_eq_true rfl) dX5_countLayers_14 ⟨(Nat.le_of_ble_eq_true rfl), (Nat.le_of_ble_eq_true rfl)⟩ (rest := [.int v2]) (fun H locs hP hS => ?_)
        refine W.eq (g2 := F0 m 17 ls [.int r2, .int v2]) rfl ?_
        refine lv_if_eq (tgt := 24) F.1 F.2.1 dX5_countLayers_17 rfl (fun hc4 => ?_) (fun hc4 => ?_)
        · have hf := ifp hc4 hf
          refine lv_iconst (v := (0 : Int32)) F.1 F.2.1 dX5_countLayers_24 (by decide) ?_
          refine lv_iadd F.1 F.2.1 dX5_countLayers_25 ?_
          refine lv_istore_n F.1 F.2.1 dX5_countLayers_26 rfl hl (Nat.le_of_ble_eq_true rfl) rfl (fun ls hl => ?_)
          have hl : lv_has ls 4 [(2, .int (v2 + (0 : Int32))), (0, .ref (y + ρ)), (1, .int a1), (3, .int v3)] := hl
          refine lv_iinc (v := (v3 + (1 : Int32))) F.1 F.2.1 dX5_countLayers_27 hl (k := 3) rfl rfl (Nat.le_of_ble_eq_true rfl) rfl (fun ls hl => ?_)
          have hl : lv_has ls 4 [(3, .int (v3 + (1 : Int32))), (2, .int (v2 + (0 : Int32))), (0, .ref (y + ρ)), (1, .int a1)] := hl
          refine lv_goto (tgt := 4) F.1 F.2.1 dX5_countLayers_30 rfl ?_
          exact ih (v2 + (0 : Int32)) (v3 + (1 : Int32)) _ _ _ (lv_sub hl [2, 3, 1, 0] rfl) hP hS hf
        · have hf := ifn hc4 hf
          refine lv_iconst (v := (1 : Int32)) F.1 F.2.1 dX5_countLayers_20 (by decide) ?_
          refine lv_goto (tgt := 25) F.1 F.2.1 dX5_countLayers_21 rfl ?_
          refine lv_iadd F.1 F.2.1 dX5_countLayers_25 ?_
          refine lv_istore_n F.1 F.2.1 dX5_countLayers_26 rfl hl (Nat.le_of_ble_eq_true rfl) rfl (fun ls hl => ?_)
          have hl : lv_has ls 4 [(2, .int (v2 + (1 : Int32))), (0, .ref (y + ρ)), (1, .int a1), (3, .int v3)] := hl
          refine lv_iinc (v := (v3 + (1 : Int32))) F.1 F.2.1 dX5_countLayers_27 hl (k := 3) rfl rfl (Nat.le_of_ble_eq_true rfl) rfl (fun ls hl => ?_)
          have hl : lv_has ls 4 [(3, .int (v3 + (1 : Int32))), (2, .int (v2 + (1 : Int32))), (0, .ref (y + ρ)), (1, .int a1)] := hl
          refine lv_goto (tgt := 4) F.1 F.2.1 dX5_countLayers_30 rfl ?_
          exact ih (v2 + (1 : Int32)) (v3 + (1 : Int32)) _ _ _ (lv_sub hl [2, 3, 1, 0] rfl) hP hS hf
  intro ls H locs hl hP hS
  have hl : lv_has ls 4 [(0, .ref (y + ρ)), (1, .int a1)] := hl
  unfold f_X5_countLayers at hf
  refine lv_iconst (v := (0 : Int32)) F.1 F.2.1 dX5_countLayers_0 (by decide) ?_
  refine lv_istore_n F.1 F.2.1 dX5_countLayers_1 rfl hl (Nat.le_of_ble_eq_true rfl) rfl (fun ls hl => ?_)
  have hl : lv_has ls 4 [(2, .int (0 : Int32)), (0, .ref (y + ρ)), (1, .int a1)] := hl
  refine lv_iconst (v := (0 : Int32)) F.1 F.2.1 dX5_countLayers_2 (by decide) ?_
  refine lv_istore_n F.1 F.2.1 dX5_countLayers_3 rfl hl (Nat.le_of_ble_eq_true rfl) rfl (fun ls hl => ?_)
  have hl : lv_has ls 4 [(3, .int (0 : Int32)), (2, .int (0 : Int32)), (0, .ref (y + ρ)), (1, .int a1)] := hl
  exact (KEY FU) (0 : Int32) (0 : Int32) _ _ _ (lv_sub hl [2, 3, 1, 0] rfl) hP hS hf

-- FrostTubesModel.isElder([IIII)Z
def f_X5_isElder (g : Row) (a1 : Int32) (a2 : Int32) (a3 : Int32) : Option (Int32) := ((f_X5_cell a1 a2).bind fun r1 => (if oob r1 205 then none else ((f_X5_cell a1 a3).bind fun r4 => (if oob r4 205 then none else (if (g r1.toNatClampNeg) < (g r4.toNatClampNeg) then some (1 : Int32) else (if (g r1.toNatClampNeg) = (g r4.toNatClampNeg) then (if a3 ≤ a2 then some (0 : Int32) else some (1 : Int32)) else some (0 : Int32)))))))
def rmX5_isElder : Room := { frames := 1, cells := 0, slots := 0, locals := 21 }
theorem hd_X5_isElder : yX5_isElder.cls ≠ "java/lang/invoke/MethodHandle" ∧ yX5_isElder.cls ≠ "java/lang/invoke/VarHandle" ∧ (parseMethodDescriptor yX5_isElder.desc).map (fun d => d.parameters.length) = some 4 := by decide +kernel
set_option maxHeartbeats 8000000 in
set_option maxRecDepth 100000 in
theorem c_X5_isElder {l : Launch} {D : va_G} {y : Nat} {ν : Mem} {ρ : Nat} (h1 : 1 ≤ ρ) (h3 : ρ ≤ 3) {g : Row} (hg : ν ρ = g) (a1 : Int32) (a2 : Int32) (a3 : Int32) {r : Int32} (hf : f_X5_isElder g a1 a2 a3 = some r) : CM l yX5_isElder wsX5_isElder rmX5_isElder [.ref (y + ρ), .int a1, .int a2, .int a3] D y ν (some (.int r)) ν := by
  refine CM.of (cc := cX5_isElder) (maxL := 6) (ret := (some .boolean)) pn_X5 rfl (Nat.le_of_ble_eq_true rfl) ?_
  intro p e s m args below meth c F hr hlk hK
  intro ls H locs hl hP hS
  have hl : lv_has ls 6 [(0, .ref (y + ρ)), (1, .int a1), (2, .int a2), (3, .int a3)] := hl
  unfold f_X5_isElder at hf
  refine lv_aload_n F.1 F.2.1 dX5_isElder_0 rfl (lv_at hl 0 rfl) ?_
  refine lv_iload_n F.1 F.2.1 dX5_isElder_1 rfl (lv_at hl 1 rfl) ?_
  refine lv_iload_n F.1 F.2.1 dX5_isElder_2 rfl (lv_at hl 2 rfl) ?_
  obtain ⟨r1, hr2, hf⟩ := bnd hf
  refine m_callS F hK hP hS (c_X5_cell a1 a2 hr2) (va_cwS 2 F.2.2.2.2 gX5_isElder_X5_cell rfl rfl rfl hd_X5_cell ⟨(Nat.le_of_ble_eq_true rfl), (Nat.le_of_ble_eq_true rfl)⟩) rfl rfl hl.1 (Nat.le_of_ble_eq_true rfl) dX5_isElder_3 ⟨(Nat.le_of_ble_eq_true rfl), (Nat.le_of_ble_eq_true rfl)⟩ (rest := [.ref (y + ρ)]) (fun H locs hP hS => ?_)
  refine W.eq (g2 := F0 m 6 ls [.int r1, .ref (y + ρ)]) rfl ?_
  obtain ⟨hb3, hf⟩ := ifg hf
  refine m_iald F hK hP (o := ρ) (by omega) hg (fun f => mkM_row h1 h3 D y f) (lnM_row h1 h3) hb3 dX5_isElder_6 ?_
  refine lv_istore F.1 F.2.1 dX5_isElder_7 hl (Nat.le_of_ble_eq_true rfl) rfl (fun ls hl => ?_)
  have hl : lv_has ls 6 [(4, .int (g r1.toNatClampNeg)), (0, .ref (y + ρ)), (1, .int a1), (2, .int a2), (3, .int a3)] := hl
  refine lv_aload_n F.1 F.2.1 dX5_isElder_9 rfl (lv_at hl 1 rfl) ?_
  refine lv_iload_n F.1 F.2.1 dX5_isElder_10 rfl (lv_at hl 2 rfl) ?_
  refine lv_iload_n F.1 F.2.1 dX5_isElder_11 rfl (lv_at hl 4 rfl) ?_
  obtain ⟨r4, hr5, hf⟩ := bnd hf
  refine m_callS F hK hP hS (c_X5_cell a1 a3 hr5) (va_cwS 2 F.2.2.2.2 gX5_isElder_X5_cell rfl rfl rfl hd_X5_cell ⟨(Nat.le_of_ble_eq_true rfl), (Nat.le_of_ble_eq_true rfl)⟩) rfl rfl hl.1 (Nat.le_of_ble_eq_true rfl) dX5_isElder_12 ⟨(Nat.le_of_ble_eq_true rfl), (Nat.le_of_ble_eq_true rfl)⟩ (rest := [.ref (y + ρ)]) (fun H locs hP hS => ?_)
  refine W.eq (g2 := F0 m 15 ls [.int r4, .ref (y + ρ)]) rfl ?_
  obtain ⟨hb6, hf⟩ := ifg hf
  refine m_iald F hK hP (o := ρ) (by omega) hg (fun f => mkM_row h1 h3 D y f) (lnM_row h1 h3) hb6 dX5_isElder_15 ?_
  refine lv_istore F.1 F.2.1 dX5_isElder_16 hl (Nat.le_of_ble_eq_true rfl) rfl (fun ls hl => ?_)
  have hl : lv_has ls 6 [(5, .int (g r4.toNatClampNeg)), (4, .int (g r1.toNatClampNeg)), (0, .ref (y + ρ)), (1, .int a1), (2, .int a2), (3, .int a3)] := hl
  refine lv_iload F.1 F.2.1 dX5_isElder_18 (lv_at hl 1 rfl) ?_
  refine lv_iload F.1 F.2.1 dX5_isElder_20 (lv_at hl 0 rfl) ?_
  refine lv_icmp_lt (tgt := 37) F.1 F.2.1 dX5_isElder_22 rfl (fun hc7 => ?_) (fun hc7 => ?_)
  · have hf := ifp hc7 hf
    refine lv_iconst (v := (1 : Int32)) F.1 F.2.1 dX5_isElder_37 (by decide) ?_
    refine lv_goto (tgt := 42) F.1 F.2.1 dX5_isElder_38 rfl ?_
    obtain rfl := Option.some.inj hf
    exact m_zret F hr hlk hP hS rfl (b01_v (v := (1 : Int32)) (Or.inr rfl)) dX5_isElder_42
  · have hf := ifn hc7 hf
    refine lv_iload F.1 F.2.1 dX5_isElder_25 (lv_at hl 1 rfl) ?_
    refine lv_iload F.1 F.2.1 dX5_isElder_27 (lv_at hl 0 rfl) ?_
    refine lv_icmp_ne (tgt := 41) F.1 F.2.1 dX5_isElder_29 rfl (fun hc8 => ?_) (fun hc8 => ?_)
    · have hf := ifn hc8 hf
      refine lv_iconst (v := (0 : Int32)) F.1 F.2.1 dX5_isElder_41 (by decide) ?_
      obtain rfl := Option.some.inj hf
      exact m_zret F hr hlk hP hS rfl (b01_v (v := (0 : Int32)) (Or.inl rfl)) dX5_isElder_42
    · have hf := ifp hc8 hf
      refine lv_iload_n F.1 F.2.1 dX5_isElder_32 rfl (lv_at hl 4 rfl) ?_
      refine lv_iload_n F.1 F.2.1 dX5_isElder_33 rfl (lv_at hl 5 rfl) ?_
      refine lv_icmp_ge (tgt := 41) F.1 F.2.1 dX5_isElder_34 rfl (fun hc9 => ?_) (fun hc9 => ?_)
      · have hf := ifp hc9 hf
        refine lv_iconst (v := (0 : Int32)) F.1 F.2.1 dX5_isElder_41 (by decide) ?_
        obtain rfl := Option.some.inj hf
        exact m_zret F hr hlk hP hS rfl (b01_v (v := (0 : Int32)) (Or.inl rfl)) dX5_isElder_42
      · have hf := ifn hc9 hf
        refine lv_iconst (v := (1 : Int32)) F.1 F.2.1 dX5_isElder_37 (by decide) ?_
        refine lv_goto (tgt := 42) F.1 F.2.1 dX5_isElder_38 rfl ?_
        obtain rfl := Option.some.inj hf
        exact m_zret F hr hlk hP hS rfl (b01_v (v := (1 : Int32)) (Or.inr rfl)) dX5_isElder_42

-- FrostTubesModel.joinedLayers([II)I
def fb_X5_joinedLayers_1 (g : Row) (a1 : Int32) (K : Nat → Int32 → Int32 → Int32 → Int32 → Int32 → Option (Int32)) (t0 : Int32) (v2 : Int32) (v3 : Int32) (v4 : Int32) (v5 : Int32) : Option (Int32) := (if (30 : Int32) ≤ v3 then some v2 else ((f_X5_frozen g a1 v3).bind fun r2 => (if r2 = 0 then (K 1 0 v2 (v3 + (1 : Int32)) 0 0) else (if v3 ≤ 0 then (K 2 (0 : Int32) v2 v3 0 0) else ((f_X5_frozen g a1 (v3 - (1 : Int32))).bind fun r6 => (if r6 = 0 then (K 2 (0 : Int32) v2 v3 0 0) else ((f_X5_isElder g a1 (v3 - (1 : Int32)) v3).bind fun r9 => (if r9 = 0 then (K 2 (0 : Int32) v2 v3 0 0) else (K 2 (1 : Int32) v2 v3 0 0)))))))))
def fb_X5_joinedLayers_2 (g : Row) (a1 : Int32) (K : Nat → Int32 → Int32 → Int32 → Int32 → Int32 → Option (Int32)) (t0 : Int32) (v2 : Int32) (v3 : Int32) (v4 : Int32) (v5 : Int32) : Option (Int32) := (if (29 : Int32) ≤ v3 then (K 3 (0 : Int32) v2 v3 t0 0) else ((f_X5_frozen g a1 (v3 + (1 : Int32))).bind fun r13 => (if r13 = 0 then (K 3 (0 : Int32) v2 v3 t0 0) else ((f_X5_isElder g a1 (v3 + (1 : Int32)) v3).bind fun r16 => (if r16 = 0 then (K 3 (0 : Int32) v2 v3 t0 0) else (K 3 (1 : Int32) v2 v3 t0 0))))))
def fb_X5_joinedLayers_3 (g : Row) (a1 : Int32) (K : Nat → Int32 → Int32 → Int32 → Int32 → Int32 → Option (Int32)) (t0 : Int32) (v2 : Int32) (v3 : Int32) (v4 : Int32) (v5 : Int32) : Option (Int32) := (if v4 = 0 then (K 4 v2 0 v3 v4 t0) else (if t0 = 0 then (K 4 v2 0 v3 v4 t0) else (K 1 0 (v2 + (-1 : Int32)) (v3 + (1 : Int32)) 0 0)))
def fb_X5_joinedLayers_4 (g : Row) (a1 : Int32) (K : Nat → Int32 → Int32 → Int32 → Int32 → Int32 → Option (Int32)) (t0 : Int32) (v2 : Int32) (v3 : Int32) (v4 : Int32) (v5 : Int32) : Option (Int32) := (if v4 = 0 then (if v5 = 0 then (K 1 0 (t0 + (1 : Int32)) (v3 + (1 : Int32)) 0 0) else (K 1 0 (t0 + (0 : Int32)) (v3 + (1 : Int32)) 0 0)) else (K 1 0 (t0 + (0 : Int32)) (v3 + (1 : Int32)) 0 0))
def fl_X5_joinedLayers (g : Row) (a1 : Int32) : Nat → Nat → Int32 → Int32 → Int32 → Int32 → Int32 → Option (Int32)
  | 0, _, _, _, _, _, _ => none
  | n + 1, lab, t0, v2, v3, v4, v5 => match lab with
    | 1 => fb_X5_joinedLayers_1 g a1 (fl_X5_joinedLayers g a1 n) t0 v2 v3 v4 v5
    | 2 => fb_X5_joinedLayers_2 g a1 (fl_X5_joinedLayers g a1 n) t0 v2 v3 v4 v5
    | 3 => fb_X5_joinedLayers_3 g a1 (fl_X5_joinedLayers g a1 n) t0 v2 v3 v4 v5
    | _ => fb_X5_joinedLayers_4 g a1 (fl_X5_joinedLayers g a1 n) t0 v2 v3 v4 v5
def f_X5_joinedLayers (g : Row) (a1 : Int32) : Option (Int32) := (fl_X5_joinedLayers g a1 FU 1 0 (0 : Int32) (0 : Int32) 0 0)
def rmX5_joinedLayers : Room := { frames := 2, cells := 0, slots := 0, locals := 46 }
theorem hd_X5_joinedLayers : yX5_joinedLayers.cls ≠ "java/lang/invoke/MethodHandle" ∧ yX5_joinedLayers.cls ≠ "java/lang/invoke/VarHandle" ∧ (parseMethodDescriptor yX5_joinedLayers.desc).map (fun d => d.parameters.length) = some 2 := by decide +kernel
set_option maxHeartbeats 8000000 in
set_option maxRecDepth 100000 in
theorem c_X5_joinedLayers {l : Launch} {D : va_G} {y : Nat} {ν : Mem} {ρ : Nat} (h1 : 1 ≤ ρ) (h3 : ρ ≤ 3) {g : Row} (hg : ν ρ = g) (a1 : Int32) {r : Int32} (hf : f_X5_joinedLayers g a1 = some r) : CM l yX5_joinedLayers wsX5_joinedLayers rmX5_joinedLayers [.ref (y + ρ), .int a1] D y ν (some (.int r)) ν := by
  refine CM.of (cc := cX5_joinedLayers) (maxL := 6) (ret := (some .int)) pn_X5 rfl (Nat.le_of_ble_eq_true rfl) ?_
  intro p e s m args below meth c F hr hlk hK
  have KEY : ∀ n : Nat, (∀ (v2 : Int32) (v3 : Int32) (ls : Array Slot) (H : Heap) (locs : List Loc), lv_has ls 6 [(0, .ref (y + ρ)), (1, .int a1), (2, .int v2), (3, .int v3)] → va_P D vwCl (WM D y ν) H → va_S (rngM y) s.heap H locs → fl_X5_joinedLayers g a1 n 1 0 v2 v3 0 0 = some r → W p l e rmX5_joinedLayers s m args below meth c H locs 0 0 (MQ below (QM D y ν (some (.int r))) args s 0 0 (rngM y)) (F0 m 4 ls [])) ∧ (∀ (v2 : Int32) (v3 : Int32) (t0 : Int32) (ls : Array Slot) (H : Heap) (locs : List Loc), lv_has ls 6 [(0, .ref (y + ρ)), (1, .int a1), (2, .int v2), (3, .int v3)] → va_P D vwCl (WM D y ν) H → va_S (rngM y) s.heap H locs → fl_X5_joinedLayers g a1 n 2 t0 v2 v3 0 0 = some r → W p l e rmX5_joinedLayers s m args below meth c H locs 0 0 (MQ below (QM D y ν (some (.int r))) args s 0 0 (rngM y)) (F0 m 51 ls [.int t0])) ∧ (∀ (v2 : Int32) (v3 : Int32) (v4 : Int32) (t0 : Int32) (ls : Array Slot) (H : Heap) (locs : List Loc), lv_has ls 6 [(0, .ref (y + ρ)), (1, .int a1), (2, .int v2), (3, .int v3), (4, .int v4)] → va_P D vwCl (WM D y ν) H → va_S (rngM y) s.heap H locs → fl_X5_joinedLayers g a1 n 3 t0 v2 v3 v4 0 = some r → W p l e rmX5_joinedLayers s m args below meth c H locs 0 0 (MQ below (QM D y ν (some (.int r))) args s 0 0 (rngM y)) (F0 m 87 ls [.int t0])) ∧ (∀ (v3 : Int32) (v4 : Int32) (v5 : Int32) (t0 : Int32) (ls : Array Slot) (H : Heap) (locs : List Loc), lv_has ls 6 [(0, .ref (y + ρ)), (1, .int a1), (3, .int v3), (4, .int v4), (5, .int v5)] → va_P D vwCl (WM D y ν) H → va_S (rngM y) s.heap H locs → fl_X5_joinedLayers g a1 n 4 t0 0 v3 v4 v5 = some r → W p l e rmX5_joinedLayers s m args below meth c H locs 0 0 (MQ below (QM D y ν (some (.int r))) args s 0 0 (rngM y)) (F0 m 104 ls [.int t0])) := by
    intro n
    induction n with
    | zero => exact ⟨(fun _ _ _ _ _ _ _ _ h => nomatch h), (fun _ _ _ _ _ _ _ _ _ h => nomatch h), (fun _ _ _ _ _ _ _ _ _ _ h => nomatch h), (fun _ _ _ _ _ _ _ _ _ _ h => nomatch h)⟩
    | succ n ih =>
      refine ⟨?_, ?_, ?_, ?_⟩
      · intro v2 v3  ls H locs hl hP hS hf
        have hf : fb_X5_joinedLayers_1 g a1 (fl_X5_joinedLayers g a1 n) 0 v2 v3 0 0 = some r := hf
        unfold fb_X5_joinedLayers_1 at hf
        refine lv_iload_n F.1 F.2.1 dX5_joinedLayers_4 rfl (lv_at hl 3 rfl) ?_
        refine lv_bipush (v := (30 : Int32)) F.1 F.2.1 dX5_joinedLayers_5 (by decide) ?_
        refine lv_icmp_ge (tgt := 127) F.1 F.2.1 dX5_joinedLayers_7 rfl (fun hc1 => ?_) (fun hc1 => ?_)
        · have hf := ifp hc1 hf
          refine lv_iload_n F.1 F.2.1 dX5_joinedLayers_127 rfl (lv_at hl 2 rfl) ?_
          obtain rfl := Option.some.inj hf
          exact m_iret F hr hlk hP hS rfl dX5_joinedLayers_128
        · have hf := ifn hc1 hf
          refine lv_aload_n F.1 F.2.1 dX5_joinedLayers_10 rfl (lv_at hl 0 rfl) ?_
          refine lv_iload_n F.1 F.2.1 dX5_joinedLayers_11 rfl (lv_at hl 1 rfl) ?_
          refine lv_iload_n F.1 F.2.1 dX5_joinedLayers_12 rfl (lv_at hl 3 rfl) ?_
          obtain ⟨r2, hr3, hf⟩ := bnd hf
          refine m_callS F hK hP hS (c_X5_frozen h1 h3 hg a1 v3 hr3) (va_cwS 3 F.2.2.2.2 gX5_joinedLayers_X5_frozen rfl rfl rfl hd_X5_frozen ⟨(Nat.le_of_ble_eq_true rfl), (Nat.le_of_ble_eq_true rfl)⟩) rfl rfl hl.1 (Nat.le_of_ble_eq_true rfl) dX5_joinedLayers_13 ⟨(Nat.le_of_ble_eq_true rfl), (Nat.le_of_ble_eq_true rfl)⟩ (rest := []) (fun H locs hP hS => ?_)
          refine W.eq (g2 := F0 m 16 ls [.int r2]) rfl ?_
          refine lv_if_eq (tgt := 121) F.1 F.2.1 dX5_joinedLayers_16 rfl (fun hc4 => ?_) (fun hc4 => ?_)
          · have hf := ifp hc4 hf
            refine lv_iinc (v := (v3 + (1 : Int32))) F.1 F.2.1 dX5_joinedLayers_121 hl (k := 3) rfl rfl (Nat.le_of_ble_eq_true rfl) rfl (fun ls hl => ?_)
            have hl : lv_has ls 6 [(3, .int (v3 + (1 : Int32))), (0, .ref (y + ρ)), (1, .int a1), (2, .int v2)] := hl
            refine lv_goto (tgt := 4) F.1 F.2.1 dX5_joinedLayers_124 rfl ?_
            exact ih.1 v2 (v3 + (1 : Int32)) _ _ _ (lv_sub hl [1, 2, 3, 0] rfl) hP hS hf
          · have hf := ifn hc4 hf
            refine lv_iload_n F.1 F.2.1 dX5_joinedLayers_19 rfl (lv_at hl 3 rfl) ?_
            refine lv_if_le (tgt := 50) F.1 F.2.1 dX5_joinedLayers_20 rfl (fun hc5 => ?_) (fun hc5 => ?_)
            · have hf := ifp hc5 hf
              refine lv_iconst (v := (0 : Int32)) F.1 F.2.1 dX5_joinedLayers_50 (by decide) ?_
              exact ih.2.1 v2 v3 (0 : Int32) _ _ _ (lv_sub hl [0, 1, 2, 3] rfl) hP hS hf
            · have hf := ifn hc5 hf
              refine lv_aload_n F.1 F.2.1 dX5_joinedLayers_23 rfl (lv_at hl 0 rfl) ?_
              refine lv_iload_n F.1 F.2.1 dX5_joinedLayers_24 rfl (lv_at hl 1 rfl) ?_
              refine lv_iload_n F.1 F.2.1 dX5_joinedLayers_25 rfl (lv_at hl 3 rfl) ?_
              refine lv_iconst (v := (1 : Int32)) F.1 F.2.1 dX5_joinedLayers_26 (by decide) ?_
              refine lv_isub F.1 F.2.1 dX5_joinedLayers_27 ?_
              obtain ⟨r6, hr7, hf⟩ := bnd hf
              refine m_callS F hK hP hS (c_X5_frozen h1 h3 hg a1 (v3 - (1 : Int32)) hr7) (va_cwS 3 F.2.2.2.2 gX5_joinedLayers_X5_frozen rfl rfl rfl hd_X5_frozen ⟨(Nat.le_of_ble_eq_true rfl), (Nat.le_of_ble_eq_true rfl)⟩) rfl rfl hl.1 (Nat.le_of_ble_eq_true rfl) dX5_joinedLayers_28 ⟨(Nat.le_of_ble_eq_true rfl), (Nat.le_of_ble_eq_true rfl)⟩ (rest := []) (fun H locs hP hS => ?_)
              refine W.eq (g2 := F0 m 31 ls [.int r6]) rfl ?_
              refine lv_if_eq (tgt := 50) F.1 F.2.1 dX5_joinedLayers_31 rfl (fun hc8 => ?_) (fun hc8 => ?_)
              · have hf := ifp hc8 hf
                refine lv_iconst (v := (0 : Int32)) F.1 F.2.1 dX5_joinedLayers_50 (by decide) ?_
                exact ih.2.1 v2 v3 (0 : Int32) _ _ _ (lv_sub hl [0, 1, 2, 3] rfl) hP hS hf
              · have hf := ifn hc8 hf
                refine lv_aload_n F.1 F.2.1 dX5_joinedLayers_34 rfl (lv_at hl 0 rfl) ?_
                refine lv_iload_n F.1 F.2.1 dX5_joinedLayers_35 rfl (lv_at hl 1 rfl) ?_
                refine lv_iload_n F.1 F.2.1 dX5_joinedLayers_36 rfl (lv_at hl 3 rfl) ?_
                refine lv_iconst (v := (1 : Int32)) F.1 F.2.1 dX5_joinedLayers_37 (by decide) ?_
                refine lv_isub F.1 F.2.1 dX5_joinedLayers_38 ?_
                refine lv_iload_n F.1 F.2.1 dX5_joinedLayers_39 rfl (lv_at hl 3 rfl) ?_
                obtain ⟨r9, hr10, hf⟩ := bnd hf
                refine m_callS F hK hP hS (c_X5_isElder h1 h3 hg a1 (v3 - (1 : Int32)) v3 hr10) (va_cwS 4 F.2.2.2.2 gX5_joinedLayers_X5_isElder rfl rfl rfl hd_X5_isElder ⟨(Nat.le_of_ble_eq_true rfl), (Nat.le_of_ble_eq_true rfl)⟩) rfl rfl hl.1 (Nat.le_of_ble_eq_true rfl) dX5_joinedLayers_40 ⟨(Nat.le_of_ble_eq_true rfl), (Nat.le_of_ble_eq_true rfl)⟩ (rest := []) (fun H locs hP hS => ?_)
                refine W.eq (g2 := F0 m 43 ls [.int r9]) rfl ?_
                refine lv_if_eq (tgt := 50) F.1 F.2.1 dX5_joinedLayers_43 rfl (fun hc11 => ?_) (fun hc11 => ?_)
                · have hf := ifp hc11 hf
                  refine lv_iconst (v := (0 : Int32)) F.1 F.2.1 dX5_joinedLayers_50 (by decide) ?_
                  exact ih.2.1 v2 v3 (0 : Int32) _ _ _ (lv_sub hl [0, 1, 2, 3] rfl) hP hS hf
                · have hf := ifn hc11 hf
                  refine lv_iconst (v := (1 : Int32)) F.1 F.2.1 dX5_joinedLayers_46 (by decide) ?_
                  refine lv_goto (tgt := 51) F.1 F.2.1 dX5_joinedLayers_47 rfl ?_
                  exact ih.2.1 v2 v3 (1 : Int32) _ _ _ (lv_sub hl [0, 1, 2, 3] rfl) hP hS hf
      · intro v2 v3 t0  ls H locs hl hP hS hf
        have hf : fb_X5_joinedLayers_2 g a1 (fl_X5_joinedLayers g a1 n) t0 v2 v3 0 0 = some r := hf
        unfold fb_X5_joinedLayers_2 at hf
        refine lv_istore F.1 F.2.1 dX5_joinedLayers_51 hl (Nat.le_of_ble_eq_true rfl) rfl (fun ls hl => ?_)
        have hl : lv_has ls 6 [(4, .int t0), (0, .ref (y + ρ)), (1, .int a1), (2, .int v2), (3, .int v3)] := hl
        refine lv_iload_n F.1 F.2.1 dX5_joinedLayers_53 rfl (lv_at hl 4 rfl) ?_
        refine lv_bipush (v := (29 : Int32)) F.1 F.2.1 dX5_joinedLayers_54 (by decide) ?_
        refine lv_icmp_ge (tgt := 86) F.1 F.2.1 dX5_joinedLayers_56 rfl (fun hc12 => ?_) (fun hc12 => ?_)
        · have hf := ifp hc12 hf
          refine lv_iconst (v := (0 : Int32)) F.1 F.2.1 dX5_joinedLayers_86 (by decide) ?_
          exact ih.2.2.1 v2 v3 t0 (0 : Int32) _ _ _ (lv_sub hl [1, 2, 3, 4, 0] rfl) hP hS hf
        · have hf := ifn hc12 hf
          refine lv_aload_n F.1 F.2.1 dX5_joinedLayers_59 rfl (lv_at hl 1 rfl) ?_
          refine lv_iload_n F.1 F.2.1 dX5_joinedLayers_60 rfl (lv_at hl 2 rfl) ?_
          refine lv_iload_n F.1 F.2.1 dX5_joinedLayers_61 rfl (lv_at hl 4 rfl) ?_
          refine lv_iconst (v := (1 : Int32)) F.1 F.2.1 dX5_joinedLayers_62 (by decide) ?_
          refine lv_iadd F.1 F.2.1 dX5_joinedLayers_63 ?_
          obtain ⟨r13, hr14, hf⟩ := bnd hf
          refine m_callS F hK hP hS (c_X5_frozen h1 h3 hg a1 (v3 + (1 : Int32)) hr14) (va_cwS 3 F.2.2.2.2 gX5_joinedLayers_X5_frozen rfl rfl rfl hd_X5_frozen ⟨(Nat.le_of_ble_eq_true rfl), (Nat.le_of_ble_eq_true rfl)⟩) rfl rfl hl.1 (Nat.le_of_ble_eq_true rfl) dX5_joinedLayers_64 ⟨(Nat.le_of_ble_eq_true rfl), (Nat.le_of_ble_eq_true rfl)⟩ (rest := []) (fun H locs hP hS => ?_)
          refine W.eq (g2 := F0 m 67 ls [.int r13]) rfl ?_
          refine lv_if_eq (tgt := 86) F.1 F.2.1 dX5_joinedLayers_67 rfl (fun hc15 => ?_) (fun hc15 => ?_)
          · have hf := ifp hc15 hf
            refine lv_iconst (v := (0 : Int32)) F.1 F.2.1 dX5_joinedLayers_86 (by decide) ?_
            exact ih.2.2.1 v2 v3 t0 (0 : Int32) _ _ _ (lv_sub hl [1, 2, 3, 4, 0] rfl) hP hS hf
          · have hf := ifn hc15 hf
            refine lv_aload_n F.1 F.2.1 dX5_joinedLayers_70 rfl (lv_at hl 1 rfl) ?_
            refine lv_iload_n F.1 F.2.1 dX5_joinedLayers_71 rfl (lv_at hl 2 rfl) ?_
            refine lv_iload_n F.1 F.2.1 dX5_joinedLayers_72 rfl (lv_at hl 4 rfl) ?_
            refine lv_iconst (v := (1 : Int32)) F.1 F.2.1 dX5_joinedLayers_73 (by decide) ?_
            refine lv_iadd F.1 F.2.1 dX5_joinedLayers_74 ?_
            refine lv_iload_n F.1 F.2.1 dX5_joinedLayers_75 rfl (lv_at hl 4 rfl) ?_
            obtain ⟨r16, hr17, hf⟩ := bnd hf
            refine m_callS F hK hP hS (c_X5_isElder h1 h3 hg a1 (v3 + (1 : Int32)) v3 hr17) (va_cwS 4 F.2.2.2.2 gX5_joinedLayers_X5_isElder rfl rfl rfl hd_X5_isElder ⟨(Nat.le_of_ble_eq_true rfl), (Nat.le_of_ble_eq_true rfl)⟩) rfl rfl hl.1 (Nat.le_of_ble_eq_true rfl) dX5_joinedLayers_76 ⟨(Nat.le_of_ble_eq_true rfl), (Nat.le_of_ble_eq_true rfl)⟩ (rest := []) (fun H locs hP hS => ?_)
            refine W.eq (g2 := F0 m 79 ls [.int r16]) rfl ?_
            refine lv_if_eq (tgt := 86) F.1 F.2.1 dX5_joinedLayers_79 rfl (fun hc18 => ?_) (fun hc18 => ?_)
            · have hf := ifp hc18 hf
              refine lv_iconst (v := (0 : Int32)) F.1 F.2.1 dX5_joinedLayers_86 (by decide) ?_
              exact ih.2.2.1 v2 v3 t0 (0 : Int32) _ _ _ (lv_sub hl [1, 2, 3, 4, 0] rfl) hP hS hf
            · have hf := ifn hc18 hf
              refine lv_iconst (v := (1 : Int32)) F.1 F.2.1 dX5_joinedLayers_82 (by decide) ?_
              refine lv_goto (tgt := 87) F.1 F.2.1 dX5_joinedLayers_83 rfl ?_
              exact ih.2.2.1 v2 v3 t0 (1 : Int32) _ _ _ (lv_sub hl [1, 2, 3, 4, 0] rfl) hP hS hf
      · intro v2 v3 v4 t0  ls H locs hl hP hS hf
        have hf : fb_X5_joinedLayers_3 g a1 (fl_X5_joinedLayers g a1 n) t0 v2 v3 v4 0 = some r := hf
        unfold fb_X5_joinedLayers_3 at hf
        refine lv_istore F.1 F.2.1 dX5_joinedLayers_87 hl (Nat.le_of_ble_eq_true rfl) rfl (fun ls hl => ?_)
        have hl : lv_has ls 6 [(5, .int t0), (0, .ref (y + ρ)), (1, .int a1), (2, .int v2), (3, .int v3), (4, .int v4)] := hl
        refine lv_iload_n F.1 F.2.1 dX5_joinedLayers_89 rfl (lv_at hl 3 rfl) ?_
        refine lv_iload F.1 F.2.1 dX5_joinedLayers_90 (lv_at hl 5 rfl) ?_
        refine lv_if_eq (tgt := 104) F.1 F.2.1 dX5_joinedLayers_92 rfl (fun hc19 => ?_) (fun hc19 => ?_)
        · have hf := ifp hc19 hf
          exact ih.2.2.2 v3 v4 t0 v2 _ _ _ (lv_sub hl [1, 2, 4, 5, 0] rfl) hP hS hf
        · have hf := ifn hc19 hf
          refine lv_iload F.1 F.2.1 dX5_joinedLayers_95 (lv_at hl 0 rfl) ?_
          refine lv_if_eq (tgt := 104) F.1 F.2.1 dX5_joinedLayers_97 rfl (fun hc20 => ?_) (fun hc20 => ?_)
          · have hf := ifp hc20 hf
            exact ih.2.2.2 v3 v4 t0 v2 _ _ _ (lv_sub hl [1, 2, 4, 5, 0] rfl) hP hS hf
          · have hf := ifn hc20 hf
            refine lv_iconst (v := (-1 : Int32)) F.1 F.2.1 dX5_joinedLayers_100 (by decide) ?_
            refine lv_goto (tgt := 119) F.1 F.2.1 dX5_joinedLayers_101 rfl ?_
            refine lv_iadd F.1 F.2.1 dX5_joinedLayers_119 ?_
            refine lv_istore_n F.1 F.2.1 dX5_joinedLayers_120 rfl hl (Nat.le_of_ble_eq_true rfl) rfl (fun ls hl => ?_)
            have hl : lv_has ls 6 [(2, .int (v2 + (-1 : Int32))), (5, .int t0), (0, .ref (y + ρ)), (1, .int a1), (3, .int v3), (4, .int v4)] := hl
            refine lv_iinc (v := (v3 + (1 : Int32))) F.1 F.2.1 dX5_joinedLayers_121 hl (k := 4) rfl rfl (Nat.le_of_ble_eq_true rfl) rfl (fun ls hl => ?_)
            have hl : lv_has ls 6 [(3, .int (v3 + (1 : Int32))), (2, .int (v2 + (-1 : Int32))), (5, .int t0), (0, .ref (y + ρ)), (1, .int a1), (4, .int v4)] := hl
            refine lv_goto (tgt := 4) F.1 F.2.1 dX5_joinedLayers_124 rfl ?_
            exact ih.1 (v2 + (-1 : Int32)) (v3 + (1 : Int32)) _ _ _ (lv_sub hl [3, 4, 1, 0] rfl) hP hS hf
      · intro v3 v4 v5 t0  ls H locs hl hP hS hf
        have hf : fb_X5_joinedLayers_4 g a1 (fl_X5_joinedLayers g a1 n) t0 0 v3 v4 v5 = some r := hf
        unfold fb_X5_joinedLayers_4 at hf
        refine lv_iload F.1 F.2.1 dX5_joinedLayers_104 (lv_at hl 3 rfl) ?_
        refine lv_if_ne (tgt := 114) F.1 F.2.1 dX5_joinedLayers_106 rfl (fun hc21 => ?_) (fun hc21 => ?_)
        · have hf := ifn hc21 hf
          refine lv_iconst (v := (0 : Int32)) F.1 F.2.1 dX5_joinedLayers_114 (by decide) ?_
          refine lv_goto (tgt := 119) F.1 F.2.1 dX5_joinedLayers_115 rfl ?_
          refine lv_iadd F.1 F.2.1 dX5_joinedLayers_119 ?_
          refine lv_istore_n F.1 F.2.1 dX5_joinedLayers_120 rfl hl (Nat.le_of_ble_eq_true rfl) rfl (fun ls hl => ?_)
          have hl : lv_has ls 6 [(2, .int (t0 + (0 : Int32))), (0, .ref (y + ρ)), (1, .int a1), (3, .int v3), (4, .int v4), (5, .int v5)] := hl
          refine lv_iinc (v := (v3 + (1 : Int32))) F.1 F.2.1 dX5_joinedLayers_121 hl (k := 3) rfl rfl (Nat.le_of_ble_eq_true rfl) rfl (fun ls hl => ?_)
          have hl : lv_has ls 6 [(3, .int (v3 + (1 : Int32))), (2, .int (t0 + (0 : Int32))), (0, .ref (y + ρ)), (1, .int a1), (4, .int v4), (5, .int v5)] := hl
          refine lv_goto (tgt := 4) F.1 F.2.1 dX5_joinedLayers_124 rfl ?_
          exact ih.1 (t0 + (0 : Int32)) (v3 + (1 : Int32)) _ _ _ (lv_sub hl [2, 3, 1, 0] rfl) hP hS hf
        · have hf := ifp hc21 hf
          refine lv_iload F.1 F.2.1 dX5_joinedLayers_109 (lv_at hl 4 rfl) ?_
          refine lv_if_eq (tgt := 118) F.1 F.2.1 dX5_joinedLayers_111 rfl (fun hc22 => ?_) (fun hc22 => ?_)
          · have hf := ifp hc22 hf
            refine lv_iconst (v := (1 : Int32)) F.1 F.2.1 dX5_joinedLayers_118 (by decide) ?_
            refine lv_iadd F.1 F.2.1 dX5_joinedLayers_119 ?_
            refine lv_istore_n F.1 F.2.1 dX5_joinedLayers_120 rfl hl (Nat.le_of_ble_eq_true rfl) rfl (fun ls hl => ?_)
            have hl : lv_has ls 6 [(2, .int (t0 + (1 : Int32))), (0, .ref (y + ρ)), (1, .int a1), (3, .int v3), (4, .int v4), (5, .int v5)] := hl
            refine lv_iinc (v := (v3 + (1 : Int32))) F.1 F.2.1 dX5_joinedLayers_121 hl (k := 3) rfl rfl (Nat.le_of_ble_eq_true rfl) rfl (fun ls hl => ?_)
            have hl : lv_has ls 6 [(3, .int (v3 + (1 : Int32))), (2, .int (t0 + (1 : Int32))), (0, .ref (y + ρ)), (1, .int a1), (4, .int v4), (5, .int v5)] := hl
            refine lv_goto (tgt := 4) F.1 F.2.1 dX5_joinedLayers_124 rfl ?_
            exact ih.1 (t0 + (1 : Int32)) (v3 + (1 : Int32)) _ _ _ (lv_sub hl [2, 3, 1, 0] rfl) hP hS hf
          · have hf := ifn hc22 hf
            refine lv_iconst (v := (0 : Int32)) F.1 F.2.1 dX5_joinedLayers_114 (by decide) ?_
            refine lv_goto (tgt := 119) F.1 F.2.1 dX5_joinedLayers_115 rfl ?_
            refine lv_iadd F.1 F.2.1 dX5_joinedLayers_119 ?_
            refine lv_istore_n F.1 F.2.1 dX5_joinedLayers_120 rfl hl (Nat.le_of_ble_eq_true rfl) rfl (fun ls hl => ?_)
            have hl : lv_has ls 6 [(2, .int (t0 + (0 : Int32))), (0, .ref (y + ρ)), (1, .int a1), (3, .int v3), (4, .int v4), (5, .int v5)] := hl
            refine lv_iinc (v := (v3 + (1 : Int32))) F.1 F.2.1 dX5_joinedLayers_121 hl (k := 3) rfl rfl (Nat.le_of_ble_eq_true rfl) rfl (fun ls hl => ?_)
            have hl : lv_has ls 6 [(3, .int (v3 + (1 : Int32))), (2, .int (t0 + (0 : Int32))), (0, .ref (y + ρ)), (1, .int a1), (4, .int v4), (5, .int v5)] := hl
            refine lv_goto (tgt := 4) F.1 F.2.1 dX5_joinedLayers_124 rfl ?_
            exact ih.1 (t0 + (0 : Int32)) (v3 + (1 : Int32)) _ _ _ (lv_sub hl [2, 3, 1, 0] rfl) hP hS hf
  intro ls H locs hl hP hS
  have hl : lv_has ls 6 [(0, .ref (y + ρ)), (1, .int a1)] := hl
  unfold f_X5_joinedLayers at hf
  refine lv_iconst (v := (0 : Int32)) F.1 F.2.1 dX5_joinedLayers_0 (by decide) ?_
  refine lv_istore_n F.1 F.2.1 dX5_joinedLayers_1 rfl hl (Nat.le_of_ble_eq_true rfl) rfl (fun ls hl => ?_)
  have hl : lv_has ls 6 [(2, .int (0 : Int32)), (0, .ref (y + ρ)), (1, .int a1)] := hl
  refine lv_iconst (v := (0 : Int32)) F.1 F.2.1 dX5_joinedLayers_2 (by decide) ?_
  refine lv_istore_n F.1 F.2.1 dX5_joinedLayers_3 rfl hl (Nat.le_of_ble_eq_true rfl) rfl (fun ls hl => ?_)
  have hl : lv_has ls 6 [(3, .int (0 : Int32)), (2, .int (0 : Int32)), (0, .ref (y + ρ)), (1, .int a1)] := hl
  exact (KEY FU).1 (0 : Int32) (0 : Int32) _ _ _ (lv_sub hl [2, 3, 1, 0] rfl) hP hS hf

-- FrostTubesModel.allLayers([I)I
def fb_X5_allLayers_1 (g : Row) (K : Int32 → Int32 → Option (Int32)) (v1 : Int32) (v2 : Int32) : Option (Int32) := (if (g (196 : Int32).toNatClampNeg) ≤ v2 then some v1 else ((f_X5_countLayers g v2).bind fun r2 => (K (v1 + r2) (v2 + (1 : Int32)))))
def fl_X5_allLayers (g : Row) : Nat → Int32 → Int32 → Option (Int32)
  | 0, _, _ => none
  | n + 1, v1, v2 => fb_X5_allLayers_1 g (fl_X5_allLayers g n) v1 v2
def f_X5_allLayers (g : Row) : Option (Int32) := (fl_X5_allLayers g FU (0 : Int32) (0 : Int32))
def rmX5_allLayers : Room := { frames := 4, cells := 0, slots := 0, locals := 88 }
theorem hd_X5_allLayers : yX5_allLayers.cls ≠ "java/lang/invoke/MethodHandle" ∧ yX5_allLayers.cls ≠ "java/lang/invoke/VarHandle" ∧ (parseMethodDescriptor yX5_allLayers.desc).map (fun d => d.parameters.length) = some 1 := by decide +kernel
set_option maxHeartbeats 8000000 in
set_option maxRecDepth 100000 in
theorem c_X5_allLayers {l : Launch} {D : va_G} {y : Nat} {ν : Mem} {ρ : Nat} (h1 : 1 ≤ ρ) (h3 : ρ ≤ 3) {g : Row} (hg : ν ρ = g) {r : Int32} (hf : f_X5_allLayers g = some r) : CM l yX5_allLayers wsX5_allLayers rmX5_allLayers [.ref (y + ρ)] D y ν (some (.int r)) ν := by
  refine CM.of (cc := cX5_allLayers) (maxL := 3) (ret := (some .int)) pn_X5 rfl (Nat.le_of_ble_eq_true rfl) ?_
  intro p e s m args below meth c F hr hlk hK
  have KEY : ∀ n : Nat, (∀ (v1 : Int32) (v2 : Int32) (ls : Array Slot) (H : Heap) (locs : List Loc), lv_has ls 3 [(0, .ref (y + ρ)), (1, .int v1), (2, .int v2)] → va_P D vwCl (WM D y ν) H → va_S (rngM y) s.heap H locs → fl_X5_allLayers g n v1 v2 = some r → W p l e rmX5_allLayers s m args below meth c H locs 0 0 (MQ below (QM D y ν (some (.int r))) args s 0 0 (rngM y)) (F0 m 4 ls [])) := by
    intro n
    induction n with
    | zero => exact (fun _ _ _ _ _ _ _ _ h => nomatch h)
    | succ n ih =>
      skip
      intro v1 v2  ls H locs hl hP hS hf
      have hf : fb_X5_allLayers_1 g (fl_X5_allLayers g n) v1 v2 = some r := hf
      unfold fb_X5_allLayers_1 at hf
      refine lv_iload_n F.1 F.2.1 dX5_allLayers_4 rfl (lv_at hl 2 rfl) ?_
      refine lv_aload_n F.1 F.2.1 dX5_allLayers_5 rfl (lv_at hl 0 rfl) ?_
      refine lv_sipush (v := (196 : Int32)) F.1 F.2.1 dX5_allLayers_6 (by decide) ?_
      refine m_iald F hK hP (o := ρ) (by omega) hg (fun f => mkM_row h1 h3 D y f) (lnM_row h1 h3) (by decide) dX5_allLayers_9 ?_
      refine lv_icmp_ge (tgt := 27) F.1 F.2.1 dX5_allLayers_10 rfl (fun hc1 => ?_) (fun hc1 => ?_)
      · have hf := ifp hc1 hf
        refine lv_iload_n F.1 F.2.1 dX5_allLayers_27 rfl (lv_at hl 1 rfl) ?_
        obtain rfl := Option.some.inj hf
        exact m_iret F hr hlk hP hS rfl dX5_allLayers_28
      · have hf := ifn hc1 hf
        refine lv_iload_n F.1 F.2.1 dX5_allLayers_13 rfl (lv_at hl 1 rfl) ?_
        refine lv_aload_n F.1 F.2.1 dX5_allLayers_14 rfl (lv_at hl 0 rfl) ?_
        refine lv_iload_n F.1 F.2.1 dX5_allLayers_15 rfl (lv_at hl 2 rfl) ?_
        obtain ⟨r2, hr3, hf⟩ := bnd hf
        refine m_callS F hK hP hS (c_X5_countLayers h1 h3 hg v2 hr3) (va_cwS 2 F.2.2.2.2 gX5_allLayers_X5_countLayers rfl rfl rfl hd_X5_countLayers ⟨(Nat.le_of_ble_eq_true rfl), (Nat.le_of_ble_eq_true rfl)⟩) rfl rfl hl.1 (Nat.le_of_ble_eq_true rfl) dX5_allLayers_16 ⟨(Nat.le_of_ble_eq_true rfl), (Nat.le_of_ble_eq_true rfl)⟩ (rest := [.int v1]) (fun H locs hP hS => ?_)
        refine W.eq (g2 := F0 m 19 ls [.int r2, .int v1]) rfl ?_
        refine lv_iadd F.1 F.2.1 dX5_allLayers_19 ?_
        refine lv_istore_n F.1 F.2.1 dX5_allLayers_20 rfl hl (Nat.le_of_ble_eq_true rfl) rfl (fun ls hl => ?_)
        have hl : lv_has ls 3 [(1, .int (v1 + r2)), (0, .ref (y + ρ)), (2, .int v2)] := hl
        refine lv_iinc (v := (v2 + (1 : Int32))) F.1 F.2.1 dX5_allLayers_21 hl (k := 2) rfl rfl (Nat.le_of_ble_eq_true rfl) rfl (fun ls hl => ?_)
        have hl : lv_has ls 3 [(2, .int (v2 + (1 : Int32))), (1, .int (v1 + r2)), (0, .ref (y + ρ))] := hl
        refine lv_goto (tgt := 4) F.1 F.2.1 dX5_allLayers_24 rfl ?_
        exact ih (v1 + r2) (v2 + (1 : Int32)) _ _ _ (lv_sub hl [2, 1, 0] rfl) hP hS hf
  intro ls H locs hl hP hS
  have hl : lv_has ls 3 [(0, .ref (y + ρ))] := hl
  unfold f_X5_allLayers at hf
  refine lv_iconst (v := (0 : Int32)) F.1 F.2.1 dX5_allLayers_0 (by decide) ?_
  refine lv_istore_n F.1 F.2.1 dX5_allLayers_1 rfl hl (Nat.le_of_ble_eq_true rfl) rfl (fun ls hl => ?_)
  have hl : lv_has ls 3 [(1, .int (0 : Int32)), (0, .ref (y + ρ))] := hl
  refine lv_iconst (v := (0 : Int32)) F.1 F.2.1 dX5_allLayers_2 (by decide) ?_
  refine lv_istore_n F.1 F.2.1 dX5_allLayers_3 rfl hl (Nat.le_of_ble_eq_true rfl) rfl (fun ls hl => ?_)
  have hl : lv_has ls 3 [(2, .int (0 : Int32)), (1, .int (0 : Int32)), (0, .ref (y + ρ))] := hl
  exact (KEY FU) (0 : Int32) (0 : Int32) _ _ _ (lv_sub hl [2, 1, 0] rfl) hP hS hf

-- FrostTubesModel.layerAt([III)I
def fb_X5_layerAt_1 (g : Row) (a1 : Int32) (a2 : Int32) (K : Int32 → Int32 → Option (Int32)) (v3 : Int32) (v4 : Int32) : Option (Int32) := (if v4 < 0 then some v3 else ((f_X5_begins g a1 (v3 + (1 : Int32))).bind fun r2 => (if r2 = 0 then (K (v3 + (1 : Int32)) (v4 - (0 : Int32))) else (K (v3 + (1 : Int32)) (v4 - (1 : Int32))))))
def fl_X5_layerAt (g : Row) (a1 : Int32) (a2 : Int32) : Nat → Int32 → Int32 → Option (Int32)
  | 0, _, _ => none
  | n + 1, v3, v4 => fb_X5_layerAt_1 g a1 a2 (fl_X5_layerAt g a1 a2 n) v3 v4
def f_X5_layerAt (g : Row) (a1 : Int32) (a2 : Int32) : Option (Int32) := (fl_X5_layerAt g a1 a2 FU (-1 : Int32) a2)
def rmX5_layerAt : Room := { frames := 3, cells := 0, slots := 0, locals := 65 }
theorem hd_X5_layerAt : yX5_layerAt.cls ≠ "java/lang/invoke/MethodHandle" ∧ yX5_layerAt.cls ≠ "java/lang/invoke/VarHandle" ∧ (parseMethodDescriptor yX5_layerAt.desc).map (fun d => d.parameters.length) = some 3 := by decide +kernel
set_option maxHeartbeats 8000000 in
set_option maxRecDepth 100000 in
theorem c_X5_layerAt {l : Launch} {D : va_G} {y : Nat} {ν : Mem} {ρ : Nat} (h1 : 1 ≤ ρ) (h3 : ρ ≤ 3) {g : Row} (hg : ν ρ = g) (a1 : Int32) (a2 : Int32) {r : Int32} (hf : f_X5_layerAt g a1 a2 = some r) : CM l yX5_layerAt wsX5_layerAt rmX5_layerAt [.ref (y + ρ), .int a1, .int a2] D y ν (some (.int r)) ν := by
  refine CM.of (cc := cX5_layerAt) (maxL := 5) (ret := (some .int)) pn_X5 rfl (Nat.le_of_ble_eq_true rfl) ?_
  intro p e s m args below meth c F hr hlk hK
  have KEY : ∀ n : Nat, (∀ (v3 : Int32) (v4 : Int32) (ls : Array Slot) (H : Heap) (locs : List Loc), lv_has ls 5 [(0, .ref (y + ρ)), (1, .int a1), (3, .int v3), (4, .int v4)] → va_P D vwCl (WM D y ν) H → va_S (rngM y) s.heap H locs → fl_X5_layerAt g a1 a2 n v3 v4 = some r → W p l e rmX5_layerAt s m args below meth c H locs 0 0 (MQ below (QM D y ν (some (.int r))) args s 0 0 (rngM y)) (F0 m 5 ls [])) := by
    intro n
    induction n with
    | zero => exact (fun _ _ _ _ _ _ _ _ h => nomatch h)
    | succ n ih =>
      skip
      intro v3 v4  ls H locs hl hP hS hf
      have hf : fb_X5_layerAt_1 g a1 a2 (fl_X5_layerAt g a1 a2 n) v3 v4 = some r := hf
      unfold fb_X5_layerAt_1 at hf
      refine lv_iload F.1 F.2.1 dX5_layerAt_5 (lv_at hl 3 rfl) ?_
      refine lv_if_lt (tgt := 35) F.1 F.2.1 dX5_layerAt_7 rfl (fun hc1 => ?_) (fun hc1 => ?_)
      · have hf := ifp hc1 hf
        refine lv_iload_n F.1 F.2.1 dX5_layerAt_35 rfl (lv_at hl 2 rfl) ?_
        obtain rfl := Option.some.inj hf
        exact m_iret F hr hlk hP hS rfl dX5_layerAt_36
      · have hf := ifn hc1 hf
        refine lv_iinc (v := (v3 + (1 : Int32))) F.1 F.2.1 dX5_layerAt_10 hl (k := 2) rfl rfl (Nat.le_of_ble_eq_true rfl) rfl (fun ls hl => ?_)
        have hl : lv_has ls 5 [(3, .int (v3 + (1 : Int32))), (0, .ref (y + ρ)), (1, .int a1), (4, .int v4)] := hl
        refine lv_iload F.1 F.2.1 dX5_layerAt_13 (lv_at hl 3 rfl) ?_
        refine lv_aload_n F.1 F.2.1 dX5_layerAt_15 rfl (lv_at hl 1 rfl) ?_
        refine lv_iload_n F.1 F.2.1 dX5_layerAt_16 rfl (lv_at hl 2 rfl) ?_
        refine lv_iload_n F.1 F.2.1 dX5_layerAt_17 rfl (lv_at hl 0 rfl) ?_
        obtain ⟨r2, hr3, hf⟩ := bnd hf
        refine m_callS F hK hP hS (c_X5_begins h1 h3 hg a1 (v3 + (1 : Int32)) hr3) (va_cwS 3 F.2.2.2.2 gX5_layerAt_X5_begins rfl rfl rfl hd_X5_begins ⟨(Nat.le_of_ble_eq_true rfl), (Nat.le_of_ble_eq_true rfl)⟩) rfl rfl hl.1 (Nat.le_of_ble_eq_true rfl) dX5_layerAt_18 ⟨(Nat.le_of_ble_eq_true rfl), (Nat.le_of_ble_eq_true rfl)⟩ (rest := [.int v4]) (fun H locs hP hS => ?_)
        refine W.eq (g2 := F0 m 21 ls [.int r2, .int v4]) rfl ?_
        refine lv_if_eq (tgt := 28) F.1 F.2.1 dX5_layerAt_21 rfl (fun hc4 => ?_) (fun hc4 => ?_)
        · have hf := ifp hc4 hf
          refine lv_iconst (v := (0 : Int32)) F.1 F.2.1 dX5_layerAt_28 (by decide) ?_
          refine lv_isub F.1 F.2.1 dX5_layerAt_29 ?_
          refine lv_istore F.1 F.2.1 dX5_layerAt_30 hl (Nat.le_of_ble_eq_true rfl) rfl (fun ls hl => ?_)
          have hl : lv_has ls 5 [(4, .int (v4 - (0 : Int32))), (3, .int (v3 + (1 : Int32))), (0, .ref (y + ρ)), (1, .int a1)] := hl
          refine lv_goto (tgt := 5) F.1 F.2.1 dX5_layerAt_32 rfl ?_
          exact ih (v3 + (1 : Int32)) (v4 - (0 : Int32)) _ _ _ (lv_sub hl [2, 3, 1, 0] rfl) hP hS hf
        · have hf := ifn hc4 hf
          refine lv_iconst (v := (1 : Int32)) F.1 F.2.1 dX5_layerAt_24 (by decide) ?_
          refine lv_goto (tgt := 29) F.1 F.2.1 dX5_layerAt_25 rfl ?_
          refine lv_isub F.1 F.2.1 dX5_layerAt_29 ?_
          refine lv_istore F.1 F.2.1 dX5_layerAt_30 hl (Nat.le_of_ble_eq_true rfl) rfl (fun ls hl => ?_)
          have hl : lv_has ls 5 [(4, .int (v4 - (1 : Int32))), (3, .int (v3 + (1 : Int32))), (0, .ref (y + ρ)), (1, .int a1)] := hl
          refine lv_goto (tgt := 5) F.1 F.2.1 dX5_layerAt_32 rfl ?_
          exact ih (v3 + (1 : Int32)) (v4 - (1 : Int32)) _ _ _ (lv_sub hl [2, 3, 1, 0] rfl) hP hS hf
  intro ls H locs hl hP hS
  have hl : lv_has ls 5 [(0, .ref (y + ρ)), (1, .int a1), (2, .int a2)] := hl
  unfold f_X5_layerAt at hf
  refine lv_iconst (v := (-1 : Int32)) F.1 F.2.1 dX5_layerAt_0 (by decide) ?_
  refine lv_istore_n F.1 F.2.1 dX5_layerAt_1 rfl hl (Nat.le_of_ble_eq_true rfl) rfl (fun ls hl => ?_)
  have hl : lv_has ls 5 [(3, .int (-1 : Int32)), (0, .ref (y + ρ)), (1, .int a1), (2, .int a2)] := hl
  refine lv_iload_n F.1 F.2.1 dX5_layerAt_2 rfl (lv_at hl 3 rfl) ?_
  refine lv_istore F.1 F.2.1 dX5_layerAt_3 hl (Nat.le_of_ble_eq_true rfl) rfl (fun ls hl => ?_)
  have hl : lv_has ls 5 [(4, .int a2), (3, .int (-1 : Int32)), (0, .ref (y + ρ)), (1, .int a1), (2, .int a2)] := hl
  exact (KEY FU) (-1 : Int32) a2 _ _ _ (lv_sub hl [2, 3, 1, 0] rfl) hP hS hf

-- FrostTubesModel.behind([III)I
def fb_X5_behind_1 (g : Row) (a1 : Int32) (a2 : Int32) (K : Int32 → Option (Int32)) (v3 : Int32) : Option (Int32) := (if (30 : Int32) ≤ v3 then some v3 else ((f_X5_frozen g a1 v3).bind fun r2 => (if r2 = 0 then some v3 else (K (v3 + (1 : Int32))))))
def fl_X5_behind (g : Row) (a1 : Int32) (a2 : Int32) : Nat → Int32 → Option (Int32)
  | 0, _ => none
  | n + 1, v3 => fb_X5_behind_1 g a1 a2 (fl_X5_behind g a1 a2 n) v3
def f_X5_behind (g : Row) (a1 : Int32) (a2 : Int32) : Option (Int32) := (fl_X5_behind g a1 a2 FU a2)
def rmX5_behind : Room := { frames := 2, cells := 0, slots := 0, locals := 43 }
theorem hd_X5_behind : yX5_behind.cls ≠ "java/lang/invoke/MethodHandle" ∧ yX5_behind.cls ≠ "java/lang/invoke/VarHandle" ∧ (parseMethodDescriptor yX5_behind.desc).map (fun d => d.parameters.length) = some 3 := by decide +kernel
set_option maxHeartbeats 8000000 in
set_option maxRecDepth 100000 in
theorem c_X5_behind {l : Launch} {D : va_G} {y : Nat} {ν : Mem} {ρ : Nat} (h1 : 1 ≤ ρ) (h3 : ρ ≤ 3) {g : Row} (hg : ν ρ = g) (a1 : Int32) (a2 : Int32) {r : Int32} (hf : f_X5_behind g a1 a2 = some r) : CM l yX5_behind wsX5_behind rmX5_behind [.ref (y + ρ), .int a1, .int a2] D y ν (some (.int r)) ν := by
  refine CM.of (cc := cX5_behind) (maxL := 4) (ret := (some .int)) pn_X5 rfl (Nat.le_of_ble_eq_true rfl) ?_
  intro p e s m args below meth c F hr hlk hK
  have KEY : ∀ n : Nat, (∀ (v3 : Int32) (ls : Array Slot) (H : Heap) (locs : List Loc), lv_has ls 4 [(0, .ref (y + ρ)), (1, .int a1), (3, .int v3)] → va_P D vwCl (WM D y ν) H → va_S (rngM y) s.heap H locs → fl_X5_behind g a1 a2 n v3 = some r → W p l e rmX5_behind s m args below meth c H locs 0 0 (MQ below (QM D y ν (some (.int r))) args s 0 0 (rngM y)) (F0 m 2 ls [])) := by
    intro n
    induction n with
    | zero => exact (fun _ _ _ _ _ _ _ h => nomatch h)
    | succ n ih =>
      skip
      intro v3  ls H locs hl hP hS hf
      have hf : fb_X5_behind_1 g a1 a2 (fl_X5_behind g a1 a2 n) v3 = some r := hf
      unfold fb_X5_behind_1 at hf
      refine lv_iload_n F.1 F.2.1 dX5_behind_2 rfl (lv_at hl 2 rfl) ?_
      refine lv_bipush (v := (30 : Int32)) F.1 F.2.1 dX5_behind_3 (by decide) ?_
      refine lv_icmp_ge (tgt := 23) F.1 F.2.1 dX5_behind_5 rfl (fun hc1 => ?_) (fun hc1 => ?_)
      · have hf := ifp hc1 hf
        refine lv_iload_n F.1 F.2.1 dX5_behind_23 rfl (lv_at hl 2 rfl) ?_
        obtain rfl := Option.some.inj hf
        exact m_iret F hr hlk hP hS rfl dX5_behind_24
      · have hf := ifn hc1 hf
        refine lv_aload_n F.1 F.2.1 dX5_behind_8 rfl (lv_at hl 0 rfl) ?_
        refine lv_iload_n F.1 F.2.1 dX5_behind_9 rfl (lv_at hl 1 rfl) ?_
        refine lv_iload_n F.1 F.2.1 dX5_behind_10 rfl (lv_at hl 2 rfl) ?_
        obtain ⟨r2, hr3, hf⟩ := bnd hf
        refine m_callS F hK hP hS (c_X5_frozen h1 h3 hg a1 v3 hr3) (va_cwS 3 F.2.2.2.2 gX5_behind_X5_frozen rfl rfl rfl hd_X5_frozen ⟨(Nat.le_of_ble_eq_true rfl), (Nat.le_of_ble_eq_true rfl)⟩) rfl rfl hl.1 (Nat.le_of_ble_eq_true rfl) dX5_behind_11 ⟨(Nat.le_of_ble_eq_true rfl), (Nat.le_of_ble_eq_true rfl)⟩ (rest := []) (fun H locs hP hS => ?_)
        refine W.eq (g2 := F0 m 14 ls [.int r2]) rfl ?_
        refine lv_if_eq (tgt := 23) F.1 F.2.1 dX5_behind_14 rfl (fun hc4 => ?_) (fun hc4 => ?_)
        · have hf := ifp hc4 hf
          refine lv_iload_n F.1 F.2.1 dX5_behind_23 rfl (lv_at hl 2 rfl) ?_
          obtain rfl := Option.some.inj hf
          exact m_iret F hr hlk hP hS rfl dX5_behind_24
        · have hf := ifn hc4 hf
          refine lv_iinc (v := (v3 + (1 : Int32))) F.1 F.2.1 dX5_behind_17 hl (k := 2) rfl rfl (Nat.le_of_ble_eq_true rfl) rfl (fun ls hl => ?_)
          have hl : lv_has ls 4 [(3, .int (v3 + (1 : Int32))), (0, .ref (y + ρ)), (1, .int a1)] := hl
          refine lv_goto (tgt := 2) F.1 F.2.1 dX5_behind_20 rfl ?_
          exact ih (v3 + (1 : Int32)) _ _ _ (lv_sub hl [1, 2, 0] rfl) hP hS hf
  intro ls H locs hl hP hS
  have hl : lv_has ls 4 [(0, .ref (y + ρ)), (1, .int a1), (2, .int a2)] := hl
  unfold f_X5_behind at hf
  refine lv_iload_n F.1 F.2.1 dX5_behind_0 rfl (lv_at hl 2 rfl) ?_
  refine lv_istore_n F.1 F.2.1 dX5_behind_1 rfl hl (Nat.le_of_ble_eq_true rfl) rfl (fun ls hl => ?_)
  have hl : lv_has ls 4 [(3, .int a2), (0, .ref (y + ρ)), (1, .int a1), (2, .int a2)] := hl
  exact (KEY FU) a2 _ _ _ (lv_sub hl [1, 2, 0] rfl) hP hS hf

-- FrostTubesModel.addSite([I)I
def f_X5_addSite (g : Row) : Option (Int32 × Row) := some ((((upd g ((196 : Int32).toNatClampNeg) ((g (196 : Int32).toNatClampNeg) + (1 : Int32))) (196 : Int32).toNatClampNeg) - (1 : Int32)), (upd g ((196 : Int32).toNatClampNeg) ((g (196 : Int32).toNatClampNeg) + (1 : Int32))))
def rmX5_addSite : Room := { frames := 0, cells := 0, slots := 0, locals := 0 }
theorem hd_X5_addSite : yX5_addSite.cls ≠ "java/lang/invoke/MethodHandle" ∧ yX5_addSite.cls ≠ "java/lang/invoke/VarHandle" ∧ (parseMethodDescriptor yX5_addSite.desc).map (fun d => d.parameters.length) = some 1 := by decide +kernel
set_option maxHeartbeats 8000000 in
set_option maxRecDepth 100000 in
theorem c_X5_addSite {l : Launch} {D : va_G} {y : Nat} {ν : Mem} {ρ : Nat} (h1 : 1 ≤ ρ) (h3 : ρ ≤ 3) {g : Row} {r : Int32 × Row} (hf : f_X5_addSite g = some r) : CM l yX5_addSite wsX5_addSite rmX5_addSite [.ref (y + ρ)] D y (va_up ν ρ g) (some (.int r.1)) (va_up ν ρ r.2) := by
  refine CM.of (cc := cX5_addSite) (maxL := 1) (ret := (some .int)) pn_X5 rfl (Nat.le_of_ble_eq_true rfl) ?_
  intro p e s m args below meth c F hr hlk hK
  intro ls H locs hl hP hS
  have hl : lv_has ls 1 [(0, .ref (y + ρ))] := hl
  unfold f_X5_addSite at hf
  refine lv_aload_n F.1 F.2.1 dX5_addSite_0 rfl (lv_at hl 0 rfl) ?_
  refine lv_sipush (v := (196 : Int32)) F.1 F.2.1 dX5_addSite_1 (by decide) ?_
  refine lv_dup2_11 F.1 F.2.1 dX5_addSite_4 rfl rfl ?_
  refine m_iald F hK hP (o := ρ) (by omega) (mu_at _ _ _) (fun f => mkM_row h1 h3 D y f) (lnM_row h1 h3) (by decide) dX5_addSite_5 ?_
  refine lv_iconst (v := (1 : Int32)) F.1 F.2.1 dX5_addSite_6 (by decide) ?_
  refine lv_iadd F.1 F.2.1 dX5_addSite_7 ?_
  refine m_iast F hK hP hS (by omega) (fun f => mkM_row h1 h3 D y f) (lnM_row h1 h3) (by decide) dX5_addSite_8 (fun H locs hP hS => ?_)
  refine lv_aload_n F.1 F.2.1 dX5_addSite_9 rfl (lv_at hl 0 rfl) ?_
  refine lv_sipush (v := (196 : Int32)) F.1 F.2.1 dX5_addSite_10 (by decide) ?_
  refine m_iald F hK hP (o := ρ) (by omega) (mu_at _ _ _) (fun f => mkM_row h1 h3 D y f) (lnM_row h1 h3) (by decide) dX5_addSite_13 ?_
  refine lv_iconst (v := (1 : Int32)) F.1 F.2.1 dX5_addSite_14 (by decide) ?_
  refine lv_isub F.1 F.2.1 dX5_addSite_15 ?_
  obtain rfl := Option.some.inj hf
  exact m_iret F hr hlk hP hS rfl dX5_addSite_16

-- FrostTubesModel.addTube([III)I
def f_X5_addTube (g : Row) (a1 : Int32) (a2 : Int32) : Option (Int32 × Row) := (if oob ((140 : Int32) + ((2 : Int32) * (g (197 : Int32).toNatClampNeg))) 205 then none else (if oob (((140 : Int32) + ((2 : Int32) * (g (197 : Int32).toNatClampNeg))) + (1 : Int32)) 205 then none else some ((g (197 : Int32).toNatClampNeg), (upd (upd (upd g (((140 : Int32) + ((2 : Int32) * (g (197 : Int32).toNatClampNeg))).toNatClampNeg) a1) ((((140 : Int32) + ((2 : Int32) * (g (197 : Int32).toNatClampNeg))) + (1 : Int32)).toNatClampNeg) a2) ((197 : Int32).toNatClampNeg) (((upd (upd g (((140 : Int32) + ((2 : Int32) * (g (197 : Int32).toNatClampNeg))).toNatClampNeg) a1) ((((140 : Int32) + ((2 : Int32) * (g (197 : Int32).toNatClampNeg))) + (1 : Int32)).toNatClampNeg) a2) (197 : Int32).toNatClampNeg) + (1 : Int32))))))
def rmX5_addTube : Room := { frames := 0, cells := 0, slots := 0, locals := 0 }
theorem hd_X5_addTube : yX5_addTube.cls ≠ "java/lang/invoke/MethodHandle" ∧ yX5_addTube.cls ≠ "java/lang/invoke/VarHandle" ∧ (parseMethodDescriptor yX5_addTube.desc).map (fun d => d.parameters.length) = some 3 := by decide +kernel
set_option maxHeartbeats 8000000 in
set_option maxRecDepth 100000 in
theorem c_X5_addTube {l : Launch} {D : va_G} {y : Nat} {ν : Mem} {ρ : Nat} (h1 : 1 ≤ ρ) (h3 : ρ ≤ 3) {g : Row} (a1 : Int32) (a2 : Int32) {r : Int32 × Row} (hf : f_X5_addTube g a1 a2 = some r) : CM l yX5_addTube wsX5_addTube rmX5_addTube [.ref (y + ρ), .int a1, .int a2] D y (va_up ν ρ g) (some (.int r.1)) (va_up ν ρ r.2) := by
  refine CM.of (cc := cX5_addTube) (maxL := 4) (ret := (some .int)) pn_X5 rfl (Nat.le_of_ble_eq_true rfl) ?_
  intro p e s m args below meth c F hr hlk hK
  intro ls H locs hl hP hS
  have hl : lv_has ls 4 [(0, .ref (y + ρ)), (1, .int a1), (2, .int a2)] := hl
  unfold f_X5_addTube at hf
  refine lv_aload_n F.1 F.2.1 dX5_addTube_0 rfl (lv_at hl 0 rfl) ?_
  refine lv_sipush (v := (197 : Int32)) F.1 F.2.1 dX5_addTube_1 (by decide) ?_
  refine m_iald F hK hP (o := ρ) (by omega) (mu_at _ _ _) (fun f => mkM_row h1 h3 D y f) (lnM_row h1 h3) (by decide) dX5_addTube_4 ?_
  refine lv_istore_n F.1 F.2.1 dX5_addTube_5 rfl hl (Nat.le_of_ble_eq_true rfl) rfl (fun ls hl => ?_)
  have hl : lv_has ls 4 [(3, .int (g (197 : Int32).toNatClampNeg)), (0, .ref (y + ρ)), (1, .int a1), (2, .int a2)] := hl
  refine lv_aload_n F.1 F.2.1 dX5_addTube_6 rfl (lv_at hl 1 rfl) ?_
  refine lv_sipush (v := (140 : Int32)) F.1 F.2.1 dX5_addTube_7 (by decide) ?_
  refine lv_iconst (v := (2 : Int32)) F.1 F.2.1 dX5_addTube_10 (by decide) ?_
  refine lv_iload_n F.1 F.2.1 dX5_addTube_11 rfl (lv_at hl 0 rfl) ?_
  refine lv_imul F.1 F.2.1 dX5_addTube_12 ?_
  refine lv_iadd F.1 F.2.1 dX5_addTube_13 ?_
  refine lv_iload_n F.1 F.2.1 dX5_addTube_14 rfl (lv_at hl 2 rfl) ?_
  obtain ⟨hb1, hf⟩ := ifg hf
  refine m_iast F hK hP hS (by omega) (fun f => mkM_row h1 h3 D y f) (lnM_row h1 h3) hb1 dX5_addTube_15 (fun H locs hP hS => ?_)
  refine lv_aload_n F.1 F.2.1 dX5_addTube_16 rfl (lv_at hl 1 rfl) ?_
  refine lv_sipush (v := (140 : Int32)) F.1 F.2.1 dX5_addTube_17 (by decide) ?_
  refine lv_iconst (v := (2 : Int32)) F.1 F.2.1 dX5_addTube_20 (by decide) ?_
  refine lv_iload_n F.1 F.2.1 dX5_addTube_21 rfl (lv_at hl 0 rfl) ?_
  refine lv_imul F.1 F.2.1 dX5_addTube_22 ?_
  refine lv_iadd F.1 F.2.1 dX5_addTube_23 ?_
  refine lv_iconst (v := (1 : Int32)) F.1 F.2.1 dX5_addTube_24 (by decide) ?_
  refine lv_iadd F.1 F.2.1 dX5_addTube_25 ?_
  refine lv_iload_n F.1 F.2.1 dX5_addTube_26 rfl (lv_at hl 3 rfl) ?_
  obtain ⟨hb2, hf⟩ := ifg hf
  refine m_iast F hK hP hS (by omega) (fun f => mkM_row h1 h3 D y f) (lnM_row h1 h3) hb2 dX5_addTube_27 (fun H locs hP hS => ?_)
  refine lv_aload_n F.1 F.2.1 dX5_addTube_28 rfl (lv_at hl 1 rfl) ?_
  refine lv_sipush (v := (197 : Int32)) F.1 F.2.1 dX5_addTube_29 (by decide) ?_
  refine lv_dup2_11 F.1 F.2.1 dX5_addTube_32 rfl rfl ?_
  refine m_iald F hK hP (o := ρ) (by omega) (mu_at _ _ _) (fun f => mkM_row h1 h3 D y f) (lnM_row h1 h3) (by decide) dX5_addTube_33 ?_
  refine lv_iconst (v := (1 : Int32)) F.1 F.2.1 dX5_addTube_34 (by decide) ?_
  refine lv_iadd F.1 F.2.1 dX5_addTube_35 ?_
  refine m_iast F hK hP hS (by omega) (fun f => mkM_row h1 h3 D y f) (lnM_row h1 h3) (by decide) dX5_addTube_36 (fun H locs hP hS => ?_)
  refine lv_iload_n F.1 F.2.1 dX5_addTube_37 rfl (lv_at hl 0 rfl) ?_
  obtain rfl := Option.some.inj hf
  exact m_iret F hr hlk hP hS rfl dX5_addTube_38

-- FrostTubesModel.canLay([III)Z
def f_X5_canLay (g : Row) (a1 : Int32) (a2 : Int32) : Option (Int32) := ((f_X5_frozen g a1 a2).bind fun r1 => (if r1 = 0 then (if (8 : Int32) ≤ (g (198 : Int32).toNatClampNeg) then some (0 : Int32) else some (1 : Int32)) else some (0 : Int32)))
def rmX5_canLay : Room := { frames := 2, cells := 0, slots := 0, locals := 43 }
theorem hd_X5_canLay : yX5_canLay.cls ≠ "java/lang/invoke/MethodHandle" ∧ yX5_canLay.cls ≠ "java/lang/invoke/VarHandle" ∧ (parseMethodDescriptor yX5_canLay.desc).map (fun d => d.parameters.length) = some 3 := by decide +kernel
set_option maxHeartbeats 8000000 in
set_option maxRecDepth 100000 in
theorem c_X5_canLay {l : Launch} {D : va_G} {y : Nat} {ν : Mem} {ρ : Nat} (h1 : 1 ≤ ρ) (h3 : ρ ≤ 3) {g : Row} (hg : ν ρ = g) (a1 : Int32) (a2 : Int32) {r : Int32} (hf : f_X5_canLay g a1 a2 = some r) : CM l yX5_canLay wsX5_canLay rmX5_canLay [.ref (y + ρ), .int a1, .int a2] D y ν (some (.int r)) ν := by
  refine CM.of (cc := cX5_canLay) (maxL := 3) (ret := (some .boolean)) pn_X5 rfl (Nat.le_of_ble_eq_true rfl) ?_
  intro p e s m args below meth c F hr hlk hK
  intro ls H locs hl hP hS
  have hl : lv_has ls 3 [(0, .ref (y + ρ)), (1, .int a1), (2, .int a2)] := hl
  unfold f_X5_canLay at hf
  refine lv_aload_n F.1 F.2.1 dX5_canLay_0 rfl (lv_at hl 0 rfl) ?_
  refine lv_iload_n F.1 F.2.1 dX5_canLay_1 rfl (lv_at hl 1 rfl) ?_
  refine lv_iload_n F.1 F.2.1 dX5_canLay_2 rfl (lv_at hl 2 rfl) ?_
  obtain ⟨r1, hr2, hf⟩ := bnd hf
  refine m_callS F hK hP hS (c_X5_frozen h1 h3 hg a1 a2 hr2) (va_cwS 3 F.2.2.2.2 gX5_canLay_X5_frozen rfl rfl rfl hd_X5_frozen ⟨(Nat.le_of_ble_eq_true rfl), (Nat.le_of_ble_eq_true rfl)⟩) rfl rfl hl.1 (Nat.le_of_ble_eq_true rfl) dX5_canLay_3 ⟨(Nat.le_of_ble_eq_true rfl), (Nat.le_of_ble_eq_true rfl)⟩ (rest := []) (fun H locs hP hS => ?_)
  refine W.eq (g2 := F0 m 6 ls [.int r1]) rfl ?_
  refine lv_if_ne (tgt := 23) F.1 F.2.1 dX5_canLay_6 rfl (fun hc3 => ?_) (fun hc3 => ?_)
  · have hf := ifn hc3 hf
    refine lv_iconst (v := (0 : Int32)) F.1 F.2.1 dX5_canLay_23 (by decide) ?_
    obtain rfl := Option.some.inj hf
    exact m_zret F hr hlk hP hS rfl (b01_v (v := (0 : Int32)) (Or.inl rfl)) dX5_canLay_24
  · have hf := ifp hc3 hf
    refine lv_aload_n F.1 F.2.1 dX5_canLay_9 rfl (lv_at hl 0 rfl) ?_
    refine lv_sipush (v := (198 : Int32)) F.1 F.2.1 dX5_canLay_10 (by decide) ?_
    refine m_iald F hK hP (o := ρ) (by omega) hg (fun f => mkM_row h1 h3 D y f) (lnM_row h1 h3) (by decide) dX5_canLay_13 ?_
    refine lv_bipush (v := (8 : Int32)) F.1 F.2.1 dX5_canLay_14 (by decide) ?_
    refine lv_icmp_ge (tgt := 23) F.1 F.2.1 dX5_canLay_16 rfl (fun hc4 => ?_) (fun hc4 => ?_)
    · have hf := ifp hc4 hf
      refine lv_iconst (v := (0 : Int32)) F.1 F.2.1 dX5_canLay_23 (by decide) ?_
      obtain rfl := Option.some.inj hf
      exact m_zret F hr hlk hP hS rfl (b01_v (v := (0 : Int32)) (Or.inl rfl)) dX5_canLay_24
    · have hf := ifn hc4 hf
      refine lv_iconst (v := (1 : Int32)) F.1 F.2.1 dX5_canLay_19 (by decide) ?_
      refine lv_goto (tgt := 24) F.1 F.2.1 dX5_canLay_20 rfl ?_
      obtain rfl := Option.some.inj hf
      exact m_zret F hr hlk hP hS rfl (b01_v (v := (1 : Int32)) (Or.inr rfl)) dX5_canLay_24

-- FrostTubesModel.addPipe([III)I
def f_X5_addPipe (g : Row) (a1 : Int32) (a2 : Int32) : Option (Int32 × Row) := (if oob ((156 : Int32) + ((5 : Int32) * (g (198 : Int32).toNatClampNeg))) 205 then none else (if oob (((156 : Int32) + ((5 : Int32) * (g (198 : Int32).toNatClampNeg))) + (1 : Int32)) 205 then none else some ((((upd (upd (upd g (((156 : Int32) + ((5 : Int32) * (g (198 : Int32).toNatClampNeg))).toNatClampNeg) a1) ((((156 : Int32) + ((5 : Int32) * (g (198 : Int32).toNatClampNeg))) + (1 : Int32)).toNatClampNeg) a2) ((198 : Int32).toNatClampNeg) (((upd (upd g (((156 : Int32) + ((5 : Int32) * (g (198 : Int32).toNatClampNeg))).toNatClampNeg) a1) ((((156 : Int32) + ((5 : Int32) * (g (198 : Int32).toNatClampNeg))) + (1 : Int32)).toNatClampNeg) a2) (198 : Int32).toNatClampNeg) + (1 : Int32))) (198 : Int32).toNatClampNeg) - (1 : Int32)), (upd (upd (upd g (((156 : Int32) + ((5 : Int32) * (g (198 : Int32).toNatClampNeg))).toNatClampNeg) a1) ((((156 : Int32) + ((5 : Int32) * (g (198 : Int32).toNatClampNeg))) + (1 : Int32)).toNatClampNeg) a2) ((198 : Int32).toNatClampNeg) (((upd (upd g (((156 : Int32) + ((5 : Int32) * (g (198 : Int32).toNatClampNeg))).toNatClampNeg) a1) ((((156 : Int32) + ((5 : Int32) * (g (198 : Int32).toNatClampNeg))) + (1 : Int32)).toNatClampNeg) a2) (198 : Int32).toNatClampNeg) + (1 : Int32))))))
def rmX5_addPipe : Room := { frames := 0, cells := 0, slots := 0, locals := 0 }
theorem hd_X5_addPipe : yX5_addPipe.cls ≠ "java/lang/invoke/MethodHandle" ∧ yX5_addPipe.cls ≠ "java/lang/invoke/VarHandle" ∧ (parseMethodDescriptor yX5_addPipe.desc).map (fun d => d.parameters.length) = some 3 := by decide +kernel
set_option maxHeartbeats 8000000 in
set_option maxRecDepth 100000 in
theorem c_X5_addPipe {l : Launch} {D : va_G} {y : Nat} {ν : Mem} {ρ : Nat} (h1 : 1 ≤ ρ) (h3 : ρ ≤ 3) {g : Row} (a1 : Int32) (a2 : Int32) {r : Int32 × Row} (hf : f_X5_addPipe g a1 a2 = some r) : CM l yX5_addPipe wsX5_addPipe rmX5_addPipe [.ref (y + ρ), .int a1, .int a2] D y (va_up ν ρ g) (some (.int r.1)) (va_up ν ρ r.2) := by
  refine CM.of (cc := cX5_addPipe) (maxL := 4) (ret := (some .int)) pn_X5 rfl (Nat.le_of_ble_eq_true rfl) ?_
  intro p e s m args below meth c F hr hlk hK
  intro ls H locs hl hP hS
  have hl : lv_has ls 4 [(0, .ref (y + ρ)), (1, .int a1), (2, .int a2)] := hl
  unfold f_X5_addPipe at hf
  refine lv_sipush (v := (156 : Int32)) F.1 F.2.1 dX5_addPipe_0 (by decide) ?_
  refine lv_iconst (v := (5 : Int32)) F.1 F.2.1 dX5_addPipe_3 (by decide) ?_
  refine lv_aload_n F.1 F.2.1 dX5_addPipe_4 rfl (lv_at hl 0 rfl) ?_
  refine lv_sipush (v := (198 : Int32)) F.1 F.2.1 dX5_addPipe_5 (by decide) ?_
  refine m_iald F hK hP (o := ρ) (by omega) (mu_at _ _ _) (fun f => mkM_row h1 h3 D y f) (lnM_row h1 h3) (by decide) dX5_addPipe_8 ?_
  refine lv_imul F.1 F.2.1 dX5_addPipe_9 ?_
  refine lv_iadd F.1 F.2.1 dX5_addPipe_10 ?_
  refine lv_istore_n F.1 F.2.1 dX5_addPipe_11 rfl hl (Nat.le_of_ble_eq_true rfl) rfl (fun ls hl => ?_)
  have hl : lv_has ls 4 [(3, .int ((156 : Int32) + ((5 : Int32) * (g (198 : Int32).toNatClampNeg)))), (0, .ref (y + ρ)), (1, .int a1), (2, .int a2)] := hl
  refine lv_aload_n F.1 F.2.1 dX5_addPipe_12 rfl (lv_at hl 1 rfl) ?_
  refine lv_iload_n F.1 F.2.1 dX5_addPipe_13 rfl (lv_at hl 0 rfl) ?_
  refine lv_iload_n F.1 F.2.1 dX5_addPipe_14 rfl (lv_at hl 2 rfl) ?_
  obtain ⟨hb1, hf⟩ := ifg hf
  refine m_iast F hK hP hS (by omega) (fun f => mkM_row h1 h3 D y f) (lnM_row h1 h3) hb1 dX5_addPipe_15 (fun H locs hP hS => ?_)
  refine lv_aload_n F.1 F.2.1 dX5_addPipe_16 rfl (lv_at hl 1 rfl) ?_
  refine lv_iload_n F.1 F.2.1 dX5_addPipe_17 rfl (lv_at hl 0 rfl) ?_
  refine lv_iconst (v := (1 : Int32)) F.1 F.2.1 dX5_addPipe_18 (by decide) ?_
  refine lv_iadd F.1 F.2.1 dX5_addPipe_19 ?_
  refine lv_iload_n F.1 F.2.1 dX5_addPipe_20 rfl (lv_at hl 3 rfl) ?_
  obtain ⟨hb2, hf⟩ := ifg hf
  refine m_iast F hK hP hS (by omega) (fun f => mkM_row h1 h3 D y f) (lnM_row h1 h3) hb2 dX5_addPipe_21 (fun H locs hP hS => ?_)
  refine lv_aload_n F.1 F.2.1 dX5_addPipe_22 rfl (lv_at hl 1 rfl) ?_
  refine lv_sipush (v := (198 : Int32)) F.1 F.2.1 dX5_addPipe_23 (by decide) ?_
  refine lv_dup2_11 F.1 F.2.1 dX5_addPipe_26 rfl rfl ?_
  refine m_iald F hK hP (o := ρ) (by omega) (mu_at _ _ _) (fun f => mkM_row h1 h3 D y f) (lnM_row h1 h3) (by decide) dX5_addPipe_27 ?_
  refine lv_iconst (v := (1 : Int32)) F.1 F.2.1 dX5_addPipe_28 (by decide) ?_
  refine lv_iadd F.1 F.2.1 dX5_addPipe_29 ?_
  refine m_iast F hK hP hS (by omega) (fun f => mkM_row h1 h3 D y f) (lnM_row h1 h3) (by decide) dX5_addPipe_30 (fun H locs hP hS => ?_)
  refine lv_aload_n F.1 F.2.1 dX5_addPipe_31 rfl (lv_at hl 1 rfl) ?_
  refine lv_sipush (v := (198 : Int32)) F.1 F.2.1 dX5_addPipe_32 (by decide) ?_
  refine m_iald F hK hP (o := ρ) (by omega) (mu_at _ _ _) (fun f => mkM_row h1 h3 D y f) (lnM_row h1 h3) (by decide) dX5_addPipe_35 ?_
  refine lv_iconst (v := (1 : Int32)) F.1 F.2.1 dX5_addPipe_36 (by decide) ?_
  refine lv_isub F.1 F.2.1 dX5_addPipe_37 ?_
  obtain rfl := Option.some.inj hf
  exact m_iret F hr hlk hP hS rfl dX5_addPipe_38

-- FrostTubesModel.put([III)I
def f_X5_put (g : Row) (a1 : Int32) (a2 : Int32) : Option (Int32 × Row) := (if oob a1 205 then none else (if oob a1 205 then none else some ((g a1.toNatClampNeg), (upd g a1.toNatClampNeg a2))))
def rmX5_put : Room := { frames := 0, cells := 0, slots := 0, locals := 0 }
theorem hd_X5_put : yX5_put.cls ≠ "java/lang/invoke/MethodHandle" ∧ yX5_put.cls ≠ "java/lang/invoke/VarHandle" ∧ (parseMethodDescriptor yX5_put.desc).map (fun d => d.parameters.length) = some 3 := by decide +kernel
set_option maxHeartbeats 8000000 in
set_option maxRecDepth 100000 in
theorem c_X5_put {l : Launch} {D : va_G} {y : Nat} {ν : Mem} {ρ : Nat} (h1 : 1 ≤ ρ) (h3 : ρ ≤ 3) {g : Row} (a1 : Int32) (a2 : Int32) {r : Int32 × Row} (hf : f_X5_put g a1 a2 = some r) : CM l yX5_put wsX5_put rmX5_put [.ref (y + ρ), .int a1, .int a2] D y (va_up ν ρ g) (some (.int r.1)) (va_up ν ρ r.2) := by
  refine CM.of (cc := cX5_put) (maxL := 4) (ret := (some .int)) pn_X5 rfl (Nat.le_of_ble_eq_true rfl) ?_
  intro p e s m args below meth c F hr hlk hK
  intro ls H locs hl hP hS
  have hl : lv_has ls 4 [(0, .ref (y + ρ)), (1, .int a1), (2, .int a2)] := hl
  unfold f_X5_put at hf
  refine lv_aload_n F.1 F.2.1 dX5_put_0 rfl (lv_at hl 0 rfl) ?_
  refine lv_iload_n F.1 F.2.1 dX5_put_1 rfl (lv_at hl 1 rfl) ?_
  obtain ⟨hb1, hf⟩ := ifg hf
  refine m_iald F hK hP (o := ρ) (by omega) (mu_at _ _ _) (fun f => mkM_row h1 h3 D y f) (lnM_row h1 h3) hb1 dX5_put_2 ?_
  refine lv_istore_n F.1 F.2.1 dX5_put_3 rfl hl (Nat.le_of_ble_eq_true rfl) rfl (fun ls hl => ?_)
  have hl : lv_has ls 4 [(3, .int (g a1.toNatClampNeg)), (0, .ref (y + ρ)), (1, .int a1), (2, .int a2)] := hl
  refine lv_aload_n F.1 F.2.1 dX5_put_4 rfl (lv_at hl 1 rfl) ?_
  refine lv_iload_n F.1 F.2.1 dX5_put_5 rfl (lv_at hl 2 rfl) ?_
  refine lv_iload_n F.1 F.2.1 dX5_put_6 rfl (lv_at hl 3 rfl) ?_
  obtain ⟨hb2, hf⟩ := ifg hf
  refine m_iast F hK hP hS (by omega) (fun f => mkM_row h1 h3 D y f) (lnM_row h1 h3) hb2 dX5_put_7 (fun H locs hP hS => ?_)
  refine lv_iload_n F.1 F.2.1 dX5_put_8 rfl (lv_at hl 0 rfl) ?_
  obtain rfl := Option.some.inj hf
  exact m_iret F hr hlk hP hS rfl dX5_put_9

-- FrostTubesModel.beginWinter([I)I
def fb_X5_beginWinter_1  (K : Row → Int32 → Int32 → Option (Int32 × Row)) (g : Row) (v1 : Int32) (v2 : Int32) : Option (Int32 × Row) := (if (g (196 : Int32).toNatClampNeg) ≤ v2 then (if v1 ≤ ((upd g ((200 : Int32).toNatClampNeg) ((g (200 : Int32).toNatClampNeg) + (1 : Int32))) (201 : Int32).toNatClampNeg) then some (v1, (upd (upd g ((200 : Int32).toNatClampNeg) ((g (200 : Int32).toNatClampNeg) + (1 : Int32))) ((201 : Int32).toNatClampNeg) ((upd g ((200 : Int32).toNatClampNeg) ((g (200 : Int32).toNatClampNeg) + (1 : Int32))) (201 : Int32).toNatClampNeg))) else some (v1, (upd (upd g ((200 : Int32).toNatClampNeg) ((g (200 : Int32).toNatClampNeg) + (1 : Int32))) ((201 : Int32).toNatClampNeg) v1))) else ((f_X5_put g (((35 : Int32) * v2) + (4 : Int32)) (0 : Int32)).bind fun r3 => (if r3.1 ≤ v1 then (K r3.2 v1 (v2 + (1 : Int32))) else (K r3.2 r3.1 (v2 + (1 : Int32))))))
def fl_X5_beginWinter  : Nat → Row → Int32 → Int32 → Option (Int32 × Row)
  | 0, _, _, _ => none
  | n + 1, g, v1, v2 => fb_X5_beginWinter_1  (fl_X5_beginWinter  n) g v1 v2
def f_X5_beginWinter (g : Row) : Option (Int32 × Row) := (fl_X5_beginWinter  FU g (0 : Int32) (0 : Int32))
def rmX5_beginWinter : Room := { frames := 1, cells := 0, slots := 0, locals := 23 }
theorem hd_X5_beginWinter : yX5_beginWinter.cls ≠ "java/lang/invoke/MethodHandle" ∧ yX5_beginWinter.cls ≠ "java/lang/invoke/VarHandle" ∧ (parseMethodDescriptor yX5_beginWinter.desc).map (fun d => d.parameters.length) = some 1 := by decide +kernel
set_option maxHeartbeats 8000000 in
set_option maxRecDepth 100000 in
theorem c_X5_beginWinter {l : Launch} {D : va_G} {y : Nat} {ν : Mem} {ρ : Nat} (h1 : 1 ≤ ρ) (h3 : ρ ≤ 3) {g : Row} {r : Int32 × Row} (hf : f_X5_beginWinter g = some r) : CM l yX5_beginWinter wsX5_beginWinter rmX5_beginWinter [.ref (y + ρ)] D y (va_up ν ρ g) (some (.int r.1)) (va_up ν ρ r.2) := by
  refine CM.of (cc := cX5_beginWinter) (maxL := 4) (ret := (some .int)) pn_X5 rfl (Nat.le_of_ble_eq_true rfl) ?_
  intro p e s m args below meth c F hr hlk hK
  have KEY : ∀ n : Nat, (∀ (g : Row) (v1 : Int32) (v2 : Int32) (ls : Array Slot) (H : Heap) (locs : List Loc), lv_has ls 4 [(0, .ref (y + ρ)), (1, .int v1), (2, .int v2)] → va_P D vwCl (WM D y (va_up ν ρ g)) H → va_S (rngM y) s.heap H locs → fl_X5_beginWinter  n g v1 v2 = some r → W p l e rmX5_beginWinter s m args below meth c H locs 0 0 (MQ below (QM D y (va_up ν ρ r.2) (some (.int r.1))) args s 0 0 (rngM y)) (F0 m 4 ls [])) := by
    intro n
    induction n with
    | zero => exact (fun _ _ _ _ _ _ _ _ _ h => nomatch h)
    | succ n ih =>
      skip
      intro g v1 v2  ls H locs hl hP hS hf
      have hf : fb_X5_beginWinter_1  (fl_X5_beginWinter  n) g v1 v2 = some r := hf
      unfold fb_X5_beginWinter_1 at hf
      refine lv_iload_n F.1 F.2.1 dX5_beginWinter_4 rfl (lv_at hl 2 rfl) ?_
      refine lv_aload_n F.1 F.2.1 dX5_beginWinter_5 rfl (lv_at hl 0 rfl) ?_
      refine lv_sipush (v := (196 : Int32)) F.1 F.2.1 dX5_beginWinter_6 (by decide) ?_
      refine m_iald F hK hP (o := ρ) (by omega) (mu_at _ _ _) (fun f => mkM_row h1 h3 D y f) (lnM_row h1 h3) (by decide) dX5_beginWinter_9 ?_
      refine lv_icmp_ge (tgt := 42) F.1 F.2.1 dX5_beginWinter_10 rfl (fun hc1 => ?_) (fun hc1 => ?_)
      · have hf := ifp hc1 hf
        refine lv_aload_n F.1 F.2.1 dX5_beginWinter_42 rfl (lv_at hl 0 rfl) ?_
        refine lv_sipush (v := (200 : Int32)) F.1 F.2.1 dX5_beginWinter_43 (by decide) ?_
        refine lv_dup2_11 F.1 F.2.1 dX5_beginWinter_46 rfl rfl ?_
        refine m_iald F hK hP (o := ρ) (by omega) (mu_at _ _ _) (fun f => mkM_row h1 h3 D y f) (lnM_row h1 h3) (by decide) dX5_beginWinter_47 ?_
        refine lv_iconst (v := (1 : Int32)) F.1 F.2.1 dX5_beginWinter_48 (by decide) ?_
        refine lv_iadd F.1 F.2.1 dX5_beginWinter_49 ?_
        refine m_iast F hK hP hS (by omega) (fun f => mkM_row h1 h3 D y f) (lnM_row h1 h3) (by decide) dX5_beginWinter_50 (fun H locs hP hS => ?_)
        refine lv_aload_n F.1 F.2.1 dX5_beginWinter_51 rfl (lv_at hl 0 rfl) ?_
        refine lv_sipush (v := (201 : Int32)) F.1 F.2.1 dX5_beginWinter_52 (by decide) ?_
        refine lv_iload_n F.1 F.2.1 dX5_beginWinter_55 rfl (lv_at hl 1 rfl) ?_
        refine lv_aload_n F.1 F.2.1 dX5_beginWinter_56 rfl (lv_at hl 0 rfl) ?_
        refine lv_sipush (v := (201 : Int32)) F.1 F.2.1 dX5_beginWinter_57 (by decide) ?_
        refine m_iald F hK hP (o := ρ) (by omega) (mu_at _ _ _) (fun f => mkM_row h1 h3 D y f) (lnM_row h1 h3) (by decide) dX5_beginWinter_60 ?_
        refine lv_icmp_le (tgt := 68) F.1 F.2.1 dX5_beginWinter_61 rfl (fun hc2 => ?_) (fun hc2 => ?_)
        · have hf := ifp hc2 hf
          refine lv_aload_n F.1 F.2.1 dX5_beginWinter_68 rfl (lv_at hl 0 rfl) ?_
          refine lv_sipush (v := (201 : Int32)) F.1 F.2.1 dX5_beginWinter_69 (by decide) ?_
          refine m_iald F hK hP (o := ρ) (by omega) (mu_at _ _ _) (fun f => mkM_row h1 h3 D y f) (lnM_row h1 h3) (by decide) dX5_beginWinter_72 ?_
          refine m_iast F hK hP hS (by omega) (fun f => mkM_row h1 h3 D y f) (lnM_row h1 h3) (by decide) dX5_beginWinter_73 (fun H locs hP hS => ?_)
          refine lv_iload_n F.1 F.2.1 dX5_beginWinter_74 rfl (lv_at hl 1 rfl) ?_
          obtain rfl := Option.some.inj hf
          exact m_iret F hr hlk hP hS rfl dX5_beginWinter_75
        · have hf := ifn hc2 hf
          refine lv_iload_n F.1 F.2.1 dX5_beginWinter_64 rfl (lv_at hl 1 rfl) ?_
          refine lv_goto (tgt := 73) F.1 F.2.1 dX5_beginWinter_65 rfl ?_
          refine m_iast F hK hP hS (by omega) (fun f => mkM_row h1 h3 D y f) (lnM_row h1 h3) (by decide) dX5_beginWinter_73 (fun H locs hP hS => ?_)
          refine lv_iload_n F.1 F.2.1 dX5_beginWinter_74 rfl (lv_at hl 1 rfl) ?_
          obtain rfl := Option.some.inj hf
          exact m_iret F hr hlk hP hS rfl dX5_beginWinter_75
      · have hf := ifn hc1 hf
        refine lv_aload_n F.1 F.2.1 dX5_beginWinter_13 rfl (lv_at hl 0 rfl) ?_
        refine lv_bipush (v := (35 : Int32)) F.1 F.2.1 dX5_beginWinter_14 (by decide) ?_
        refine lv_iload_n F.1 F.2.1 dX5_beginWinter_16 rfl (lv_at hl 2 rfl) ?_
        refine lv_imul F.1 F.2.1 dX5_beginWinter_17 ?_
        refine lv_iconst (v := (4 : Int32)) F.1 F.2.1 dX5_beginWinter_18 (by decide) ?_
        refine lv_iadd F.1 F.2.1 dX5_beginWinter_19 ?_
        refine lv_iconst (v := (0 : Int32)) F.1 F.2.1 dX5_beginWinter_20 (by decide) ?_
        obtain ⟨r3, hr4, hf⟩ := bnd hf
        refine m_callS F hK hP hS (c_X5_put h1 h3 (((35 : Int32) * v2) + (4 : Int32)) (0 : Int32) hr4) (va_cwS 3 F.2.2.2.2 gX5_beginWinter_X5_put rfl rfl rfl hd_X5_put ⟨(Nat.le_of_ble_eq_true rfl), (Nat.le_of_ble_eq_true rfl)⟩) rfl rfl hl.1 (Nat.le_of_ble_eq_true rfl) dX5_beginWinter_21 ⟨(Nat.le_of_ble_eq_true rfl), (Nat.le_of_ble_eq_true rfl)⟩ (rest := []) (fun H locs hP hS => ?_)
        refine W.eq (g2 := F0 m 24 ls [.int r3.1]) rfl ?_
        refine lv_istore_n F.1 F.2.1 dX5_beginWinter_24 rfl hl (Nat.le_of_ble_eq_true rfl) rfl (fun ls hl => ?_)
        have hl : lv_has ls 4 [(3, .int r3.1), (0, .ref (y + ρ)), (1, .int v1), (2, .int v2)] := hl
        refine lv_iload_n F.1 F.2.1 dX5_beginWinter_25 rfl (lv_at hl 0 rfl) ?_
        refine lv_iload_n F.1 F.2.1 dX5_beginWinter_26 rfl (lv_at hl 2 rfl) ?_
        refine lv_icmp_le (tgt := 34) F.1 F.2.1 dX5_beginWinter_27 rfl (fun hc5 => ?_) (fun hc5 => ?_)
        · have hf := ifp hc5 hf
          refine lv_iload_n F.1 F.2.1 dX5_beginWinter_34 rfl (lv_at hl 2 rfl) ?_
          refine lv_istore_n F.1 F.2.1 dX5_beginWinter_35 rfl hl (Nat.le_of_ble_eq_true rfl) rfl (fun ls hl => ?_)
          have hl : lv_has ls 4 [(1, .int v1), (3, .int r3.1), (0, .ref (y + ρ)), (2, .int v2)] := hl
          refine lv_iinc (v := (v2 + (1 : Int32))) F.1 F.2.1 dX5_beginWinter_36 hl (k := 3) rfl rfl (Nat.le_of_ble_eq_true rfl) rfl (fun ls hl => ?_)
          have hl : lv_has ls 4 [(2, .int (v2 + (1 : Int32))), (1, .int v1), (3, .int r3.1), (0, .ref (y + ρ))] := hl
          refine lv_goto (tgt := 4) F.1 F.2.1 dX5_beginWinter_39 rfl ?_
          exact ih r3.2 v1 (v2 + (1 : Int32)) _ _ _ (lv_sub hl [3, 1, 0] rfl) hP hS hf
        · have hf := ifn hc5 hf
          refine lv_iload_n F.1 F.2.1 dX5_beginWinter_30 rfl (lv_at hl 0 rfl) ?_
          refine lv_goto (tgt := 35) F.1 F.2.1 dX5_beginWinter_31 rfl ?_
          refine lv_istore_n F.1 F.2.1 dX5_beginWinter_35 rfl hl (Nat.le_of_ble_eq_true rfl) rfl (fun ls hl => ?_)
          have hl : lv_has ls 4 [(1, .int r3.1), (3, .int r3.1), (0, .ref (y + ρ)), (2, .int v2)] := hl
          refine lv_iinc (v := (v2 + (1 : Int32))) F.1 F.2.1 dX5_beginWinter_36 hl (k := 3) rfl rfl (Nat.le_of_ble_eq_true rfl) rfl (fun ls hl => ?_)
          have hl : lv_has ls 4 [(2, .int (v2 + (1 : Int32))), (1, .int r3.1), (3, .int r3.1), (0, .ref (y + ρ))] := hl
          refine lv_goto (tgt := 4) F.1 F.2.1 dX5_beginWinter_39 rfl ?_
          exact ih r3.2 r3.1 (v2 + (1 : Int32)) _ _ _ (lv_sub hl [3, 1, 0] rfl) hP hS hf
  intro ls H locs hl hP hS
  have hl : lv_has ls 4 [(0, .ref (y + ρ))] := hl
  unfold f_X5_beginWinter at hf
  refine lv_iconst (v := (0 : Int32)) F.1 F.2.1 dX5_beginWinter_0 (by decide) ?_
  refine lv_istore_n F.1 F.2.1 dX5_beginWinter_1 rfl hl (Nat.le_of_ble_eq_true rfl) rfl (fun ls hl => ?_)
  have hl : lv_has ls 4 [(1, .int (0 : Int32)), (0, .ref (y + ρ))] := hl
  refine lv_iconst (v := (0 : Int32)) F.1 F.2.1 dX5_beginWinter_2 (by decide) ?_
  refine lv_istore_n F.1 F.2.1 dX5_beginWinter_3 rfl hl (Nat.le_of_ble_eq_true rfl) rfl (fun ls hl => ?_)
  have hl : lv_has ls 4 [(2, .int (0 : Int32)), (1, .int (0 : Int32)), (0, .ref (y + ρ))] := hl
  exact (KEY FU) g (0 : Int32) (0 : Int32) _ _ _ (lv_sub hl [2, 1, 0] rfl) hP hS hf

-- FrostTubesModel.remember()V
def fb_X5_remember_1  (K : Nat → Mem → Int32 → Option (Mem)) (ν : Mem) (v1 : Int32) : Option (Mem) := (if (205 : Int32) ≤ v1 then some (va_up ν 0 (upd (ν 0) 5 (((ν 0) 5) + (1 : Int32)))) else (if oob v1 205 then none else (if oob (((205 : Int32) * ((ν 0) 5)) + v1) 2870 then none else (K 1 (va_up ν 4 (upd (ν 4) ((((205 : Int32) * ((ν 0) 5)) + v1).toNatClampNeg) ((ν 1) v1.toNatClampNeg))) (v1 + (1 : Int32))))))
def fb_X5_remember_2  (K : Nat → Mem → Int32 → Option (Mem)) (ν : Mem) (v1 : Int32) : Option (Mem) := (if (2665 : Int32) ≤ v1 then (K 1 (va_up ν 0 (upd (ν 0) 5 (((ν 0) 5) - (1 : Int32)))) (0 : Int32)) else (if oob ((205 : Int32) + v1) 2870 then none else (if oob v1 2870 then none else (K 2 (va_up ν 4 (upd (ν 4) v1.toNatClampNeg ((ν 4) ((205 : Int32) + v1).toNatClampNeg))) (v1 + (1 : Int32))))))
def fl_X5_remember  : Nat → Nat → Mem → Int32 → Option (Mem)
  | 0, _, _, _ => none
  | n + 1, lab, ν, v1 => match lab with
    | 1 => fb_X5_remember_1  (fl_X5_remember  n) ν v1
    | _ => fb_X5_remember_2  (fl_X5_remember  n) ν v1
def f_X5_remember (ν : Mem) : Option (Mem) := (if ((ν 0) 5) = (14 : Int32) then (fl_X5_remember  FU 2 ν (0 : Int32)) else (fl_X5_remember  FU 1 ν (0 : Int32)))
def rmX5_remember : Room := { frames := 0, cells := 0, slots := 0, locals := 0 }
theorem hd_X5_remember : yX5_remember.cls ≠ "java/lang/invoke/MethodHandle" ∧ yX5_remember.cls ≠ "java/lang/invoke/VarHandle" ∧ (parseMethodDescriptor yX5_remember.desc).map (fun d => d.parameters.length) = some 0 := by decide +kernel
set_option maxHeartbeats 8000000 in
set_option maxRecDepth 100000 in
theorem c_X5_remember {l : Launch} {D : va_G} {y : Nat} {ν : Mem} {r : Mem} (hf : f_X5_remember ν = some r) : CM l yX5_remember wsX5_remember rmX5_remember [.ref (y)] D y ν (none) r := by
  refine CM.of (cc := cX5_remember) (maxL := 2) (ret := none) pn_X5 rfl (Nat.le_of_ble_eq_true rfl) ?_
  intro p e s m args below meth c F hr hlk hK
  have KEY : ∀ n : Nat, (∀ (ν : Mem) (v1 : Int32) (ls : Array Slot) (H : Heap) (locs : List Loc), lv_has ls 2 [(0, .ref (y)), (1, .int v1)] → va_P D vwCl (WM D y ν) H → va_S (rngM y) s.heap H locs → fl_X5_remember  n 1 ν v1 = some r → W p l e rmX5_remember s m args below meth c H locs 0 0 (MQ below (QM D y r (none)) args s 0 0 (rngM y)) (F0 m 52 ls [])) ∧ (∀ (ν : Mem) (v1 : Int32) (ls : Array Slot) (H : Heap) (locs : List Loc), lv_has ls 2 [(0, .ref (y)), (1, .int v1)] → va_P D vwCl (WM D y ν) H → va_S (rngM y) s.heap H locs → fl_X5_remember  n 2 ν v1 = some r → W p l e rmX5_remember s m args below meth c H locs 0 0 (MQ below (QM D y r (none)) args s 0 0 (rngM y)) (F0 m 11 ls [])) := by
    intro n
    induction n with
    | zero => exact ⟨(fun _ _ _ _ _ _ _ _ h => nomatch h), (fun _ _ _ _ _ _ _ _ h => nomatch h)⟩
    | succ n ih =>
      refine ⟨?_, ?_⟩
      · intro ν v1  ls H locs hl hP hS hf
        have hf : fb_X5_remember_1  (fl_X5_remember  n) ν v1 = some r := hf
        unfold fb_X5_remember_1 at hf
        refine lv_iload_n F.1 F.2.1 dX5_remember_52 rfl (lv_at hl 1 rfl) ?_
        refine lv_sipush (v := (205 : Int32)) F.1 F.2.1 dX5_remember_53 (by decide) ?_
        refine lv_icmp_ge (tgt := 86) F.1 F.2.1 dX5_remember_56 rfl (fun hc2 => ?_) (fun hc2 => ?_)
        · have hf := ifp hc2 hf
          refine lv_aload_n F.1 F.2.1 dX5_remember_86 rfl (lv_at hl 0 rfl) ?_
          refine lv_dup F.1 F.2.1 dX5_remember_87 rfl ?_
          refine m_getI F hK hP rfl (fun _ h => List.mem_cons_of_mem _ (List.mem_append_right _ h)) 5 (Nat.le_of_ble_eq_true rfl) (List.mem_of_getElem? (i := 1) rfl) rfl (fun _ => rfl) dX5_remember_88 ?_
          refine lv_iconst (v := (1 : Int32)) F.1 F.2.1 dX5_remember_91 (by decide) ?_
          refine lv_iadd F.1 F.2.1 dX5_remember_92 ?_
          have hP := m_up 0 hP
          refine m_putI F hK hP hS (fun _ h => List.mem_cons_of_mem _ (List.mem_append_right _ h)) 5 (Nat.le_of_ble_eq_true rfl) (List.mem_of_getElem? (i := 1) rfl) rfl rfl (ty := .int) rfl rfl rfl (fun _ _ => rfl) dX5_remember_93 (fun H locs hP hS => ?_)
          obtain rfl := Option.some.inj hf
          exact m_vret F hr hlk hP hS rfl dX5_remember_96
        · have hf := ifn hc2 hf
          refine lv_aload_n F.1 F.2.1 dX5_remember_59 rfl (lv_at hl 0 rfl) ?_
          refine m_getR F hK hP (fun _ h => List.mem_cons_of_mem _ (List.mem_append_right _ h)) 4 (Nat.le_of_ble_eq_true rfl) (List.mem_of_getElem? (i := 2) rfl) rfl (v := .ref (y + 4)) (fun _ => rfl) dX5_remember_60 ?_
          refine lv_sipush (v := (205 : Int32)) F.1 F.2.1 dX5_remember_63 (by decide) ?_
          refine lv_aload_n F.1 F.2.1 dX5_remember_66 rfl (lv_at hl 0 rfl) ?_
          refine m_getI F hK hP rfl (fun _ h => List.mem_cons_of_mem _ (List.mem_append_right _ h)) 5 (Nat.le_of_ble_eq_true rfl) (List.mem_of_getElem? (i := 1) rfl) rfl (fun _ => rfl) dX5_remember_67 ?_
          refine lv_imul F.1 F.2.1 dX5_remember_70 ?_
          refine lv_iload_n F.1 F.2.1 dX5_remember_71 rfl (lv_at hl 1 rfl) ?_
          refine lv_iadd F.1 F.2.1 dX5_remember_72 ?_
          refine lv_aload_n F.1 F.2.1 dX5_remember_73 rfl (lv_at hl 0 rfl) ?_
          refine m_getR F hK hP (fun _ h => List.mem_cons_of_mem _ (List.mem_append_right _ h)) 1 (Nat.le_of_ble_eq_true rfl) (List.mem_of_getElem? (i := 3) rfl) rfl (v := .ref (y + 1)) (fun _ => rfl) dX5_remember_74 ?_
          refine lv_iload_n F.1 F.2.1 dX5_remember_77 rfl (lv_at hl 1 rfl) ?_
          obtain ⟨hb3, hf⟩ := ifg hf
          refine m_iald F hK hP (o := 1) (by decide) rfl (fun _ => rfl) rfl hb3 dX5_remember_78 ?_
          obtain ⟨hb4, hf⟩ := ifg hf
          have hP := m_up 4 hP
          refine m_iast F hK hP hS (by decide) (fun _ => rfl) rfl hb4 dX5_remember_79 (fun H locs hP hS => ?_)
          refine lv_iinc (v := (v1 + (1 : Int32))) F.1 F.2.1 dX5_remember_80 hl (k := 1) rfl rfl (Nat.le_of_ble_eq_true rfl) rfl (fun ls hl => ?_)
          have hl : lv_has ls 2 [(1, .int (v1 + (1 : Int32))), (0, .ref (y))] := hl
          refine lv_goto (tgt := 52) F.1 F.2.1 dX5_remember_83 rfl ?_
          exact ih.1 (va_up ν 4 (upd (ν 4) ((((205 : Int32) * ((ν 0) 5)) + v1).toNatClampNeg) ((ν 1) v1.toNatClampNeg))) (v1 + (1 : Int32)) _ _ _ (lv_sub hl [1, 0] rfl) hP hS hf
      · intro ν v1  ls H locs hl hP hS hf
        have hf : fb_X5_remember_2  (fl_X5_remember  n) ν v1 = some r := hf
        unfold fb_X5_remember_2 at hf
        refine lv_iload_n F.1 F.2.1 dX5_remember_11 rfl (lv_at hl 1 rfl) ?_
        refine lv_sipush (v := (2665 : Int32)) F.1 F.2.1 dX5_remember_12 (by decide) ?_
        refine lv_icmp_ge (tgt := 40) F.1 F.2.1 dX5_remember_15 rfl (fun hc5 => ?_) (fun hc5 => ?_)
        · have hf := ifp hc5 hf
          refine lv_aload_n F.1 F.2.1 dX5_remember_40 rfl (lv_at hl 0 rfl) ?_
          refine lv_dup F.1 F.2.1 dX5_remember_41 rfl ?_
          refine m_getI F hK hP rfl (fun _ h => List.mem_cons_of_mem _ (List.mem_append_right _ h)) 5 (Nat.le_of_ble_eq_true rfl) (List.mem_of_getElem? (i := 1) rfl) rfl (fun _ => rfl) dX5_remember_42 ?_
          refine lv_iconst (v := (1 : Int32)) F.1 F.2.1 dX5_remember_45 (by decide) ?_
          refine lv_isub F.1 F.2.1 dX5_remember_46 ?_
          have hP := m_up 0 hP
          refine m_putI F hK hP hS (fun _ h => List.mem_cons_of_mem _ (List.mem_append_right _ h)) 5 (Nat.le_of_ble_eq_true rfl) (List.mem_of_getElem? (i := 1) rfl) rfl rfl (ty := .int) rfl rfl rfl (fun _ _ => rfl) dX5_remember_47 (fun H locs hP hS => ?_)
          refine lv_iconst (v := (0 : Int32)) F.1 F.2.1 dX5_remember_50 (by decide) ?_
          refine lv_istore_n F.1 F.2.1 dX5_remember_51 rfl hl (Nat.le_of_ble_eq_true rfl) rfl (fun ls hl => ?_)
          have hl : lv_has ls 2 [(1, .int (0 : Int32)), (0, .ref (y))] := hl
          exact ih.1 (va_up ν 0 (upd (ν 0) 5 (((ν 0) 5) - (1 : Int32)))) (0 : Int32) _ _ _ (lv_sub hl [1, 0] rfl) hP hS hf
        · have hf := ifn hc5 hf
          refine lv_aload_n F.1 F.2.1 dX5_remember_18 rfl (lv_at hl 0 rfl) ?_
          refine m_getR F hK hP (fun _ h => List.mem_cons_of_mem _ (List.mem_append_right _ h)) 4 (Nat.le_of_ble_eq_true rfl) (List.mem_of_getElem? (i := 2) rfl) rfl (v := .ref (y + 4)) (fun _ => rfl) dX5_remember_19 ?_
          refine lv_iload_n F.1 F.2.1 dX5_remember_22 rfl (lv_at hl 1 rfl) ?_
          refine lv_aload_n F.1 F.2.1 dX5_remember_23 rfl (lv_at hl 0 rfl) ?_
          refine m_getR F hK hP (fun _ h => List.mem_cons_of_mem _ (List.mem_append_right _ h)) 4 (Nat.le_of_ble_eq_true rfl) (List.mem_of_getElem? (i := 2) rfl) rfl (v := .ref (y + 4)) (fun _ => rfl) dX5_remember_24 ?_
          refine lv_sipush (v := (205 : Int32)) F.1 F.2.1 dX5_remember_27 (by decide) ?_
          refine lv_iload_n F.1 F.2.1 dX5_remember_30 rfl (lv_at hl 1 rfl) ?_
          refine lv_iadd F.1 F.2.1 dX5_remember_31 ?_
          obtain ⟨hb6, hf⟩ := ifg hf
          refine m_iald F hK hP (o := 4) (by decide) rfl (fun _ => rfl) rfl hb6 dX5_remember_32 ?_
          obtain ⟨hb7, hf⟩ := ifg hf
          have hP := m_up 4 hP
          refine m_iast F hK hP hS (by decide) (fun _ => rfl) rfl hb7 dX5_remember_33 (fun H locs hP hS => ?_)
          refine lv_iinc (v := (v1 + (1 : Int32))) F.1 F.2.1 dX5_remember_34 hl (k := 1) rfl rfl (Nat.le_of_ble_eq_true rfl) rfl (fun ls hl => ?_)
          have hl : lv_has ls 2 [(1, .int (v1 + (1 : Int32))), (0, .ref (y))] := hl
          refine lv_goto (tgt := 11) F.1 F.2.1 dX5_remember_37 rfl ?_
          exact ih.2 (va_up ν 4 (upd (ν 4) v1.toNatClampNeg ((ν 4) ((205 : Int32) + v1).toNatClampNeg))) (v1 + (1 : Int32)) _ _ _ (lv_sub hl [1, 0] rfl) hP hS hf
  intro ls H locs hl hP hS
  have hl : lv_has ls 2 [(0, .ref (y))] := hl
  unfold f_X5_remember at hf
  refine lv_aload_n F.1 F.2.1 dX5_remember_0 rfl (lv_at hl 0 rfl) ?_
  refine m_getI F hK hP rfl (fun _ h => List.mem_cons_of_mem _ (List.mem_append_right _ h)) 5 (Nat.le_of_ble_eq_true rfl) (List.mem_of_getElem? (i := 1) rfl) rfl (fun _ => rfl) dX5_remember_1 ?_
  refine lv_bipush (v := (14 : Int32)) F.1 F.2.1 dX5_remember_4 (by decide) ?_
  refine lv_icmp_ne (tgt := 50) F.1 F.2.1 dX5_remember_6 rfl (fun hc1 => ?_) (fun hc1 => ?_)
  · have hf := ifn hc1 hf
    refine lv_iconst (v := (0 : Int32)) F.1 F.2.1 dX5_remember_50 (by decide) ?_
    refine lv_istore_n F.1 F.2.1 dX5_remember_51 rfl hl (Nat.le_of_ble_eq_true rfl) rfl (fun ls hl => ?_)
    have hl : lv_has ls 2 [(1, .int (0 : Int32)), (0, .ref (y))] := hl
    exact (KEY FU).1 ν (0 : Int32) _ _ _ (lv_sub hl [1, 0] rfl) hP hS hf
  · have hf := ifp hc1 hf
    refine lv_iconst (v := (0 : Int32)) F.1 F.2.1 dX5_remember_9 (by decide) ?_
    refine lv_istore_n F.1 F.2.1 dX5_remember_10 rfl hl (Nat.le_of_ble_eq_true rfl) rfl (fun ls hl => ?_)
    have hl : lv_has ls 2 [(1, .int (0 : Int32)), (0, .ref (y))] := hl
    exact (KEY FU).2 ν (0 : Int32) _ _ _ (lv_sub hl [1, 0] rfl) hP hS hf

-- FrostTubesModel.append(I)I
def fb_X5_append_1 (a1 : Int32) (K : Mem → Int32 → Option (Int32 × Mem)) (ν : Mem) (t0 : Int32) : Option (Int32 × Mem) := ((f_X5_refused ν t0).bind fun r5 => (if r5.1 = 0 then (if oob ((r5.2 0) 9) 120 then none else some ((((va_up (va_up r5.2 7 (upd (r5.2 7) (((r5.2 0) 9).toNatClampNeg) a1)) 0 (upd ((va_up r5.2 7 (upd (r5.2 7) (((r5.2 0) 9).toNatClampNeg) a1)) 0) 9 ((((va_up r5.2 7 (upd (r5.2 7) (((r5.2 0) 9).toNatClampNeg) a1)) 0) 9) + (1 : Int32)))) 0) 9), (va_up (va_up r5.2 7 (upd (r5.2 7) (((r5.2 0) 9).toNatClampNeg) a1)) 0 (upd ((va_up r5.2 7 (upd (r5.2 7) (((r5.2 0) 9).toNatClampNeg) a1)) 0) 9 ((((va_up r5.2 7 (upd (r5.2 7) (((r5.2 0) 9).toNatClampNeg) a1)) 0) 9) + (1 : Int32)))))) else some ((0 : Int32), r5.2)))
def fl_X5_append (a1 : Int32) : Nat → Mem → Int32 → Option (Int32 × Mem)
  | 0, _, _ => none
  | n + 1, ν, t0 => fb_X5_append_1 a1 (fl_X5_append a1 n) ν t0
def f_X5_append (ν : Mem) (a1 : Int32) : Option (Int32 × Mem) := ((f_X5_in a1.toInt64 (0 : Int64) (255 : Int64)).bind fun r1 => (if r1 = 0 then (fl_X5_append a1 FU ν (1 : Int32)) else (if ((ν 0) 9) = (120 : Int32) then (fl_X5_append a1 FU ν (2 : Int32)) else (fl_X5_append a1 FU ν (0 : Int32)))))
def rmX5_append : Room := { frames := 1, cells := 0, slots := 0, locals := 25 }
theorem hd_X5_append : yX5_append.cls ≠ "java/lang/invoke/MethodHandle" ∧ yX5_append.cls ≠ "java/lang/invoke/VarHandle" ∧ (parseMethodDescriptor yX5_append.desc).map (fun d => d.parameters.length) = some 1 := by decide +kernel
set_option maxHeartbeats 8000000 in
set_option maxRecDepth 100000 in
theorem c_X5_append {l : Launch} {D : va_G} {y : Nat} {ν : Mem} (a1 : Int32) {r : Int32 × Mem} (hf : f_X5_append ν a1 = some r) : CM l yX5_append wsX5_append rmX5_append [.ref (y), .int a1] D y ν (some (.int r.1)) r.2 := by
  refine CM.of (cc := cX5_append) (maxL := 2) (ret := (some .int)) pn_X5 rfl (Nat.le_of_ble_eq_true rfl) ?_
  intro p e s m args below meth c F hr hlk hK
  have KEY : ∀ n : Nat, (∀ (ν : Mem) (t0 : Int32) (ls : Array Slot) (H : Heap) (locs : List Loc), lv_has ls 2 [(0, .ref (y)), (1, .int a1)] → va_P D vwCl (WM D y ν) H → va_S (rngM y) s.heap H locs → fl_X5_append a1 n ν t0 = some r → W p l e rmX5_append s m args below meth c H locs 0 0 (MQ below (QM D y r.2 (some (.int r.1))) args s 0 0 (rngM y)) (F0 m 31 ls [.int t0, .ref (y)])) := by
    intro n
    induction n with
    | zero => exact (fun _ _ _ _ _ _ _ _ h => nomatch h)
    | succ n ih =>
      skip
      intro ν t0  ls H locs hl hP hS hf
      have hf : fb_X5_append_1 a1 (fl_X5_append a1 n) ν t0 = some r := hf
      unfold fb_X5_append_1 at hf
      obtain ⟨r5, hr6, hf⟩ := bnd hf
      refine m_callV F hK hP hS (c_X5_refused t0 hr6) (cwV 1 F.2.2.2.2 gX5_append_X5_refused rfl rfl rfl ⟨rfl, hd_X5_refused⟩ ⟨(Nat.le_of_ble_eq_true rfl), (Nat.le_of_ble_eq_true rfl)⟩) rfl rfl hl.1 (Nat.le_of_ble_eq_true rfl) dX5_append_31 ⟨(Nat.le_of_ble_eq_true rfl), (Nat.le_of_ble_eq_true rfl)⟩ (rest := []) (fun H locs hP hS => ?_)
      refine W.eq (g2 := F0 m 34 ls [.int r5.1]) rfl ?_
      refine lv_if_eq (tgt := 39) F.1 F.2.1 dX5_append_34 rfl (fun hc7 => ?_) (fun hc7 => ?_)
      · have hf := ifp hc7 hf
        refine lv_aload_n F.1 F.2.1 dX5_append_39 rfl (lv_at hl 0 rfl) ?_
        refine m_getR F hK hP (fun _ h => List.mem_cons_of_mem _ (List.mem_append_right _ h)) 8 (Nat.le_of_ble_eq_true rfl) (List.mem_of_getElem? (i := 3) rfl) rfl (v := .ref (y + 7)) (fun _ => rfl) dX5_append_40 ?_
        refine lv_aload_n F.1 F.2.1 dX5_append_43 rfl (lv_at hl 0 rfl) ?_
        refine m_getI F hK hP rfl (fun _ h => List.mem_cons_of_mem _ (List.mem_append_right _ h)) 9 (Nat.le_of_ble_eq_true rfl) (List.mem_of_getElem? (i := 2) rfl) rfl (fun _ => rfl) dX5_append_44 ?_
        refine lv_iload_n F.1 F.2.1 dX5_append_47 rfl (lv_at hl 1 rfl) ?_
        obtain ⟨hb8, hf⟩ := ifg hf
        have hP := m_up 7 hP
        refine m_iast F hK hP hS (by decide) (fun _ => rfl) rfl hb8 dX5_append_48 (fun H locs hP hS => ?_)
        refine lv_aload_n F.1 F.2.1 dX5_append_49 rfl (lv_at hl 0 rfl) ?_
        refine lv_dup F.1 F.2.1 dX5_append_50 rfl ?_
        refine m_getI F hK hP rfl (fun _ h => List.mem_cons_of_mem _ (List.mem_append_right _ h)) 9 (Nat.le_of_ble_eq_true rfl) (List.mem_of_getElem? (i := 2) rfl) rfl (fun _ => rfl) dX5_append_51 ?_
        refine lv_iconst (v := (1 : Int32)) F.1 F.2.1 dX5_append_54 (by decide) ?_
        refine lv_iadd F.1 F.2.1 dX5_append_55 ?_
        have hP := m_up 0 hP
        refine m_putI F hK hP hS (fun _ h => List.mem_cons_of_mem _ (List.mem_append_right _ h)) 9 (Nat.le_of_ble_eq_true rfl) (List.mem_of_getElem? (i := 2) rfl) rfl rfl (ty := .int) rfl rfl rfl (fun _ _ => rfl) dX5_append_56 (fun H locs hP hS => ?_)
        refine lv_aload_n F.1 F.2.1 dX5_append_59 rfl (lv_at hl 0 rfl) ?_
        refine m_getI F hK hP rfl (fun _ h => List.mem_cons_of_mem _ (List.mem_append_right _ h)) 9 (Nat.le_of_ble_eq_true rfl) (List.mem_of_getElem? (i := 2) rfl) rfl (fun _ => rfl) dX5_append_60 ?_
        obtain rfl := Option.some.inj hf
        exact m_iret F hr hlk hP hS rfl dX5_append_63
      · have hf := ifn hc7 hf
        refine lv_iconst (v := (0 : Int32)) F.1 F.2.1 dX5_append_37 (by decide) ?_
        obtain rfl := Option.some.inj hf
        exact m_iret F hr hlk hP hS rfl dX5_append_38
  intro ls H locs hl hP hS
  have hl : lv_has ls 2 [(0, .ref (y)), (1, .int a1)] := hl
  unfold f_X5_append at hf
  refine lv_aload_n F.1 F.2.1 dX5_append_0 rfl (lv_at hl 0 rfl) ?_
  refine lv_iload_n F.1 F.2.1 dX5_append_1 rfl (lv_at hl 1 rfl) ?_
  refine lv_i2l (v := a1.toInt64) F.1 F.2.1 dX5_append_2 rfl ?_
  refine lv_lconst (v := (0 : Int64)) F.1 F.2.1 dX5_append_3 rfl ?_
  refine lv_ldc2 (v := (255 : Int64)) F.1 F.2.1 F.2.2.2.1 (F.2.2.2.2 _ (List.mem_of_getElem? (i := 1) rfl)) dX5_append_4 ?_
  obtain ⟨r1, hr2, hf⟩ := bnd hf
  refine m_callS F hK hP hS (c_X5_in a1.toInt64 (0 : Int64) (255 : Int64) hr2) (va_cwS 3 F.2.2.2.2 gX5_append_X5_in rfl rfl rfl hd_X5_in ⟨(Nat.le_of_ble_eq_true rfl), (Nat.le_of_ble_eq_true rfl)⟩) rfl rfl hl.1 (Nat.le_of_ble_eq_true rfl) dX5_append_7 ⟨(Nat.le_of_ble_eq_true rfl), (Nat.le_of_ble_eq_true rfl)⟩ (rest := [.ref (y)]) (fun H locs hP hS => ?_)
  refine W.eq (g2 := F0 m 10 ls [.int r1, .ref (y)]) rfl ?_
  refine lv_if_ne (tgt := 17) F.1 F.2.1 dX5_append_10 rfl (fun hc3 => ?_) (fun hc3 => ?_)
  · have hf := ifn hc3 hf
    refine lv_aload_n F.1 F.2.1 dX5_append_17 rfl (lv_at hl 0 rfl) ?_
    refine m_getI F hK hP rfl (fun _ h => List.mem_cons_of_mem _ (List.mem_append_right _ h)) 9 (Nat.le_of_ble_eq_true rfl) (List.mem_of_getElem? (i := 2) rfl) rfl (fun _ => rfl) dX5_append_18 ?_
    refine lv_bipush (v := (120 : Int32)) F.1 F.2.1 dX5_append_21 (by decide) ?_
    refine lv_icmp_ne (tgt := 30) F.1 F.2.1 dX5_append_23 rfl (fun hc4 => ?_) (fun hc4 => ?_)
    · have hf := ifn hc4 hf
      refine lv_iconst (v := (0 : Int32)) F.1 F.2.1 dX5_append_30 (by decide) ?_
      exact (KEY FU) ν (0 : Int32) _ _ _ (lv_sub hl [0, 1] rfl) hP hS hf
    · have hf := ifp hc4 hf
      refine lv_iconst (v := (2 : Int32)) F.1 F.2.1 dX5_append_26 (by decide) ?_
      refine lv_goto (tgt := 31) F.1 F.2.1 dX5_append_27 rfl ?_
      exact (KEY FU) ν (2 : Int32) _ _ _ (lv_sub hl [0, 1] rfl) hP hS hf
  · have hf := ifp hc3 hf
    refine lv_iconst (v := (1 : Int32)) F.1 F.2.1 dX5_append_13 (by decide) ?_
    refine lv_goto (tgt := 31) F.1 F.2.1 dX5_append_14 rfl ?_
    exact (KEY FU) ν (1 : Int32) _ _ _ (lv_sub hl [0, 1] rfl) hP hS hf

-- FrostTubesModel.clearText()I
def f_X5_clearText (ν : Mem) : Option (Int32 × Mem) := some ((((va_up ν 0 (upd (ν 0) 0 (0 : Int32))) 0) 9), (va_up (va_up ν 0 (upd (ν 0) 0 (0 : Int32))) 0 (upd ((va_up ν 0 (upd (ν 0) 0 (0 : Int32))) 0) 9 (0 : Int32))))
def rmX5_clearText : Room := { frames := 0, cells := 0, slots := 0, locals := 0 }
theorem hd_X5_clearText : yX5_clearText.cls ≠ "java/lang/invoke/MethodHandle" ∧ yX5_clearText.cls ≠ "java/lang/invoke/VarHandle" ∧ (parseMethodDescriptor yX5_clearText.desc).map (fun d => d.parameters.length) = some 0 := by decide +kernel
set_option maxHeartbeats 8000000 in
set_option maxRecDepth 100000 in
theorem c_X5_clearText {l : Launch} {D : va_G} {y : Nat} {ν : Mem} {r : Int32 × Mem} (hf : f_X5_clearText ν = some r) : CM l yX5_clearText wsX5_clearText rmX5_clearText [.ref (y)] D y ν (some (.int r.1)) r.2 := by
  refine CM.of (cc := cX5_clearText) (maxL := 2) (ret := (some .int)) pn_X5 rfl (Nat.le_of_ble_eq_true rfl) ?_
  intro p e s m args below meth c F hr hlk hK
  intro ls H locs hl hP hS
  have hl : lv_has ls 2 [(0, .ref (y))] := hl
  unfold f_X5_clearText at hf
  refine lv_aload_n F.1 F.2.1 dX5_clearText_0 rfl (lv_at hl 0 rfl) ?_
  refine lv_iconst (v := (0 : Int32)) F.1 F.2.1 dX5_clearText_1 (by decide) ?_
  have hP := m_up 0 hP
  refine m_putI F hK hP hS (fun _ h => List.mem_cons_of_mem _ (List.mem_append_right _ h)) 0 (Nat.le_of_ble_eq_true rfl) (List.mem_of_getElem? (i := 1) rfl) rfl rfl (ty := .int) rfl rfl rfl (fun _ _ => rfl) dX5_clearText_2 (fun H locs hP hS => ?_)
  refine lv_aload_n F.1 F.2.1 dX5_clearText_5 rfl (lv_at hl 0 rfl) ?_
  refine m_getI F hK hP rfl (fun _ h => List.mem_cons_of_mem _ (List.mem_append_right _ h)) 9 (Nat.le_of_ble_eq_true rfl) (List.mem_of_getElem? (i := 2) rfl) rfl (fun _ => rfl) dX5_clearText_6 ?_
  refine lv_istore_n F.1 F.2.1 dX5_clearText_9 rfl hl (Nat.le_of_ble_eq_true rfl) rfl (fun ls hl => ?_)
  have hl : lv_has ls 2 [(1, .int (((va_up ν 0 (upd (ν 0) 0 (0 : Int32))) 0) 9)), (0, .ref (y))] := hl
  refine lv_aload_n F.1 F.2.1 dX5_clearText_10 rfl (lv_at hl 1 rfl) ?_
  refine lv_iconst (v := (0 : Int32)) F.1 F.2.1 dX5_clearText_11 (by decide) ?_
  have hP := m_up 0 hP
  refine m_putI F hK hP hS (fun _ h => List.mem_cons_of_mem _ (List.mem_append_right _ h)) 9 (Nat.le_of_ble_eq_true rfl) (List.mem_of_getElem? (i := 2) rfl) rfl rfl (ty := .int) rfl rfl rfl (fun _ _ => rfl) dX5_clearText_12 (fun H locs hP hS => ?_)
  refine lv_iload_n F.1 F.2.1 dX5_clearText_15 rfl (lv_at hl 0 rfl) ?_
  obtain rfl := Option.some.inj hf
  exact m_iret F hr hlk hP hS rfl dX5_clearText_16

-- FrostTubesModel.here()I
def f_X5_here (ν : Mem) : Option (Int32) := (if ((ν 0) 9) ≤ ((ν 0) 10) then some (-1 : Int32) else (if oob ((ν 0) 10) 120 then none else some ((ν 7) ((ν 0) 10).toNatClampNeg)))
def rmX5_here : Room := { frames := 0, cells := 0, slots := 0, locals := 0 }
theorem hd_X5_here : yX5_here.cls ≠ "java/lang/invoke/MethodHandle" ∧ yX5_here.cls ≠ "java/lang/invoke/VarHandle" ∧ (parseMethodDescriptor yX5_here.desc).map (fun d => d.parameters.length) = some 0 := by decide +kernel
set_option maxHeartbeats 8000000 in
set_option maxRecDepth 100000 in
theorem c_X5_here {l : Launch} {D : va_G} {y : Nat} {ν : Mem} {r : Int32} (hf : f_X5_here ν = some r) : CM l yX5_here wsX5_here rmX5_here [.ref (y)] D y ν (some (.int r)) ν := by
  refine CM.of (cc := cX5_here) (maxL := 1) (ret := (some .int)) pn_X5 rfl (Nat.le_of_ble_eq_true rfl) ?_
  intro p e s m args below meth c F hr hlk hK
  intro ls H locs hl hP hS
  have hl : lv_has ls 1 [(0, .ref (y))] := hl
  unfold f_X5_here at hf
  refine lv_aload_n F.1 F.2.1 dX5_here_0 rfl (lv_at hl 0 rfl) ?_
  refine m_getI F hK hP rfl (fun _ h => List.mem_cons_of_mem _ (List.mem_append_right _ h)) 10 (Nat.le_of_ble_eq_true rfl) (List.mem_of_getElem? (i := 1) rfl) rfl (fun _ => rfl) dX5_here_1 ?_
  refine lv_aload_n F.1 F.2.1 dX5_here_4 rfl (lv_at hl 0 rfl) ?_
  refine m_getI F hK hP rfl (fun _ h => List.mem_cons_of_mem _ (List.mem_append_right _ h)) 9 (Nat.le_of_ble_eq_true rfl) (List.mem_of_getElem? (i := 2) rfl) rfl (fun _ => rfl) dX5_here_5 ?_
  refine lv_icmp_ge (tgt := 23) F.1 F.2.1 dX5_here_8 rfl (fun hc1 => ?_) (fun hc1 => ?_)
  · have hf := ifp hc1 hf
    refine lv_iconst (v := (-1 : Int32)) F.1 F.2.1 dX5_here_23 (by decide) ?_
    obtain rfl := Option.some.inj hf
    exact m_iret F hr hlk hP hS rfl dX5_here_24
  · have hf := ifn hc1 hf
    refine lv_aload_n F.1 F.2.1 dX5_here_11 rfl (lv_at hl 0 rfl) ?_
    refine m_getR F hK hP (fun _ h => List.mem_cons_of_mem _ (List.mem_append_right _ h)) 8 (Nat.le_of_ble_eq_true rfl) (List.mem_of_getElem? (i := 3) rfl) rfl (v := .ref (y + 7)) (fun _ => rfl) dX5_here_12 ?_
    refine lv_aload_n F.1 F.2.1 dX5_here_15 rfl (lv_at hl 0 rfl) ?_
    refine m_getI F hK hP rfl (fun _ h => List.mem_cons_of_mem _ (List.mem_append_right _ h)) 10 (Nat.le_of_ble_eq_true rfl) (List.mem_of_getElem? (i := 1) rfl) rfl (fun _ => rfl) dX5_here_16 ?_
    obtain ⟨hb2, hf⟩ := ifg hf
    refine m_iald F hK hP (o := 7) (by decide) rfl (fun _ => rfl) rfl hb2 dX5_here_19 ?_
    refine lv_goto (tgt := 24) F.1 F.2.1 dX5_here_20 rfl ?_
    obtain rfl := Option.some.inj hf
    exact m_iret F hr hlk hP hS rfl dX5_here_24

-- FrostTubesModel.take(Z)V
def fb_X5_take_1 (a1 : Int32) (K : Mem → Int32 → Option (Mem)) (ν : Mem) (t0 : Int32) : Option (Mem) := (if t0 = 0 ∨ t0 = 1 then (if (((va_up ν 0 (upd (ν 0) 11 t0)) 0) 11) = 0 then some (va_up (va_up ν 0 (upd (ν 0) 11 t0)) 0 (upd ((va_up ν 0 (upd (ν 0) 11 t0)) 0) 10 ((((va_up ν 0 (upd (ν 0) 11 t0)) 0) 10) + (0 : Int32)))) else some (va_up (va_up ν 0 (upd (ν 0) 11 t0)) 0 (upd ((va_up ν 0 (upd (ν 0) 11 t0)) 0) 10 ((((va_up ν 0 (upd (ν 0) 11 t0)) 0) 10) + (1 : Int32))))) else none)
def fl_X5_take (a1 : Int32) : Nat → Mem → Int32 → Option (Mem)
  | 0, _, _ => none
  | n + 1, ν, t0 => fb_X5_take_1 a1 (fl_X5_take a1 n) ν t0
def f_X5_take (ν : Mem) (a1 : Int32) : Option (Mem) := (if ((ν 0) 11) = 0 then (fl_X5_take a1 FU ν (0 : Int32)) else (if a1 = 0 then (fl_X5_take a1 FU ν (0 : Int32)) else (fl_X5_take a1 FU ν (1 : Int32))))
def rmX5_take : Room := { frames := 0, cells := 0, slots := 0, locals := 0 }
theorem hd_X5_take : yX5_take.cls ≠ "java/lang/invoke/MethodHandle" ∧ yX5_take.cls ≠ "java/lang/invoke/VarHandle" ∧ (parseMethodDescriptor yX5_take.desc).map (fun d => d.parameters.length) = some 1 := by decide +kernel
set_option maxHeartbeats 8000000 in
set_option maxRecDepth 100000 in
theorem c_X5_take {l : Launch} {D : va_G} {y : Nat} {ν : Mem} (a1 : Int32) {r : Mem} (hf : f_X5_take ν a1 = some r) : CM l yX5_take wsX5_take rmX5_take [.ref (y), .int a1] D y ν (none) r := by
  refine CM.of (cc := cX5_take) (maxL := 2) (ret := none) pn_X5 rfl (Nat.le_of_ble_eq_true rfl) ?_
  intro p e s m args below meth c F hr hlk hK
  have KEY : ∀ n : Nat, (∀ (ν : Mem) (t0 : Int32) (ls : Array Slot) (H : Heap) (locs : List Loc), lv_has ls 2 [(0, .ref (y))] → va_P D vwCl (WM D y ν) H → va_S (rngM y) s.heap H locs → fl_X5_take a1 n ν t0 = some r → W p l e rmX5_take s m args below meth c H locs 0 0 (MQ below (QM D y r (none)) args s 0 0 (rngM y)) (F0 m 17 ls [.int t0, .ref (y)])) := by
    intro n
    induction n with
    | zero => exact (fun _ _ _ _ _ _ _ _ h => nomatch h)
    | succ n ih =>
      skip
      intro ν t0  ls H locs hl hP hS hf
      have hf : fb_X5_take_1 a1 (fl_X5_take a1 n) ν t0 = some r := hf
      unfold fb_X5_take_1 at hf
      obtain ⟨hb3, hf⟩ := ifgp hf
      have hP := m_up 0 hP
      refine m_putI F hK hP hS (fun _ h => List.mem_cons_of_mem _ (List.mem_append_right _ h)) 11 (Nat.le_of_ble_eq_true rfl) (List.mem_of_getElem? (i := 1) rfl) rfl rfl (ty := .boolean) rfl (b01_n hb3) (b01_f hb3) (fun _ _ => rfl) dX5_take_17 (fun H locs hP hS => ?_)
      refine lv_aload_n F.1 F.2.1 dX5_take_20 rfl (lv_at hl 0 rfl) ?_
      refine lv_dup F.1 F.2.1 dX5_take_21 rfl ?_
      refine m_getI F hK hP rfl (fun _ h => List.mem_cons_of_mem _ (List.mem_append_right _ h)) 10 (Nat.le_of_ble_eq_true rfl) (List.mem_of_getElem? (i := 2) rfl) rfl (fun _ => rfl) dX5_take_22 ?_
      refine lv_aload_n F.1 F.2.1 dX5_take_25 rfl (lv_at hl 0 rfl) ?_
      refine m_getI F hK hP rfl (fun _ h => List.mem_cons_of_mem _ (List.mem_append_right _ h)) 11 (Nat.le_of_ble_eq_true rfl) (List.mem_of_getElem? (i := 1) rfl) rfl (fun _ => rfl) dX5_take_26 ?_
      refine lv_if_eq (tgt := 36) F.1 F.2.1 dX5_take_29 rfl (fun hc4 => ?_) (fun hc4 => ?_)
      · have hf := ifp hc4 hf
        refine lv_iconst (v := (0 : Int32)) F.1 F.2.1 dX5_take_36 (by decide) ?_
        refine lv_iadd F.1 F.2.1 dX5_take_37 ?_
        have hP := m_up 0 hP
        refine m_putI F hK hP hS (fun _ h => List.mem_cons_of_mem _ (List.mem_append_right _ h)) 10 (Nat.le_of_ble_eq_true rfl) (List.mem_of_getElem? (i := 2) rfl) rfl rfl (ty := .int) rfl rfl rfl (fun _ _ => rfl) dX5_take_38 (fun H locs hP hS => ?_)
        obtain rfl := Option.some.inj hf
        exact m_vret F hr hlk hP hS rfl dX5_take_41
      · have hf := ifn hc4 hf
        refine lv_iconst (v := (1 : Int32)) F.1 F.2.1 dX5_take_32 (by decide) ?_
        refine lv_goto (tgt := 37) F.1 F.2.1 dX5_take_33 rfl ?_
        refine lv_iadd F.1 F.2.1 dX5_take_37 ?_
        have hP := m_up 0 hP
        refine m_putI F hK hP hS (fun _ h => List.mem_cons_of_mem _ (List.mem_append_right _ h)) 10 (Nat.le_of_ble_eq_true rfl) (List.mem_of_getElem? (i := 2) rfl) rfl rfl (ty := .int) rfl rfl rfl (fun _ _ => rfl) dX5_take_38 (fun H locs hP hS => ?_)
        obtain rfl := Option.some.inj hf
        exact m_vret F hr hlk hP hS rfl dX5_take_41
  intro ls H locs hl hP hS
  have hl : lv_has ls 2 [(0, .ref (y)), (1, .int a1)] := hl
  unfold f_X5_take at hf
  refine lv_aload_n F.1 F.2.1 dX5_take_0 rfl (lv_at hl 0 rfl) ?_
  refine lv_aload_n F.1 F.2.1 dX5_take_1 rfl (lv_at hl 0 rfl) ?_
  refine m_getI F hK hP rfl (fun _ h => List.mem_cons_of_mem _ (List.mem_append_right _ h)) 11 (Nat.le_of_ble_eq_true rfl) (List.mem_of_getElem? (i := 1) rfl) rfl (fun _ => rfl) dX5_take_2 ?_
  refine lv_if_eq (tgt := 16) F.1 F.2.1 dX5_take_5 rfl (fun hc1 => ?_) (fun hc1 => ?_)
  · have hf := ifp hc1 hf
    refine lv_iconst (v := (0 : Int32)) F.1 F.2.1 dX5_take_16 (by decide) ?_
    exact (KEY FU) ν (0 : Int32) _ _ _ (lv_sub hl [0] rfl) hP hS hf
  · have hf := ifn hc1 hf
    refine lv_iload_n F.1 F.2.1 dX5_take_8 rfl (lv_at hl 1 rfl) ?_
    refine lv_if_eq (tgt := 16) F.1 F.2.1 dX5_take_9 rfl (fun hc2 => ?_) (fun hc2 => ?_)
    · have hf := ifp hc2 hf
      refine lv_iconst (v := (0 : Int32)) F.1 F.2.1 dX5_take_16 (by decide) ?_
      exact (KEY FU) ν (0 : Int32) _ _ _ (lv_sub hl [0] rfl) hP hS hf
    · have hf := ifn hc2 hf
      refine lv_iconst (v := (1 : Int32)) F.1 F.2.1 dX5_take_12 (by decide) ?_
      refine lv_goto (tgt := 17) F.1 F.2.1 dX5_take_13 rfl ?_
      exact (KEY FU) ν (1 : Int32) _ _ _ (lv_sub hl [0] rfl) hP hS hf

-- FrostTubesModel.digit(II)I
def f_X5_digit (ν : Mem) (a1 : Int32) (a2 : Int32) : Option (Int32 × Mem) := ((f_X5_here ν).bind fun r1 => ((f_X5_in ((r1 - (48 : Int32)).toInt64) a1.toInt64 a2.toInt64).bind fun r3 => ((f_X5_take ν r3).bind fun r5 => (if ((r5 0) 11) = 0 then some (a1, r5) else some ((r1 - (48 : Int32)), r5)))))
def rmX5_digit : Room := { frames := 1, cells := 0, slots := 0, locals := 25 }
theorem hd_X5_digit : yX5_digit.cls ≠ "java/lang/invoke/MethodHandle" ∧ yX5_digit.cls ≠ "java/lang/invoke/VarHandle" ∧ (parseMethodDescriptor yX5_digit.desc).map (fun d => d.parameters.length) = some 2 := by decide +kernel
set_option maxHeartbeats 8000000 in
set_option maxRecDepth 100000 in
theorem c_X5_digit {l : Launch} {D : va_G} {y : Nat} {ν : Mem} (a1 : Int32) (a2 : Int32) {r : Int32 × Mem} (hf : f_X5_digit ν a1 a2 = some r) : CM l yX5_digit wsX5_digit rmX5_digit [.ref (y), .int a1, .int a2] D y ν (some (.int r.1)) r.2 := by
  refine CM.of (cc := cX5_digit) (maxL := 4) (ret := (some .int)) pn_X5 rfl (Nat.le_of_ble_eq_true rfl) ?_
  intro p e s m args below meth c F hr hlk hK
  intro ls H locs hl hP hS
  have hl : lv_has ls 4 [(0, .ref (y)), (1, .int a1), (2, .int a2)] := hl
  unfold f_X5_digit at hf
  refine lv_aload_n F.1 F.2.1 dX5_digit_0 rfl (lv_at hl 0 rfl) ?_
  obtain ⟨r1, hr2, hf⟩ := bnd hf
  refine m_callV F hK hP hS (c_X5_here hr2) (cwV 0 F.2.2.2.2 gX5_digit_X5_here rfl rfl rfl ⟨rfl, hd_X5_here⟩ ⟨(Nat.le_of_ble_eq_true rfl), (Nat.le_of_ble_eq_true rfl)⟩) rfl rfl hl.1 (Nat.le_of_ble_eq_true rfl) dX5_digit_1 ⟨(Nat.le_of_ble_eq_true rfl), (Nat.le_of_ble_eq_true rfl)⟩ (rest := []) (fun H locs hP hS => ?_)
  refine W.eq (g2 := F0 m 4 ls [.int r1]) rfl ?_
  refine lv_bipush (v := (48 : Int32)) F.1 F.2.1 dX5_digit_4 (by decide) ?_
  refine lv_isub F.1 F.2.1 dX5_digit_6 ?_
  refine lv_istore_n F.1 F.2.1 dX5_digit_7 rfl hl (Nat.le_of_ble_eq_true rfl) rfl (fun ls hl => ?_)
  have hl : lv_has ls 4 [(3, .int (r1 - (48 : Int32))), (0, .ref (y)), (1, .int a1), (2, .int a2)] := hl
  refine lv_aload_n F.1 F.2.1 dX5_digit_8 rfl (lv_at hl 1 rfl) ?_
  refine lv_iload_n F.1 F.2.1 dX5_digit_9 rfl (lv_at hl 0 rfl) ?_
  refine lv_i2l (v := (r1 - (48 : Int32)).toInt64) F.1 F.2.1 dX5_digit_10 rfl ?_
  refine lv_iload_n F.1 F.2.1 dX5_digit_11 rfl (lv_at hl 2 rfl) ?_
  refine lv_i2l (v := a1.toInt64) F.1 F.2.1 dX5_digit_12 rfl ?_
  refine lv_iload_n F.1 F.2.1 dX5_digit_13 rfl (lv_at hl 3 rfl) ?_
  refine lv_i2l (v := a2.toInt64) F.1 F.2.1 dX5_digit_14 rfl ?_
  obtain ⟨r3, hr4, hf⟩ := bnd hf
  refine m_callS F hK hP hS (c_X5_in ((r1 - (48 : Int32)).toInt64) a1.toInt64 a2.toInt64 hr4) (va_cwS 3 F.2.2.2.2 gX5_digit_X5_in rfl rfl rfl hd_X5_in ⟨(Nat.le_of_ble_eq_true rfl), (Nat.le_of_ble_eq_true rfl)⟩) rfl rfl hl.1 (Nat.le_of_ble_eq_true rfl) dX5_digit_15 ⟨(Nat.le_of_ble_eq_true rfl), (Nat.le_of_ble_eq_true rfl)⟩ (rest := [.ref (y)]) (fun H locs hP hS => ?_)
  refine W.eq (g2 := F0 m 18 ls [.int r3, .ref (y)]) rfl ?_
  obtain ⟨r5, hr6, hf⟩ := bnd hf
  refine m_callV F hK hP hS (c_X5_take r3 hr6) (cwV 1 F.2.2.2.2 gX5_digit_X5_take rfl rfl rfl ⟨rfl, hd_X5_take⟩ ⟨(Nat.le_of_ble_eq_true rfl), (Nat.le_of_ble_eq_true rfl)⟩) rfl rfl hl.1 (Nat.le_of_ble_eq_true rfl) dX5_digit_18 ⟨(Nat.le_of_ble_eq_true rfl), (Nat.le_of_ble_eq_true rfl)⟩ (rest := []) (fun H locs hP hS => ?_)
  refine W.eq (g2 := F0 m 21 ls []) rfl ?_
  refine lv_aload_n F.1 F.2.1 dX5_digit_21 rfl (lv_at hl 1 rfl) ?_
  refine m_getI F hK hP rfl (fun _ h => List.mem_cons_of_mem _ (List.mem_append_right _ h)) 11 (Nat.le_of_ble_eq_true rfl) (List.mem_of_getElem? (i := 1) rfl) rfl (fun _ => rfl) dX5_digit_22 ?_
  refine lv_if_eq (tgt := 32) F.1 F.2.1 dX5_digit_25 rfl (fun hc7 => ?_) (fun hc7 => ?_)
  · have hf := ifp hc7 hf
    refine lv_iload_n F.1 F.2.1 dX5_digit_32 rfl (lv_at hl 2 rfl) ?_
    obtain rfl := Option.some.inj hf
    exact m_iret F hr hlk hP hS rfl dX5_digit_33
  · have hf := ifn hc7 hf
    refine lv_iload_n F.1 F.2.1 dX5_digit_28 rfl (lv_at hl 0 rfl) ?_
    refine lv_goto (tgt := 33) F.1 F.2.1 dX5_digit_29 rfl ?_
    obtain rfl := Option.some.inj hf
    exact m_iret F hr hlk hP hS rfl dX5_digit_33

-- FrostTubesModel.two(II)I
def fb_X5_two_1 (a1 : Int32) (a2 : Int32) (K : Mem → Int32 → Int32 → Int32 → Option (Int32 × Mem)) (ν : Mem) (t0 : Int32) (t2 : Int32) (v3 : Int32) : Option (Int32 × Mem) := (if v3 = (a2 / (10 : Int32)) then ((f_X5_digit ν t0 (a2 - (a2 / (10 : Int32)) * (10 : Int32))).bind fun r7 => some ((t2 + r7.1), r7.2)) else ((f_X5_digit ν t0 (9 : Int32)).bind fun r5 => some ((t2 + r5.1), r5.2)))
def fl_X5_two (a1 : Int32) (a2 : Int32) : Nat → Mem → Int32 → Int32 → Int32 → Option (Int32 × Mem)
  | 0, _, _, _, _ => none
  | n + 1, ν, t0, t2, v3 => fb_X5_two_1 a1 a2 (fl_X5_two a1 a2 n) ν t0 t2 v3
def f_X5_two (ν : Mem) (a1 : Int32) (a2 : Int32) : Option (Int32 × Mem) := ((f_X5_digit ν (a1 / (10 : Int32)) (a2 / (10 : Int32))).bind fun r1 => (if r1.1 = (a1 / (10 : Int32)) then (fl_X5_two a1 a2 FU r1.2 (a1 - (a1 / (10 : Int32)) * (10 : Int32)) ((10 : Int32) * r1.1) r1.1) else (fl_X5_two a1 a2 FU r1.2 (0 : Int32) ((10 : Int32) * r1.1) r1.1)))
def rmX5_two : Room := { frames := 2, cells := 0, slots := 0, locals := 48 }
theorem hd_X5_two : yX5_two.cls ≠ "java/lang/invoke/MethodHandle" ∧ yX5_two.cls ≠ "java/lang/invoke/VarHandle" ∧ (parseMethodDescriptor yX5_two.desc).map (fun d => d.parameters.length) = some 2 := by decide +kernel
set_option maxHeartbeats 8000000 in
set_option maxRecDepth 100000 in
theorem c_X5_two {l : Launch} {D : va_G} {y : Nat} {ν : Mem} (a1 : Int32) (a2 : Int32) {r : Int32 × Mem} (hf : f_X5_two ν a1 a2 = some r) : CM l yX5_two wsX5_two rmX5_two [.ref (y), .int a1, .int a2] D y ν (some (.int r.1)) r.2 := by
  refine CM.of (cc := cX5_two) (maxL := 4) (ret := (some .int)) pn_X5 rfl (Nat.le_of_ble_eq_true rfl) ?_
  intro p e s m args below meth c F hr hlk hK
  have KEY : ∀ n : Nat, (∀ (ν : Mem) (v3 : Int32) (t0 : Int32) (t2 : Int32) (ls : Array Slot) (H : Heap) (locs : List Loc), lv_has ls 4 [(2, .int a2), (3, .int v3)] → va_P D vwCl (WM D y ν) H → va_S (rngM y) s.heap H locs → fl_X5_two a1 a2 n ν t0 t2 v3 = some r → W p l e rmX5_two s m args below meth c H locs 0 0 (MQ below (QM D y r.2 (some (.int r.1))) args s 0 0 (rngM y)) (F0 m 34 ls [.int t0, .ref (y), .int t2])) := by
    intro n
    induction n with
    | zero => exact (fun _ _ _ _ _ _ _ _ _ _ h => nomatch h)
    | succ n ih =>
      skip
      intro ν v3 t0 t2  ls H locs hl hP hS hf
      have hf : fb_X5_two_1 a1 a2 (fl_X5_two a1 a2 n) ν t0 t2 v3 = some r := hf
      unfold fb_X5_two_1 at hf
      refine lv_iload_n F.1 F.2.1 dX5_two_34 rfl (lv_at hl 1 rfl) ?_
      refine lv_iload_n F.1 F.2.1 dX5_two_35 rfl (lv_at hl 0 rfl) ?_
      refine lv_bipush (v := (10 : Int32)) F.1 F.2.1 dX5_two_36 (by decide) ?_
      refine lv_idiv F.1 F.2.1 dX5_two_38 (by decide) ?_
      refine lv_icmp_ne (tgt := 49) F.1 F.2.1 dX5_two_39 rfl (fun hc4 => ?_) (fun hc4 => ?_)
      · have hf := ifn hc4 hf
        refine lv_bipush (v := (9 : Int32)) F.1 F.2.1 dX5_two_49 (by decide) ?_
        obtain ⟨r5, hr6, hf⟩ := bnd hf
        refine m_callV F hK hP hS (c_X5_digit t0 (9 : Int32) hr6) (cwV 2 F.2.2.2.2 gX5_two_X5_digit rfl rfl rfl ⟨rfl, hd_X5_digit⟩ ⟨(Nat.le_of_ble_eq_true rfl), (Nat.le_of_ble_eq_true rfl)⟩) rfl rfl hl.1 (Nat.le_of_ble_eq_true rfl) dX5_two_51 ⟨(Nat.le_of_ble_eq_true rfl), (Nat.le_of_ble_eq_true rfl)⟩ (rest := [.int t2]) (fun H locs hP hS => ?_)
        refine W.eq (g2 := F0 m 54 ls [.int r5.1, .int t2]) rfl ?_
        refine lv_iadd F.1 F.2.1 dX5_two_54 ?_
        obtain rfl := Option.some.inj hf
        exact m_iret F hr hlk hP hS rfl dX5_two_55
      · have hf := ifp hc4 hf
        refine lv_iload_n F.1 F.2.1 dX5_two_42 rfl (lv_at hl 0 rfl) ?_
        refine lv_bipush (v := (10 : Int32)) F.1 F.2.1 dX5_two_43 (by decide) ?_
        refine lv_irem F.1 F.2.1 dX5_two_45 (by decide) ?_
        refine lv_goto (tgt := 51) F.1 F.2.1 dX5_two_46 rfl ?_
        obtain ⟨r7, hr8, hf⟩ := bnd hf
        refine m_callV F hK hP hS (c_X5_digit t0 (a2 - (a2 / (10 : Int32)) * (10 : Int32)) hr8) (cwV 2 F.2.2.2.2 gX5_two_X5_digit rfl rfl rfl ⟨rfl, hd_X5_digit⟩ ⟨(Nat.le_of_ble_eq_true rfl), (Nat.le_of_ble_eq_true rfl)⟩) rfl rfl hl.1 (Nat.le_of_ble_eq_true rfl) dX5_two_51 ⟨(Nat.le_of_ble_eq_true rfl), (Nat.le_of_ble_eq_true rfl)⟩ (rest := [.int t2]) (fun H locs hP hS => ?_)
        refine W.eq (g2 := F0 m 54 ls [.int r7.1, .int t2]) rfl ?_
        refine lv_iadd F.1 F.2.1 dX5_two_54 ?_
        obtain rfl := Option.some.inj hf
        exact m_iret F hr hlk hP hS rfl dX5_two_55
  intro ls H locs hl hP hS
  have hl : lv_has ls 4 [(0, .ref (y)), (1, .int a1), (2, .int a2)] := hl
  unfold f_X5_two at hf
  refine lv_aload_n F.1 F.2.1 dX5_two_0 rfl (lv_at hl 0 rfl) ?_
  refine lv_iload_n F.1 F.2.1 dX5_two_1 rfl (lv_at hl 1 rfl) ?_
  refine lv_bipush (v := (10 : Int32)) F.1 F.2.1 dX5_two_2 (by decide) ?_
  refine lv_idiv F.1 F.2.1 dX5_two_4 (by decide) ?_
  refine lv_iload_n F.1 F.2.1 dX5_two_5 rfl (lv_at hl 2 rfl) ?_
  refine lv_bipush (v := (10 : Int32)) F.1 F.2.1 dX5_two_6 (by decide) ?_
  refine lv_idiv F.1 F.2.1 dX5_two_8 (by decide) ?_
  obtain ⟨r1, hr2, hf⟩ := bnd hf
  refine m_callV F hK hP hS (c_X5_digit (a1 / (10 : Int32)) (a2 / (10 : Int32)) hr2) (cwV 2 F.2.2.2.2 gX5_two_X5_digit rfl rfl rfl ⟨rfl, hd_X5_digit⟩ ⟨(Nat.le_of_ble_eq_true rfl), (Nat.le_of_ble_eq_true rfl)⟩) rfl rfl hl.1 (Nat.le_of_ble_eq_true rfl) dX5_two_9 ⟨(Nat.le_of_ble_eq_true rfl), (Nat.le_of_ble_eq_true rfl)⟩ (rest := []) (fun H locs hP hS => ?_)
  refine W.eq (g2 := F0 m 12 ls [.int r1.1]) rfl ?_
  refine lv_istore_n F.1 F.2.1 dX5_two_12 rfl hl (Nat.le_of_ble_eq_true rfl) rfl (fun ls hl => ?_)
  have hl : lv_has ls 4 [(3, .int r1.1), (0, .ref (y)), (1, .int a1), (2, .int a2)] := hl
  refine lv_bipush (v := (10 : Int32)) F.1 F.2.1 dX5_two_13 (by decide) ?_
  refine lv_iload_n F.1 F.2.1 dX5_two_15 rfl (lv_at hl 0 rfl) ?_
  refine lv_imul F.1 F.2.1 dX5_two_16 ?_
  refine lv_aload_n F.1 F.2.1 dX5_two_17 rfl (lv_at hl 1 rfl) ?_
  refine lv_iload_n F.1 F.2.1 dX5_two_18 rfl (lv_at hl 0 rfl) ?_
  refine lv_iload_n F.1 F.2.1 dX5_two_19 rfl (lv_at hl 2 rfl) ?_
  refine lv_bipush (v := (10 : Int32)) F.1 F.2.1 dX5_two_20 (by decide) ?_
  refine lv_idiv F.1 F.2.1 dX5_two_22 (by decide) ?_
  refine lv_icmp_ne (tgt := 33) F.1 F.2.1 dX5_two_23 rfl (fun hc3 => ?_) (fun hc3 => ?_)
  · have hf := ifn hc3 hf
    refine lv_iconst (v := (0 : Int32)) F.1 F.2.1 dX5_two_33 (by decide) ?_
    exact (KEY FU) r1.2 r1.1 (0 : Int32) ((10 : Int32) * r1.1) _ _ _ (lv_sub hl [3, 0] rfl) hP hS hf
  · have hf := ifp hc3 hf
    refine lv_iload_n F.1 F.2.1 dX5_two_26 rfl (lv_at hl 2 rfl) ?_
    refine lv_bipush (v := (10 : Int32)) F.1 F.2.1 dX5_two_27 (by decide) ?_
    refine lv_irem F.1 F.2.1 dX5_two_29 (by decide) ?_
    refine lv_goto (tgt := 34) F.1 F.2.1 dX5_two_30 rfl ?_
    exact (KEY FU) r1.2 r1.1 (a1 - (a1 / (10 : Int32)) * (10 : Int32)) ((10 : Int32) * r1.1) _ _ _ (lv_sub hl [3, 0] rfl) hP hS hf

-- FrostTubesModel.goes(Z)Z
def fb_X5_goes_1 (a1 : Int32) (K : Mem → Int32 → Int32 → Option (Int32 × Mem)) (ν : Mem) (t0 : Int32) (t1 : Int32) : Option (Int32 × Mem) := (if (((va_up ν 0 (upd (ν 0) 12 (t1 + t0))) 0) 11) = 0 then some ((0 : Int32), (va_up ν 0 (upd (ν 0) 12 (t1 + t0)))) else (if a1 = 0 then some ((0 : Int32), (va_up ν 0 (upd (ν 0) 12 (t1 + t0)))) else some ((1 : Int32), (va_up ν 0 (upd (ν 0) 12 (t1 + t0))))))
def fl_X5_goes (a1 : Int32) : Nat → Mem → Int32 → Int32 → Option (Int32 × Mem)
  | 0, _, _, _ => none
  | n + 1, ν, t0, t1 => fb_X5_goes_1 a1 (fl_X5_goes a1 n) ν t0 t1
def f_X5_goes (ν : Mem) (a1 : Int32) : Option (Int32 × Mem) := (if ((ν 0) 11) = 0 then (fl_X5_goes a1 FU ν (0 : Int32) ((ν 0) 12)) else (if a1 = 0 then (fl_X5_goes a1 FU ν (1 : Int32) ((ν 0) 12)) else (fl_X5_goes a1 FU ν (0 : Int32) ((ν 0) 12))))
def rmX5_goes : Room := { frames := 0, cells := 0, slots := 0, locals := 0 }
theorem hd_X5_goes : yX5_goes.cls ≠ "java/lang/invoke/MethodHandle" ∧ yX5_goes.cls ≠ "java/lang/invoke/VarHandle" ∧ (parseMethodDescriptor yX5_goes.desc).map (fun d => d.parameters.length) = some 1 := by decide +kernel
set_option maxHeartbeats 8000000 in
set_option maxRecDepth 100000 in
theorem c_X5_goes {l : Launch} {D : va_G} {y : Nat} {ν : Mem} (a1 : Int32) {r : Int32 × Mem} (hf : f_X5_goes ν a1 = some r) : CM l yX5_goes wsX5_goes rmX5_goes [.ref (y), .int a1] D y ν (some (.int r.1)) r.2 := by
  refine CM.of (cc := cX5_goes) (maxL := 2) (ret := (some .boolean)) pn_X5 rfl (Nat.le_of_ble_eq_true rfl) ?_
  intro p e s m args below meth c F hr hlk hK
  have KEY : ∀ n : Nat, (∀ (ν : Mem) (t0 : Int32) (t1 : Int32) (ls : Array Slot) (H : Heap) (locs : List Loc), lv_has ls 2 [(0, .ref (y)), (1, .int a1)] → va_P D vwCl (WM D y ν) H → va_S (rngM y) s.heap H locs → fl_X5_goes a1 n ν t0 t1 = some r → W p l e rmX5_goes s m args below meth c H locs 0 0 (MQ below (QM D y r.2 (some (.int r.1))) args s 0 0 (rngM y)) (F0 m 21 ls [.int t0, .int t1, .ref (y)])) := by
    intro n
    induction n with
    | zero => exact (fun _ _ _ _ _ _ _ _ _ h => nomatch h)
    | succ n ih =>
      skip
      intro ν t0 t1  ls H locs hl hP hS hf
      have hf : fb_X5_goes_1 a1 (fl_X5_goes a1 n) ν t0 t1 = some r := hf
      unfold fb_X5_goes_1 at hf
      refine lv_iadd F.1 F.2.1 dX5_goes_21 ?_
      have hP := m_up 0 hP
      refine m_putI F hK hP hS (fun _ h => List.mem_cons_of_mem _ (List.mem_append_right _ h)) 12 (Nat.le_of_ble_eq_true rfl) (List.mem_of_getElem? (i := 1) rfl) rfl rfl (ty := .int) rfl rfl rfl (fun _ _ => rfl) dX5_goes_22 (fun H locs hP hS => ?_)
      refine lv_aload_n F.1 F.2.1 dX5_goes_25 rfl (lv_at hl 0 rfl) ?_
      refine m_getI F hK hP rfl (fun _ h => List.mem_cons_of_mem _ (List.mem_append_right _ h)) 11 (Nat.le_of_ble_eq_true rfl) (List.mem_of_getElem? (i := 2) rfl) rfl (fun _ => rfl) dX5_goes_26 ?_
      refine lv_if_eq (tgt := 40) F.1 F.2.1 dX5_goes_29 rfl (fun hc3 => ?_) (fun hc3 => ?_)
      · have hf := ifp hc3 hf
        refine lv_iconst (v := (0 : Int32)) F.1 F.2.1 dX5_goes_40 (by decide) ?_
        obtain rfl := Option.some.inj hf
        exact m_zret F hr hlk hP hS rfl (b01_v (v := (0 : Int32)) (Or.inl rfl)) dX5_goes_41
      · have hf := ifn hc3 hf
        refine lv_iload_n F.1 F.2.1 dX5_goes_32 rfl (lv_at hl 1 rfl) ?_
        refine lv_if_eq (tgt := 40) F.1 F.2.1 dX5_goes_33 rfl (fun hc4 => ?_) (fun hc4 => ?_)
        · have hf := ifp hc4 hf
          refine lv_iconst (v := (0 : Int32)) F.1 F.2.1 dX5_goes_40 (by decide) ?_
          obtain rfl := Option.some.inj hf
          exact m_zret F hr hlk hP hS rfl (b01_v (v := (0 : Int32)) (Or.inl rfl)) dX5_goes_41
        · have hf := ifn hc4 hf
          refine lv_iconst (v := (1 : Int32)) F.1 F.2.1 dX5_goes_36 (by decide) ?_
          refine lv_goto (tgt := 41) F.1 F.2.1 dX5_goes_37 rfl ?_
          obtain rfl := Option.some.inj hf
          exact m_zret F hr hlk hP hS rfl (b01_v (v := (1 : Int32)) (Or.inr rfl)) dX5_goes_41
  intro ls H locs hl hP hS
  have hl : lv_has ls 2 [(0, .ref (y)), (1, .int a1)] := hl
  unfold f_X5_goes at hf
  refine lv_aload_n F.1 F.2.1 dX5_goes_0 rfl (lv_at hl 0 rfl) ?_
  refine lv_dup F.1 F.2.1 dX5_goes_1 rfl ?_
  refine m_getI F hK hP rfl (fun _ h => List.mem_cons_of_mem _ (List.mem_append_right _ h)) 12 (Nat.le_of_ble_eq_true rfl) (List.mem_of_getElem? (i := 1) rfl) rfl (fun _ => rfl) dX5_goes_2 ?_
  refine lv_aload_n F.1 F.2.1 dX5_goes_5 rfl (lv_at hl 0 rfl) ?_
  refine m_getI F hK hP rfl (fun _ h => List.mem_cons_of_mem _ (List.mem_append_right _ h)) 11 (Nat.le_of_ble_eq_true rfl) (List.mem_of_getElem? (i := 2) rfl) rfl (fun _ => rfl) dX5_goes_6 ?_
  refine lv_if_eq (tgt := 20) F.1 F.2.1 dX5_goes_9 rfl (fun hc1 => ?_) (fun hc1 => ?_)
  · have hf := ifp hc1 hf
    refine lv_iconst (v := (0 : Int32)) F.1 F.2.1 dX5_goes_20 (by decide) ?_
    exact (KEY FU) ν (0 : Int32) ((ν 0) 12) _ _ _ (lv_sub hl [0, 1] rfl) hP hS hf
  · have hf := ifn hc1 hf
    refine lv_iload_n F.1 F.2.1 dX5_goes_12 rfl (lv_at hl 1 rfl) ?_
    refine lv_if_ne (tgt := 20) F.1 F.2.1 dX5_goes_13 rfl (fun hc2 => ?_) (fun hc2 => ?_)
    · have hf := ifn hc2 hf
      refine lv_iconst (v := (0 : Int32)) F.1 F.2.1 dX5_goes_20 (by decide) ?_
      exact (KEY FU) ν (0 : Int32) ((ν 0) 12) _ _ _ (lv_sub hl [0, 1] rfl) hP hS hf
    · have hf := ifp hc2 hf
      refine lv_iconst (v := (1 : Int32)) F.1 F.2.1 dX5_goes_16 (by decide) ?_
      refine lv_goto (tgt := 21) F.1 F.2.1 dX5_goes_17 rfl ?_
      exact (KEY FU) ν (1 : Int32) ((ν 0) 12) _ _ _ (lv_sub hl [0, 1] rfl) hP hS hf

-- FrostTubesModel.readDays()I
def fb_X5_readDays_1  (K : Mem → Int32 → Int32 → Option (Int32 × Mem)) (ν : Mem) (t0 : Int32) (v1 : Int32) : Option (Int32 × Mem) := ((f_X5_take ν t0).bind fun r5 => ((f_X5_two r5 (0 : Int32) (30 : Int32)).bind fun r7 => ((f_X5_two r7.2 (0 : Int32) (30 : Int32)).bind fun r9 => ((f_X5_two r9.2 (1 : Int32) (60 : Int32)).bind fun r11 => ((f_X5_hasDays (r11.2 3) r11.1).bind fun r13 => ((f_X5_goes r11.2 r13).bind fun r15 => (if r15.1 = 0 then some ((0 : Int32), r15.2) else (if v1 = (45 : Int32) then ((f_X5_goDays (r15.2 3) (-r7.1) r9.1 r11.1).bind fun r21 => some (r21.1, (va_up r15.2 3 r21.2))) else ((f_X5_goDays (r15.2 3) r7.1 r9.1 r11.1).bind fun r19 => some (r19.1, (va_up r15.2 3 r19.2)))))))))))
def fl_X5_readDays  : Nat → Mem → Int32 → Int32 → Option (Int32 × Mem)
  | 0, _, _, _ => none
  | n + 1, ν, t0, v1 => fb_X5_readDays_1  (fl_X5_readDays  n) ν t0 v1
def f_X5_readDays (ν : Mem) : Option (Int32 × Mem) := ((f_X5_here ν).bind fun r1 => (if r1 = (43 : Int32) then (fl_X5_readDays  FU ν (1 : Int32) r1) else (if r1 = (45 : Int32) then (fl_X5_readDays  FU ν (1 : Int32) r1) else (fl_X5_readDays  FU ν (0 : Int32) r1))))
def rmX5_readDays : Room := { frames := 6, cells := 0, slots := 0, locals := 139 }
theorem hd_X5_readDays : yX5_readDays.cls ≠ "java/lang/invoke/MethodHandle" ∧ yX5_readDays.cls ≠ "java/lang/invoke/VarHandle" ∧ (parseMethodDescriptor yX5_readDays.desc).map (fun d => d.parameters.length) = some 0 := by decide +kernel
set_option maxHeartbeats 8000000 in
set_option maxRecDepth 100000 in
theorem c_X5_readDays {l : Launch} {D : va_G} {y : Nat} {ν : Mem} {r : Int32 × Mem} (hf : f_X5_readDays ν = some r) : CM l yX5_readDays wsX5_readDays rmX5_readDays [.ref (y)] D y ν (some (.int r.1)) r.2 := by
  refine CM.of (cc := cX5_readDays) (maxL := 5) (ret := (some .int)) pn_X5 rfl (Nat.le_of_ble_eq_true rfl) ?_
  intro p e s m args below meth c F hr hlk hK
  have KEY : ∀ n : Nat, (∀ (ν : Mem) (v1 : Int32) (t0 : Int32) (ls : Array Slot) (H : Heap) (locs : List Loc), lv_has ls 5 [(0, .ref (y)), (1, .int v1)] → va_P D vwCl (WM D y ν) H → va_S (rngM y) s.heap H locs → fl_X5_readDays  n ν t0 v1 = some r → W p l e rmX5_readDays s m args below meth c H locs 0 0 (MQ below (QM D y r.2 (some (.int r.1))) args s 0 0 (rngM y)) (F0 m 23 ls [.int t0, .ref (y)])) := by
    intro n
    induction n with
    | zero => exact (fun _ _ _ _ _ _ _ _ _ h => nomatch h)
    | succ n ih =>
      skip
      intro ν v1 t0  ls H locs hl hP hS hf
      have hf : fb_X5_readDays_1  (fl_X5_readDays  n) ν t0 v1 = some r := hf
      unfold fb_X5_readDays_1 at hf
      obtain ⟨r5, hr6, hf⟩ := bnd hf
      refine m_callV F hK hP hS (c_X5_take t0 hr6) (cwV 1 F.2.2.2.2 gX5_readDays_X5_take rfl rfl rfl ⟨rfl, hd_X5_take⟩ ⟨(Nat.le_of_ble_eq_true rfl), (Nat.le_of_ble_eq_true rfl)⟩) rfl rfl hl.1 (Nat.le_of_ble_eq_true rfl) dX5_readDays_23 ⟨(Nat.le_of_ble_eq_true rfl), (Nat.le_of_ble_eq_true rfl)⟩ (rest := []) (fun H locs hP hS => ?_)
      refine W.eq (g2 := F0 m 26 ls []) rfl ?_
      refine lv_aload_n F.1 F.2.1 dX5_readDays_26 rfl (lv_at hl 0 rfl) ?_
      refine lv_iconst (v := (0 : Int32)) F.1 F.2.1 dX5_readDays_27 (by decide) ?_
      refine lv_bipush (v := (30 : Int32)) F.1 F.2.1 dX5_readDays_28 (by decide) ?_
      obtain ⟨r7, hr8, hf⟩ := bnd hf
      refine m_callV F hK hP hS (c_X5_two (0 : Int32) (30 : Int32) hr8) (cwV 2 F.2.2.2.2 gX5_readDays_X5_two rfl rfl rfl ⟨rfl, hd_X5_two⟩ ⟨(Nat.le_of_ble_eq_true rfl), (Nat.le_of_ble_eq_true rfl)⟩) rfl rfl hl.1 (Nat.le_of_ble_eq_true rfl) dX5_readDays_30 ⟨(Nat.le_of_ble_eq_true rfl), (Nat.le_of_ble_eq_true rfl)⟩ (rest := []) (fun H locs hP hS => ?_)
      refine W.eq (g2 := F0 m 33 ls [.int r7.1]) rfl ?_
      refine lv_istore_n F.1 F.2.1 dX5_readDays_33 rfl hl (Nat.le_of_ble_eq_true rfl) rfl (fun ls hl => ?_)
      have hl : lv_has ls 5 [(2, .int r7.1), (0, .ref (y)), (1, .int v1)] := hl
      refine lv_aload_n F.1 F.2.1 dX5_readDays_34 rfl (lv_at hl 1 rfl) ?_
      refine lv_iconst (v := (0 : Int32)) F.1 F.2.1 dX5_readDays_35 (by decide) ?_
      refine lv_bipush (v := (30 : Int32)) F.1 F.2.1 dX5_readDays_36 (by decide) ?_
      obtain ⟨r9, hr10, hf⟩ := bnd hf
      refine m_callV F hK hP hS (c_X5_two (0 : Int32) (30 : Int32) hr10) (cwV 2 F.2.2.2.2 gX5_readDays_X5_two rfl rfl rfl ⟨rfl, hd_X5_two⟩ ⟨(Nat.le_of_ble_eq_true rfl), (Nat.le_of_ble_eq_true rfl)⟩) rfl rfl hl.1 (Nat.le_of_ble_eq_true rfl) dX5_readDays_38 ⟨(Nat.le_of_ble_eq_true rfl), (Nat.le_of_ble_eq_true rfl)⟩ (rest := []) (fun H locs hP hS => ?_)
      refine W.eq (g2 := F0 m 41 ls [.int r9.1]) rfl ?_
      refine lv_istore_n F.1 F.2.1 dX5_readDays_41 rfl hl (Nat.le_of_ble_eq_true rfl) rfl (fun ls hl => ?_)
      have hl : lv_has ls 5 [(3, .int r9.1), (2, .int r7.1), (0, .ref (y)), (1, .int v1)] := hl
      refine lv_aload_n F.1 F.2.1 dX5_readDays_42 rfl (lv_at hl 2 rfl) ?_
      refine lv_iconst (v := (1 : Int32)) F.1 F.2.1 dX5_readDays_43 (by decide) ?_
      refine lv_bipush (v := (60 : Int32)) F.1 F.2.1 dX5_readDays_44 (by decide) ?_
      obtain ⟨r11, hr12, hf⟩ := bnd hf
      refine m_callV F hK hP hS (c_X5_two (1 : Int32) (60 : Int32) hr12) (cwV 2 F.2.2.2.2 gX5_readDays_X5_two rfl rfl rfl ⟨rfl, hd_X5_two⟩ ⟨(Nat.le_of_ble_eq_true rfl), (Nat.le_of_ble_eq_true rfl)⟩) rfl rfl hl.1 (Nat.le_of_ble_eq_true rfl) dX5_readDays_46 ⟨(Nat.le_of_ble_eq_true rfl), (Nat.le_of_ble_eq_true rfl)⟩ (rest := []) (fun H locs hP hS => ?_)
      refine W.eq (g2 := F0 m 49 ls [.int r11.1]) rfl ?_
      refine lv_istore F.1 F.2.1 dX5_readDays_49 hl (Nat.le_of_ble_eq_true rfl) rfl (fun ls hl => ?_)
      have hl : lv_has ls 5 [(4, .int r11.1), (3, .int r9.1), (2, .int r7.1), (0, .ref (y)), (1, .int v1)] := hl
      refine lv_aload_n F.1 F.2.1 dX5_readDays_51 rfl (lv_at hl 3 rfl) ?_
      refine lv_aload_n F.1 F.2.1 dX5_readDays_52 rfl (lv_at hl 3 rfl) ?_
      refine m_getR F hK hP (fun _ h => List.mem_cons_of_mem _ (List.mem_append_right _ h)) 3 (Nat.le_of_ble_eq_true rfl) (List.mem_of_getElem? (i := 1) rfl) rfl (v := .ref (y + 3)) (fun _ => rfl) dX5_readDays_53 ?_
      refine lv_iload F.1 F.2.1 dX5_readDays_56 (lv_at hl 0 rfl) ?_
      obtain ⟨r13, hr14, hf⟩ := bnd hf
      refine m_callS F hK hP hS (c_X5_hasDays (by decide) (by decide) rfl r11.1 hr14) (va_cwS 2 F.2.2.2.2 gX5_readDays_X5_hasDays rfl rfl rfl hd_X5_hasDays ⟨(Nat.le_of_ble_eq_true rfl), (Nat.le_of_ble_eq_true rfl)⟩) rfl rfl hl.1 (Nat.le_of_ble_eq_true rfl) dX5_readDays_58 ⟨(Nat.le_of_ble_eq_true rfl), (Nat.le_of_ble_eq_true rfl)⟩ (rest := [.ref (y)]) (fun H locs hP hS => ?_)
      refine W.eq (g2 := F0 m 61 ls [.int r13, .ref (y)]) rfl ?_
      obtain ⟨r15, hr16, hf⟩ := bnd hf
      refine m_callV F hK hP hS (c_X5_goes r13 hr16) (cwV 1 F.2.2.2.2 gX5_readDays_X5_goes rfl rfl rfl ⟨rfl, hd_X5_goes⟩ ⟨(Nat.le_of_ble_eq_true rfl), (Nat.le_of_ble_eq_true rfl)⟩) rfl rfl hl.1 (Nat.le_of_ble_eq_true rfl) dX5_readDays_61 ⟨(Nat.le_of_ble_eq_true rfl), (Nat.le_of_ble_eq_true rfl)⟩ (rest := []) (fun H locs hP hS => ?_)
      refine W.eq (g2 := F0 m 64 ls [.int r15.1]) rfl ?_
      refine lv_if_eq (tgt := 92) F.1 F.2.1 dX5_readDays_64 rfl (fun hc17 => ?_) (fun hc17 => ?_)
      · have hf := ifp hc17 hf
        refine lv_iconst (v := (0 : Int32)) F.1 F.2.1 dX5_readDays_92 (by decide) ?_
        obtain rfl := Option.some.inj hf
        exact m_iret F hr hlk hP hS rfl dX5_readDays_93
      · have hf := ifn hc17 hf
        refine lv_aload_n F.1 F.2.1 dX5_readDays_67 rfl (lv_at hl 3 rfl) ?_
        refine m_getR F hK hP (fun _ h => List.mem_cons_of_mem _ (List.mem_append_right _ h)) 3 (Nat.le_of_ble_eq_true rfl) (List.mem_of_getElem? (i := 1) rfl) rfl (v := .ref (y + 3)) (fun _ => rfl) dX5_readDays_68 ?_
        refine lv_iload_n F.1 F.2.1 dX5_readDays_71 rfl (lv_at hl 4 rfl) ?_
        refine lv_bipush (v := (45 : Int32)) F.1 F.2.1 dX5_readDays_72 (by decide) ?_
        refine lv_icmp_ne (tgt := 82) F.1 F.2.1 dX5_readDays_74 rfl (fun hc18 => ?_) (fun hc18 => ?_)
        · have hf := ifn hc18 hf
          refine lv_iload_n F.1 F.2.1 dX5_readDays_82 rfl (lv_at hl 2 rfl) ?_
          refine lv_iload_n F.1 F.2.1 dX5_readDays_83 rfl (lv_at hl 1 rfl) ?_
          refine lv_iload F.1 F.2.1 dX5_readDays_84 (lv_at hl 0 rfl) ?_
          obtain ⟨r19, hr20, hf⟩ := bnd hf
          have hP := m_up 3 hP
          refine m_callS F hK hP hS (c_X5_goDays (by decide) (by decide) r7.1 r9.1 r11.1 hr20) (va_cwS 4 F.2.2.2.2 gX5_readDays_X5_goDays rfl rfl rfl hd_X5_goDays ⟨(Nat.le_of_ble_eq_true rfl), (Nat.le_of_ble_eq_true rfl)⟩) rfl rfl hl.1 (Nat.le_of_ble_eq_true rfl) dX5_readDays_86 ⟨(Nat.le_of_ble_eq_true rfl), (Nat.le_of_ble_eq_true rfl)⟩ (rest := []) (fun H locs hP hS => ?_)
          refine W.eq (g2 := F0 m 89 ls [.int r19.1]) rfl ?_
          refine lv_goto (tgt := 93) F.1 F.2.1 dX5_readDays_89 rfl ?_
          obtain rfl := Option.some.inj hf
          exact m_iret F hr hlk hP hS rfl dX5_readDays_93
        · have hf := ifp hc18 hf
          refine lv_iload_n F.1 F.2.1 dX5_readDays_77 rfl (lv_at hl 2 rfl) ?_
          refine lv_ineg F.1 F.2.1 dX5_readDays_78 ?_
          refine lv_goto (tgt := 83) F.1 F.2.1 dX5_readDays_79 rfl ?_
          refine lv_iload_n F.1 F.2.1 dX5_readDays_83 rfl (lv_at hl 1 rfl) ?_
          refine lv_iload F.1 F.2.1 dX5_readDays_84 (lv_at hl 0 rfl) ?_
          obtain ⟨r21, hr22, hf⟩ := bnd hf
          have hP := m_up 3 hP
          refine m_callS F hK hP hS (c_X5_goDays (by decide) (by decide) (-r7.1) r9.1 r11.1 hr22) (va_cwS 4 F.2.2.2.2 gX5_readDays_X5_goDays rfl rfl rfl hd_X5_goDays ⟨(Nat.le_of_ble_eq_true rfl), (Nat.le_of_ble_eq_true rfl)⟩) rfl rfl hl.1 (Nat.le_of_ble_eq_true rfl) dX5_readDays_86 ⟨(Nat.le_of_ble_eq_true rfl), (Nat.le_of_ble_eq_true rfl)⟩ (rest := []) (fun H locs hP hS => ?_)
          refine W.eq (g2 := F0 m 89 ls [.int r21.1]) rfl ?_
          refine lv_goto (tgt := 93) F.1 F.2.1 dX5_readDays_89 rfl ?_
          obtain rfl := Option.some.inj hf
          exact m_iret F hr hlk hP hS rfl dX5_readDays_93
  intro ls H locs hl hP hS
  have hl : lv_has ls 5 [(0, .ref (y))] := hl
  unfold f_X5_readDays at hf
  refine lv_aload_n F.1 F.2.1 dX5_readDays_0 rfl (lv_at hl 0 rfl) ?_
  obtain ⟨r1, hr2, hf⟩ := bnd hf
  refine m_callV F hK hP hS (c_X5_here hr2) (cwV 0 F.2.2.2.2 gX5_readDays_X5_here rfl rfl rfl ⟨rfl, hd_X5_here⟩ ⟨(Nat.le_of_ble_eq_true rfl), (Nat.le_of_ble_eq_true rfl)⟩) rfl rfl hl.1 (Nat.le_of_ble_eq_true rfl) dX5_readDays_1 ⟨(Nat.le_of_ble_eq_true rfl), (Nat.le_of_ble_eq_true rfl)⟩ (rest := []) (fun H locs hP hS => ?_)
  refine W.eq (g2 := F0 m 4 ls [.int r1]) rfl ?_
  refine lv_istore_n F.1 F.2.1 dX5_readDays_4 rfl hl (Nat.le_of_ble_eq_true rfl) rfl (fun ls hl => ?_)
  have hl : lv_has ls 5 [(1, .int r1), (0, .ref (y))] := hl
  refine lv_aload_n F.1 F.2.1 dX5_readDays_5 rfl (lv_at hl 1 rfl) ?_
  refine lv_iload_n F.1 F.2.1 dX5_readDays_6 rfl (lv_at hl 0 rfl) ?_
  refine lv_bipush (v := (43 : Int32)) F.1 F.2.1 dX5_readDays_7 (by decide) ?_
  refine lv_icmp_eq (tgt := 18) F.1 F.2.1 dX5_readDays_9 rfl (fun hc3 => ?_) (fun hc3 => ?_)
  · have hf := ifp hc3 hf
    refine lv_iconst (v := (1 : Int32)) F.1 F.2.1 dX5_readDays_18 (by decide) ?_
    refine lv_goto (tgt := 23) F.1 F.2.1 dX5_readDays_19 rfl ?_
    exact (KEY FU) ν r1 (1 : Int32) _ _ _ (lv_sub hl [1, 0] rfl) hP hS hf
  · have hf := ifn hc3 hf
    refine lv_iload_n F.1 F.2.1 dX5_readDays_12 rfl (lv_at hl 0 rfl) ?_
    refine lv_bipush (v := (45 : Int32)) F.1 F.2.1 dX5_readDays_13 (by decide) ?_
    refine lv_icmp_ne (tgt := 22) F.1 F.2.1 dX5_readDays_15 rfl (fun hc4 => ?_) (fun hc4 => ?_)
    · have hf := ifn hc4 hf
      refine lv_iconst (v := (0 : Int32)) F.1 F.2.1 dX5_readDays_22 (by decide) ?_
      exact (KEY FU) ν r1 (0 : Int32) _ _ _ (lv_sub hl [1, 0] rfl) hP hS hf
    · have hf := ifp hc4 hf
      refine lv_iconst (v := (1 : Int32)) F.1 F.2.1 dX5_readDays_18 (by decide) ?_
      refine lv_goto (tgt := 23) F.1 F.2.1 dX5_readDays_19 rfl ?_
      exact (KEY FU) ν r1 (1 : Int32) _ _ _ (lv_sub hl [1, 0] rfl) hP hS hf

-- FrostTubesModel.readAtSite(I)I
def fb_X5_readAtSite_1 (a1 : Int32) (K : Nat → Mem → Int32 → Int32 → Int32 → Option (Int32 × Mem)) (ν : Mem) (t0 : Int32) (v2 : Int32) (v3 : Int32) : Option (Int32 × Mem) := ((f_X5_goes ν t0).bind fun r36 => (if r36.1 = 0 then some ((0 : Int32), r36.2) else ((f_X5_addPipe (r36.2 3) v2 v3).bind fun r39 => some (r39.1, (va_up r36.2 3 r39.2)))))
def fb_X5_readAtSite_2 (a1 : Int32) (K : Nat → Mem → Int32 → Int32 → Int32 → Option (Int32 × Mem)) (ν : Mem) (t0 : Int32) (v2 : Int32) (v3 : Int32) : Option (Int32 × Mem) := ((f_X5_goes ν t0).bind fun r41 => (if r41.1 = 0 then some ((0 : Int32), r41.2) else ((f_X5_addTube (r41.2 3) v2 v3).bind fun r44 => some (r44.1, (va_up r41.2 3 r44.2)))))
def fl_X5_readAtSite (a1 : Int32) : Nat → Nat → Mem → Int32 → Int32 → Int32 → Option (Int32 × Mem)
  | 0, _, _, _, _, _ => none
  | n + 1, lab, ν, t0, v2, v3 => match lab with
    | 1 => fb_X5_readAtSite_1 a1 (fl_X5_readAtSite a1 n) ν t0 v2 v3
    | _ => fb_X5_readAtSite_2 a1 (fl_X5_readAtSite a1 n) ν t0 v2 v3
def f_X5_readAtSite (ν : Mem) (a1 : Int32) : Option (Int32 × Mem) := ((f_X5_digit ν (0 : Int32) (3 : Int32)).bind fun r1 => (if a1 = (102 : Int32) then ((f_X5_two r1.2 (0 : Int32) (20 : Int32)).bind fun r4 => ((f_X5_isSite (r4.2 3) r1.1).bind fun r6 => ((f_X5_goes r4.2 r6).bind fun r8 => (if r8.1 = 0 then some ((0 : Int32), r8.2) else ((f_X5_put (r8.2 3) (((35 : Int32) * r1.1) + (1 : Int32)) r4.1).bind fun r11 => some (r11.1, (va_up r8.2 3 r11.2))))))) else (if a1 = (112 : Int32) then ((f_X5_two r1.2 (0 : Int32) (29 : Int32)).bind fun r14 => ((f_X5_isSite (r14.2 3) r1.1).bind fun r16 => (if r16 = 0 then (fl_X5_readAtSite a1 FU 1 r14.2 (0 : Int32) r1.1 r14.1) else ((f_X5_canLay (r14.2 3) r1.1 r14.1).bind fun r19 => (if r19 = 0 then (fl_X5_readAtSite a1 FU 1 r14.2 (0 : Int32) r1.1 r14.1) else (fl_X5_readAtSite a1 FU 1 r14.2 (1 : Int32) r1.1 r14.1)))))) else (if a1 = (116 : Int32) then ((f_X5_two r1.2 (1 : Int32) (30 : Int32)).bind fun r23 => ((f_X5_isSite (r23.2 3) r1.1).bind fun r25 => (if r25 = 0 then (fl_X5_readAtSite a1 FU 2 r23.2 (0 : Int32) r1.1 r23.1) else (if (8 : Int32) ≤ ((r23.2 3) (197 : Int32).toNatClampNeg) then (fl_X5_readAtSite a1 FU 2 r23.2 (0 : Int32) r1.1 r23.1) else (fl_X5_readAtSite a1 FU 2 r23.2 (1 : Int32) r1.1 r23.1))))) else ((f_X5_isSite (r1.2 3) r1.1).bind fun r29 => ((f_X5_goes r1.2 r29).bind fun r31 => (if r31.1 = 0 then some ((0 : Int32), r31.2) else ((f_X5_put (r31.2 3) (((35 : Int32) * r1.1) + (0 : Int32)) (0 : Int32)).bind fun r34 => some (r34.1, (va_up r31.2 3 r34.2))))))))))
def rmX5_readAtSite : Room := { frames := 3, cells := 0, slots := 0, locals := 71 }
theorem hd_X5_readAtSite : yX5_readAtSite.cls ≠ "java/lang/invoke/MethodHandle" ∧ yX5_readAtSite.cls ≠ "java/lang/invoke/VarHandle" ∧ (parseMethodDescriptor yX5_readAtSite.desc).map (fun d => d.parameters.length) = some 1 := by decide +kernel
set_option maxHeartbeats 8000000 in
set_option maxRecDepth 100000 in
theorem c_X5_readAtSite {l : Launch} {D : va_G} {y : Nat} {ν : Mem} (a1 : Int32) {r : Int32 × Mem} (hf : f_X5_readAtSite ν a1 = some r) : CM l yX5_readAtSite wsX5_readAtSite rmX5_readAtSite [.ref (y), .int a1] D y ν (some (.int r.1)) r.2 := by
  refine CM.of (cc := cX5_readAtSite) (maxL := 4) (ret := (some .int)) pn_X5 rfl (Nat.le_of_ble_eq_true rfl) ?_
  intro p e s m args below meth c F hr hlk hK
  have KEY : ∀ n : Nat, (∀ (ν : Mem) (v2 : Int32) (v3 : Int32) (t0 : Int32) (ls : Array Slot) (H : Heap) (locs : List Loc), lv_has ls 4 [(0, .ref (y)), (2, .int v2), (3, .int v3)] → va_P D vwCl (WM D y ν) H → va_S (rngM y) s.heap H locs → fl_X5_readAtSite a1 n 1 ν t0 v2 v3 = some r → W p l e rmX5_readAtSite s m args below meth c H locs 0 0 (MQ below (QM D y r.2 (some (.int r.1))) args s 0 0 (rngM y)) (F0 m 139 ls [.int t0, .ref (y)])) ∧ (∀ (ν : Mem) (v2 : Int32) (v3 : Int32) (t0 : Int32) (ls : Array Slot) (H : Heap) (locs : List Loc), lv_has ls 4 [(0, .ref (y)), (2, .int v2), (3, .int v3)] → va_P D vwCl (WM D y ν) H → va_S (rngM y) s.heap H locs → fl_X5_readAtSite a1 n 2 ν t0 v2 v3 = some r → W p l e rmX5_readAtSite s m args below meth c H locs 0 0 (MQ below (QM D y r.2 (some (.int r.1))) args s 0 0 (rngM y)) (F0 m 82 ls [.int t0, .ref (y)])) := by
    intro n
    induction n with
    | zero => exact ⟨(fun _ _ _ _ _ _ _ _ _ _ h => nomatch h), (fun _ _ _ _ _ _ _ _ _ _ h => nomatch h)⟩
    | succ n ih =>
      refine ⟨?_, ?_⟩
      · intro ν v2 v3 t0  ls H locs hl hP hS hf
        have hf : fb_X5_readAtSite_1 a1 (fl_X5_readAtSite a1 n) ν t0 v2 v3 = some r := hf
        unfold fb_X5_readAtSite_1 at hf
        obtain ⟨r36, hr37, hf⟩ := bnd hf
        refine m_callV F hK hP hS (c_X5_goes t0 hr37) (cwV 1 F.2.2.2.2 gX5_readAtSite_X5_goes rfl rfl rfl ⟨rfl, hd_X5_goes⟩ ⟨(Nat.le_of_ble_eq_true rfl), (Nat.le_of_ble_eq_true rfl)⟩) rfl rfl hl.1 (Nat.le_of_ble_eq_true rfl) dX5_readAtSite_139 ⟨(Nat.le_of_ble_eq_true rfl), (Nat.le_of_ble_eq_true rfl)⟩ (rest := []) (fun H locs hP hS => ?_)
        refine W.eq (g2 := F0 m 142 ls [.int r36.1]) rfl ?_
        refine lv_if_eq (tgt := 157) F.1 F.2.1 dX5_readAtSite_142 rfl (fun hc38 => ?_) (fun hc38 => ?_)
        · have hf := ifp hc38 hf
          refine lv_iconst (v := (0 : Int32)) F.1 F.2.1 dX5_readAtSite_157 (by decide) ?_
          obtain rfl := Option.some.inj hf
          exact m_iret F hr hlk hP hS rfl dX5_readAtSite_158
        · have hf := ifn hc38 hf
          refine lv_aload_n F.1 F.2.1 dX5_readAtSite_145 rfl (lv_at hl 0 rfl) ?_
          refine m_getR F hK hP (fun _ h => List.mem_cons_of_mem _ (List.mem_append_right _ h)) 3 (Nat.le_of_ble_eq_true rfl) (List.mem_of_getElem? (i := 1) rfl) rfl (v := .ref (y + 3)) (fun _ => rfl) dX5_readAtSite_146 ?_
          refine lv_iload_n F.1 F.2.1 dX5_readAtSite_149 rfl (lv_at hl 1 rfl) ?_
          refine lv_iload_n F.1 F.2.1 dX5_readAtSite_150 rfl (lv_at hl 2 rfl) ?_
          obtain ⟨r39, hr40, hf⟩ := bnd hf
          have hP := m_up 3 hP
          refine m_callS F hK hP hS (c_X5_addPipe (by decide) (by decide) v2 v3 hr40) (va_cwS 3 F.2.2.2.2 gX5_readAtSite_X5_addPipe rfl rfl rfl hd_X5_addPipe ⟨(Nat.le_of_ble_eq_true rfl), (Nat.le_of_ble_eq_true rfl)⟩) rfl rfl hl.1 (Nat.le_of_ble_eq_true rfl) dX5_readAtSite_151 ⟨(Nat.le_of_ble_eq_true rfl), (Nat.le_of_ble_eq_true rfl)⟩ (rest := []) (fun H locs hP hS => ?_)
          refine W.eq (g2 := F0 m 154 ls [.int r39.1]) rfl ?_
          refine lv_goto (tgt := 158) F.1 F.2.1 dX5_readAtSite_154 rfl ?_
          obtain rfl := Option.some.inj hf
          exact m_iret F hr hlk hP hS rfl dX5_readAtSite_158
      · intro ν v2 v3 t0  ls H locs hl hP hS hf
        have hf : fb_X5_readAtSite_2 a1 (fl_X5_readAtSite a1 n) ν t0 v2 v3 = some r := hf
        unfold fb_X5_readAtSite_2 at hf
        obtain ⟨r41, hr42, hf⟩ := bnd hf
        refine m_callV F hK hP hS (c_X5_goes t0 hr42) (cwV 1 F.2.2.2.2 gX5_readAtSite_X5_goes rfl rfl rfl ⟨rfl, hd_X5_goes⟩ ⟨(Nat.le_of_ble_eq_true rfl), (Nat.le_of_ble_eq_true rfl)⟩) rfl rfl hl.1 (Nat.le_of_ble_eq_true rfl) dX5_readAtSite_82 ⟨(Nat.le_of_ble_eq_true rfl), (Nat.le_of_ble_eq_true rfl)⟩ (rest := []) (fun H locs hP hS => ?_)
        refine W.eq (g2 := F0 m 85 ls [.int r41.1]) rfl ?_
        refine lv_if_eq (tgt := 100) F.1 F.2.1 dX5_readAtSite_85 rfl (fun hc43 => ?_) (fun hc43 => ?_)
        · have hf := ifp hc43 hf
          refine lv_iconst (v := (0 : Int32)) F.1 F.2.1 dX5_readAtSite_100 (by decide) ?_
          obtain rfl := Option.some.inj hf
          exact m_iret F hr hlk hP hS rfl dX5_readAtSite_101
        · have hf := ifn hc43 hf
          refine lv_aload_n F.1 F.2.1 dX5_readAtSite_88 rfl (lv_at hl 0 rfl) ?_
          refine m_getR F hK hP (fun _ h => List.mem_cons_of_mem _ (List.mem_append_right _ h)) 3 (Nat.le_of_ble_eq_true rfl) (List.mem_of_getElem? (i := 1) rfl) rfl (v := .ref (y + 3)) (fun _ => rfl) dX5_readAtSite_89 ?_
          refine lv_iload_n F.1 F.2.1 dX5_readAtSite_92 rfl (lv_at hl 1 rfl) ?_
          refine lv_iload_n F.1 F.2.1 dX5_readAtSite_93 rfl (lv_at hl 2 rfl) ?_
          obtain ⟨r44, hr45, hf⟩ := bnd hf
          have hP := m_up 3 hP
          refine m_callS F hK hP hS (c_X5_addTube (by decide) (by decide) v2 v3 hr45) (va_cwS 3 F.2.2.2.2 gX5_readAtSite_X5_addTube rfl rfl rfl hd_X5_addTube ⟨(Nat.le_of_ble_eq_true rfl), (Nat.le_of_ble_eq_true rfl)⟩) rfl rfl hl.1 (Nat.le_of_ble_eq_true rfl) dX5_readAtSite_94 ⟨(Nat.le_of_ble_eq_true rfl), (Nat.le_of_ble_eq_true rfl)⟩ (rest := []) (fun H locs hP hS => ?_)
          refine W.eq (g2 := F0 m 97 ls [.int r44.1]) rfl ?_
          refine lv_goto (tgt := 101) F.1 F.2.1 dX5_readAtSite_97 rfl ?_
          obtain rfl := Option.some.inj hf
          exact m_iret F hr hlk hP hS rfl dX5_readAtSite_101
  intro ls H locs hl hP hS
  have hl : lv_has ls 4 [(0, .ref (y)), (1, .int a1)] := hl
  unfold f_X5_readAtSite at hf
  refine lv_aload_n F.1 F.2.1 dX5_readAtSite_0 rfl (lv_at hl 0 rfl) ?_
  refine lv_iconst (v := (0 : Int32)) F.1 F.2.1 dX5_readAtSite_1 (by decide) ?_
  refine lv_iconst (v := (3 : Int32)) F.1 F.2.1 dX5_readAtSite_2 (by decide) ?_
  obtain ⟨r1, hr2, hf⟩ := bnd hf
  refine m_callV F hK hP hS (c_X5_digit (0 : Int32) (3 : Int32) hr2) (cwV 2 F.2.2.2.2 gX5_readAtSite_X5_digit rfl rfl rfl ⟨rfl, hd_X5_digit⟩ ⟨(Nat.le_of_ble_eq_true rfl), (Nat.le_of_ble_eq_true rfl)⟩) rfl rfl hl.1 (Nat.le_of_ble_eq_true rfl) dX5_readAtSite_3 ⟨(Nat.le_of_ble_eq_true rfl), (Nat.le_of_ble_eq_true rfl)⟩ (rest := []) (fun H locs hP hS => ?_)
  refine W.eq (g2 := F0 m 6 ls [.int r1.1]) rfl ?_
  refine lv_istore_n F.1 F.2.1 dX5_readAtSite_6 rfl hl (Nat.le_of_ble_eq_true rfl) rfl (fun ls hl => ?_)
  have hl : lv_has ls 4 [(2, .int r1.1), (0, .ref (y)), (1, .int a1)] := hl
  refine lv_iload_n F.1 F.2.1 dX5_readAtSite_7 rfl (lv_at hl 2 rfl) ?_
  by_cases hc3 : a1 = (102 : Int32)
  · have hf := ifp hc3 hf
    refine lv_lookup (off := 151) (tgt := 159) F.1 F.2.1 dX5_readAtSite_8 (by decide) (by rw [hc3]; decide) rfl ?_
    refine lv_aload_n F.1 F.2.1 dX5_readAtSite_159 rfl (lv_at hl 1 rfl) ?_
    refine lv_iconst (v := (0 : Int32)) F.1 F.2.1 dX5_readAtSite_160 (by decide) ?_
    refine lv_bipush (v := (20 : Int32)) F.1 F.2.1 dX5_readAtSite_161 (by decide) ?_
    obtain ⟨r4, hr5, hf⟩ := bnd hf
    refine m_callV F hK hP hS (c_X5_two (0 : Int32) (20 : Int32) hr5) (cwV 2 F.2.2.2.2 gX5_readAtSite_X5_two rfl rfl rfl ⟨rfl, hd_X5_two⟩ ⟨(Nat.le_of_ble_eq_true rfl), (Nat.le_of_ble_eq_true rfl)⟩) rfl rfl hl.1 (Nat.le_of_ble_eq_true rfl) dX5_readAtSite_163 ⟨(Nat.le_of_ble_eq_true rfl), (Nat.le_of_ble_eq_true rfl)⟩ (rest := []) (fun H locs hP hS => ?_)
    refine W.eq (g2 := F0 m 166 ls [.int r4.1]) rfl ?_
    refine lv_istore_n F.1 F.2.1 dX5_readAtSite_166 rfl hl (Nat.le_of_ble_eq_true rfl) rfl (fun ls hl => ?_)
    have hl : lv_has ls 4 [(3, .int r4.1), (2, .int r1.1), (0, .ref (y)), (1, .int a1)] := hl
    refine lv_aload_n F.1 F.2.1 dX5_readAtSite_167 rfl (lv_at hl 2 rfl) ?_
    refine lv_aload_n F.1 F.2.1 dX5_readAtSite_168 rfl (lv_at hl 2 rfl) ?_
    refine m_getR F hK hP (fun _ h => List.mem_cons_of_mem _ (List.mem_append_right _ h)) 3 (Nat.le_of_ble_eq_true rfl) (List.mem_of_getElem? (i := 1) rfl) rfl (v := .ref (y + 3)) (fun _ => rfl) dX5_readAtSite_169 ?_
    refine lv_iload_n F.1 F.2.1 dX5_readAtSite_172 rfl (lv_at hl 1 rfl) ?_
    obtain ⟨r6, hr7, hf⟩ := bnd hf
    refine m_callS F hK hP hS (c_X5_isSite (by decide) (by decide) rfl r1.1 hr7) (va_cwS 2 F.2.2.2.2 gX5_readAtSite_X5_isSite rfl rfl rfl hd_X5_isSite ⟨(Nat.le_of_ble_eq_true rfl), (Nat.le_of_ble_eq_true rfl)⟩) rfl rfl hl.1 (Nat.le_of_ble_eq_true rfl) dX5_readAtSite_173 ⟨(Nat.le_of_ble_eq_true rfl), (Nat.le_of_ble_eq_true rfl)⟩ (rest := [.ref (y)]) (fun H locs hP hS => ?_)
    refine W.eq (g2 := F0 m 176 ls [.int r6, .ref (y)]) rfl ?_
    obtain ⟨r8, hr9, hf⟩ := bnd hf
    refine m_callV F hK hP hS (c_X5_goes r6 hr9) (cwV 1 F.2.2.2.2 gX5_readAtSite_X5_goes rfl rfl rfl ⟨rfl, hd_X5_goes⟩ ⟨(Nat.le_of_ble_eq_true rfl), (Nat.le_of_ble_eq_true rfl)⟩) rfl rfl hl.1 (Nat.le_of_ble_eq_true rfl) dX5_readAtSite_176 ⟨(Nat.le_of_ble_eq_true rfl), (Nat.le_of_ble_eq_true rfl)⟩ (rest := []) (fun H locs hP hS => ?_)
    refine W.eq (g2 := F0 m 179 ls [.int r8.1]) rfl ?_
    refine lv_if_eq (tgt := 199) F.1 F.2.1 dX5_readAtSite_179 rfl (fun hc10 => ?_) (fun hc10 => ?_)
    · have hf := ifp hc10 hf
      refine lv_iconst (v := (0 : Int32)) F.1 F.2.1 dX5_readAtSite_199 (by decide) ?_
      obtain rfl := Option.some.inj hf
      exact m_iret F hr hlk hP hS rfl dX5_readAtSite_200
    · have hf := ifn hc10 hf
      refine lv_aload_n F.1 F.2.1 dX5_readAtSite_182 rfl (lv_at hl 2 rfl) ?_
      refine m_getR F hK hP (fun _ h => List.mem_cons_of_mem _ (List.mem_append_right _ h)) 3 (Nat.le_of_ble_eq_true rfl) (List.mem_of_getElem? (i := 1) rfl) rfl (v := .ref (y + 3)) (fun _ => rfl) dX5_readAtSite_183 ?_
      refine lv_bipush (v := (35 : Int32)) F.1 F.2.1 dX5_readAtSite_186 (by decide) ?_
      refine lv_iload_n F.1 F.2.1 dX5_readAtSite_188 rfl (lv_at hl 1 rfl) ?_
      refine lv_imul F.1 F.2.1 dX5_readAtSite_189 ?_
      refine lv_iconst (v := (1 : Int32)) F.1 F.2.1 dX5_readAtSite_190 (by decide) ?_
      refine lv_iadd F.1 F.2.1 dX5_readAtSite_191 ?_
      refine lv_iload_n F.1 F.2.1 dX5_readAtSite_192 rfl (lv_at hl 0 rfl) ?_
      obtain ⟨r11, hr12, hf⟩ := bnd hf
      have hP := m_up 3 hP
      refine m_callS F hK hP hS (c_X5_put (by decide) (by decide) (((35 : Int32) * r1.1) + (1 : Int32)) r4.1 hr12) (va_cwS 3 F.2.2.2.2 gX5_readAtSite_X5_put rfl rfl rfl hd_X5_put ⟨(Nat.le_of_ble_eq_true rfl), (Nat.le_of_ble_eq_true rfl)⟩) rfl rfl hl.1 (Nat.le_of_ble_eq_true rfl) dX5_readAtSite_193 ⟨(Nat.le_of_ble_eq_true rfl), (Nat.le_of_ble_eq_true rfl)⟩ (rest := []) (fun H locs hP hS => ?_)
      refine W.eq (g2 := F0 m 196 ls [.int r11.1]) rfl ?_
      refine lv_goto (tgt := 200) F.1 F.2.1 dX5_readAtSite_196 rfl ?_
      obtain rfl := Option.some.inj hf
      exact m_iret F hr hlk hP hS rfl dX5_readAtSite_200
  have hf := ifn hc3 hf
  by_cases hc13 : a1 = (112 : Int32)
  · have hf := ifp hc13 hf
    refine lv_lookup (off := 94) (tgt := 102) F.1 F.2.1 dX5_readAtSite_8 (by decide) (by rw [hc13]; decide) rfl ?_
    refine lv_aload_n F.1 F.2.1 dX5_readAtSite_102 rfl (lv_at hl 1 rfl) ?_
    refine lv_iconst (v := (0 : Int32)) F.1 F.2.1 dX5_readAtSite_103 (by decide) ?_
    refine lv_bipush (v := (29 : Int32)) F.1 F.2.1 dX5_readAtSite_104 (by decide) ?_
    obtain ⟨r14, hr15, hf⟩ := bnd hf
    refine m_callV F hK hP hS (c_X5_two (0 : Int32) (29 : Int32) hr15) (cwV 2 F.2.2.2.2 gX5_readAtSite_X5_two rfl rfl rfl ⟨rfl, hd_X5_two⟩ ⟨(Nat.le_of_ble_eq_true rfl), (Nat.le_of_ble_eq_true rfl)⟩) rfl rfl hl.1 (Nat.le_of_ble_eq_true rfl) dX5_readAtSite_106 ⟨(Nat.le_of_ble_eq_true rfl), (Nat.le_of_ble_eq_true rfl)⟩ (rest := []) (fun H locs hP hS => ?_)
    refine W.eq (g2 := F0 m 109 ls [.int r14.1]) rfl ?_
    refine lv_istore_n F.1 F.2.1 dX5_readAtSite_109 rfl hl (Nat.le_of_ble_eq_true rfl) rfl (fun ls hl => ?_)
    have hl : lv_has ls 4 [(3, .int r14.1), (2, .int r1.1), (0, .ref (y)), (1, .int a1)] := hl
    refine lv_aload_n F.1 F.2.1 dX5_readAtSite_110 rfl (lv_at hl 2 rfl) ?_
    refine lv_aload_n F.1 F.2.1 dX5_readAtSite_111 rfl (lv_at hl 2 rfl) ?_
    refine m_getR F hK hP (fun _ h => List.mem_cons_of_mem _ (List.mem_append_right _ h)) 3 (Nat.le_of_ble_eq_true rfl) (List.mem_of_getElem? (i := 1) rfl) rfl (v := .ref (y + 3)) (fun _ => rfl) dX5_readAtSite_112 ?_
    refine lv_iload_n F.1 F.2.1 dX5_readAtSite_115 rfl (lv_at hl 1 rfl) ?_
    obtain ⟨r16, hr17, hf⟩ := bnd hf
    refine m_callS F hK hP hS (c_X5_isSite (by decide) (by decide) rfl r1.1 hr17) (va_cwS 2 F.2.2.2.2 gX5_readAtSite_X5_isSite rfl rfl rfl hd_X5_isSite ⟨(Nat.le_of_ble_eq_true rfl), (Nat.le_of_ble_eq_true rfl)⟩) rfl rfl hl.1 (Nat.le_of_ble_eq_true rfl) dX5_readAtSite_116 ⟨(Nat.le_of_ble_eq_true rfl), (Nat.le_of_ble_eq_true rfl)⟩ (rest := [.ref (y)]) (fun H locs hP hS => ?_)
    refine W.eq (g2 := F0 m 119 ls [.int r16, .ref (y)]) rfl ?_
    refine lv_if_eq (tgt := 138) F.1 F.2.1 dX5_readAtSite_119 rfl (fun hc18 => ?_) (fun hc18 => ?_)
    · have hf := ifp hc18 hf
      refine lv_iconst (v := (0 : Int32)) F.1 F.2.1 dX5_readAtSite_138 (by decide) ?_
      exact (KEY FU).1 r14.2 r1.1 r14.1 (0 : Int32) _ _ _ (lv_sub hl [2, 1, 0] rfl) hP hS hf
    · have hf := ifn hc18 hf
      refine lv_aload_n F.1 F.2.1 dX5_readAtSite_122 rfl (lv_at hl 2 rfl) ?_
      refine m_getR F hK hP (fun _ h => List.mem_cons_of_mem _ (List.mem_append_right _ h)) 3 (Nat.le_of_ble_eq_true rfl) (List.mem_of_getElem? (i := 1) rfl) rfl (v := .ref (y + 3)) (fun _ => rfl) dX5_readAtSite_123 ?_
      refine lv_iload_n F.1 F.2.1 dX5_readAtSite_126 rfl (lv_at hl 1 rfl) ?_
      refine lv_iload_n F.1 F.2.1 dX5_readAtSite_127 rfl (lv_at hl 0 rfl) ?_
      obtain ⟨r19, hr20, hf⟩ := bnd hf
      refine m_callS F hK hP hS (c_X5_canLay (by decide) (by decide) rfl r1.1 r14.1 hr20) (va_cwS 3 F.2.2.2.2 gX5_readAtSite_X5_canLay rfl rfl rfl hd_X5_canLay ⟨(Nat.le_of_ble_eq_true rfl), (Nat.le_of_ble_eq_true rfl)⟩) rfl rfl hl.1 (Nat.le_of_ble_eq_true rfl) dX5_readAtSite_128 ⟨(Nat.le_of_ble_eq_true rfl), (Nat.le_of_ble_eq_true rfl)⟩ (rest := [.ref (y)]) (fun H locs hP hS => ?_)
      refine W.eq (g2 := F0 m 131 ls [.int r19, .ref (y)]) rfl ?_
      refine lv_if_eq (tgt := 138) F.1 F.2.1 dX5_readAtSite_131 rfl (fun hc21 => ?_) (fun hc21 => ?_)
      · have hf := ifp hc21 hf
        refine lv_iconst (v := (0 : Int32)) F.1 F.2.1 dX5_readAtSite_138 (by decide) ?_
        exact (KEY FU).1 r14.2 r1.1 r14.1 (0 : Int32) _ _ _ (lv_sub hl [2, 1, 0] rfl) hP hS hf
      · have hf := ifn hc21 hf
        refine lv_iconst (v := (1 : Int32)) F.1 F.2.1 dX5_readAtSite_134 (by decide) ?_
        refine lv_goto (tgt := 139) F.1 F.2.1 dX5_readAtSite_135 rfl ?_
        exact (KEY FU).1 r14.2 r1.1 r14.1 (1 : Int32) _ _ _ (lv_sub hl [2, 1, 0] rfl) hP hS hf
  have hf := ifn hc13 hf
  by_cases hc22 : a1 = (116 : Int32)
  · have hf := ifp hc22 hf
    refine lv_lookup (off := 36) (tgt := 44) F.1 F.2.1 dX5_readAtSite_8 (by decide) (by rw [hc22]; decide) rfl ?_
    refine lv_aload_n F.1 F.2.1 dX5_readAtSite_44 rfl (lv_at hl 1 rfl) ?_
    refine lv_iconst (v := (1 : Int32)) F.1 F.2.1 dX5_readAtSite_45 (by decide) ?_
    refine lv_bipush (v := (30 : Int32)) F.1 F.2.1 dX5_readAtSite_46 (by decide) ?_
    obtain ⟨r23, hr24, hf⟩ := bnd hf
    refine m_callV F hK hP hS (c_X5_two (1 : Int32) (30 : Int32) hr24) (cwV 2 F.2.2.2.2 gX5_readAtSite_X5_two rfl rfl rfl ⟨rfl, hd_X5_two⟩ ⟨(Nat.le_of_ble_eq_true rfl), (Nat.le_of_ble_eq_true rfl)⟩) rfl rfl hl.1 (Nat.le_of_ble_eq_true rfl) dX5_readAtSite_48 ⟨(Nat.le_of_ble_eq_true rfl), (Nat.le_of_ble_eq_true rfl)⟩ (rest := []) (fun H locs hP hS => ?_)
    refine W.eq (g2 := F0 m 51 ls [.int r23.1]) rfl ?_
    refine lv_istore_n F.1 F.2.1 dX5_readAtSite_51 rfl hl (Nat.le_of_ble_eq_true rfl) rfl (fun ls hl => ?_)
    have hl : lv_has ls 4 [(3, .int r23.1), (2, .int r1.1), (0, .ref (y)), (1, .int a1)] := hl
    refine lv_aload_n F.1 F.2.1 dX5_readAtSite_52 rfl (lv_at hl 2 rfl) ?_
    refine lv_aload_n F.1 F.2.1 dX5_readAtSite_53 rfl (lv_at hl 2 rfl) ?_
    refine m_getR F hK hP (fun _ h => List.mem_cons_of_mem _ (List.mem_append_right _ h)) 3 (Nat.le_of_ble_eq_true rfl) (List.mem_of_getElem? (i := 1) rfl) rfl (v := .ref (y + 3)) (fun _ => rfl) dX5_readAtSite_54 ?_
    refine lv_iload_n F.1 F.2.1 dX5_readAtSite_57 rfl (lv_at hl 1 rfl) ?_
    obtain ⟨r25, hr26, hf⟩ := bnd hf
    refine m_callS F hK hP hS (c_X5_isSite (by decide) (by decide) rfl r1.1 hr26) (va_cwS 2 F.2.2.2.2 gX5_readAtSite_X5_isSite rfl rfl rfl hd_X5_isSite ⟨(Nat.le_of_ble_eq_true rfl), (Nat.le_of_ble_eq_true rfl)⟩) rfl rfl hl.1 (Nat.le_of_ble_eq_true rfl) dX5_readAtSite_58 ⟨(Nat.le_of_ble_eq_true rfl), (Nat.le_of_ble_eq_true rfl)⟩ (rest := [.ref (y)]) (fun H locs hP hS => ?_)
    refine W.eq (g2 := F0 m 61 ls [.int r25, .ref (y)]) rfl ?_
    refine lv_if_eq (tgt := 81) F.1 F.2.1 dX5_readAtSite_61 rfl (fun hc27 => ?_) (fun hc27 => ?_)
    · have hf := ifp hc27 hf
      refine lv_iconst (v := (0 : Int32)) F.1 F.2.1 dX5_readAtSite_81 (by decide) ?_
      exact (KEY FU).2 r23.2 r1.1 r23.1 (0 : Int32) _ _ _ (lv_sub hl [2, 1, 0] rfl) hP hS hf
    · have hf := ifn hc27 hf
      refine lv_aload_n F.1 F.2.1 dX5_readAtSite_64 rfl (lv_at hl 2 rfl) ?_
      refine m_getR F hK hP (fun _ h => List.mem_cons_of_mem _ (List.mem_append_right _ h)) 3 (Nat.le_of_ble_eq_true rfl) (List.mem_of_getElem? (i := 1) rfl) rfl (v := .ref (y + 3)) (fun _ => rfl) dX5_readAtSite_65 ?_
      refine lv_sipush (v := (197 : Int32)) F.1 F.2.1 dX5_readAtSite_68 (by decide) ?_
      refine m_iald F hK hP (o := 3) (by decide) rfl (fun _ => rfl) rfl (by decide) dX5_readAtSite_71 ?_
      refine lv_bipush (v := (8 : Int32)) F.1 F.2.1 dX5_readAtSite_72 (by decide) ?_
      refine lv_icmp_ge (tgt := 81) F.1 F.2.1 dX5_readAtSite_74 rfl (fun hc28 => ?_) (fun hc28 => ?_)
      · have hf := ifp hc28 hf
        refine lv_iconst (v := (0 : Int32)) F.1 F.2.1 dX5_readAtSite_81 (by decide) ?_
        exact (KEY FU).2 r23.2 r1.1 r23.1 (0 : Int32) _ _ _ (lv_sub hl [2, 1, 0] rfl) hP hS hf
      · have hf := ifn hc28 hf
        refine lv_iconst (v := (1 : Int32)) F.1 F.2.1 dX5_readAtSite_77 (by decide) ?_
        refine lv_goto (tgt := 82) F.1 F.2.1 dX5_readAtSite_78 rfl ?_
        exact (KEY FU).2 r23.2 r1.1 r23.1 (1 : Int32) _ _ _ (lv_sub hl [2, 1, 0] rfl) hP hS hf
  have hf := ifn hc22 hf
  have hc3i := i32_ne hc3
  have hc13i := i32_ne hc13
  have hc22i := i32_ne hc22
  refine lv_lookup (off := 193) (tgt := 201) F.1 F.2.1 dX5_readAtSite_8 (by decide) (by show (if (102 : Int) = a1.toInt then (151 : Int) else (if (112 : Int) = a1.toInt then (94 : Int) else (if (116 : Int) = a1.toInt then (36 : Int) else (193 : Int)))) = 193; rw [if_neg (fun z => hc3i z.symm), if_neg (fun z => hc13i z.symm), if_neg (fun z => hc22i z.symm)]) rfl ?_
  refine lv_aload_n F.1 F.2.1 dX5_readAtSite_201 rfl (lv_at hl 1 rfl) ?_
  refine lv_aload_n F.1 F.2.1 dX5_readAtSite_202 rfl (lv_at hl 1 rfl) ?_
  refine m_getR F hK hP (fun _ h => List.mem_cons_of_mem _ (List.mem_append_right _ h)) 3 (Nat.le_of_ble_eq_true rfl) (List.mem_of_getElem? (i := 1) rfl) rfl (v := .ref (y + 3)) (fun _ => rfl) dX5_readAtSite_203 ?_
  refine lv_iload_n F.1 F.2.1 dX5_readAtSite_206 rfl (lv_at hl 0 rfl) ?_
  obtain ⟨r29, hr30, hf⟩ := bnd hf
  refine m_callS F hK hP hS (c_X5_isSite (by decide) (by decide) rfl r1.1 hr30) (va_cwS 2 F.2.2.2.2 gX5_readAtSite_X5_isSite rfl rfl rfl hd_X5_isSite ⟨(Nat.le_of_ble_eq_true rfl), (Nat.le_of_ble_eq_true rfl)⟩) rfl rfl hl.1 (Nat.le_of_ble_eq_true rfl) dX5_readAtSite_207 ⟨(Nat.le_of_ble_eq_true rfl), (Nat.le_of_ble_eq_true rfl)⟩ (rest := [.ref (y)]) (fun H locs hP hS => ?_)
  refine W.eq (g2 := F0 m 210 ls [.int r29, .ref (y)]) rfl ?_
  obtain ⟨r31, hr32, hf⟩ := bnd hf
  refine m_callV F hK hP hS (c_X5_goes r29 hr32) (cwV 1 F.2.2.2.2 gX5_readAtSite_X5_goes rfl rfl rfl ⟨rfl, hd_X5_goes⟩ ⟨(Nat.le_of_ble_eq_true rfl), (Nat.le_of_ble_eq_true rfl)⟩) rfl rfl hl.1 (Nat.le_of_ble_eq_true rfl) dX5_readAtSite_210 ⟨(Nat.le_of_ble_eq_true rfl), (Nat.le_of_ble_eq_true rfl)⟩ (rest := []) (fun H locs hP hS => ?_)
  refine W.eq (g2 := F0 m 213 ls [.int r31.1]) rfl ?_
  refine lv_if_eq (tgt := 233) F.1 F.2.1 dX5_readAtSite_213 rfl (fun hc33 => ?_) (fun hc33 => ?_)
  · have hf := ifp hc33 hf
    refine lv_iconst (v := (0 : Int32)) F.1 F.2.1 dX5_readAtSite_233 (by decide) ?_
    obtain rfl := Option.some.inj hf
    exact m_iret F hr hlk hP hS rfl dX5_readAtSite_234
  · have hf := ifn hc33 hf
    refine lv_aload_n F.1 F.2.1 dX5_readAtSite_216 rfl (lv_at hl 1 rfl) ?_
    refine m_getR F hK hP (fun _ h => List.mem_cons_of_mem _ (List.mem_append_right _ h)) 3 (Nat.le_of_ble_eq_true rfl) (List.mem_of_getElem? (i := 1) rfl) rfl (v := .ref (y + 3)) (fun _ => rfl) dX5_readAtSite_217 ?_
    refine lv_bipush (v := (35 : Int32)) F.1 F.2.1 dX5_readAtSite_220 (by decide) ?_
    refine lv_iload_n F.1 F.2.1 dX5_readAtSite_222 rfl (lv_at hl 0 rfl) ?_
    refine lv_imul F.1 F.2.1 dX5_readAtSite_223 ?_
    refine lv_iconst (v := (0 : Int32)) F.1 F.2.1 dX5_readAtSite_224 (by decide) ?_
    refine lv_iadd F.1 F.2.1 dX5_readAtSite_225 ?_
    refine lv_iconst (v := (0 : Int32)) F.1 F.2.1 dX5_readAtSite_226 (by decide) ?_
    obtain ⟨r34, hr35, hf⟩ := bnd hf
    have hP := m_up 3 hP
    refine m_callS F hK hP hS (c_X5_put (by decide) (by decide) (((35 : Int32) * r1.1) + (0 : Int32)) (0 : Int32) hr35) (va_cwS 3 F.2.2.2.2 gX5_readAtSite_X5_put rfl rfl rfl hd_X5_put ⟨(Nat.le_of_ble_eq_true rfl), (Nat.le_of_ble_eq_true rfl)⟩) rfl rfl hl.1 (Nat.le_of_ble_eq_true rfl) dX5_readAtSite_227 ⟨(Nat.le_of_ble_eq_true rfl), (Nat.le_of_ble_eq_true rfl)⟩ (rest := []) (fun H locs hP hS => ?_)
    refine W.eq (g2 := F0 m 230 ls [.int r34.1]) rfl ?_
    refine lv_goto (tgt := 234) F.1 F.2.1 dX5_readAtSite_230 rfl ?_
    obtain rfl := Option.some.inj hf
    exact m_iret F hr hlk hP hS rfl dX5_readAtSite_234

-- FrostTubesModel.readSet()I
def f_X5_readSet (ν : Mem) : Option (Int32 × Mem) := ((f_X5_digit ν (0 : Int32) (2 : Int32)).bind fun r1 => ((f_X5_two r1.2 (0 : Int32) (50 : Int32)).bind fun r3 => ((f_X5_isSetting r1.1 r3.1).bind fun r5 => ((f_X5_goes r3.2 r5).bind fun r7 => (if r7.1 = 0 then some ((0 : Int32), r7.2) else ((f_X5_put (r7.2 3) ((202 : Int32) + r1.1) r3.1).bind fun r10 => some (r10.1, (va_up r7.2 3 r10.2))))))))
def rmX5_readSet : Room := { frames := 3, cells := 0, slots := 0, locals := 71 }
theorem hd_X5_readSet : yX5_readSet.cls ≠ "java/lang/invoke/MethodHandle" ∧ yX5_readSet.cls ≠ "java/lang/invoke/VarHandle" ∧ (parseMethodDescriptor yX5_readSet.desc).map (fun d => d.parameters.length) = some 0 := by decide +kernel
set_option maxHeartbeats 8000000 in
set_option maxRecDepth 100000 in
theorem c_X5_readSet {l : Launch} {D : va_G} {y : Nat} {ν : Mem} {r : Int32 × Mem} (hf : f_X5_readSet ν = some r) : CM l yX5_readSet wsX5_readSet rmX5_readSet [.ref (y)] D y ν (some (.int r.1)) r.2 := by
  refine CM.of (cc := cX5_readSet) (maxL := 3) (ret := (some .int)) pn_X5 rfl (Nat.le_of_ble_eq_true rfl) ?_
  intro p e s m args below meth c F hr hlk hK
  intro ls H locs hl hP hS
  have hl : lv_has ls 3 [(0, .ref (y))] := hl
  unfold f_X5_readSet at hf
  refine lv_aload_n F.1 F.2.1 dX5_readSet_0 rfl (lv_at hl 0 rfl) ?_
  refine lv_iconst (v := (0 : Int32)) F.1 F.2.1 dX5_readSet_1 (by decide) ?_
  refine lv_iconst (v := (2 : Int32)) F.1 F.2.1 dX5_readSet_2 (by decide) ?_
  obtain ⟨r1, hr2, hf⟩ := bnd hf
  refine m_callV F hK hP hS (c_X5_digit (0 : Int32) (2 : Int32) hr2) (cwV 2 F.2.2.2.2 gX5_readSet_X5_digit rfl rfl rfl ⟨rfl, hd_X5_digit⟩ ⟨(Nat.le_of_ble_eq_true rfl), (Nat.le_of_ble_eq_true rfl)⟩) rfl rfl hl.1 (Nat.le_of_ble_eq_true rfl) dX5_readSet_3 ⟨(Nat.le_of_ble_eq_true rfl), (Nat.le_of_ble_eq_true rfl)⟩ (rest := []) (fun H locs hP hS => ?_)
  refine W.eq (g2 := F0 m 6 ls [.int r1.1]) rfl ?_
  refine lv_istore_n F.1 F.2.1 dX5_readSet_6 rfl hl (Nat.le_of_ble_eq_true rfl) rfl (fun ls hl => ?_)
  have hl : lv_has ls 3 [(1, .int r1.1), (0, .ref (y))] := hl
  refine lv_aload_n F.1 F.2.1 dX5_readSet_7 rfl (lv_at hl 1 rfl) ?_
  refine lv_iconst (v := (0 : Int32)) F.1 F.2.1 dX5_readSet_8 (by decide) ?_
  refine lv_bipush (v := (50 : Int32)) F.1 F.2.1 dX5_readSet_9 (by decide) ?_
  obtain ⟨r3, hr4, hf⟩ := bnd hf
  refine m_callV F hK hP hS (c_X5_two (0 : Int32) (50 : Int32) hr4) (cwV 2 F.2.2.2.2 gX5_readSet_X5_two rfl rfl rfl ⟨rfl, hd_X5_two⟩ ⟨(Nat.le_of_ble_eq_true rfl), (Nat.le_of_ble_eq_true rfl)⟩) rfl rfl hl.1 (Nat.le_of_ble_eq_true rfl) dX5_readSet_11 ⟨(Nat.le_of_ble_eq_true rfl), (Nat.le_of_ble_eq_true rfl)⟩ (rest := []) (fun H locs hP hS => ?_)
  refine W.eq (g2 := F0 m 14 ls [.int r3.1]) rfl ?_
  refine lv_istore_n F.1 F.2.1 dX5_readSet_14 rfl hl (Nat.le_of_ble_eq_true rfl) rfl (fun ls hl => ?_)
  have hl : lv_has ls 3 [(2, .int r3.1), (1, .int r1.1), (0, .ref (y))] := hl
  refine lv_aload_n F.1 F.2.1 dX5_readSet_15 rfl (lv_at hl 2 rfl) ?_
  refine lv_iload_n F.1 F.2.1 dX5_readSet_16 rfl (lv_at hl 1 rfl) ?_
  refine lv_iload_n F.1 F.2.1 dX5_readSet_17 rfl (lv_at hl 0 rfl) ?_
  obtain ⟨r5, hr6, hf⟩ := bnd hf
  refine m_callS F hK hP hS (c_X5_isSetting r1.1 r3.1 hr6) (va_cwS 2 F.2.2.2.2 gX5_readSet_X5_isSetting rfl rfl rfl hd_X5_isSetting ⟨(Nat.le_of_ble_eq_true rfl), (Nat.le_of_ble_eq_true rfl)⟩) rfl rfl hl.1 (Nat.le_of_ble_eq_true rfl) dX5_readSet_18 ⟨(Nat.le_of_ble_eq_true rfl), (Nat.le_of_ble_eq_true rfl)⟩ (rest := [.ref (y)]) (fun H locs hP hS => ?_)
  refine W.eq (g2 := F0 m 21 ls [.int r5, .ref (y)]) rfl ?_
  obtain ⟨r7, hr8, hf⟩ := bnd hf
  refine m_callV F hK hP hS (c_X5_goes r5 hr8) (cwV 1 F.2.2.2.2 gX5_readSet_X5_goes rfl rfl rfl ⟨rfl, hd_X5_goes⟩ ⟨(Nat.le_of_ble_eq_true rfl), (Nat.le_of_ble_eq_true rfl)⟩) rfl rfl hl.1 (Nat.le_of_ble_eq_true rfl) dX5_readSet_21 ⟨(Nat.le_of_ble_eq_true rfl), (Nat.le_of_ble_eq_true rfl)⟩ (rest := []) (fun H locs hP hS => ?_)
  refine W.eq (g2 := F0 m 24 ls [.int r7.1]) rfl ?_
  refine lv_if_eq (tgt := 43) F.1 F.2.1 dX5_readSet_24 rfl (fun hc9 => ?_) (fun hc9 => ?_)
  · have hf := ifp hc9 hf
    refine lv_iconst (v := (0 : Int32)) F.1 F.2.1 dX5_readSet_43 (by decide) ?_
    obtain rfl := Option.some.inj hf
    exact m_iret F hr hlk hP hS rfl dX5_readSet_44
  · have hf := ifn hc9 hf
    refine lv_aload_n F.1 F.2.1 dX5_readSet_27 rfl (lv_at hl 2 rfl) ?_
    refine m_getR F hK hP (fun _ h => List.mem_cons_of_mem _ (List.mem_append_right _ h)) 3 (Nat.le_of_ble_eq_true rfl) (List.mem_of_getElem? (i := 1) rfl) rfl (v := .ref (y + 3)) (fun _ => rfl) dX5_readSet_28 ?_
    refine lv_sipush (v := (202 : Int32)) F.1 F.2.1 dX5_readSet_31 (by decide) ?_
    refine lv_iload_n F.1 F.2.1 dX5_readSet_34 rfl (lv_at hl 1 rfl) ?_
    refine lv_iadd F.1 F.2.1 dX5_readSet_35 ?_
    refine lv_iload_n F.1 F.2.1 dX5_readSet_36 rfl (lv_at hl 0 rfl) ?_
    obtain ⟨r10, hr11, hf⟩ := bnd hf
    have hP := m_up 3 hP
    refine m_callS F hK hP hS (c_X5_put (by decide) (by decide) ((202 : Int32) + r1.1) r3.1 hr11) (va_cwS 3 F.2.2.2.2 gX5_readSet_X5_put rfl rfl rfl hd_X5_put ⟨(Nat.le_of_ble_eq_true rfl), (Nat.le_of_ble_eq_true rfl)⟩) rfl rfl hl.1 (Nat.le_of_ble_eq_true rfl) dX5_readSet_37 ⟨(Nat.le_of_ble_eq_true rfl), (Nat.le_of_ble_eq_true rfl)⟩ (rest := []) (fun H locs hP hS => ?_)
    refine W.eq (g2 := F0 m 40 ls [.int r10.1]) rfl ?_
    refine lv_goto (tgt := 44) F.1 F.2.1 dX5_readSet_40 rfl ?_
    obtain rfl := Option.some.inj hf
    exact m_iret F hr hlk hP hS rfl dX5_readSet_44

-- FrostTubesModel.readCommand()I
def fb_X5_readCommand_1  (K : Nat → Mem → Int32 → Int32 → Option (Int32 × Mem)) (ν : Mem) (t0 : Int32) (v1 : Int32) : Option (Int32 × Mem) := ((f_X5_take ν t0).bind fun r11 => (if ((r11 0) 11) = 0 then some ((0 : Int32), r11) else (if v1 = (100 : Int32) then ((f_X5_readDays r11).bind fun r15 => some (r15.1, r15.2)) else (if v1 = (101 : Int32) then ((f_X5_readSet r11).bind fun r18 => some (r18.1, r18.2)) else (if v1 = (115 : Int32) then (if (4 : Int32) ≤ ((r11 3) (196 : Int32).toNatClampNeg) then (K 2 r11 (0 : Int32) 0) else (K 2 r11 (1 : Int32) 0)) else (if v1 = (119 : Int32) then ((f_X5_beginWinter (r11 3)).bind fun r23 => some (r23.1, (va_up r11 3 r23.2))) else ((f_X5_readAtSite r11 v1).bind fun r25 => some (r25.1, r25.2))))))))
def fb_X5_readCommand_2  (K : Nat → Mem → Int32 → Int32 → Option (Int32 × Mem)) (ν : Mem) (t0 : Int32) (v1 : Int32) : Option (Int32 × Mem) := ((f_X5_goes ν t0).bind fun r27 => (if r27.1 = 0 then some ((0 : Int32), r27.2) else ((f_X5_addSite (r27.2 3)).bind fun r30 => some (r30.1, (va_up r27.2 3 r30.2)))))
def fl_X5_readCommand  : Nat → Nat → Mem → Int32 → Int32 → Option (Int32 × Mem)
  | 0, _, _, _, _ => none
  | n + 1, lab, ν, t0, v1 => match lab with
    | 1 => fb_X5_readCommand_1  (fl_X5_readCommand  n) ν t0 v1
    | _ => fb_X5_readCommand_2  (fl_X5_readCommand  n) ν t0 v1
def f_X5_readCommand (ν : Mem) : Option (Int32 × Mem) := ((f_X5_here ν).bind fun r1 => (if r1 = (115 : Int32) then (fl_X5_readCommand  FU 1 ν (1 : Int32) r1) else (if r1 = (116 : Int32) then (fl_X5_readCommand  FU 1 ν (1 : Int32) r1) else (if r1 = (112 : Int32) then (fl_X5_readCommand  FU 1 ν (1 : Int32) r1) else (if r1 = (102 : Int32) then (fl_X5_readCommand  FU 1 ν (1 : Int32) r1) else (if r1 = (120 : Int32) then (fl_X5_readCommand  FU 1 ν (1 : Int32) r1) else (if r1 = (100 : Int32) then (fl_X5_readCommand  FU 1 ν (1 : Int32) r1) else (if r1 = (101 : Int32) then (fl_X5_readCommand  FU 1 ν (1 : Int32) r1) else (if r1 = (119 : Int32) then (fl_X5_readCommand  FU 1 ν (1 : Int32) r1) else (fl_X5_readCommand  FU 1 ν (0 : Int32) r1))))))))))
def rmX5_readCommand : Room := { frames := 7, cells := 0, slots := 0, locals := 163 }
theorem hd_X5_readCommand : yX5_readCommand.cls ≠ "java/lang/invoke/MethodHandle" ∧ yX5_readCommand.cls ≠ "java/lang/invoke/VarHandle" ∧ (parseMethodDescriptor yX5_readCommand.desc).map (fun d => d.parameters.length) = some 0 := by decide +kernel
set_option maxHeartbeats 8000000 in
set_option maxRecDepth 100000 in
theorem c_X5_readCommand {l : Launch} {D : va_G} {y : Nat} {ν : Mem} {r : Int32 × Mem} (hf : f_X5_readCommand ν = some r) : CM l yX5_readCommand wsX5_readCommand rmX5_readCommand [.ref (y)] D y ν (some (.int r.1)) r.2 := by
  refine CM.of (cc := cX5_readCommand) (maxL := 2) (ret := (some .int)) pn_X5 rfl (Nat.le_of_ble_eq_true rfl) ?_
  intro p e s m args below meth c F hr hlk hK
  have KEY : ∀ n : Nat, (∀ (ν : Mem) (v1 : Int32) (t0 : Int32) (ls : Array Slot) (H : Heap) (locs : List Loc), lv_has ls 2 [(0, .ref (y)), (1, .int v1)] → va_P D vwCl (WM D y ν) H → va_S (rngM y) s.heap H locs → fl_X5_readCommand  n 1 ν t0 v1 = some r → W p l e rmX5_readCommand s m args below meth c H locs 0 0 (MQ below (QM D y r.2 (some (.int r.1))) args s 0 0 (rngM y)) (F0 m 59 ls [.int t0, .ref (y)])) ∧ (∀ (ν : Mem) (t0 : Int32) (ls : Array Slot) (H : Heap) (locs : List Loc), lv_has ls 2 [(0, .ref (y))] → va_P D vwCl (WM D y ν) H → va_S (rngM y) s.heap H locs → fl_X5_readCommand  n 2 ν t0 0 = some r → W p l e rmX5_readCommand s m args below meth c H locs 0 0 (MQ below (QM D y r.2 (some (.int r.1))) args s 0 0 (rngM y)) (F0 m 134 ls [.int t0, .ref (y)])) := by
    intro n
    induction n with
    | zero => exact ⟨(fun _ _ _ _ _ _ _ _ _ h => nomatch h), (fun _ _ _ _ _ _ _ _ h => nomatch h)⟩
    | succ n ih =>
      refine ⟨?_, ?_⟩
      · intro ν v1 t0  ls H locs hl hP hS hf
        have hf : fb_X5_readCommand_1  (fl_X5_readCommand  n) ν t0 v1 = some r := hf
        unfold fb_X5_readCommand_1 at hf
        obtain ⟨r11, hr12, hf⟩ := bnd hf
        refine m_callV F hK hP hS (c_X5_take t0 hr12) (cwV 1 F.2.2.2.2 gX5_readCommand_X5_take rfl rfl rfl ⟨rfl, hd_X5_take⟩ ⟨(Nat.le_of_ble_eq_true rfl), (Nat.le_of_ble_eq_true rfl)⟩) rfl rfl hl.1 (Nat.le_of_ble_eq_true rfl) dX5_readCommand_59 ⟨(Nat.le_of_ble_eq_true rfl), (Nat.le_of_ble_eq_true rfl)⟩ (rest := []) (fun H locs hP hS => ?_)
        refine W.eq (g2 := F0 m 62 ls []) rfl ?_
        refine lv_aload_n F.1 F.2.1 dX5_readCommand_62 rfl (lv_at hl 0 rfl) ?_
        refine m_getI F hK hP rfl (fun _ h => List.mem_cons_of_mem _ (List.mem_append_right _ h)) 11 (Nat.le_of_ble_eq_true rfl) (List.mem_of_getElem? (i := 1) rfl) rfl (fun _ => rfl) dX5_readCommand_63 ?_
        refine lv_if_ne (tgt := 71) F.1 F.2.1 dX5_readCommand_66 rfl (fun hc13 => ?_) (fun hc13 => ?_)
        · have hf := ifn hc13 hf
          refine lv_iload_n F.1 F.2.1 dX5_readCommand_71 rfl (lv_at hl 1 rfl) ?_
          by_cases hc14 : v1 = (100 : Int32)
          · have hf := ifp hc14 hf
            refine lv_lookup (off := 80) (tgt := 152) F.1 F.2.1 dX5_readCommand_72 (by decide) (by rw [hc14]; decide) rfl ?_
            refine lv_aload_n F.1 F.2.1 dX5_readCommand_152 rfl (lv_at hl 0 rfl) ?_
            obtain ⟨r15, hr16, hf⟩ := bnd hf
            refine m_callV F hK hP hS (c_X5_readDays hr16) (cwV 0 F.2.2.2.2 gX5_readCommand_X5_readDays rfl rfl rfl ⟨rfl, hd_X5_readDays⟩ ⟨(Nat.le_of_ble_eq_true rfl), (Nat.le_of_ble_eq_true rfl)⟩) rfl rfl hl.1 (Nat.le_of_ble_eq_true rfl) dX5_readCommand_153 ⟨(Nat.le_of_ble_eq_true rfl), (Nat.le_of_ble_eq_true rfl)⟩ (rest := []) (fun H locs hP hS => ?_)
            refine W.eq (g2 := F0 m 156 ls [.int r15.1]) rfl ?_
            obtain rfl := Option.some.inj hf
            exact m_iret F hr hlk hP hS rfl dX5_readCommand_156
          have hf := ifn hc14 hf
          by_cases hc17 : v1 = (101 : Int32)
          · have hf := ifp hc17 hf
            refine lv_lookup (off := 85) (tgt := 157) F.1 F.2.1 dX5_readCommand_72 (by decide) (by rw [hc17]; decide) rfl ?_
            refine lv_aload_n F.1 F.2.1 dX5_readCommand_157 rfl (lv_at hl 0 rfl) ?_
            obtain ⟨r18, hr19, hf⟩ := bnd hf
            refine m_callV F hK hP hS (c_X5_readSet hr19) (cwV 0 F.2.2.2.2 gX5_readCommand_X5_readSet rfl rfl rfl ⟨rfl, hd_X5_readSet⟩ ⟨(Nat.le_of_ble_eq_true rfl), (Nat.le_of_ble_eq_true rfl)⟩) rfl rfl hl.1 (Nat.le_of_ble_eq_true rfl) dX5_readCommand_158 ⟨(Nat.le_of_ble_eq_true rfl), (Nat.le_of_ble_eq_true rfl)⟩ (rest := []) (fun H locs hP hS => ?_)
            refine W.eq (g2 := F0 m 161 ls [.int r18.1]) rfl ?_
            obtain rfl := Option.some.inj hf
            exact m_iret F hr hlk hP hS rfl dX5_readCommand_161
          have hf := ifn hc17 hf
          by_cases hc20 : v1 = (115 : Int32)
          · have hf := ifp hc20 hf
            refine lv_lookup (off := 44) (tgt := 116) F.1 F.2.1 dX5_readCommand_72 (by decide) (by rw [hc20]; decide) rfl ?_
            refine lv_aload_n F.1 F.2.1 dX5_readCommand_116 rfl (lv_at hl 0 rfl) ?_
            refine lv_aload_n F.1 F.2.1 dX5_readCommand_117 rfl (lv_at hl 0 rfl) ?_
            refine m_getR F hK hP (fun _ h => List.mem_cons_of_mem _ (List.mem_append_right _ h)) 3 (Nat.le_of_ble_eq_true rfl) (List.mem_of_getElem? (i := 2) rfl) rfl (v := .ref (y + 3)) (fun _ => rfl) dX5_readCommand_118 ?_
            refine lv_sipush (v := (196 : Int32)) F.1 F.2.1 dX5_readCommand_121 (by decide) ?_
            refine m_iald F hK hP (o := 3) (by decide) rfl (fun _ => rfl) rfl (by decide) dX5_readCommand_124 ?_
            refine lv_iconst (v := (4 : Int32)) F.1 F.2.1 dX5_readCommand_125 (by decide) ?_
            refine lv_icmp_ge (tgt := 133) F.1 F.2.1 dX5_readCommand_126 rfl (fun hc21 => ?_) (fun hc21 => ?_)
            · have hf := ifp hc21 hf
              refine lv_iconst (v := (0 : Int32)) F.1 F.2.1 dX5_readCommand_133 (by decide) ?_
              exact ih.2 r11 (0 : Int32) _ _ _ (lv_sub hl [0] rfl) hP hS hf
            · have hf := ifn hc21 hf
              refine lv_iconst (v := (1 : Int32)) F.1 F.2.1 dX5_readCommand_129 (by decide) ?_
              refine lv_goto (tgt := 134) F.1 F.2.1 dX5_readCommand_130 rfl ?_
              exact ih.2 r11 (1 : Int32) _ _ _ (lv_sub hl [0] rfl) hP hS hf
          have hf := ifn hc20 hf
          by_cases hc22 : v1 = (119 : Int32)
          · have hf := ifp hc22 hf
            refine lv_lookup (off := 90) (tgt := 162) F.1 F.2.1 dX5_readCommand_72 (by decide) (by rw [hc22]; decide) rfl ?_
            refine lv_aload_n F.1 F.2.1 dX5_readCommand_162 rfl (lv_at hl 0 rfl) ?_
            refine m_getR F hK hP (fun _ h => List.mem_cons_of_mem _ (List.mem_append_right _ h)) 3 (Nat.le_of_ble_eq_true rfl) (List.mem_of_getElem? (i := 2) rfl) rfl (v := .ref (y + 3)) (fun _ => rfl) dX5_readCommand_163 ?_
            obtain ⟨r23, hr24, hf⟩ := bnd hf
            have hP := m_up 3 hP
            refine m_callS F hK hP hS (c_X5_beginWinter (by decide) (by decide) hr24) (va_cwS 1 F.2.2.2.2 gX5_readCommand_X5_beginWinter rfl rfl rfl hd_X5_beginWinter ⟨(Nat.le_of_ble_eq_true rfl), (Nat.le_of_ble_eq_true rfl)⟩) rfl rfl hl.1 (Nat.le_of_ble_eq_true rfl) dX5_readCommand_166 ⟨(Nat.le_of_ble_eq_true rfl), (Nat.le_of_ble_eq_true rfl)⟩ (rest := []) (fun H locs hP hS => ?_)
            refine W.eq (g2 := F0 m 169 ls [.int r23.1]) rfl ?_
            obtain rfl := Option.some.inj hf
            exact m_iret F hr hlk hP hS rfl dX5_readCommand_169
          have hf := ifn hc22 hf
          have hc14i := i32_ne hc14
          have hc17i := i32_ne hc17
          have hc20i := i32_ne hc20
          have hc22i := i32_ne hc22
          refine lv_lookup (off := 98) (tgt := 170) F.1 F.2.1 dX5_readCommand_72 (by decide) (by show (if (100 : Int) = v1.toInt then (80 : Int) else (if (101 : Int) = v1.toInt then (85 : Int) else (if (115 : Int) = v1.toInt then (44 : Int) else (if (119 : Int) = v1.toInt then (90 : Int) else (98 : Int))))) = 98; rw [if_neg (fun z => hc14i z.symm), if_neg (fun z => hc17i z.symm), if_neg (fun z => hc20i z.symm), if_neg (fun z => hc22i z.symm)]) rfl ?_
          refine lv_aload_n F.1 F.2.1 dX5_readCommand_170 rfl (lv_at hl 0 rfl) ?_
          refine lv_iload_n F.1 F.2.1 dX5_readCommand_171 rfl (lv_at hl 1 rfl) ?_
          obtain ⟨r25, hr26, hf⟩ := bnd hf
          refine m_callV F hK hP hS (c_X5_readAtSite v1 hr26) (cwV 1 F.2.2.2.2 gX5_readCommand_X5_readAtSite rfl rfl rfl ⟨rfl, hd_X5_readAtSite⟩ ⟨(Nat.le_of_ble_eq_true rfl), (Nat.le_of_ble_eq_true rfl)⟩) rfl rfl hl.1 (Nat.le_of_ble_eq_true rfl) dX5_readCommand_172 ⟨(Nat.le_of_ble_eq_true rfl), (Nat.le_of_ble_eq_true rfl)⟩ (rest := []) (fun H locs hP hS => ?_)
          refine W.eq (g2 := F0 m 175 ls [.int r25.1]) rfl ?_
          obtain rfl := Option.some.inj hf
          exact m_iret F hr hlk hP hS rfl dX5_readCommand_175
        · have hf := ifp hc13 hf
          refine lv_iconst (v := (0 : Int32)) F.1 F.2.1 dX5_readCommand_69 (by decide) ?_
          obtain rfl := Option.some.inj hf
          exact m_iret F hr hlk hP hS rfl dX5_readCommand_70
      · intro ν t0  ls H locs hl hP hS hf
        have hf : fb_X5_readCommand_2  (fl_X5_readCommand  n) ν t0 0 = some r := hf
        unfold fb_X5_readCommand_2 at hf
        obtain ⟨r27, hr28, hf⟩ := bnd hf
        refine m_callV F hK hP hS (c_X5_goes t0 hr28) (cwV 1 F.2.2.2.2 gX5_readCommand_X5_goes rfl rfl rfl ⟨rfl, hd_X5_goes⟩ ⟨(Nat.le_of_ble_eq_true rfl), (Nat.le_of_ble_eq_true rfl)⟩) rfl rfl hl.1 (Nat.le_of_ble_eq_true rfl) dX5_readCommand_134 ⟨(Nat.le_of_ble_eq_true rfl), (Nat.le_of_ble_eq_true rfl)⟩ (rest := []) (fun H locs hP hS => ?_)
        refine W.eq (g2 := F0 m 137 ls [.int r27.1]) rfl ?_
        refine lv_if_eq (tgt := 150) F.1 F.2.1 dX5_readCommand_137 rfl (fun hc29 => ?_) (fun hc29 => ?_)
        · have hf := ifp hc29 hf
          refine lv_iconst (v := (0 : Int32)) F.1 F.2.1 dX5_readCommand_150 (by decide) ?_
          obtain rfl := Option.some.inj hf
          exact m_iret F hr hlk hP hS rfl dX5_readCommand_151
        · have hf := ifn hc29 hf
          refine lv_aload_n F.1 F.2.1 dX5_readCommand_140 rfl (lv_at hl 0 rfl) ?_
          refine m_getR F hK hP (fun _ h => List.mem_cons_of_mem _ (List.mem_append_right _ h)) 3 (Nat.le_of_ble_eq_true rfl) (List.mem_of_getElem? (i := 2) rfl) rfl (v := .ref (y + 3)) (fun _ => rfl) dX5_readCommand_141 ?_
          obtain ⟨r30, hr31, hf⟩ := bnd hf
          have hP := m_up 3 hP
          refine m_callS F hK hP hS (c_X5_addSite (by decide) (by decide) hr31) (va_cwS 1 F.2.2.2.2 gX5_readCommand_X5_addSite rfl rfl rfl hd_X5_addSite ⟨(Nat.le_of_ble_eq_true rfl), (Nat.le_of_ble_eq_true rfl)⟩) rfl rfl hl.1 (Nat.le_of_ble_eq_true rfl) dX5_readCommand_144 ⟨(Nat.le_of_ble_eq_true rfl), (Nat.le_of_ble_eq_true rfl)⟩ (rest := []) (fun H locs hP hS => ?_)
          refine W.eq (g2 := F0 m 147 ls [.int r30.1]) rfl ?_
          refine lv_goto (tgt := 151) F.1 F.2.1 dX5_readCommand_147 rfl ?_
          obtain rfl := Option.some.inj hf
          exact m_iret F hr hlk hP hS rfl dX5_readCommand_151
  intro ls H locs hl hP hS
  have hl : lv_has ls 2 [(0, .ref (y))] := hl
  unfold f_X5_readCommand at hf
  refine lv_aload_n F.1 F.2.1 dX5_readCommand_0 rfl (lv_at hl 0 rfl) ?_
  obtain ⟨r1, hr2, hf⟩ := bnd hf
  refine m_callV F hK hP hS (c_X5_here hr2) (cwV 0 F.2.2.2.2 gX5_readCommand_X5_here rfl rfl rfl ⟨rfl, hd_X5_here⟩ ⟨(Nat.le_of_ble_eq_true rfl), (Nat.le_of_ble_eq_true rfl)⟩) rfl rfl hl.1 (Nat.le_of_ble_eq_true rfl) dX5_readCommand_1 ⟨(Nat.le_of_ble_eq_true rfl), (Nat.le_of_ble_eq_true rfl)⟩ (rest := []) (fun H locs hP hS => ?_)
  refine W.eq (g2 := F0 m 4 ls [.int r1]) rfl ?_
  refine lv_istore_n F.1 F.2.1 dX5_readCommand_4 rfl hl (Nat.le_of_ble_eq_true rfl) rfl (fun ls hl => ?_)
  have hl : lv_has ls 2 [(1, .int r1), (0, .ref (y))] := hl
  refine lv_aload_n F.1 F.2.1 dX5_readCommand_5 rfl (lv_at hl 1 rfl) ?_
  refine lv_iload_n F.1 F.2.1 dX5_readCommand_6 rfl (lv_at hl 0 rfl) ?_
  refine lv_bipush (v := (115 : Int32)) F.1 F.2.1 dX5_readCommand_7 (by decide) ?_
  refine lv_icmp_eq (tgt := 54) F.1 F.2.1 dX5_readCommand_9 rfl (fun hc3 => ?_) (fun hc3 => ?_)
  · have hf := ifp hc3 hf
    refine lv_iconst (v := (1 : Int32)) F.1 F.2.1 dX5_readCommand_54 (by decide) ?_
    refine lv_goto (tgt := 59) F.1 F.2.1 dX5_readCommand_55 rfl ?_
    exact (KEY FU).1 ν r1 (1 : Int32) _ _ _ (lv_sub hl [1, 0] rfl) hP hS hf
  · have hf := ifn hc3 hf
    refine lv_iload_n F.1 F.2.1 dX5_readCommand_12 rfl (lv_at hl 0 rfl) ?_
    refine lv_bipush (v := (116 : Int32)) F.1 F.2.1 dX5_readCommand_13 (by decide) ?_
    refine lv_icmp_eq (tgt := 54) F.1 F.2.1 dX5_readCommand_15 rfl (fun hc4 => ?_) (fun hc4 => ?_)
    · have hf := ifp hc4 hf
      refine lv_iconst (v := (1 : Int32)) F.1 F.2.1 dX5_readCommand_54 (by decide) ?_
      refine lv_goto (tgt := 59) F.1 F.2.1 dX5_readCommand_55 rfl ?_
      exact (KEY FU).1 ν r1 (1 : Int32) _ _ _ (lv_sub hl [1, 0] rfl) hP hS hf
    · have hf := ifn hc4 hf
      refine lv_iload_n F.1 F.2.1 dX5_readCommand_18 rfl (lv_at hl 0 rfl) ?_
      refine lv_bipush (v := (112 : Int32)) F.1 F.2.1 dX5_readCommand_19 (by decide) ?_
      refine lv_icmp_eq (tgt := 54) F.1 F.2.1 dX5_readCommand_21 rfl (fun hc5 => ?_) (fun hc5 => ?_)
      · have hf := ifp hc5 hf
        refine lv_iconst (v := (1 : Int32)) F.1 F.2.1 dX5_readCommand_54 (by decide) ?_
        refine lv_goto (tgt := 59) F.1 F.2.1 dX5_readCommand_55 rfl ?_
        exact (KEY FU).1 ν r1 (1 : Int32) _ _ _ (lv_sub hl [1, 0] rfl) hP hS hf
      · have hf := ifn hc5 hf
        refine lv_iload_n F.1 F.2.1 dX5_readCommand_24 rfl (lv_at hl 0 rfl) ?_
        refine lv_bipush (v := (102 : Int32)) F.1 F.2.1 dX5_readCommand_25 (by decide) ?_
        refine lv_icmp_eq (tgt := 54) F.1 F.2.1 dX5_readCommand_27 rfl (fun hc6 => ?_) (fun hc6 => ?_)
        · have hf := ifp hc6 hf
          refine lv_iconst (v := (1 : Int32)) F.1 F.2.1 dX5_readCommand_54 (by decide) ?_
          refine lv_goto (tgt := 59) F.1 F.2.1 dX5_readCommand_55 rfl ?_
          exact (KEY FU).1 ν r1 (1 : Int32) _ _ _ (lv_sub hl [1, 0] rfl) hP hS hf
        · have hf := ifn hc6 hf
          refine lv_iload_n F.1 F.2.1 dX5_readCommand_30 rfl (lv_at hl 0 rfl) ?_
          refine lv_bipush (v := (120 : Int32)) F.1 F.2.1 dX5_readCommand_31 (by decide) ?_
          refine lv_icmp_eq (tgt := 54) F.1 F.2.1 dX5_readCommand_33 rfl (fun hc7 => ?_) (fun hc7 => ?_)
          · have hf := ifp hc7 hf
            refine lv_iconst (v := (1 : Int32)) F.1 F.2.1 dX5_readCommand_54 (by decide) ?_
            refine lv_goto (tgt := 59) F.1 F.2.1 dX5_readCommand_55 rfl ?_
            exact (KEY FU).1 ν r1 (1 : Int32) _ _ _ (lv_sub hl [1, 0] rfl) hP hS hf
          · have hf := ifn hc7 hf
            refine lv_iload_n F.1 F.2.1 dX5_readCommand_36 rfl (lv_at hl 0 rfl) ?_
            refine lv_bipush (v := (100 : Int32)) F.1 F.2.1 dX5_readCommand_37 (by decide) ?_
            refine lv_icmp_eq (tgt := 54) F.1 F.2.1 dX5_readCommand_39 rfl (fun hc8 => ?_) (fun hc8 => ?_)
            · have hf := ifp hc8 hf
              refine lv_iconst (v := (1 : Int32)) F.1 F.2.1 dX5_readCommand_54 (by decide) ?_
              refine lv_goto (tgt := 59) F.1 F.2.1 dX5_readCommand_55 rfl ?_
              exact (KEY FU).1 ν r1 (1 : Int32) _ _ _ (lv_sub hl [1, 0] rfl) hP hS hf
            · have hf := ifn hc8 hf
              refine lv_iload_n F.1 F.2.1 dX5_readCommand_42 rfl (lv_at hl 0 rfl) ?_
              refine lv_bipush (v := (101 : Int32)) F.1 F.2.1 dX5_readCommand_43 (by decide) ?_
              refine lv_icmp_eq (tgt := 54) F.1 F.2.1 dX5_readCommand_45 rfl (fun hc9 => ?_) (fun hc9 => ?_)
              · have hf := ifp hc9 hf
                refine lv_iconst (v := (1 : Int32)) F.1 F.2.1 dX5_readCommand_54 (by decide) ?_
                refine lv_goto (tgt := 59) F.1 F.2.1 dX5_readCommand_55 rfl ?_
                exact (KEY FU).1 ν r1 (1 : Int32) _ _ _ (lv_sub hl [1, 0] rfl) hP hS hf
              · have hf := ifn hc9 hf
                refine lv_iload_n F.1 F.2.1 dX5_readCommand_48 rfl (lv_at hl 0 rfl) ?_
                refine lv_bipush (v := (119 : Int32)) F.1 F.2.1 dX5_readCommand_49 (by decide) ?_
                refine lv_icmp_ne (tgt := 58) F.1 F.2.1 dX5_readCommand_51 rfl (fun hc10 => ?_) (fun hc10 => ?_)
                · have hf := ifn hc10 hf
                  refine lv_iconst (v := (0 : Int32)) F.1 F.2.1 dX5_readCommand_58 (by decide) ?_
                  exact (KEY FU).1 ν r1 (0 : Int32) _ _ _ (lv_sub hl [1, 0] rfl) hP hS hf
                · have hf := ifp hc10 hf
                  refine lv_iconst (v := (1 : Int32)) F.1 F.2.1 dX5_readCommand_54 (by decide) ?_
                  refine lv_goto (tgt := 59) F.1 F.2.1 dX5_readCommand_55 rfl ?_
                  exact (KEY FU).1 ν r1 (1 : Int32) _ _ _ (lv_sub hl [1, 0] rfl) hP hS hf

-- FrostTubesModel.readAll()I
def fb_X5_readAll_1  (K : Nat → Mem → Option (Int32 × Mem)) (ν : Mem) : Option (Int32 × Mem) := (if ((ν 0) 11) = 0 then (K 2 ν) else (if ((ν 0) 9) ≤ ((ν 0) 10) then (K 2 ν) else ((f_X5_readCommand ν).bind fun r12 => (K 1 r12.2))))
def fb_X5_readAll_2  (K : Nat → Mem → Option (Int32 × Mem)) (ν : Mem) : Option (Int32 × Mem) := (if ((ν 0) 11) = 0 then some (((ν 0) 10), ν) else some ((-1 : Int32), ν))
def fl_X5_readAll  : Nat → Nat → Mem → Option (Int32 × Mem)
  | 0, _, _ => none
  | n + 1, lab, ν => match lab with
    | 1 => fb_X5_readAll_1  (fl_X5_readAll  n) ν
    | _ => fb_X5_readAll_2  (fl_X5_readAll  n) ν
def f_X5_readAll (ν : Mem) : Option (Int32 × Mem) := ((f_X5_fresh ((va_up (va_up (va_up ν 0 (upd (ν 0) 10 (0 : Int32))) 0 (upd ((va_up ν 0 (upd (ν 0) 10 (0 : Int32))) 0) 11 (1 : Int32))) 0 (upd ((va_up (va_up ν 0 (upd (ν 0) 10 (0 : Int32))) 0 (upd ((va_up ν 0 (upd (ν 0) 10 (0 : Int32))) 0) 11 (1 : Int32))) 0) 12 (0 : Int32))) 3)).bind fun r1 => ((f_X5_here (va_up (va_up (va_up (va_up ν 0 (upd (ν 0) 10 (0 : Int32))) 0 (upd ((va_up ν 0 (upd (ν 0) 10 (0 : Int32))) 0) 11 (1 : Int32))) 0 (upd ((va_up (va_up ν 0 (upd (ν 0) 10 (0 : Int32))) 0 (upd ((va_up ν 0 (upd (ν 0) 10 (0 : Int32))) 0) 11 (1 : Int32))) 0) 12 (0 : Int32))) 3 r1)).bind fun r3 => (if r3 = (68 : Int32) then ((f_X5_take (va_up (va_up (va_up (va_up ν 0 (upd (ν 0) 10 (0 : Int32))) 0 (upd ((va_up ν 0 (upd (ν 0) 10 (0 : Int32))) 0) 11 (1 : Int32))) 0 (upd ((va_up (va_up ν 0 (upd (ν 0) 10 (0 : Int32))) 0 (upd ((va_up ν 0 (upd (ν 0) 10 (0 : Int32))) 0) 11 (1 : Int32))) 0) 12 (0 : Int32))) 3 r1) (1 : Int32)).bind fun r8 => (fl_X5_readAll  FU 1 r8)) else ((f_X5_take (va_up (va_up (va_up (va_up ν 0 (upd (ν 0) 10 (0 : Int32))) 0 (upd ((va_up ν 0 (upd (ν 0) 10 (0 : Int32))) 0) 11 (1 : Int32))) 0 (upd ((va_up (va_up ν 0 (upd (ν 0) 10 (0 : Int32))) 0 (upd ((va_up ν 0 (upd (ν 0) 10 (0 : Int32))) 0) 11 (1 : Int32))) 0) 12 (0 : Int32))) 3 r1) (0 : Int32)).bind fun r6 => (fl_X5_readAll  FU 1 r6)))))
def rmX5_readAll : Room := { frames := 8, cells := 0, slots := 0, locals := 184 }
theorem hd_X5_readAll : yX5_readAll.cls ≠ "java/lang/invoke/MethodHandle" ∧ yX5_readAll.cls ≠ "java/lang/invoke/VarHandle" ∧ (parseMethodDescriptor yX5_readAll.desc).map (fun d => d.parameters.length) = some 0 := by decide +kernel
set_option maxHeartbeats 8000000 in
set_option maxRecDepth 100000 in
theorem c_X5_readAll {l : Launch} {D : va_G} {y : Nat} {ν : Mem} {r : Int32 × Mem} (hf : f_X5_readAll ν = some r) : CM l yX5_readAll wsX5_readAll rmX5_readAll [.ref (y)] D y ν (some (.int r.1)) r.2 := by
  refine CM.of (cc := cX5_readAll) (maxL := 2) (ret := (some .int)) pn_X5 rfl (Nat.le_of_ble_eq_true rfl) ?_
  intro p e s m args below meth c F hr hlk hK
  have KEY : ∀ n : Nat, (∀ (ν : Mem) (ls : Array Slot) (H : Heap) (locs : List Loc), lv_has ls 2 [(0, .ref (y))] → va_P D vwCl (WM D y ν) H → va_S (rngM y) s.heap H locs → fl_X5_readAll  n 1 ν = some r → W p l e rmX5_readAll s m args below meth c H locs 0 0 (MQ below (QM D y r.2 (some (.int r.1))) args s 0 0 (rngM y)) (F0 m 40 ls [])) ∧ (∀ (ν : Mem) (ls : Array Slot) (H : Heap) (locs : List Loc), lv_has ls 2 [(0, .ref (y))] → va_P D vwCl (WM D y ν) H → va_S (rngM y) s.heap H locs → fl_X5_readAll  n 2 ν = some r → W p l e rmX5_readAll s m args below meth c H locs 0 0 (MQ below (QM D y r.2 (some (.int r.1))) args s 0 0 (rngM y)) (F0 m 66 ls [])) := by
    intro n
    induction n with
    | zero => exact ⟨(fun _ _ _ _ _ _ _ h => nomatch h), (fun _ _ _ _ _ _ _ h => nomatch h)⟩
    | succ n ih =>
      refine ⟨?_, ?_⟩
      · intro ν  ls H locs hl hP hS hf
        have hf : fb_X5_readAll_1  (fl_X5_readAll  n) ν = some r := hf
        unfold fb_X5_readAll_1 at hf
        refine lv_aload_n F.1 F.2.1 dX5_readAll_40 rfl (lv_at hl 0 rfl) ?_
        refine m_getI F hK hP rfl (fun _ h => List.mem_cons_of_mem _ (List.mem_append_right _ h)) 11 (Nat.le_of_ble_eq_true rfl) (List.mem_of_getElem? (i := 2) rfl) rfl (fun _ => rfl) dX5_readAll_41 ?_
        refine lv_if_eq (tgt := 66) F.1 F.2.1 dX5_readAll_44 rfl (fun hc10 => ?_) (fun hc10 => ?_)
        · have hf := ifp hc10 hf
          exact ih.2 ν  _ _ _ (lv_sub hl [0] rfl) hP hS hf
        · have hf := ifn hc10 hf
          refine lv_aload_n F.1 F.2.1 dX5_readAll_47 rfl (lv_at hl 0 rfl) ?_
          refine m_getI F hK hP rfl (fun _ h => List.mem_cons_of_mem _ (List.mem_append_right _ h)) 10 (Nat.le_of_ble_eq_true rfl) (List.mem_of_getElem? (i := 1) rfl) rfl (fun _ => rfl) dX5_readAll_48 ?_
          refine lv_aload_n F.1 F.2.1 dX5_readAll_51 rfl (lv_at hl 0 rfl) ?_
          refine m_getI F hK hP rfl (fun _ h => List.mem_cons_of_mem _ (List.mem_append_right _ h)) 9 (Nat.le_of_ble_eq_true rfl) (List.mem_of_getElem? (i := 5) rfl) rfl (fun _ => rfl) dX5_readAll_52 ?_
          refine lv_icmp_ge (tgt := 66) F.1 F.2.1 dX5_readAll_55 rfl (fun hc11 => ?_) (fun hc11 => ?_)
          · have hf := ifp hc11 hf
            exact ih.2 ν  _ _ _ (lv_sub hl [0] rfl) hP hS hf
          · have hf := ifn hc11 hf
            refine lv_aload_n F.1 F.2.1 dX5_readAll_58 rfl (lv_at hl 0 rfl) ?_
            obtain ⟨r12, hr13, hf⟩ := bnd hf
            refine m_callV F hK hP hS (c_X5_readCommand hr13) (cwV 0 F.2.2.2.2 gX5_readAll_X5_readCommand rfl rfl rfl ⟨rfl, hd_X5_readCommand⟩ ⟨(Nat.le_of_ble_eq_true rfl), (Nat.le_of_ble_eq_true rfl)⟩) rfl rfl hl.1 (Nat.le_of_ble_eq_true rfl) dX5_readAll_59 ⟨(Nat.le_of_ble_eq_true rfl), (Nat.le_of_ble_eq_true rfl)⟩ (rest := []) (fun H locs hP hS => ?_)
            refine W.eq (g2 := F0 m 62 ls [.int r12.1]) rfl ?_
            refine lv_istore_n F.1 F.2.1 dX5_readAll_62 rfl hl (Nat.le_of_ble_eq_true rfl) rfl (fun ls hl => ?_)
            have hl : lv_has ls 2 [(1, .int r12.1), (0, .ref (y))] := hl
            refine lv_goto (tgt := 40) F.1 F.2.1 dX5_readAll_63 rfl ?_
            exact ih.1 r12.2  _ _ _ (lv_sub hl [1] rfl) hP hS hf
      · intro ν  ls H locs hl hP hS hf
        have hf : fb_X5_readAll_2  (fl_X5_readAll  n) ν = some r := hf
        unfold fb_X5_readAll_2 at hf
        refine lv_aload_n F.1 F.2.1 dX5_readAll_66 rfl (lv_at hl 0 rfl) ?_
        refine m_getI F hK hP rfl (fun _ h => List.mem_cons_of_mem _ (List.mem_append_right _ h)) 11 (Nat.le_of_ble_eq_true rfl) (List.mem_of_getElem? (i := 2) rfl) rfl (fun _ => rfl) dX5_readAll_67 ?_
        refine lv_if_eq (tgt := 77) F.1 F.2.1 dX5_readAll_70 rfl (fun hc14 => ?_) (fun hc14 => ?_)
        · have hf := ifp hc14 hf
          refine lv_aload_n F.1 F.2.1 dX5_readAll_77 rfl (lv_at hl 0 rfl) ?_
          refine m_getI F hK hP rfl (fun _ h => List.mem_cons_of_mem _ (List.mem_append_right _ h)) 10 (Nat.le_of_ble_eq_true rfl) (List.mem_of_getElem? (i := 1) rfl) rfl (fun _ => rfl) dX5_readAll_78 ?_
          obtain rfl := Option.some.inj hf
          exact m_iret F hr hlk hP hS rfl dX5_readAll_81
        · have hf := ifn hc14 hf
          refine lv_iconst (v := (-1 : Int32)) F.1 F.2.1 dX5_readAll_73 (by decide) ?_
          refine lv_goto (tgt := 81) F.1 F.2.1 dX5_readAll_74 rfl ?_
          obtain rfl := Option.some.inj hf
          exact m_iret F hr hlk hP hS rfl dX5_readAll_81
  intro ls H locs hl hP hS
  have hl : lv_has ls 2 [(0, .ref (y))] := hl
  unfold f_X5_readAll at hf
  refine lv_aload_n F.1 F.2.1 dX5_readAll_0 rfl (lv_at hl 0 rfl) ?_
  refine lv_iconst (v := (0 : Int32)) F.1 F.2.1 dX5_readAll_1 (by decide) ?_
  have hP := m_up 0 hP
  refine m_putI F hK hP hS (fun _ h => List.mem_cons_of_mem _ (List.mem_append_right _ h)) 10 (Nat.le_of_ble_eq_true rfl) (List.mem_of_getElem? (i := 1) rfl) rfl rfl (ty := .int) rfl rfl rfl (fun _ _ => rfl) dX5_readAll_2 (fun H locs hP hS => ?_)
  refine lv_aload_n F.1 F.2.1 dX5_readAll_5 rfl (lv_at hl 0 rfl) ?_
  refine lv_iconst (v := (1 : Int32)) F.1 F.2.1 dX5_readAll_6 (by decide) ?_
  have hP := m_up 0 hP
  refine m_putI F hK hP hS (fun _ h => List.mem_cons_of_mem _ (List.mem_append_right _ h)) 11 (Nat.le_of_ble_eq_true rfl) (List.mem_of_getElem? (i := 2) rfl) rfl rfl (ty := .boolean) rfl rfl rfl (fun _ _ => rfl) dX5_readAll_7 (fun H locs hP hS => ?_)
  refine lv_aload_n F.1 F.2.1 dX5_readAll_10 rfl (lv_at hl 0 rfl) ?_
  refine lv_iconst (v := (0 : Int32)) F.1 F.2.1 dX5_readAll_11 (by decide) ?_
  have hP := m_up 0 hP
  refine m_putI F hK hP hS (fun _ h => List.mem_cons_of_mem _ (List.mem_append_right _ h)) 12 (Nat.le_of_ble_eq_true rfl) (List.mem_of_getElem? (i := 3) rfl) rfl rfl (ty := .int) rfl rfl rfl (fun _ _ => rfl) dX5_readAll_12 (fun H locs hP hS => ?_)
  refine lv_aload_n F.1 F.2.1 dX5_readAll_15 rfl (lv_at hl 0 rfl) ?_
  refine m_getR F hK hP (fun _ h => List.mem_cons_of_mem _ (List.mem_append_right _ h)) 3 (Nat.le_of_ble_eq_true rfl) (List.mem_of_getElem? (i := 4) rfl) rfl (v := .ref (y + 3)) (fun _ => rfl) dX5_readAll_16 ?_
  obtain ⟨r1, hr2, hf⟩ := bnd hf
  have hP := m_up 3 hP
  refine m_callS F hK hP hS (c_X5_fresh (by decide) (by decide) hr2) (va_cwS 1 F.2.2.2.2 gX5_readAll_X5_fresh rfl rfl rfl hd_X5_fresh ⟨(Nat.le_of_ble_eq_true rfl), (Nat.le_of_ble_eq_true rfl)⟩) rfl rfl hl.1 (Nat.le_of_ble_eq_true rfl) dX5_readAll_19 ⟨(Nat.le_of_ble_eq_true rfl), (Nat.le_of_ble_eq_true rfl)⟩ (rest := []) (fun H locs hP hS => ?_)
  refine W.eq (g2 := F0 m 22 ls []) rfl ?_
  refine lv_aload_n F.1 F.2.1 dX5_readAll_22 rfl (lv_at hl 0 rfl) ?_
  refine lv_aload_n F.1 F.2.1 dX5_readAll_23 rfl (lv_at hl 0 rfl) ?_
  obtain ⟨r3, hr4, hf⟩ := bnd hf
  refine m_callV F hK hP hS (c_X5_here hr4) (cwV 0 F.2.2.2.2 gX5_readAll_X5_here rfl rfl rfl ⟨rfl, hd_X5_here⟩ ⟨(Nat.le_of_ble_eq_true rfl), (Nat.le_of_ble_eq_true rfl)⟩) rfl rfl hl.1 (Nat.le_of_ble_eq_true rfl) dX5_readAll_24 ⟨(Nat.le_of_ble_eq_true rfl), (Nat.le_of_ble_eq_true rfl)⟩ (rest := [.ref (y)]) (fun H locs hP hS => ?_)
  refine W.eq (g2 := F0 m 27 ls [.int r3, .ref (y)]) rfl ?_
  refine lv_bipush (v := (68 : Int32)) F.1 F.2.1 dX5_readAll_27 (by decide) ?_
  refine lv_icmp_ne (tgt := 36) F.1 F.2.1 dX5_readAll_29 rfl (fun hc5 => ?_) (fun hc5 => ?_)
  · have hf := ifn hc5 hf
    refine lv_iconst (v := (0 : Int32)) F.1 F.2.1 dX5_readAll_36 (by decide) ?_
    obtain ⟨r6, hr7, hf⟩ := bnd hf
    refine m_callV F hK hP hS (c_X5_take (0 : Int32) hr7) (cwV 1 F.2.2.2.2 gX5_readAll_X5_take rfl rfl rfl ⟨rfl, hd_X5_take⟩ ⟨(Nat.le_of_ble_eq_true rfl), (Nat.le_of_ble_eq_true rfl)⟩) rfl rfl hl.1 (Nat.le_of_ble_eq_true rfl) dX5_readAll_37 ⟨(Nat.le_of_ble_eq_true rfl), (Nat.le_of_ble_eq_true rfl)⟩ (rest := []) (fun H locs hP hS => ?_)
    refine W.eq (g2 := F0 m 40 ls []) rfl ?_
    exact (KEY FU).1 r6  _ _ _ (lv_sub hl [0] rfl) hP hS hf
  · have hf := ifp hc5 hf
    refine lv_iconst (v := (1 : Int32)) F.1 F.2.1 dX5_readAll_32 (by decide) ?_
    refine lv_goto (tgt := 37) F.1 F.2.1 dX5_readAll_33 rfl ?_
    obtain ⟨r8, hr9, hf⟩ := bnd hf
    refine m_callV F hK hP hS (c_X5_take (1 : Int32) hr9) (cwV 1 F.2.2.2.2 gX5_readAll_X5_take rfl rfl rfl ⟨rfl, hd_X5_take⟩ ⟨(Nat.le_of_ble_eq_true rfl), (Nat.le_of_ble_eq_true rfl)⟩) rfl rfl hl.1 (Nat.le_of_ble_eq_true rfl) dX5_readAll_37 ⟨(Nat.le_of_ble_eq_true rfl), (Nat.le_of_ble_eq_true rfl)⟩ (rest := []) (fun H locs hP hS => ?_)
    refine W.eq (g2 := F0 m 40 ls []) rfl ?_
    exact (KEY FU).1 r8  _ _ _ (lv_sub hl [0] rfl) hP hS hf

-- FrostTubesModel.errorPosition()I
def f_X5_errorPosition (ν : Mem) : Option (Int32 × Mem) := ((f_X5_readAll (va_up ν 0 (upd (ν 0) 0 (0 : Int32)))).bind fun r1 => some (r1.1, r1.2))
def rmX5_errorPosition : Room := { frames := 9, cells := 0, slots := 0, locals := 205 }
theorem hd_X5_errorPosition : yX5_errorPosition.cls ≠ "java/lang/invoke/MethodHandle" ∧ yX5_errorPosition.cls ≠ "java/lang/invoke/VarHandle" ∧ (parseMethodDescriptor yX5_errorPosition.desc).map (fun d => d.parameters.length) = some 0 := by decide +kernel
set_option maxHeartbeats 8000000 in
set_option maxRecDepth 100000 in
theorem c_X5_errorPosition {l : Launch} {D : va_G} {y : Nat} {ν : Mem} {r : Int32 × Mem} (hf : f_X5_errorPosition ν = some r) : CM l yX5_errorPosition wsX5_errorPosition rmX5_errorPosition [.ref (y)] D y ν (some (.int r.1)) r.2 := by
  refine CM.of (cc := cX5_errorPosition) (maxL := 1) (ret := (some .int)) pn_X5 rfl (Nat.le_of_ble_eq_true rfl) ?_
  intro p e s m args below meth c F hr hlk hK
  intro ls H locs hl hP hS
  have hl : lv_has ls 1 [(0, .ref (y))] := hl
  unfold f_X5_errorPosition at hf
  refine lv_aload_n F.1 F.2.1 dX5_errorPosition_0 rfl (lv_at hl 0 rfl) ?_
  refine lv_iconst (v := (0 : Int32)) F.1 F.2.1 dX5_errorPosition_1 (by decide) ?_
  have hP := m_up 0 hP
  refine m_putI F hK hP hS (fun _ h => List.mem_cons_of_mem _ (List.mem_append_right _ h)) 0 (Nat.le_of_ble_eq_true rfl) (List.mem_of_getElem? (i := 1) rfl) rfl rfl (ty := .int) rfl rfl rfl (fun _ _ => rfl) dX5_errorPosition_2 (fun H locs hP hS => ?_)
  refine lv_aload_n F.1 F.2.1 dX5_errorPosition_5 rfl (lv_at hl 0 rfl) ?_
  obtain ⟨r1, hr2, hf⟩ := bnd hf
  refine m_callV F hK hP hS (c_X5_readAll hr2) (cwV 0 F.2.2.2.2 gX5_errorPosition_X5_readAll rfl rfl rfl ⟨rfl, hd_X5_readAll⟩ ⟨(Nat.le_of_ble_eq_true rfl), (Nat.le_of_ble_eq_true rfl)⟩) rfl rfl hl.1 (Nat.le_of_ble_eq_true rfl) dX5_errorPosition_6 ⟨(Nat.le_of_ble_eq_true rfl), (Nat.le_of_ble_eq_true rfl)⟩ (rest := []) (fun H locs hP hS => ?_)
  refine W.eq (g2 := F0 m 9 ls [.int r1.1]) rfl ?_
  obtain rfl := Option.some.inj hf
  exact m_iret F hr hlk hP hS rfl dX5_errorPosition_9

-- FrostTubesModel.load()I
def fb_X5_load_1  (K : Mem → Int32 → Option (Int32 × Mem)) (ν : Mem) (t0 : Int32) : Option (Int32 × Mem) := ((f_X5_refused ν t0).bind fun r4 => (if r4.1 = 0 then ((f_X5_copy (r4.2 1) (r4.2 3)).bind fun r7 => some ((((va_up (va_up (va_up (va_up r4.2 1 r7) 0 (upd ((va_up r4.2 1 r7) 0) 5 (0 : Int32))) 6 (upd ((va_up (va_up r4.2 1 r7) 0 (upd ((va_up r4.2 1 r7) 0) 5 (0 : Int32))) 6) ((0 : Int32).toNatClampNeg) (0 : Int32))) 6 (upd ((va_up (va_up (va_up r4.2 1 r7) 0 (upd ((va_up r4.2 1 r7) 0) 5 (0 : Int32))) 6 (upd ((va_up (va_up r4.2 1 r7) 0 (upd ((va_up r4.2 1 r7) 0) 5 (0 : Int32))) 6) ((0 : Int32).toNatClampNeg) (0 : Int32))) 6) ((1 : Int32).toNatClampNeg) (0 : Int32))) 0) 12), (va_up (va_up (va_up (va_up r4.2 1 r7) 0 (upd ((va_up r4.2 1 r7) 0) 5 (0 : Int32))) 6 (upd ((va_up (va_up r4.2 1 r7) 0 (upd ((va_up r4.2 1 r7) 0) 5 (0 : Int32))) 6) ((0 : Int32).toNatClampNeg) (0 : Int32))) 6 (upd ((va_up (va_up (va_up r4.2 1 r7) 0 (upd ((va_up r4.2 1 r7) 0) 5 (0 : Int32))) 6 (upd ((va_up (va_up r4.2 1 r7) 0 (upd ((va_up r4.2 1 r7) 0) 5 (0 : Int32))) 6) ((0 : Int32).toNatClampNeg) (0 : Int32))) 6) ((1 : Int32).toNatClampNeg) (0 : Int32))))) else some ((0 : Int32), r4.2)))
def fl_X5_load  : Nat → Mem → Int32 → Option (Int32 × Mem)
  | 0, _, _ => none
  | n + 1, ν, t0 => fb_X5_load_1  (fl_X5_load  n) ν t0
def f_X5_load (ν : Mem) : Option (Int32 × Mem) := ((f_X5_readAll ν).bind fun r1 => (if r1.1 = (-1 : Int32) then (fl_X5_load  FU r1.2 (0 : Int32)) else (fl_X5_load  FU r1.2 (1 : Int32))))
def rmX5_load : Room := { frames := 9, cells := 0, slots := 0, locals := 205 }
theorem hd_X5_load : yX5_load.cls ≠ "java/lang/invoke/MethodHandle" ∧ yX5_load.cls ≠ "java/lang/invoke/VarHandle" ∧ (parseMethodDescriptor yX5_load.desc).map (fun d => d.parameters.length) = some 0 := by decide +kernel
set_option maxHeartbeats 8000000 in
set_option maxRecDepth 100000 in
theorem c_X5_load {l : Launch} {D : va_G} {y : Nat} {ν : Mem} {r : Int32 × Mem} (hf : f_X5_load ν = some r) : CM l yX5_load wsX5_load rmX5_load [.ref (y)] D y ν (some (.int r.1)) r.2 := by
  refine CM.of (cc := cX5_load) (maxL := 1) (ret := (some .int)) pn_X5 rfl (Nat.le_of_ble_eq_true rfl) ?_
  intro p e s m args below meth c F hr hlk hK
  have KEY : ∀ n : Nat, (∀ (ν : Mem) (t0 : Int32) (ls : Array Slot) (H : Heap) (locs : List Loc), lv_has ls 1 [(0, .ref (y))] → va_P D vwCl (WM D y ν) H → va_S (rngM y) s.heap H locs → fl_X5_load  n ν t0 = some r → W p l e rmX5_load s m args below meth c H locs 0 0 (MQ below (QM D y r.2 (some (.int r.1))) args s 0 0 (rngM y)) (F0 m 14 ls [.int t0, .ref (y)])) := by
    intro n
    induction n with
    | zero => exact (fun _ _ _ _ _ _ _ _ h => nomatch h)
    | succ n ih =>
      skip
      intro ν t0  ls H locs hl hP hS hf
      have hf : fb_X5_load_1  (fl_X5_load  n) ν t0 = some r := hf
      unfold fb_X5_load_1 at hf
      obtain ⟨r4, hr5, hf⟩ := bnd hf
      refine m_callV F hK hP hS (c_X5_refused t0 hr5) (cwV 1 F.2.2.2.2 gX5_load_X5_refused rfl rfl rfl ⟨rfl, hd_X5_refused⟩ ⟨(Nat.le_of_ble_eq_true rfl), (Nat.le_of_ble_eq_true rfl)⟩) rfl rfl hl.1 (Nat.le_of_ble_eq_true rfl) dX5_load_14 ⟨(Nat.le_of_ble_eq_true rfl), (Nat.le_of_ble_eq_true rfl)⟩ (rest := []) (fun H locs hP hS => ?_)
      refine W.eq (g2 := F0 m 17 ls [.int r4.1]) rfl ?_
      refine lv_if_eq (tgt := 22) F.1 F.2.1 dX5_load_17 rfl (fun hc6 => ?_) (fun hc6 => ?_)
      · have hf := ifp hc6 hf
        refine lv_aload_n F.1 F.2.1 dX5_load_22 rfl (lv_at hl 0 rfl) ?_
        refine m_getR F hK hP (fun _ h => List.mem_cons_of_mem _ (List.mem_append_right _ h)) 3 (Nat.le_of_ble_eq_true rfl) (List.mem_of_getElem? (i := 1) rfl) rfl (v := .ref (y + 3)) (fun _ => rfl) dX5_load_23 ?_
        refine lv_aload_n F.1 F.2.1 dX5_load_26 rfl (lv_at hl 0 rfl) ?_
        refine m_getR F hK hP (fun _ h => List.mem_cons_of_mem _ (List.mem_append_right _ h)) 1 (Nat.le_of_ble_eq_true rfl) (List.mem_of_getElem? (i := 2) rfl) rfl (v := .ref (y + 1)) (fun _ => rfl) dX5_load_27 ?_
        obtain ⟨r7, hr8, hf⟩ := bnd hf
        have hP := m_up 1 hP
        refine m_callS F hK hP hS (c_X5_copy (by decide) (by decide) (by decide) (by decide) (by decide) rfl hr8) (va_cwS 2 F.2.2.2.2 gX5_load_X5_copy rfl rfl rfl hd_X5_copy ⟨(Nat.le_of_ble_eq_true rfl), (Nat.le_of_ble_eq_true rfl)⟩) rfl rfl hl.1 (Nat.le_of_ble_eq_true rfl) dX5_load_30 ⟨(Nat.le_of_ble_eq_true rfl), (Nat.le_of_ble_eq_true rfl)⟩ (rest := []) (fun H locs hP hS => ?_)
        refine W.eq (g2 := F0 m 33 ls []) rfl ?_
        refine lv_aload_n F.1 F.2.1 dX5_load_33 rfl (lv_at hl 0 rfl) ?_
        refine lv_iconst (v := (0 : Int32)) F.1 F.2.1 dX5_load_34 (by decide) ?_
        have hP := m_up 0 hP
        refine m_putI F hK hP hS (fun _ h => List.mem_cons_of_mem _ (List.mem_append_right _ h)) 5 (Nat.le_of_ble_eq_true rfl) (List.mem_of_getElem? (i := 3) rfl) rfl rfl (ty := .int) rfl rfl rfl (fun _ _ => rfl) dX5_load_35 (fun H locs hP hS => ?_)
        refine lv_aload_n F.1 F.2.1 dX5_load_38 rfl (lv_at hl 0 rfl) ?_
        refine m_getR F hK hP (fun _ h => List.mem_cons_of_mem _ (List.mem_append_right _ h)) 7 (Nat.le_of_ble_eq_true rfl) (List.mem_of_getElem? (i := 4) rfl) rfl (v := .ref (y + 6)) (fun _ => rfl) dX5_load_39 ?_
        refine lv_iconst (v := (0 : Int32)) F.1 F.2.1 dX5_load_42 (by decide) ?_
        refine lv_iconst (v := (0 : Int32)) F.1 F.2.1 dX5_load_43 (by decide) ?_
        have hP := m_up 6 hP
        refine m_zast F hK hP hS (by decide) (fun _ => rfl) rfl (by decide) rfl dX5_load_44 (fun H locs hP hS => ?_)
        refine lv_aload_n F.1 F.2.1 dX5_load_45 rfl (lv_at hl 0 rfl) ?_
        refine m_getR F hK hP (fun _ h => List.mem_cons_of_mem _ (List.mem_append_right _ h)) 7 (Nat.le_of_ble_eq_true rfl) (List.mem_of_getElem? (i := 4) rfl) rfl (v := .ref (y + 6)) (fun _ => rfl) dX5_load_46 ?_
        refine lv_iconst (v := (1 : Int32)) F.1 F.2.1 dX5_load_49 (by decide) ?_
        refine lv_iconst (v := (0 : Int32)) F.1 F.2.1 dX5_load_50 (by decide) ?_
        have hP := m_up 6 hP
        refine m_zast F hK hP hS (by decide) (fun _ => rfl) rfl (by decide) rfl dX5_load_51 (fun H locs hP hS => ?_)
        refine lv_aload_n F.1 F.2.1 dX5_load_52 rfl (lv_at hl 0 rfl) ?_
        refine m_getI F hK hP rfl (fun _ h => List.mem_cons_of_mem _ (List.mem_append_right _ h)) 12 (Nat.le_of_ble_eq_true rfl) (List.mem_of_getElem? (i := 5) rfl) rfl (fun _ => rfl) dX5_load_53 ?_
        obtain rfl := Option.some.inj hf
        exact m_iret F hr hlk hP hS rfl dX5_load_56
      · have hf := ifn hc6 hf
        refine lv_iconst (v := (0 : Int32)) F.1 F.2.1 dX5_load_20 (by decide) ?_
        obtain rfl := Option.some.inj hf
        exact m_iret F hr hlk hP hS rfl dX5_load_21
  intro ls H locs hl hP hS
  have hl : lv_has ls 1 [(0, .ref (y))] := hl
  unfold f_X5_load at hf
  refine lv_aload_n F.1 F.2.1 dX5_load_0 rfl (lv_at hl 0 rfl) ?_
  refine lv_aload_n F.1 F.2.1 dX5_load_1 rfl (lv_at hl 0 rfl) ?_
  obtain ⟨r1, hr2, hf⟩ := bnd hf
  refine m_callV F hK hP hS (c_X5_readAll hr2) (cwV 0 F.2.2.2.2 gX5_load_X5_readAll rfl rfl rfl ⟨rfl, hd_X5_readAll⟩ ⟨(Nat.le_of_ble_eq_true rfl), (Nat.le_of_ble_eq_true rfl)⟩) rfl rfl hl.1 (Nat.le_of_ble_eq_true rfl) dX5_load_2 ⟨(Nat.le_of_ble_eq_true rfl), (Nat.le_of_ble_eq_true rfl)⟩ (rest := [.ref (y)]) (fun H locs hP hS => ?_)
  refine W.eq (g2 := F0 m 5 ls [.int r1.1, .ref (y)]) rfl ?_
  refine lv_iconst (v := (-1 : Int32)) F.1 F.2.1 dX5_load_5 (by decide) ?_
  refine lv_icmp_ne (tgt := 13) F.1 F.2.1 dX5_load_6 rfl (fun hc3 => ?_) (fun hc3 => ?_)
  · have hf := ifn hc3 hf
    refine lv_iconst (v := (1 : Int32)) F.1 F.2.1 dX5_load_13 (by decide) ?_
    exact (KEY FU) r1.2 (1 : Int32) _ _ _ (lv_sub hl [0] rfl) hP hS hf
  · have hf := ifp hc3 hf
    refine lv_iconst (v := (0 : Int32)) F.1 F.2.1 dX5_load_9 (by decide) ?_
    refine lv_goto (tgt := 14) F.1 F.2.1 dX5_load_10 rfl ?_
    exact (KEY FU) r1.2 (0 : Int32) _ _ _ (lv_sub hl [0] rfl) hP hS hf

-- FrostTubesModel.heaves([I)I
def fb_X5_heaves_1 (g : Row) (K : Int32 → Int32 → Option (Int32)) (v1 : Int32) (v2 : Int32) : Option (Int32) := (if (g (198 : Int32).toNatClampNeg) ≤ v2 then some v1 else (if oob (((156 : Int32) + ((5 : Int32) * v2)) + (2 : Int32)) 205 then none else (K (v1 + (g (((156 : Int32) + ((5 : Int32) * v2)) + (2 : Int32)).toNatClampNeg)) (v2 + (1 : Int32)))))
def fl_X5_heaves (g : Row) : Nat → Int32 → Int32 → Option (Int32)
  | 0, _, _ => none
  | n + 1, v1, v2 => fb_X5_heaves_1 g (fl_X5_heaves g n) v1 v2
def f_X5_heaves (g : Row) : Option (Int32) := (fl_X5_heaves g FU (0 : Int32) (0 : Int32))
def rmX5_heaves : Room := { frames := 0, cells := 0, slots := 0, locals := 0 }
theorem hd_X5_heaves : yX5_heaves.cls ≠ "java/lang/invoke/MethodHandle" ∧ yX5_heaves.cls ≠ "java/lang/invoke/VarHandle" ∧ (parseMethodDescriptor yX5_heaves.desc).map (fun d => d.parameters.length) = some 1 := by decide +kernel
set_option maxHeartbeats 8000000 in
set_option maxRecDepth 100000 in
theorem c_X5_heaves {l : Launch} {D : va_G} {y : Nat} {ν : Mem} {ρ : Nat} (h1 : 1 ≤ ρ) (h3 : ρ ≤ 3) {g : Row} (hg : ν ρ = g) {r : Int32} (hf : f_X5_heaves g = some r) : CM l yX5_heaves wsX5_heaves rmX5_heaves [.ref (y + ρ)] D y ν (some (.int r)) ν := by
  refine CM.of (cc := cX5_heaves) (maxL := 3) (ret := (some .int)) pn_X5 rfl (Nat.le_of_ble_eq_true rfl) ?_
  intro p e s m args below meth c F hr hlk hK
  have KEY : ∀ n : Nat, (∀ (v1 : Int32) (v2 : Int32) (ls : Array Slot) (H : Heap) (locs : List Loc), lv_has ls 3 [(0, .ref (y + ρ)), (1, .int v1), (2, .int v2)] → va_P D vwCl (WM D y ν) H → va_S (rngM y) s.heap H locs → fl_X5_heaves g n v1 v2 = some r → W p l e rmX5_heaves s m args below meth c H locs 0 0 (MQ below (QM D y ν (some (.int r))) args s 0 0 (rngM y)) (F0 m 4 ls [])) := by
    intro n
    induction n with
    | zero => exact (fun _ _ _ _ _ _ _ _ h => nomatch h)
    | succ n ih =>
      skip
      intro v1 v2  ls H locs hl hP hS hf
      have hf : fb_X5_heaves_1 g (fl_X5_heaves g n) v1 v2 = some r := hf
      unfold fb_X5_heaves_1 at hf
      refine lv_iload_n F.1 F.2.1 dX5_heaves_4 rfl (lv_at hl 2 rfl) ?_
      refine lv_aload_n F.1 F.2.1 dX5_heaves_5 rfl (lv_at hl 0 rfl) ?_
      refine lv_sipush (v := (198 : Int32)) F.1 F.2.1 dX5_heaves_6 (by decide) ?_
      refine m_iald F hK hP (o := ρ) (by omega) hg (fun f => mkM_row h1 h3 D y f) (lnM_row h1 h3) (by decide) dX5_heaves_9 ?_
      refine lv_icmp_ge (tgt := 33) F.1 F.2.1 dX5_heaves_10 rfl (fun hc1 => ?_) (fun hc1 => ?_)
      · have hf := ifp hc1 hf
        refine lv_iload_n F.1 F.2.1 dX5_heaves_33 rfl (lv_at hl 1 rfl) ?_
        obtain rfl := Option.some.inj hf
        exact m_iret F hr hlk hP hS rfl dX5_heaves_34
      · have hf := ifn hc1 hf
        refine lv_iload_n F.1 F.2.1 dX5_heaves_13 rfl (lv_at hl 1 rfl) ?_
        refine lv_aload_n F.1 F.2.1 dX5_heaves_14 rfl (lv_at hl 0 rfl) ?_
        refine lv_sipush (v := (156 : Int32)) F.1 F.2.1 dX5_heaves_15 (by decide) ?_
        refine lv_iconst (v := (5 : Int32)) F.1 F.2.1 dX5_heaves_18 (by decide) ?_
        refine lv_iload_n F.1 F.2.1 dX5_heaves_19 rfl (lv_at hl 2 rfl) ?_
        refine lv_imul F.1 F.2.1 dX5_heaves_20 ?_
        refine lv_iadd F.1 F.2.1 dX5_heaves_21 ?_
        refine lv_iconst (v := (2 : Int32)) F.1 F.2.1 dX5_heaves_22 (by decide) ?_
        refine lv_iadd F.1 F.2.1 dX5_heaves_23 ?_
        obtain ⟨hb2, hf⟩ := ifg hf
        refine m_iald F hK hP (o := ρ) (by omega) hg (fun f => mkM_row h1 h3 D y f) (lnM_row h1 h3) hb2 dX5_heaves_24 ?_
        refine lv_iadd F.1 F.2.1 dX5_heaves_25 ?_
        refine lv_istore_n F.1 F.2.1 dX5_heaves_26 rfl hl (Nat.le_of_ble_eq_true rfl) rfl (fun ls hl => ?_)
        have hl : lv_has ls 3 [(1, .int (v1 + (g (((156 : Int32) + ((5 : Int32) * v2)) + (2 : Int32)).toNatClampNeg))), (0, .ref (y + ρ)), (2, .int v2)] := hl
        refine lv_iinc (v := (v2 + (1 : Int32))) F.1 F.2.1 dX5_heaves_27 hl (k := 2) rfl rfl (Nat.le_of_ble_eq_true rfl) rfl (fun ls hl => ?_)
        have hl : lv_has ls 3 [(2, .int (v2 + (1 : Int32))), (1, .int (v1 + (g (((156 : Int32) + ((5 : Int32) * v2)) + (2 : Int32)).toNatClampNeg))), (0, .ref (y + ρ))] := hl
        refine lv_goto (tgt := 4) F.1 F.2.1 dX5_heaves_30 rfl ?_
        exact ih (v1 + (g (((156 : Int32) + ((5 : Int32) * v2)) + (2 : Int32)).toNatClampNeg)) (v2 + (1 : Int32)) _ _ _ (lv_sub hl [2, 1, 0] rfl) hP hS hf
  intro ls H locs hl hP hS
  have hl : lv_has ls 3 [(0, .ref (y + ρ))] := hl
  unfold f_X5_heaves at hf
  refine lv_iconst (v := (0 : Int32)) F.1 F.2.1 dX5_heaves_0 (by decide) ?_
  refine lv_istore_n F.1 F.2.1 dX5_heaves_1 rfl hl (Nat.le_of_ble_eq_true rfl) rfl (fun ls hl => ?_)
  have hl : lv_has ls 3 [(1, .int (0 : Int32)), (0, .ref (y + ρ))] := hl
  refine lv_iconst (v := (0 : Int32)) F.1 F.2.1 dX5_heaves_2 (by decide) ?_
  refine lv_istore_n F.1 F.2.1 dX5_heaves_3 rfl hl (Nat.le_of_ble_eq_true rfl) rfl (fun ls hl => ?_)
  have hl : lv_has ls 3 [(2, .int (0 : Int32)), (1, .int (0 : Int32)), (0, .ref (y + ρ))] := hl
  exact (KEY FU) (0 : Int32) (0 : Int32) _ _ _ (lv_sub hl [2, 1, 0] rfl) hP hS hf

-- FrostTubesModel.about(I)I
def fb_X5_about_1 (a1 : Int32) (K : Mem → Int32 → Option (Int32 × Mem)) (ν : Mem) (t0 : Int32) : Option (Int32 × Mem) := ((f_X5_refused ν t0).bind fun r4 => (if r4.1 = 0 then (if a1 = (0 : Int32) then some (((r4.2 1) (196 : Int32).toNatClampNeg), r4.2) else (if a1 = (1 : Int32) then some (((r4.2 1) (197 : Int32).toNatClampNeg), r4.2) else (if a1 = (2 : Int32) then some (((r4.2 1) (198 : Int32).toNatClampNeg), r4.2) else (if a1 = (3 : Int32) then some (((r4.2 1) (199 : Int32).toNatClampNeg), r4.2) else (if a1 = (4 : Int32) then ((f_X5_allCells (r4.2 1)).bind fun r12 => some (r12, r4.2)) else (if a1 = (5 : Int32) then ((f_X5_allLayers (r4.2 1)).bind fun r15 => some (r15, r4.2)) else (if a1 = (6 : Int32) then some (((r4.2 1) (200 : Int32).toNatClampNeg), r4.2) else (if a1 = (7 : Int32) then some (((r4.2 1) (201 : Int32).toNatClampNeg), r4.2) else (if a1 = (8 : Int32) then ((f_X5_heaves (r4.2 1)).bind fun r20 => some (r20, r4.2)) else (if oob (((202 : Int32) + a1) - (9 : Int32)) 205 then none else some (((r4.2 1) (((202 : Int32) + a1) - (9 : Int32)).toNatClampNeg), r4.2))))))))))) else some ((0 : Int32), r4.2)))
def fl_X5_about (a1 : Int32) : Nat → Mem → Int32 → Option (Int32 × Mem)
  | 0, _, _ => none
  | n + 1, ν, t0 => fb_X5_about_1 a1 (fl_X5_about a1 n) ν t0
def f_X5_about (ν : Mem) (a1 : Int32) : Option (Int32 × Mem) := ((f_X5_in a1.toInt64 (0 : Int64) (11 : Int64)).bind fun r1 => (if r1 = 0 then (fl_X5_about a1 FU ν (1 : Int32)) else (fl_X5_about a1 FU ν (0 : Int32))))
def rmX5_about : Room := { frames := 5, cells := 0, slots := 0, locals := 110 }
theorem hd_X5_about : yX5_about.cls ≠ "java/lang/invoke/MethodHandle" ∧ yX5_about.cls ≠ "java/lang/invoke/VarHandle" ∧ (parseMethodDescriptor yX5_about.desc).map (fun d => d.parameters.length) = some 1 := by decide +kernel
set_option maxHeartbeats 8000000 in
set_option maxRecDepth 100000 in
theorem c_X5_about {l : Launch} {D : va_G} {y : Nat} {ν : Mem} (a1 : Int32) {r : Int32 × Mem} (hf : f_X5_about ν a1 = some r) : CM l yX5_about wsX5_about rmX5_about [.ref (y), .int a1] D y ν (some (.int r.1)) r.2 := by
  refine CM.of (cc := cX5_about) (maxL := 2) (ret := (some .int)) pn_X5 rfl (Nat.le_of_ble_eq_true rfl) ?_
  intro p e s m args below meth c F hr hlk hK
  have KEY : ∀ n : Nat, (∀ (ν : Mem) (t0 : Int32) (ls : Array Slot) (H : Heap) (locs : List Loc), lv_has ls 2 [(0, .ref (y)), (1, .int a1)] → va_P D vwCl (WM D y ν) H → va_S (rngM y) s.heap H locs → fl_X5_about a1 n ν t0 = some r → W p l e rmX5_about s m args below meth c H locs 0 0 (MQ below (QM D y r.2 (some (.int r.1))) args s 0 0 (rngM y)) (F0 m 18 ls [.int t0, .ref (y)])) := by
    intro n
    induction n with
    | zero => exact (fun _ _ _ _ _ _ _ _ h => nomatch h)
    | succ n ih =>
      skip
      intro ν t0  ls H locs hl hP hS hf
      have hf : fb_X5_about_1 a1 (fl_X5_about a1 n) ν t0 = some r := hf
      unfold fb_X5_about_1 at hf
      obtain ⟨r4, hr5, hf⟩ := bnd hf
      refine m_callV F hK hP hS (c_X5_refused t0 hr5) (cwV 1 F.2.2.2.2 gX5_about_X5_refused rfl rfl rfl ⟨rfl, hd_X5_refused⟩ ⟨(Nat.le_of_ble_eq_true rfl), (Nat.le_of_ble_eq_true rfl)⟩) rfl rfl hl.1 (Nat.le_of_ble_eq_true rfl) dX5_about_18 ⟨(Nat.le_of_ble_eq_true rfl), (Nat.le_of_ble_eq_true rfl)⟩ (rest := []) (fun H locs hP hS => ?_)
      refine W.eq (g2 := F0 m 21 ls [.int r4.1]) rfl ?_
      refine lv_if_eq (tgt := 26) F.1 F.2.1 dX5_about_21 rfl (fun hc6 => ?_) (fun hc6 => ?_)
      · have hf := ifp hc6 hf
        refine lv_iload_n F.1 F.2.1 dX5_about_26 rfl (lv_at hl 1 rfl) ?_
        by_cases hc7 : a1 = (0 : Int32)
        · have hf := ifp hc7 hf
          refine lv_tableIn (off := 49) (tgt := 76) F.1 F.2.1 dX5_about_27 (by rw [hc7]; decide) (by rw [hc7]; decide) (by rw [hc7]; rfl) rfl ?_
          refine lv_aload_n F.1 F.2.1 dX5_about_76 rfl (lv_at hl 0 rfl) ?_
          refine m_getR F hK hP (fun _ h => List.mem_cons_of_mem _ (List.mem_append_right _ h)) 1 (Nat.le_of_ble_eq_true rfl) (List.mem_of_getElem? (i := 2) rfl) rfl (v := .ref (y + 1)) (fun _ => rfl) dX5_about_77 ?_
          refine lv_sipush (v := (196 : Int32)) F.1 F.2.1 dX5_about_80 (by decide) ?_
          refine m_iald F hK hP (o := 1) (by decide) rfl (fun _ => rfl) rfl (by decide) dX5_about_83 ?_
          obtain rfl := Option.some.inj hf
          exact m_iret F hr hlk hP hS rfl dX5_about_84
        have hf := ifn hc7 hf
        by_cases hc8 : a1 = (1 : Int32)
        · have hf := ifp hc8 hf
          refine lv_tableIn (off := 58) (tgt := 85) F.1 F.2.1 dX5_about_27 (by rw [hc8]; decide) (by rw [hc8]; decide) (by rw [hc8]; rfl) rfl ?_
          refine lv_aload_n F.1 F.2.1 dX5_about_85 rfl (lv_at hl 0 rfl) ?_
          refine m_getR F hK hP (fun _ h => List.mem_cons_of_mem _ (List.mem_append_right _ h)) 1 (Nat.le_of_ble_eq_true rfl) (List.mem_of_getElem? (i := 2) rfl) rfl (v := .ref (y + 1)) (fun _ => rfl) dX5_about_86 ?_
          refine lv_sipush (v := (197 : Int32)) F.1 F.2.1 dX5_about_89 (by decide) ?_
          refine m_iald F hK hP (o := 1) (by decide) rfl (fun _ => rfl) rfl (by decide) dX5_about_92 ?_
          obtain rfl := Option.some.inj hf
          exact m_iret F hr hlk hP hS rfl dX5_about_93
        have hf := ifn hc8 hf
        by_cases hc9 : a1 = (2 : Int32)
        · have hf := ifp hc9 hf
          refine lv_tableIn (off := 67) (tgt := 94) F.1 F.2.1 dX5_about_27 (by rw [hc9]; decide) (by rw [hc9]; decide) (by rw [hc9]; rfl) rfl ?_
          refine lv_aload_n F.1 F.2.1 dX5_about_94 rfl (lv_at hl 0 rfl) ?_
          refine m_getR F hK hP (fun _ h => List.mem_cons_of_mem _ (List.mem_append_right _ h)) 1 (Nat.le_of_ble_eq_true rfl) (List.mem_of_getElem? (i := 2) rfl) rfl (v := .ref (y + 1)) (fun _ => rfl) dX5_about_95 ?_
          refine lv_sipush (v := (198 : Int32)) F.1 F.2.1 dX5_about_98 (by decide) ?_
          refine m_iald F hK hP (o := 1) (by decide) rfl (fun _ => rfl) rfl (by decide) dX5_about_101 ?_
          obtain rfl := Option.some.inj hf
          exact m_iret F hr hlk hP hS rfl dX5_about_102
        have hf := ifn hc9 hf
        by_cases hc10 : a1 = (3 : Int32)
        · have hf := ifp hc10 hf
          refine lv_tableIn (off := 76) (tgt := 103) F.1 F.2.1 dX5_about_27 (by rw [hc10]; decide) (by rw [hc10]; decide) (by rw [hc10]; rfl) rfl ?_
          refine lv_aload_n F.1 F.2.1 dX5_about_103 rfl (lv_at hl 0 rfl) ?_
          refine m_getR F hK hP (fun _ h => List.mem_cons_of_mem _ (List.mem_append_right _ h)) 1 (Nat.le_of_ble_eq_true rfl) (List.mem_of_getElem? (i := 2) rfl) rfl (v := .ref (y + 1)) (fun _ => rfl) dX5_about_104 ?_
          refine lv_sipush (v := (199 : Int32)) F.1 F.2.1 dX5_about_107 (by decide) ?_
          refine m_iald F hK hP (o := 1) (by decide) rfl (fun _ => rfl) rfl (by decide) dX5_about_110 ?_
          obtain rfl := Option.some.inj hf
          exact m_iret F hr hlk hP hS rfl dX5_about_111
        have hf := ifn hc10 hf
        by_cases hc11 : a1 = (4 : Int32)
        · have hf := ifp hc11 hf
          refine lv_tableIn (off := 85) (tgt := 112) F.1 F.2.1 dX5_about_27 (by rw [hc11]; decide) (by rw [hc11]; decide) (by rw [hc11]; rfl) rfl ?_
          refine lv_aload_n F.1 F.2.1 dX5_about_112 rfl (lv_at hl 0 rfl) ?_
          refine m_getR F hK hP (fun _ h => List.mem_cons_of_mem _ (List.mem_append_right _ h)) 1 (Nat.le_of_ble_eq_true rfl) (List.mem_of_getElem? (i := 2) rfl) rfl (v := .ref (y + 1)) (fun _ => rfl) dX5_about_113 ?_
          obtain ⟨r12, hr13, hf⟩ := bnd hf
          refine m_callS F hK hP hS (c_X5_allCells (by decide) (by decide) rfl hr13) (va_cwS 1 F.2.2.2.2 gX5_about_X5_allCells rfl rfl rfl hd_X5_allCells ⟨(Nat.le_of_ble_eq_true rfl), (Nat.le_of_ble_eq_true rfl)⟩) rfl rfl hl.1 (Nat.le_of_ble_eq_true rfl) dX5_about_116 ⟨(Nat.le_of_ble_eq_true rfl), (Nat.le_of_ble_eq_true rfl)⟩ (rest := []) (fun H locs hP hS => ?_)
          refine W.eq (g2 := F0 m 119 ls [.int r12]) rfl ?_
          obtain rfl := Option.some.inj hf
          exact m_iret F hr hlk hP hS rfl dX5_about_119
        have hf := ifn hc11 hf
        by_cases hc14 : a1 = (5 : Int32)
        · have hf := ifp hc14 hf
          refine lv_tableIn (off := 93) (tgt := 120) F.1 F.2.1 dX5_about_27 (by rw [hc14]; decide) (by rw [hc14]; decide) (by rw [hc14]; rfl) rfl ?_
          refine lv_aload_n F.1 F.2.1 dX5_about_120 rfl (lv_at hl 0 rfl) ?_
          refine m_getR F hK hP (fun _ h => List.mem_cons_of_mem _ (List.mem_append_right _ h)) 1 (Nat.le_of_ble_eq_true rfl) (List.mem_of_getElem? (i := 2) rfl) rfl (v := .ref (y + 1)) (fun _ => rfl) dX5_about_121 ?_
          obtain ⟨r15, hr16, hf⟩ := bnd hf
          refine m_callS F hK hP hS (c_X5_allLayers (by decide) (by decide) rfl hr16) (va_cwS 1 F.2.2.2.2 gX5_about_X5_allLayers rfl rfl rfl hd_X5_allLayers ⟨(Nat.le_of_ble_eq_true rfl), (Nat.le_of_ble_eq_true rfl)⟩) rfl rfl hl.1 (Nat.le_of_ble_eq_true rfl) dX5_about_124 ⟨(Nat.le_of_ble_eq_true rfl), (Nat.le_of_ble_eq_true rfl)⟩ (rest := []) (fun H locs hP hS => ?_)
          refine W.eq (g2 := F0 m 127 ls [.int r15]) rfl ?_
          obtain rfl := Option.some.inj hf
          exact m_iret F hr hlk hP hS rfl dX5_about_127
        have hf := ifn hc14 hf
        by_cases hc17 : a1 = (6 : Int32)
        · have hf := ifp hc17 hf
          refine lv_tableIn (off := 101) (tgt := 128) F.1 F.2.1 dX5_about_27 (by rw [hc17]; decide) (by rw [hc17]; decide) (by rw [hc17]; rfl) rfl ?_
          refine lv_aload_n F.1 F.2.1 dX5_about_128 rfl (lv_at hl 0 rfl) ?_
          refine m_getR F hK hP (fun _ h => List.mem_cons_of_mem _ (List.mem_append_right _ h)) 1 (Nat.le_of_ble_eq_true rfl) (List.mem_of_getElem? (i := 2) rfl) rfl (v := .ref (y + 1)) (fun _ => rfl) dX5_about_129 ?_
          refine lv_sipush (v := (200 : Int32)) F.1 F.2.1 dX5_about_132 (by decide) ?_
          refine m_iald F hK hP (o := 1) (by decide) rfl (fun _ => rfl) rfl (by decide) dX5_about_135 ?_
          obtain rfl := Option.some.inj hf
          exact m_iret F hr hlk hP hS rfl dX5_about_136
        have hf := ifn hc17 hf
        by_cases hc18 : a1 = (7 : Int32)
        · have hf := ifp hc18 hf
          refine lv_tableIn (off := 110) (tgt := 137) F.1 F.2.1 dX5_about_27 (by rw [hc18]; decide) (by rw [hc18]; decide) (by rw [hc18]; rfl) rfl ?_
          refine lv_aload_n F.1 F.2.1 dX5_about_137 rfl (lv_at hl 0 rfl) ?_
          refine m_getR F hK hP (fun _ h => List.mem_cons_of_mem _ (List.mem_append_right _ h)) 1 (Nat.le_of_ble_eq_true rfl) (List.mem_of_getElem? (i := 2) rfl) rfl (v := .ref (y + 1)) (fun _ => rfl) dX5_about_138 ?_
          refine lv_sipush (v := (201 : Int32)) F.1 F.2.1 dX5_about_141 (by decide) ?_
          refine m_iald F hK hP (o := 1) (by decide) rfl (fun _ => rfl) rfl (by decide) dX5_about_144 ?_
          obtain rfl := Option.some.inj hf
          exact m_iret F hr hlk hP hS rfl dX5_about_145
        have hf := ifn hc18 hf
        by_cases hc19 : a1 = (8 : Int32)
        · have hf := ifp hc19 hf
          refine lv_tableIn (off := 119) (tgt := 146) F.1 F.2.1 dX5_about_27 (by rw [hc19]; decide) (by rw [hc19]; decide) (by rw [hc19]; rfl) rfl ?_
          refine lv_aload_n F.1 F.2.1 dX5_about_146 rfl (lv_at hl 0 rfl) ?_
          refine m_getR F hK hP (fun _ h => List.mem_cons_of_mem _ (List.mem_append_right _ h)) 1 (Nat.le_of_ble_eq_true rfl) (List.mem_of_getElem? (i := 2) rfl) rfl (v := .ref (y + 1)) (fun _ => rfl) dX5_about_147 ?_
          obtain ⟨r20, hr21, hf⟩ := bnd hf
          refine m_callS F hK hP hS (c_X5_heaves (by decide) (by decide) rfl hr21) (va_cwS 1 F.2.2.2.2 gX5_about_X5_heaves rfl rfl rfl hd_X5_heaves ⟨(Nat.le_of_ble_eq_true rfl), (Nat.le_of_ble_eq_true rfl)⟩) rfl rfl hl.1 (Nat.le_of_ble_eq_true rfl) dX5_about_150 ⟨(Nat.le_of_ble_eq_true rfl), (Nat.le_of_ble_eq_true rfl)⟩ (rest := []) (fun H locs hP hS => ?_)
          refine W.eq (g2 := F0 m 153 ls [.int r20]) rfl ?_
          obtain rfl := Option.some.inj hf
          exact m_iret F hr hlk hP hS rfl dX5_about_153
        have hf := ifn hc19 hf
        have hc7i := i32_ne hc7
        have hc8i := i32_ne hc8
        have hc9i := i32_ne hc9
        have hc10i := i32_ne hc10
        have hc11i := i32_ne hc11
        have hc14i := i32_ne hc14
        have hc17i := i32_ne hc17
        have hc18i := i32_ne hc18
        have hc19i := i32_ne hc19
        refine lv_tableOut (tgt := 154) F.1 F.2.1 dX5_about_27 (by have : ((0 : Int32)).toInt = 0 := rfl; have : ((1 : Int32)).toInt = 1 := rfl; have : ((2 : Int32)).toInt = 2 := rfl; have : ((3 : Int32)).toInt = 3 := rfl; have : ((4 : Int32)).toInt = 4 := rfl; have : ((5 : Int32)).toInt = 5 := rfl; have : ((6 : Int32)).toInt = 6 := rfl; have : ((7 : Int32)).toInt = 7 := rfl; have : ((8 : Int32)).toInt = 8 := rfl; omega) rfl ?_
        refine lv_aload_n F.1 F.2.1 dX5_about_154 rfl (lv_at hl 0 rfl) ?_
        refine m_getR F hK hP (fun _ h => List.mem_cons_of_mem _ (List.mem_append_right _ h)) 1 (Nat.le_of_ble_eq_true rfl) (List.mem_of_getElem? (i := 2) rfl) rfl (v := .ref (y + 1)) (fun _ => rfl) dX5_about_155 ?_
        refine lv_sipush (v := (202 : Int32)) F.1 F.2.1 dX5_about_158 (by decide) ?_
        refine lv_iload_n F.1 F.2.1 dX5_about_161 rfl (lv_at hl 1 rfl) ?_
        refine lv_iadd F.1 F.2.1 dX5_about_162 ?_
        refine lv_bipush (v := (9 : Int32)) F.1 F.2.1 dX5_about_163 (by decide) ?_
        refine lv_isub F.1 F.2.1 dX5_about_165 ?_
        obtain ⟨hb22, hf⟩ := ifg hf
        refine m_iald F hK hP (o := 1) (by decide) rfl (fun _ => rfl) rfl hb22 dX5_about_166 ?_
        obtain rfl := Option.some.inj hf
        exact m_iret F hr hlk hP hS rfl dX5_about_167
      · have hf := ifn hc6 hf
        refine lv_iconst (v := (0 : Int32)) F.1 F.2.1 dX5_about_24 (by decide) ?_
        obtain rfl := Option.some.inj hf
        exact m_iret F hr hlk hP hS rfl dX5_about_25
  intro ls H locs hl hP hS
  have hl : lv_has ls 2 [(0, .ref (y)), (1, .int a1)] := hl
  unfold f_X5_about at hf
  refine lv_aload_n F.1 F.2.1 dX5_about_0 rfl (lv_at hl 0 rfl) ?_
  refine lv_iload_n F.1 F.2.1 dX5_about_1 rfl (lv_at hl 1 rfl) ?_
  refine lv_i2l (v := a1.toInt64) F.1 F.2.1 dX5_about_2 rfl ?_
  refine lv_lconst (v := (0 : Int64)) F.1 F.2.1 dX5_about_3 rfl ?_
  refine lv_ldc2 (v := (11 : Int64)) F.1 F.2.1 F.2.2.2.1 (F.2.2.2.2 _ (List.mem_of_getElem? (i := 1) rfl)) dX5_about_4 ?_
  obtain ⟨r1, hr2, hf⟩ := bnd hf
  refine m_callS F hK hP hS (c_X5_in a1.toInt64 (0 : Int64) (11 : Int64) hr2) (va_cwS 3 F.2.2.2.2 gX5_about_X5_in rfl rfl rfl hd_X5_in ⟨(Nat.le_of_ble_eq_true rfl), (Nat.le_of_ble_eq_true rfl)⟩) rfl rfl hl.1 (Nat.le_of_ble_eq_true rfl) dX5_about_7 ⟨(Nat.le_of_ble_eq_true rfl), (Nat.le_of_ble_eq_true rfl)⟩ (rest := [.ref (y)]) (fun H locs hP hS => ?_)
  refine W.eq (g2 := F0 m 10 ls [.int r1, .ref (y)]) rfl ?_
  refine lv_if_eq (tgt := 17) F.1 F.2.1 dX5_about_10 rfl (fun hc3 => ?_) (fun hc3 => ?_)
  · have hf := ifp hc3 hf
    refine lv_iconst (v := (1 : Int32)) F.1 F.2.1 dX5_about_17 (by decide) ?_
    exact (KEY FU) ν (1 : Int32) _ _ _ (lv_sub hl [0, 1] rfl) hP hS hf
  · have hf := ifn hc3 hf
    refine lv_iconst (v := (0 : Int32)) F.1 F.2.1 dX5_about_13 (by decide) ?_
    refine lv_goto (tgt := 18) F.1 F.2.1 dX5_about_14 rfl ?_
    exact (KEY FU) ν (0 : Int32) _ _ _ (lv_sub hl [0, 1] rfl) hP hS hf

-- FrostTubesModel.siteOf(II)I
def fb_X5_siteOf_1 (a1 : Int32) (a2 : Int32) (K : Mem → Int32 → Option (Int32 × Mem)) (ν : Mem) (t0 : Int32) : Option (Int32 × Mem) := ((f_X5_refused ν t0).bind fun r7 => (if r7.1 = 0 then (if a2 = (5 : Int32) then ((f_X5_cells (r7.2 1) a1).bind fun r11 => some (r11, r7.2)) else (if a2 = (6 : Int32) then ((f_X5_countLayers (r7.2 1) a1).bind fun r14 => some (r14, r7.2)) else (if a2 = (7 : Int32) then ((f_X5_lowest (r7.2 1) a1).bind fun r17 => some (r17, r7.2)) else (if a2 = (8 : Int32) then ((f_X5_frozen (r7.2 1) a1 (0 : Int32)).bind fun r20 => (if r20 = 0 then some ((0 : Int32), r7.2) else some ((1 : Int32), r7.2))) else (if oob (((35 : Int32) * a1) + a2) 205 then none else some (((r7.2 1) (((35 : Int32) * a1) + a2).toNatClampNeg), r7.2)))))) else some ((0 : Int32), r7.2)))
def fl_X5_siteOf (a1 : Int32) (a2 : Int32) : Nat → Mem → Int32 → Option (Int32 × Mem)
  | 0, _, _ => none
  | n + 1, ν, t0 => fb_X5_siteOf_1 a1 a2 (fl_X5_siteOf a1 a2 n) ν t0
def f_X5_siteOf (ν : Mem) (a1 : Int32) (a2 : Int32) : Option (Int32 × Mem) := ((f_X5_isSite (ν 1) a1).bind fun r1 => (if r1 = 0 then (fl_X5_siteOf a1 a2 FU ν (1 : Int32)) else ((f_X5_in a2.toInt64 (0 : Int64) (8 : Int64)).bind fun r4 => (if r4 = 0 then (fl_X5_siteOf a1 a2 FU ν (2 : Int32)) else (fl_X5_siteOf a1 a2 FU ν (0 : Int32))))))
def rmX5_siteOf : Room := { frames := 4, cells := 0, slots := 0, locals := 88 }
theorem hd_X5_siteOf : yX5_siteOf.cls ≠ "java/lang/invoke/MethodHandle" ∧ yX5_siteOf.cls ≠ "java/lang/invoke/VarHandle" ∧ (parseMethodDescriptor yX5_siteOf.desc).map (fun d => d.parameters.length) = some 2 := by decide +kernel
set_option maxHeartbeats 8000000 in
set_option maxRecDepth 100000 in
theorem c_X5_siteOf {l : Launch} {D : va_G} {y : Nat} {ν : Mem} (a1 : Int32) (a2 : Int32) {r : Int32 × Mem} (hf : f_X5_siteOf ν a1 a2 = some r) : CM l yX5_siteOf wsX5_siteOf rmX5_siteOf [.ref (y), .int a1, .int a2] D y ν (some (.int r.1)) r.2 := by
  refine CM.of (cc := cX5_siteOf) (maxL := 3) (ret := (some .int)) pn_X5 rfl (Nat.le_of_ble_eq_true rfl) ?_
  intro p e s m args below meth c F hr hlk hK
  have KEY : ∀ n : Nat, (∀ (ν : Mem) (t0 : Int32) (ls : Array Slot) (H : Heap) (locs : List Loc), lv_has ls 3 [(0, .ref (y)), (1, .int a1), (2, .int a2)] → va_P D vwCl (WM D y ν) H → va_S (rngM y) s.heap H locs → fl_X5_siteOf a1 a2 n ν t0 = some r → W p l e rmX5_siteOf s m args below meth c H locs 0 0 (MQ below (QM D y r.2 (some (.int r.1))) args s 0 0 (rngM y)) (F0 m 33 ls [.int t0, .ref (y)])) := by
    intro n
    induction n with
    | zero => exact (fun _ _ _ _ _ _ _ _ h => nomatch h)
    | succ n ih =>
      skip
      intro ν t0  ls H locs hl hP hS hf
      have hf : fb_X5_siteOf_1 a1 a2 (fl_X5_siteOf a1 a2 n) ν t0 = some r := hf
      unfold fb_X5_siteOf_1 at hf
      obtain ⟨r7, hr8, hf⟩ := bnd hf
      refine m_callV F hK hP hS (c_X5_refused t0 hr8) (cwV 1 F.2.2.2.2 gX5_siteOf_X5_refused rfl rfl rfl ⟨rfl, hd_X5_refused⟩ ⟨(Nat.le_of_ble_eq_true rfl), (Nat.le_of_ble_eq_true rfl)⟩) rfl rfl hl.1 (Nat.le_of_ble_eq_true rfl) dX5_siteOf_33 ⟨(Nat.le_of_ble_eq_true rfl), (Nat.le_of_ble_eq_true rfl)⟩ (rest := []) (fun H locs hP hS => ?_)
      refine W.eq (g2 := F0 m 36 ls [.int r7.1]) rfl ?_
      refine lv_if_eq (tgt := 41) F.1 F.2.1 dX5_siteOf_36 rfl (fun hc9 => ?_) (fun hc9 => ?_)
      · have hf := ifp hc9 hf
        refine lv_iload_n F.1 F.2.1 dX5_siteOf_41 rfl (lv_at hl 2 rfl) ?_
        by_cases hc10 : a2 = (5 : Int32)
        · have hf := ifp hc10 hf
          refine lv_tableIn (off := 30) (tgt := 72) F.1 F.2.1 dX5_siteOf_42 (by rw [hc10]; decide) (by rw [hc10]; decide) (by rw [hc10]; rfl) rfl ?_
          refine lv_aload_n F.1 F.2.1 dX5_siteOf_72 rfl (lv_at hl 0 rfl) ?_
          refine m_getR F hK hP (fun _ h => List.mem_cons_of_mem _ (List.mem_append_right _ h)) 1 (Nat.le_of_ble_eq_true rfl) (List.mem_of_getElem? (i := 1) rfl) rfl (v := .ref (y + 1)) (fun _ => rfl) dX5_siteOf_73 ?_
          refine lv_iload_n F.1 F.2.1 dX5_siteOf_76 rfl (lv_at hl 1 rfl) ?_
          obtain ⟨r11, hr12, hf⟩ := bnd hf
          refine m_callS F hK hP hS (c_X5_cells (by decide) (by decide) rfl a1 hr12) (va_cwS 2 F.2.2.2.2 gX5_siteOf_X5_cells rfl rfl rfl hd_X5_cells ⟨(Nat.le_of_ble_eq_true rfl), (Nat.le_of_ble_eq_true rfl)⟩) rfl rfl hl.1 (Nat.le_of_ble_eq_true rfl) dX5_siteOf_77 ⟨(Nat.le_of_ble_eq_true rfl), (Nat.le_of_ble_eq_true rfl)⟩ (rest := []) (fun H locs hP hS => ?_)
          refine W.eq (g2 := F0 m 80 ls [.int r11]) rfl ?_
          obtain rfl := Option.some.inj hf
          exact m_iret F hr hlk hP hS rfl dX5_siteOf_80
        have hf := ifn hc10 hf
        by_cases hc13 : a2 = (6 : Int32)
        · have hf := ifp hc13 hf
          refine lv_tableIn (off := 39) (tgt := 81) F.1 F.2.1 dX5_siteOf_42 (by rw [hc13]; decide) (by rw [hc13]; decide) (by rw [hc13]; rfl) rfl ?_
          refine lv_aload_n F.1 F.2.1 dX5_siteOf_81 rfl (lv_at hl 0 rfl) ?_
          refine m_getR F hK hP (fun _ h => List.mem_cons_of_mem _ (List.mem_append_right _ h)) 1 (Nat.le_of_ble_eq_true rfl) (List.mem_of_getElem? (i := 1) rfl) rfl (v := .ref (y + 1)) (fun _ => rfl) dX5_siteOf_82 ?_
          refine lv_iload_n F.1 F.2.1 dX5_siteOf_85 rfl (lv_at hl 1 rfl) ?_
          obtain ⟨r14, hr15, hf⟩ := bnd hf
          refine m_callS F hK hP hS (c_X5_countLayers (by decide) (by decide) rfl a1 hr15) (va_cwS 2 F.2.2.2.2 gX5_siteOf_X5_countLayers rfl rfl rfl hd_X5_countLayers ⟨(Nat.le_of_ble_eq_true rfl), (Nat.le_of_ble_eq_true rfl)⟩) rfl rfl hl.1 (Nat.le_of_ble_eq_true rfl) dX5_siteOf_86 ⟨(Nat.le_of_ble_eq_true rfl), (Nat.le_of_ble_eq_true rfl)⟩ (rest := []) (fun H locs hP hS => ?_)
          refine W.eq (g2 := F0 m 89 ls [.int r14]) rfl ?_
          obtain rfl := Option.some.inj hf
          exact m_iret F hr hlk hP hS rfl dX5_siteOf_89
        have hf := ifn hc13 hf
        by_cases hc16 : a2 = (7 : Int32)
        · have hf := ifp hc16 hf
          refine lv_tableIn (off := 48) (tgt := 90) F.1 F.2.1 dX5_siteOf_42 (by rw [hc16]; decide) (by rw [hc16]; decide) (by rw [hc16]; rfl) rfl ?_
          refine lv_aload_n F.1 F.2.1 dX5_siteOf_90 rfl (lv_at hl 0 rfl) ?_
          refine m_getR F hK hP (fun _ h => List.mem_cons_of_mem _ (List.mem_append_right _ h)) 1 (Nat.le_of_ble_eq_true rfl) (List.mem_of_getElem? (i := 1) rfl) rfl (v := .ref (y + 1)) (fun _ => rfl) dX5_siteOf_91 ?_
          refine lv_iload_n F.1 F.2.1 dX5_siteOf_94 rfl (lv_at hl 1 rfl) ?_
          obtain ⟨r17, hr18, hf⟩ := bnd hf
          refine m_callS F hK hP hS (c_X5_lowest (by decide) (by decide) rfl a1 hr18) (va_cwS 2 F.2.2.2.2 gX5_siteOf_X5_lowest rfl rfl rfl hd_X5_lowest ⟨(Nat.le_of_ble_eq_true rfl), (Nat.le_of_ble_eq_true rfl)⟩) rfl rfl hl.1 (Nat.le_of_ble_eq_true rfl) dX5_siteOf_95 ⟨(Nat.le_of_ble_eq_true rfl), (Nat.le_of_ble_eq_true rfl)⟩ (rest := []) (fun H locs hP hS => ?_)
          refine W.eq (g2 := F0 m 98 ls [.int r17]) rfl ?_
          obtain rfl := Option.some.inj hf
          exact m_iret F hr hlk hP hS rfl dX5_siteOf_98
        have hf := ifn hc16 hf
        by_cases hc19 : a2 = (8 : Int32)
        · have hf := ifp hc19 hf
          refine lv_tableIn (off := 57) (tgt := 99) F.1 F.2.1 dX5_siteOf_42 (by rw [hc19]; decide) (by rw [hc19]; decide) (by rw [hc19]; rfl) rfl ?_
          refine lv_aload_n F.1 F.2.1 dX5_siteOf_99 rfl (lv_at hl 0 rfl) ?_
          refine m_getR F hK hP (fun _ h => List.mem_cons_of_mem _ (List.mem_append_right _ h)) 1 (Nat.le_of_ble_eq_true rfl) (List.mem_of_getElem? (i := 1) rfl) rfl (v := .ref (y + 1)) (fun _ => rfl) dX5_siteOf_100 ?_
          refine lv_iload_n F.1 F.2.1 dX5_siteOf_103 rfl (lv_at hl 1 rfl) ?_
          refine lv_iconst (v := (0 : Int32)) F.1 F.2.1 dX5_siteOf_104 (by decide) ?_
          obtain ⟨r20, hr21, hf⟩ := bnd hf
          refine m_callS F hK hP hS (c_X5_frozen (by decide) (by decide) rfl a1 (0 : Int32) hr21) (va_cwS 3 F.2.2.2.2 gX5_siteOf_X5_frozen rfl rfl rfl hd_X5_frozen ⟨(Nat.le_of_ble_eq_true rfl), (Nat.le_of_ble_eq_true rfl)⟩) rfl rfl hl.1 (Nat.le_of_ble_eq_true rfl) dX5_siteOf_105 ⟨(Nat.le_of_ble_eq_true rfl), (Nat.le_of_ble_eq_true rfl)⟩ (rest := []) (fun H locs hP hS => ?_)
          refine W.eq (g2 := F0 m 108 ls [.int r20]) rfl ?_
          refine lv_if_eq (tgt := 115) F.1 F.2.1 dX5_siteOf_108 rfl (fun hc22 => ?_) (fun hc22 => ?_)
          · have hf := ifp hc22 hf
            refine lv_iconst (v := (0 : Int32)) F.1 F.2.1 dX5_siteOf_115 (by decide) ?_
            obtain rfl := Option.some.inj hf
            exact m_iret F hr hlk hP hS rfl dX5_siteOf_116
          · have hf := ifn hc22 hf
            refine lv_iconst (v := (1 : Int32)) F.1 F.2.1 dX5_siteOf_111 (by decide) ?_
            refine lv_goto (tgt := 116) F.1 F.2.1 dX5_siteOf_112 rfl ?_
            obtain rfl := Option.some.inj hf
            exact m_iret F hr hlk hP hS rfl dX5_siteOf_116
        have hf := ifn hc19 hf
        have hc10i := i32_ne hc10
        have hc13i := i32_ne hc13
        have hc16i := i32_ne hc16
        have hc19i := i32_ne hc19
        refine lv_tableOut (tgt := 117) F.1 F.2.1 dX5_siteOf_42 (by have : ((5 : Int32)).toInt = 5 := rfl; have : ((6 : Int32)).toInt = 6 := rfl; have : ((7 : Int32)).toInt = 7 := rfl; have : ((8 : Int32)).toInt = 8 := rfl; omega) rfl ?_
        refine lv_aload_n F.1 F.2.1 dX5_siteOf_117 rfl (lv_at hl 0 rfl) ?_
        refine m_getR F hK hP (fun _ h => List.mem_cons_of_mem _ (List.mem_append_right _ h)) 1 (Nat.le_of_ble_eq_true rfl) (List.mem_of_getElem? (i := 1) rfl) rfl (v := .ref (y + 1)) (fun _ => rfl) dX5_siteOf_118 ?_
        refine lv_bipush (v := (35 : Int32)) F.1 F.2.1 dX5_siteOf_121 (by decide) ?_
        refine lv_iload_n F.1 F.2.1 dX5_siteOf_123 rfl (lv_at hl 1 rfl) ?_
        refine lv_imul F.1 F.2.1 dX5_siteOf_124 ?_
        refine lv_iload_n F.1 F.2.1 dX5_siteOf_125 rfl (lv_at hl 2 rfl) ?_
        refine lv_iadd F.1 F.2.1 dX5_siteOf_126 ?_
        obtain ⟨hb23, hf⟩ := ifg hf
        refine m_iald F hK hP (o := 1) (by decide) rfl (fun _ => rfl) rfl hb23 dX5_siteOf_127 ?_
        obtain rfl := Option.some.inj hf
        exact m_iret F hr hlk hP hS rfl dX5_siteOf_128
      · have hf := ifn hc9 hf
        refine lv_iconst (v := (0 : Int32)) F.1 F.2.1 dX5_siteOf_39 (by decide) ?_
        obtain rfl := Option.some.inj hf
        exact m_iret F hr hlk hP hS rfl dX5_siteOf_40
  intro ls H locs hl hP hS
  have hl : lv_has ls 3 [(0, .ref (y)), (1, .int a1), (2, .int a2)] := hl
  unfold f_X5_siteOf at hf
  refine lv_aload_n F.1 F.2.1 dX5_siteOf_0 rfl (lv_at hl 0 rfl) ?_
  refine lv_aload_n F.1 F.2.1 dX5_siteOf_1 rfl (lv_at hl 0 rfl) ?_
  refine m_getR F hK hP (fun _ h => List.mem_cons_of_mem _ (List.mem_append_right _ h)) 1 (Nat.le_of_ble_eq_true rfl) (List.mem_of_getElem? (i := 1) rfl) rfl (v := .ref (y + 1)) (fun _ => rfl) dX5_siteOf_2 ?_
  refine lv_iload_n F.1 F.2.1 dX5_siteOf_5 rfl (lv_at hl 1 rfl) ?_
  obtain ⟨r1, hr2, hf⟩ := bnd hf
  refine m_callS F hK hP hS (c_X5_isSite (by decide) (by decide) rfl a1 hr2) (va_cwS 2 F.2.2.2.2 gX5_siteOf_X5_isSite rfl rfl rfl hd_X5_isSite ⟨(Nat.le_of_ble_eq_true rfl), (Nat.le_of_ble_eq_true rfl)⟩) rfl rfl hl.1 (Nat.le_of_ble_eq_true rfl) dX5_siteOf_6 ⟨(Nat.le_of_ble_eq_true rfl), (Nat.le_of_ble_eq_true rfl)⟩ (rest := [.ref (y)]) (fun H locs hP hS => ?_)
  refine W.eq (g2 := F0 m 9 ls [.int r1, .ref (y)]) rfl ?_
  refine lv_if_ne (tgt := 16) F.1 F.2.1 dX5_siteOf_9 rfl (fun hc3 => ?_) (fun hc3 => ?_)
  · have hf := ifn hc3 hf
    refine lv_iload_n F.1 F.2.1 dX5_siteOf_16 rfl (lv_at hl 2 rfl) ?_
    refine lv_i2l (v := a2.toInt64) F.1 F.2.1 dX5_siteOf_17 rfl ?_
    refine lv_lconst (v := (0 : Int64)) F.1 F.2.1 dX5_siteOf_18 rfl ?_
    refine lv_ldc2 (v := (8 : Int64)) F.1 F.2.1 F.2.2.2.1 (F.2.2.2.2 _ (List.mem_of_getElem? (i := 2) rfl)) dX5_siteOf_19 ?_
    obtain ⟨r4, hr5, hf⟩ := bnd hf
    refine m_callS F hK hP hS (c_X5_in a2.toInt64 (0 : Int64) (8 : Int64) hr5) (va_cwS 3 F.2.2.2.2 gX5_siteOf_X5_in rfl rfl rfl hd_X5_in ⟨(Nat.le_of_ble_eq_true rfl), (Nat.le_of_ble_eq_true rfl)⟩) rfl rfl hl.1 (Nat.le_of_ble_eq_true rfl) dX5_siteOf_22 ⟨(Nat.le_of_ble_eq_true rfl), (Nat.le_of_ble_eq_true rfl)⟩ (rest := [.ref (y)]) (fun H locs hP hS => ?_)
    refine W.eq (g2 := F0 m 25 ls [.int r4, .ref (y)]) rfl ?_
    refine lv_if_ne (tgt := 32) F.1 F.2.1 dX5_siteOf_25 rfl (fun hc6 => ?_) (fun hc6 => ?_)
    · have hf := ifn hc6 hf
      refine lv_iconst (v := (0 : Int32)) F.1 F.2.1 dX5_siteOf_32 (by decide) ?_
      exact (KEY FU) ν (0 : Int32) _ _ _ (lv_sub hl [0, 1, 2] rfl) hP hS hf
    · have hf := ifp hc6 hf
      refine lv_iconst (v := (2 : Int32)) F.1 F.2.1 dX5_siteOf_28 (by decide) ?_
      refine lv_goto (tgt := 33) F.1 F.2.1 dX5_siteOf_29 rfl ?_
      exact (KEY FU) ν (2 : Int32) _ _ _ (lv_sub hl [0, 1, 2] rfl) hP hS hf
  · have hf := ifp hc3 hf
    refine lv_iconst (v := (1 : Int32)) F.1 F.2.1 dX5_siteOf_12 (by decide) ?_
    refine lv_goto (tgt := 33) F.1 F.2.1 dX5_siteOf_13 rfl ?_
    exact (KEY FU) ν (1 : Int32) _ _ _ (lv_sub hl [0, 1, 2] rfl) hP hS hf

-- FrostTubesModel.since(II)I
def fb_X5_since_1 (a1 : Int32) (a2 : Int32) (K : Mem → Int32 → Option (Int32 × Mem)) (ν : Mem) (t0 : Int32) : Option (Int32 × Mem) := ((f_X5_refused ν t0).bind fun r7 => (if r7.1 = 0 then ((f_X5_frozen (r7.2 1) a1 a2).bind fun r10 => (if r10 = 0 then some ((-1 : Int32), r7.2) else ((f_X5_cell a1 a2).bind fun r13 => (if oob r13 205 then none else some (((r7.2 1) r13.toNatClampNeg), r7.2))))) else some ((0 : Int32), r7.2)))
def fl_X5_since (a1 : Int32) (a2 : Int32) : Nat → Mem → Int32 → Option (Int32 × Mem)
  | 0, _, _ => none
  | n + 1, ν, t0 => fb_X5_since_1 a1 a2 (fl_X5_since a1 a2 n) ν t0
def f_X5_since (ν : Mem) (a1 : Int32) (a2 : Int32) : Option (Int32 × Mem) := ((f_X5_isSite (ν 1) a1).bind fun r1 => (if r1 = 0 then (fl_X5_since a1 a2 FU ν (1 : Int32)) else ((f_X5_isCell a2).bind fun r4 => (if r4 = 0 then (fl_X5_since a1 a2 FU ν (1 : Int32)) else (fl_X5_since a1 a2 FU ν (0 : Int32))))))
def rmX5_since : Room := { frames := 2, cells := 0, slots := 0, locals := 46 }
theorem hd_X5_since : yX5_since.cls ≠ "java/lang/invoke/MethodHandle" ∧ yX5_since.cls ≠ "java/lang/invoke/VarHandle" ∧ (parseMethodDescriptor yX5_since.desc).map (fun d => d.parameters.length) = some 2 := by decide +kernel
set_option maxHeartbeats 8000000 in
set_option maxRecDepth 100000 in
theorem c_X5_since {l : Launch} {D : va_G} {y : Nat} {ν : Mem} (a1 : Int32) (a2 : Int32) {r : Int32 × Mem} (hf : f_X5_since ν a1 a2 = some r) : CM l yX5_since wsX5_since rmX5_since [.ref (y), .int a1, .int a2] D y ν (some (.int r.1)) r.2 := by
  refine CM.of (cc := cX5_since) (maxL := 3) (ret := (some .int)) pn_X5 rfl (Nat.le_of_ble_eq_true rfl) ?_
  intro p e s m args below meth c F hr hlk hK
  have KEY : ∀ n : Nat, (∀ (ν : Mem) (t0 : Int32) (ls : Array Slot) (H : Heap) (locs : List Loc), lv_has ls 3 [(0, .ref (y)), (1, .int a1), (2, .int a2)] → va_P D vwCl (WM D y ν) H → va_S (rngM y) s.heap H locs → fl_X5_since a1 a2 n ν t0 = some r → W p l e rmX5_since s m args below meth c H locs 0 0 (MQ below (QM D y r.2 (some (.int r.1))) args s 0 0 (rngM y)) (F0 m 24 ls [.int t0, .ref (y)])) := by
    intro n
    induction n with
    | zero => exact (fun _ _ _ _ _ _ _ _ h => nomatch h)
    | succ n ih =>
      skip
      intro ν t0  ls H locs hl hP hS hf
      have hf : fb_X5_since_1 a1 a2 (fl_X5_since a1 a2 n) ν t0 = some r := hf
      unfold fb_X5_since_1 at hf
      obtain ⟨r7, hr8, hf⟩ := bnd hf
      refine m_callV F hK hP hS (c_X5_refused t0 hr8) (cwV 1 F.2.2.2.2 gX5_since_X5_refused rfl rfl rfl ⟨rfl, hd_X5_refused⟩ ⟨(Nat.le_of_ble_eq_true rfl), (Nat.le_of_ble_eq_true rfl)⟩) rfl rfl hl.1 (Nat.le_of_ble_eq_true rfl) dX5_since_24 ⟨(Nat.le_of_ble_eq_true rfl), (Nat.le_of_ble_eq_true rfl)⟩ (rest := []) (fun H locs hP hS => ?_)
      refine W.eq (g2 := F0 m 27 ls [.int r7.1]) rfl ?_
      refine lv_if_eq (tgt := 32) F.1 F.2.1 dX5_since_27 rfl (fun hc9 => ?_) (fun hc9 => ?_)
      · have hf := ifp hc9 hf
        refine lv_aload_n F.1 F.2.1 dX5_since_32 rfl (lv_at hl 0 rfl) ?_
        refine m_getR F hK hP (fun _ h => List.mem_cons_of_mem _ (List.mem_append_right _ h)) 1 (Nat.le_of_ble_eq_true rfl) (List.mem_of_getElem? (i := 1) rfl) rfl (v := .ref (y + 1)) (fun _ => rfl) dX5_since_33 ?_
        refine lv_iload_n F.1 F.2.1 dX5_since_36 rfl (lv_at hl 1 rfl) ?_
        refine lv_iload_n F.1 F.2.1 dX5_since_37 rfl (lv_at hl 2 rfl) ?_
        obtain ⟨r10, hr11, hf⟩ := bnd hf
        refine m_callS F hK hP hS (c_X5_frozen (by decide) (by decide) rfl a1 a2 hr11) (va_cwS 3 F.2.2.2.2 gX5_since_X5_frozen rfl rfl rfl hd_X5_frozen ⟨(Nat.le_of_ble_eq_true rfl), (Nat.le_of_ble_eq_true rfl)⟩) rfl rfl hl.1 (Nat.le_of_ble_eq_true rfl) dX5_since_38 ⟨(Nat.le_of_ble_eq_true rfl), (Nat.le_of_ble_eq_true rfl)⟩ (rest := []) (fun H locs hP hS => ?_)
        refine W.eq (g2 := F0 m 41 ls [.int r10]) rfl ?_
        refine lv_if_eq (tgt := 57) F.1 F.2.1 dX5_since_41 rfl (fun hc12 => ?_) (fun hc12 => ?_)
        · have hf := ifp hc12 hf
          refine lv_iconst (v := (-1 : Int32)) F.1 F.2.1 dX5_since_57 (by decide) ?_
          obtain rfl := Option.some.inj hf
          exact m_iret F hr hlk hP hS rfl dX5_since_58
        · have hf := ifn hc12 hf
          refine lv_aload_n F.1 F.2.1 dX5_since_44 rfl (lv_at hl 0 rfl) ?_
          refine m_getR F hK hP (fun _ h => List.mem_cons_of_mem _ (List.mem_append_right _ h)) 1 (Nat.le_of_ble_eq_true rfl) (List.mem_of_getElem? (i := 1) rfl) rfl (v := .ref (y + 1)) (fun _ => rfl) dX5_since_45 ?_
          refine lv_iload_n F.1 F.2.1 dX5_since_48 rfl (lv_at hl 1 rfl) ?_
          refine lv_iload_n F.1 F.2.1 dX5_since_49 rfl (lv_at hl 2 rfl) ?_
          obtain ⟨r13, hr14, hf⟩ := bnd hf
          refine m_callS F hK hP hS (c_X5_cell a1 a2 hr14) (va_cwS 2 F.2.2.2.2 gX5_since_X5_cell rfl rfl rfl hd_X5_cell ⟨(Nat.le_of_ble_eq_true rfl), (Nat.le_of_ble_eq_true rfl)⟩) rfl rfl hl.1 (Nat.le_of_ble_eq_true rfl) dX5_since_50 ⟨(Nat.le_of_ble_eq_true rfl), (Nat.le_of_ble_eq_true rfl)⟩ (rest := [.ref (y + 1)]) (fun H locs hP hS => ?_)
          refine W.eq (g2 := F0 m 53 ls [.int r13, .ref (y + 1)]) rfl ?_
          obtain ⟨hb15, hf⟩ := ifg hf
          refine m_iald F hK hP (o := 1) (by decide) rfl (fun _ => rfl) rfl hb15 dX5_since_53 ?_
          refine lv_goto (tgt := 58) F.1 F.2.1 dX5_since_54 rfl ?_
          obtain rfl := Option.some.inj hf
          exact m_iret F hr hlk hP hS rfl dX5_since_58
      · have hf := ifn hc9 hf
        refine lv_iconst (v := (0 : Int32)) F.1 F.2.1 dX5_since_30 (by decide) ?_
        obtain rfl := Option.some.inj hf
        exact m_iret F hr hlk hP hS rfl dX5_since_31
  intro ls H locs hl hP hS
  have hl : lv_has ls 3 [(0, .ref (y)), (1, .int a1), (2, .int a2)] := hl
  unfold f_X5_since at hf
  refine lv_aload_n F.1 F.2.1 dX5_since_0 rfl (lv_at hl 0 rfl) ?_
  refine lv_aload_n F.1 F.2.1 dX5_since_1 rfl (lv_at hl 0 rfl) ?_
  refine m_getR F hK hP (fun _ h => List.mem_cons_of_mem _ (List.mem_append_right _ h)) 1 (Nat.le_of_ble_eq_true rfl) (List.mem_of_getElem? (i := 1) rfl) rfl (v := .ref (y + 1)) (fun _ => rfl) dX5_since_2 ?_
  refine lv_iload_n F.1 F.2.1 dX5_since_5 rfl (lv_at hl 1 rfl) ?_
  obtain ⟨r1, hr2, hf⟩ := bnd hf
  refine m_callS F hK hP hS (c_X5_isSite (by decide) (by decide) rfl a1 hr2) (va_cwS 2 F.2.2.2.2 gX5_since_X5_isSite rfl rfl rfl hd_X5_isSite ⟨(Nat.le_of_ble_eq_true rfl), (Nat.le_of_ble_eq_true rfl)⟩) rfl rfl hl.1 (Nat.le_of_ble_eq_true rfl) dX5_since_6 ⟨(Nat.le_of_ble_eq_true rfl), (Nat.le_of_ble_eq_true rfl)⟩ (rest := [.ref (y)]) (fun H locs hP hS => ?_)
  refine W.eq (g2 := F0 m 9 ls [.int r1, .ref (y)]) rfl ?_
  refine lv_if_eq (tgt := 23) F.1 F.2.1 dX5_since_9 rfl (fun hc3 => ?_) (fun hc3 => ?_)
  · have hf := ifp hc3 hf
    refine lv_iconst (v := (1 : Int32)) F.1 F.2.1 dX5_since_23 (by decide) ?_
    exact (KEY FU) ν (1 : Int32) _ _ _ (lv_sub hl [0, 1, 2] rfl) hP hS hf
  · have hf := ifn hc3 hf
    refine lv_iload_n F.1 F.2.1 dX5_since_12 rfl (lv_at hl 2 rfl) ?_
    obtain ⟨r4, hr5, hf⟩ := bnd hf
    refine m_callS F hK hP hS (c_X5_isCell a2 hr5) (va_cwS 1 F.2.2.2.2 gX5_since_X5_isCell rfl rfl rfl hd_X5_isCell ⟨(Nat.le_of_ble_eq_true rfl), (Nat.le_of_ble_eq_true rfl)⟩) rfl rfl hl.1 (Nat.le_of_ble_eq_true rfl) dX5_since_13 ⟨(Nat.le_of_ble_eq_true rfl), (Nat.le_of_ble_eq_true rfl)⟩ (rest := [.ref (y)]) (fun H locs hP hS => ?_)
    refine W.eq (g2 := F0 m 16 ls [.int r4, .ref (y)]) rfl ?_
    refine lv_if_eq (tgt := 23) F.1 F.2.1 dX5_since_16 rfl (fun hc6 => ?_) (fun hc6 => ?_)
    · have hf := ifp hc6 hf
      refine lv_iconst (v := (1 : Int32)) F.1 F.2.1 dX5_since_23 (by decide) ?_
      exact (KEY FU) ν (1 : Int32) _ _ _ (lv_sub hl [0, 1, 2] rfl) hP hS hf
    · have hf := ifn hc6 hf
      refine lv_iconst (v := (0 : Int32)) F.1 F.2.1 dX5_since_19 (by decide) ?_
      refine lv_goto (tgt := 24) F.1 F.2.1 dX5_since_20 rfl ?_
      exact (KEY FU) ν (0 : Int32) _ _ _ (lv_sub hl [0, 1, 2] rfl) hP hS hf

-- FrostTubesModel.layerOf(III)I
def fb_X5_layerOf_1 (a1 : Int32) (a2 : Int32) (a3 : Int32) (K : Nat → Mem → Int32 → Int32 → Int32 → Int32 → Int32 → Option (Int32 × Mem)) (ν : Mem) (t0 : Int32) (v5 : Int32) (v6 : Int32) (v7 : Int32) (v8 : Int32) : Option (Int32 × Mem) := (if t0 = 0 then (K 2 ν (1 : Int32) 0 0 0 0) else ((f_X5_in a3.toInt64 (0 : Int64) (3 : Int64)).bind fun r10 => (if r10 = 0 then (K 2 ν (2 : Int32) 0 0 0 0) else (K 2 ν (0 : Int32) 0 0 0 0))))
def fb_X5_layerOf_2 (a1 : Int32) (a2 : Int32) (a3 : Int32) (K : Nat → Mem → Int32 → Int32 → Int32 → Int32 → Int32 → Option (Int32 × Mem)) (ν : Mem) (t0 : Int32) (v5 : Int32) (v6 : Int32) (v7 : Int32) (v8 : Int32) : Option (Int32 × Mem) := ((f_X5_refused ν t0).bind fun r13 => (if r13.1 = 0 then ((f_X5_layerAt (r13.2 1) a1 a2).bind fun r16 => ((f_X5_behind (r13.2 1) a1 r16).bind fun r18 => (if a3 = (2 : Int32) then ((f_X5_countLayers (r13.2 1) a1).bind fun r24 => (if r24 ≤ (a2 + (1 : Int32)) then some ((0 : Int32), r13.2) else ((f_X5_layerAt (r13.2 1) a1 (a2 + (1 : Int32))).bind fun r27 => some ((r27 - r18), r13.2)))) else ((f_X5_cell a1 r16).bind fun r21 => (if oob r21 205 then none else (K 3 r13.2 0 r16 r18 ((r13.2 1) r21.toNatClampNeg) r16)))))) else some ((0 : Int32), r13.2)))
def fb_X5_layerOf_3 (a1 : Int32) (a2 : Int32) (a3 : Int32) (K : Nat → Mem → Int32 → Int32 → Int32 → Int32 → Int32 → Option (Int32 × Mem)) (ν : Mem) (t0 : Int32) (v5 : Int32) (v6 : Int32) (v7 : Int32) (v8 : Int32) : Option (Int32 × Mem) := (if v6 ≤ v8 then (if a3 = 0 then some (v5, ν) else (if a3 = (1 : Int32) then some ((v6 - v5), ν) else some (v7, ν))) else ((f_X5_cell a1 v8).bind fun r32 => (if oob r32 205 then none else ((f_X5_min v7 ((ν 1) r32.toNatClampNeg)).bind fun r35 => (K 3 ν 0 v5 v6 r35 (v8 + (1 : Int32)))))))
def fl_X5_layerOf (a1 : Int32) (a2 : Int32) (a3 : Int32) : Nat → Nat → Mem → Int32 → Int32 → Int32 → Int32 → Int32 → Option (Int32 × Mem)
  | 0, _, _, _, _, _, _, _ => none
  | n + 1, lab, ν, t0, v5, v6, v7, v8 => match lab with
    | 1 => fb_X5_layerOf_1 a1 a2 a3 (fl_X5_layerOf a1 a2 a3 n) ν t0 v5 v6 v7 v8
    | 2 => fb_X5_layerOf_2 a1 a2 a3 (fl_X5_layerOf a1 a2 a3 n) ν t0 v5 v6 v7 v8
    | _ => fb_X5_layerOf_3 a1 a2 a3 (fl_X5_layerOf a1 a2 a3 n) ν t0 v5 v6 v7 v8
def f_X5_layerOf (ν : Mem) (a1 : Int32) (a2 : Int32) (a3 : Int32) : Option (Int32 × Mem) := ((f_X5_isSite (ν 1) a1).bind fun r1 => (if r1 = 0 then (fl_X5_layerOf a1 a2 a3 FU 1 ν (0 : Int32) 0 0 0 0) else ((f_X5_countLayers (ν 1) a1).bind fun r4 => ((f_X5_in a2.toInt64 (0 : Int64) ((r4 - (1 : Int32)).toInt64)).bind fun r6 => (if r6 = 0 then (fl_X5_layerOf a1 a2 a3 FU 1 ν (0 : Int32) 0 0 0 0) else (fl_X5_layerOf a1 a2 a3 FU 1 ν (1 : Int32) 0 0 0 0))))))
def rmX5_layerOf : Room := { frames := 4, cells := 0, slots := 0, locals := 89 }
theorem hd_X5_layerOf : yX5_layerOf.cls ≠ "java/lang/invoke/MethodHandle" ∧ yX5_layerOf.cls ≠ "java/lang/invoke/VarHandle" ∧ (parseMethodDescriptor yX5_layerOf.desc).map (fun d => d.parameters.length) = some 3 := by decide +kernel
set_option maxHeartbeats 8000000 in
set_option maxRecDepth 100000 in
theorem c_X5_layerOf {l : Launch} {D : va_G} {y : Nat} {ν : Mem} (a1 : Int32) (a2 : Int32) (a3 : Int32) {r : Int32 × Mem} (hf : f_X5_layerOf ν a1 a2 a3 = some r) : CM l yX5_layerOf wsX5_layerOf rmX5_layerOf [.ref (y), .int a1, .int a2, .int a3] D y ν (some (.int r.1)) r.2 := by
  refine CM.of (cc := cX5_layerOf) (maxL := 9) (ret := (some .int)) pn_X5 rfl (Nat.le_of_ble_eq_true rfl) ?_
  intro p e s m args below meth c F hr hlk hK
  have KEY : ∀ n : Nat, (∀ (ν : Mem) (t0 : Int32) (ls : Array Slot) (H : Heap) (locs : List Loc), lv_has ls 9 [(0, .ref (y)), (1, .int a1), (2, .int a2), (3, .int a3)] → va_P D vwCl (WM D y ν) H → va_S (rngM y) s.heap H locs → fl_X5_layerOf a1 a2 a3 n 1 ν t0 0 0 0 0 = some r → W p l e rmX5_layerOf s m args below meth c H locs 0 0 (MQ below (QM D y r.2 (some (.int r.1))) args s 0 0 (rngM y)) (F0 m 36 ls [.int t0])) ∧ (∀ (ν : Mem) (t0 : Int32) (ls : Array Slot) (H : Heap) (locs : List Loc), lv_has ls 9 [(0, .ref (y)), (1, .int a1), (2, .int a2), (3, .int a3)] → va_P D vwCl (WM D y ν) H → va_S (rngM y) s.heap H locs → fl_X5_layerOf a1 a2 a3 n 2 ν t0 0 0 0 0 = some r → W p l e rmX5_layerOf s m args below meth c H locs 0 0 (MQ below (QM D y r.2 (some (.int r.1))) args s 0 0 (rngM y)) (F0 m 65 ls [.int t0, .ref (y)])) ∧ (∀ (ν : Mem) (v5 : Int32) (v6 : Int32) (v7 : Int32) (v8 : Int32) (ls : Array Slot) (H : Heap) (locs : List Loc), lv_has ls 9 [(0, .ref (y)), (1, .int a1), (3, .int a3), (5, .int v5), (6, .int v6), (7, .int v7), (8, .int v8)] → va_P D vwCl (WM D y ν) H → va_S (rngM y) s.heap H locs → fl_X5_layerOf a1 a2 a3 n 3 ν 0 v5 v6 v7 v8 = some r → W p l e rmX5_layerOf s m args below meth c H locs 0 0 (MQ below (QM D y r.2 (some (.int r.1))) args s 0 0 (rngM y)) (F0 m 151 ls [])) := by
    intro n
    induction n with
    | zero => exact ⟨(fun _ _ _ _ _ _ _ _ h => nomatch h), (fun _ _ _ _ _ _ _ _ h => nomatch h), (fun _ _ _ _ _ _ _ _ _ _ _ h => nomatch h)⟩
    | succ n ih =>
      refine ⟨?_, ?_, ?_⟩
      · intro ν t0  ls H locs hl hP hS hf
        have hf : fb_X5_layerOf_1 a1 a2 a3 (fl_X5_layerOf a1 a2 a3 n) ν t0 0 0 0 0 = some r := hf
        unfold fb_X5_layerOf_1 at hf
        refine lv_istore F.1 F.2.1 dX5_layerOf_36 hl (Nat.le_of_ble_eq_true rfl) rfl (fun ls hl => ?_)
        have hl : lv_has ls 9 [(4, .int t0), (0, .ref (y)), (1, .int a1), (2, .int a2), (3, .int a3)] := hl
        refine lv_aload_n F.1 F.2.1 dX5_layerOf_38 rfl (lv_at hl 1 rfl) ?_
        refine lv_iload F.1 F.2.1 dX5_layerOf_39 (lv_at hl 0 rfl) ?_
        refine lv_if_ne (tgt := 48) F.1 F.2.1 dX5_layerOf_41 rfl (fun hc9 => ?_) (fun hc9 => ?_)
        · have hf := ifn hc9 hf
          refine lv_iload_n F.1 F.2.1 dX5_layerOf_48 rfl (lv_at hl 4 rfl) ?_
          refine lv_i2l (v := a3.toInt64) F.1 F.2.1 dX5_layerOf_49 rfl ?_
          refine lv_lconst (v := (0 : Int64)) F.1 F.2.1 dX5_layerOf_50 rfl ?_
          refine lv_ldc2 (v := (3 : Int64)) F.1 F.2.1 F.2.2.2.1 (F.2.2.2.2 _ (List.mem_of_getElem? (i := 2) rfl)) dX5_layerOf_51 ?_
          obtain ⟨r10, hr11, hf⟩ := bnd hf
          refine m_callS F hK hP hS (c_X5_in a3.toInt64 (0 : Int64) (3 : Int64) hr11) (va_cwS 3 F.2.2.2.2 gX5_layerOf_X5_in rfl rfl rfl hd_X5_in ⟨(Nat.le_of_ble_eq_true rfl), (Nat.le_of_ble_eq_true rfl)⟩) rfl rfl hl.1 (Nat.le_of_ble_eq_true rfl) dX5_layerOf_54 ⟨(Nat.le_of_ble_eq_true rfl), (Nat.le_of_ble_eq_true rfl)⟩ (rest := [.ref (y)]) (fun H locs hP hS => ?_)
          refine W.eq (g2 := F0 m 57 ls [.int r10, .ref (y)]) rfl ?_
          refine lv_if_ne (tgt := 64) F.1 F.2.1 dX5_layerOf_57 rfl (fun hc12 => ?_) (fun hc12 => ?_)
          · have hf := ifn hc12 hf
            refine lv_iconst (v := (0 : Int32)) F.1 F.2.1 dX5_layerOf_64 (by decide) ?_
            exact ih.2.1 ν (0 : Int32) _ _ _ (lv_sub hl [1, 2, 3, 4] rfl) hP hS hf
          · have hf := ifp hc12 hf
            refine lv_iconst (v := (2 : Int32)) F.1 F.2.1 dX5_layerOf_60 (by decide) ?_
            refine lv_goto (tgt := 65) F.1 F.2.1 dX5_layerOf_61 rfl ?_
            exact ih.2.1 ν (2 : Int32) _ _ _ (lv_sub hl [1, 2, 3, 4] rfl) hP hS hf
        · have hf := ifp hc9 hf
          refine lv_iconst (v := (1 : Int32)) F.1 F.2.1 dX5_layerOf_44 (by decide) ?_
          refine lv_goto (tgt := 65) F.1 F.2.1 dX5_layerOf_45 rfl ?_
          exact ih.2.1 ν (1 : Int32) _ _ _ (lv_sub hl [1, 2, 3, 4] rfl) hP hS hf
      · intro ν t0  ls H locs hl hP hS hf
        have hf : fb_X5_layerOf_2 a1 a2 a3 (fl_X5_layerOf a1 a2 a3 n) ν t0 0 0 0 0 = some r := hf
        unfold fb_X5_layerOf_2 at hf
        obtain ⟨r13, hr14, hf⟩ := bnd hf
        refine m_callV F hK hP hS (c_X5_refused t0 hr14) (cwV 1 F.2.2.2.2 gX5_layerOf_X5_refused rfl rfl rfl ⟨rfl, hd_X5_refused⟩ ⟨(Nat.le_of_ble_eq_true rfl), (Nat.le_of_ble_eq_true rfl)⟩) rfl rfl hl.1 (Nat.le_of_ble_eq_true rfl) dX5_layerOf_65 ⟨(Nat.le_of_ble_eq_true rfl), (Nat.le_of_ble_eq_true rfl)⟩ (rest := []) (fun H locs hP hS => ?_)
        refine W.eq (g2 := F0 m 68 ls [.int r13.1]) rfl ?_
        refine lv_if_eq (tgt := 73) F.1 F.2.1 dX5_layerOf_68 rfl (fun hc15 => ?_) (fun hc15 => ?_)
        · have hf := ifp hc15 hf
          refine lv_aload_n F.1 F.2.1 dX5_layerOf_73 rfl (lv_at hl 0 rfl) ?_
          refine m_getR F hK hP (fun _ h => List.mem_cons_of_mem _ (List.mem_append_right _ h)) 1 (Nat.le_of_ble_eq_true rfl) (List.mem_of_getElem? (i := 1) rfl) rfl (v := .ref (y + 1)) (fun _ => rfl) dX5_layerOf_74 ?_
          refine lv_iload_n F.1 F.2.1 dX5_layerOf_77 rfl (lv_at hl 1 rfl) ?_
          refine lv_iload_n F.1 F.2.1 dX5_layerOf_78 rfl (lv_at hl 2 rfl) ?_
          obtain ⟨r16, hr17, hf⟩ := bnd hf
          refine m_callS F hK hP hS (c_X5_layerAt (by decide) (by decide) rfl a1 a2 hr17) (va_cwS 3 F.2.2.2.2 gX5_layerOf_X5_layerAt rfl rfl rfl hd_X5_layerAt ⟨(Nat.le_of_ble_eq_true rfl), (Nat.le_of_ble_eq_true rfl)⟩) rfl rfl hl.1 (Nat.le_of_ble_eq_true rfl) dX5_layerOf_79 ⟨(Nat.le_of_ble_eq_true rfl), (Nat.le_of_ble_eq_true rfl)⟩ (rest := []) (fun H locs hP hS => ?_)
          refine W.eq (g2 := F0 m 82 ls [.int r16]) rfl ?_
          refine lv_istore F.1 F.2.1 dX5_layerOf_82 hl (Nat.le_of_ble_eq_true rfl) rfl (fun ls hl => ?_)
          have hl : lv_has ls 9 [(5, .int r16), (0, .ref (y)), (1, .int a1), (2, .int a2), (3, .int a3)] := hl
          refine lv_aload_n F.1 F.2.1 dX5_layerOf_84 rfl (lv_at hl 1 rfl) ?_
          refine m_getR F hK hP (fun _ h => List.mem_cons_of_mem _ (List.mem_append_right _ h)) 1 (Nat.le_of_ble_eq_true rfl) (List.mem_of_getElem? (i := 1) rfl) rfl (v := .ref (y + 1)) (fun _ => rfl) dX5_layerOf_85 ?_
          refine lv_iload_n F.1 F.2.1 dX5_layerOf_88 rfl (lv_at hl 2 rfl) ?_
          refine lv_iload F.1 F.2.1 dX5_layerOf_89 (lv_at hl 0 rfl) ?_
          obtain ⟨r18, hr19, hf⟩ := bnd hf
          refine m_callS F hK hP hS (c_X5_behind (by decide) (by decide) rfl a1 r16 hr19) (va_cwS 3 F.2.2.2.2 gX5_layerOf_X5_behind rfl rfl rfl hd_X5_behind ⟨(Nat.le_of_ble_eq_true rfl), (Nat.le_of_ble_eq_true rfl)⟩) rfl rfl hl.1 (Nat.le_of_ble_eq_true rfl) dX5_layerOf_91 ⟨(Nat.le_of_ble_eq_true rfl), (Nat.le_of_ble_eq_true rfl)⟩ (rest := []) (fun H locs hP hS => ?_)
          refine W.eq (g2 := F0 m 94 ls [.int r18]) rfl ?_
          refine lv_istore F.1 F.2.1 dX5_layerOf_94 hl (Nat.le_of_ble_eq_true rfl) rfl (fun ls hl => ?_)
          have hl : lv_has ls 9 [(6, .int r18), (5, .int r16), (0, .ref (y)), (1, .int a1), (2, .int a2), (3, .int a3)] := hl
          refine lv_iload_n F.1 F.2.1 dX5_layerOf_96 rfl (lv_at hl 5 rfl) ?_
          refine lv_iconst (v := (2 : Int32)) F.1 F.2.1 dX5_layerOf_97 (by decide) ?_
          refine lv_icmp_ne (tgt := 134) F.1 F.2.1 dX5_layerOf_98 rfl (fun hc20 => ?_) (fun hc20 => ?_)
          · have hf := ifn hc20 hf
            refine lv_aload_n F.1 F.2.1 dX5_layerOf_134 rfl (lv_at hl 2 rfl) ?_
            refine m_getR F hK hP (fun _ h => List.mem_cons_of_mem _ (List.mem_append_right _ h)) 1 (Nat.le_of_ble_eq_true rfl) (List.mem_of_getElem? (i := 1) rfl) rfl (v := .ref (y + 1)) (fun _ => rfl) dX5_layerOf_135 ?_
            refine lv_iload_n F.1 F.2.1 dX5_layerOf_138 rfl (lv_at hl 3 rfl) ?_
            refine lv_iload F.1 F.2.1 dX5_layerOf_139 (lv_at hl 1 rfl) ?_
            obtain ⟨r21, hr22, hf⟩ := bnd hf
            refine m_callS F hK hP hS (c_X5_cell a1 r16 hr22) (va_cwS 2 F.2.2.2.2 gX5_layerOf_X5_cell rfl rfl rfl hd_X5_cell ⟨(Nat.le_of_ble_eq_true rfl), (Nat.le_of_ble_eq_true rfl)⟩) rfl rfl hl.1 (Nat.le_of_ble_eq_true rfl) dX5_layerOf_141 ⟨(Nat.le_of_ble_eq_true rfl), (Nat.le_of_ble_eq_true rfl)⟩ (rest := [.ref (y + 1)]) (fun H locs hP hS => ?_)
            refine W.eq (g2 := F0 m 144 ls [.int r21, .ref (y + 1)]) rfl ?_
            obtain ⟨hb23, hf⟩ := ifg hf
            refine m_iald F hK hP (o := 1) (by decide) rfl (fun _ => rfl) rfl hb23 dX5_layerOf_144 ?_
            refine lv_istore F.1 F.2.1 dX5_layerOf_145 hl (Nat.le_of_ble_eq_true rfl) rfl (fun ls hl => ?_)
            have hl : lv_has ls 9 [(7, .int ((r13.2 1) r21.toNatClampNeg)), (6, .int r18), (5, .int r16), (0, .ref (y)), (1, .int a1), (2, .int a2), (3, .int a3)] := hl
            refine lv_iload F.1 F.2.1 dX5_layerOf_147 (lv_at hl 2 rfl) ?_
            refine lv_istore F.1 F.2.1 dX5_layerOf_149 hl (Nat.le_of_ble_eq_true rfl) rfl (fun ls hl => ?_)
            have hl : lv_has ls 9 [(8, .int r16), (7, .int ((r13.2 1) r21.toNatClampNeg)), (6, .int r18), (5, .int r16), (0, .ref (y)), (1, .int a1), (2, .int a2), (3, .int a3)] := hl
            exact ih.2.2 r13.2 r16 r18 ((r13.2 1) r21.toNatClampNeg) r16 _ _ _ (lv_sub hl [4, 5, 7, 3, 2, 1, 0] rfl) hP hS hf
          · have hf := ifp hc20 hf
            refine lv_iload_n F.1 F.2.1 dX5_layerOf_101 rfl (lv_at hl 4 rfl) ?_
            refine lv_iconst (v := (1 : Int32)) F.1 F.2.1 dX5_layerOf_102 (by decide) ?_
            refine lv_iadd F.1 F.2.1 dX5_layerOf_103 ?_
            refine lv_aload_n F.1 F.2.1 dX5_layerOf_104 rfl (lv_at hl 2 rfl) ?_
            refine m_getR F hK hP (fun _ h => List.mem_cons_of_mem _ (List.mem_append_right _ h)) 1 (Nat.le_of_ble_eq_true rfl) (List.mem_of_getElem? (i := 1) rfl) rfl (v := .ref (y + 1)) (fun _ => rfl) dX5_layerOf_105 ?_
            refine lv_iload_n F.1 F.2.1 dX5_layerOf_108 rfl (lv_at hl 3 rfl) ?_
            obtain ⟨r24, hr25, hf⟩ := bnd hf
            refine m_callS F hK hP hS (c_X5_countLayers (by decide) (by decide) rfl a1 hr25) (va_cwS 2 F.2.2.2.2 gX5_layerOf_X5_countLayers rfl rfl rfl hd_X5_countLayers ⟨(Nat.le_of_ble_eq_true rfl), (Nat.le_of_ble_eq_true rfl)⟩) rfl rfl hl.1 (Nat.le_of_ble_eq_true rfl) dX5_layerOf_109 ⟨(Nat.le_of_ble_eq_true rfl), (Nat.le_of_ble_eq_true rfl)⟩ (rest := [.int (a2 + (1 : Int32))]) (fun H locs hP hS => ?_)
            refine W.eq (g2 := F0 m 112 ls [.int r24, .int (a2 + (1 : Int32))]) rfl ?_
            refine lv_icmp_ge (tgt := 132) F.1 F.2.1 dX5_layerOf_112 rfl (fun hc26 => ?_) (fun hc26 => ?_)
            · have hf := ifp hc26 hf
              refine lv_iconst (v := (0 : Int32)) F.1 F.2.1 dX5_layerOf_132 (by decide) ?_
              obtain rfl := Option.some.inj hf
              exact m_iret F hr hlk hP hS rfl dX5_layerOf_133
            · have hf := ifn hc26 hf
              refine lv_aload_n F.1 F.2.1 dX5_layerOf_115 rfl (lv_at hl 2 rfl) ?_
              refine m_getR F hK hP (fun _ h => List.mem_cons_of_mem _ (List.mem_append_right _ h)) 1 (Nat.le_of_ble_eq_true rfl) (List.mem_of_getElem? (i := 1) rfl) rfl (v := .ref (y + 1)) (fun _ => rfl) dX5_layerOf_116 ?_
              refine lv_iload_n F.1 F.2.1 dX5_layerOf_119 rfl (lv_at hl 3 rfl) ?_
              refine lv_iload_n F.1 F.2.1 dX5_layerOf_120 rfl (lv_at hl 4 rfl) ?_
              refine lv_iconst (v := (1 : Int32)) F.1 F.2.1 dX5_layerOf_121 (by decide) ?_
              refine lv_iadd F.1 F.2.1 dX5_layerOf_122 ?_
              obtain ⟨r27, hr28, hf⟩ := bnd hf
              refine m_callS F hK hP hS (c_X5_layerAt (by decide) (by decide) rfl a1 (a2 + (1 : Int32)) hr28) (va_cwS 3 F.2.2.2.2 gX5_layerOf_X5_layerAt rfl rfl rfl hd_X5_layerAt ⟨(Nat.le_of_ble_eq_true rfl), (Nat.le_of_ble_eq_true rfl)⟩) rfl rfl hl.1 (Nat.le_of_ble_eq_true rfl) dX5_layerOf_123 ⟨(Nat.le_of_ble_eq_true rfl), (Nat.le_of_ble_eq_true rfl)⟩ (rest := []) (fun H locs hP hS => ?_)
              refine W.eq (g2 := F0 m 126 ls [.int r27]) rfl ?_
              refine lv_iload F.1 F.2.1 dX5_layerOf_126 (lv_at hl 0 rfl) ?_
              refine lv_isub F.1 F.2.1 dX5_layerOf_128 ?_
              refine lv_goto (tgt := 133) F.1 F.2.1 dX5_layerOf_129 rfl ?_
              obtain rfl := Option.some.inj hf
              exact m_iret F hr hlk hP hS rfl dX5_layerOf_133
        · have hf := ifn hc15 hf
          refine lv_iconst (v := (0 : Int32)) F.1 F.2.1 dX5_layerOf_71 (by decide) ?_
          obtain rfl := Option.some.inj hf
          exact m_iret F hr hlk hP hS rfl dX5_layerOf_72
      · intro ν v5 v6 v7 v8  ls H locs hl hP hS hf
        have hf : fb_X5_layerOf_3 a1 a2 a3 (fl_X5_layerOf a1 a2 a3 n) ν 0 v5 v6 v7 v8 = some r := hf
        unfold fb_X5_layerOf_3 at hf
        refine lv_iload F.1 F.2.1 dX5_layerOf_151 (lv_at hl 6 rfl) ?_
        refine lv_iload F.1 F.2.1 dX5_layerOf_153 (lv_at hl 4 rfl) ?_
        refine lv_icmp_ge (tgt := 182) F.1 F.2.1 dX5_layerOf_155 rfl (fun hc29 => ?_) (fun hc29 => ?_)
        · have hf := ifp hc29 hf
          refine lv_iload_n F.1 F.2.1 dX5_layerOf_182 rfl (lv_at hl 2 rfl) ?_
          refine lv_if_ne (tgt := 191) F.1 F.2.1 dX5_layerOf_183 rfl (fun hc30 => ?_) (fun hc30 => ?_)
          · have hf := ifn hc30 hf
            refine lv_iload_n F.1 F.2.1 dX5_layerOf_191 rfl (lv_at hl 2 rfl) ?_
            refine lv_iconst (v := (1 : Int32)) F.1 F.2.1 dX5_layerOf_192 (by decide) ?_
            refine lv_icmp_ne (tgt := 204) F.1 F.2.1 dX5_layerOf_193 rfl (fun hc31 => ?_) (fun hc31 => ?_)
            · have hf := ifn hc31 hf
              refine lv_iload F.1 F.2.1 dX5_layerOf_204 (lv_at hl 5 rfl) ?_
              obtain rfl := Option.some.inj hf
              exact m_iret F hr hlk hP hS rfl dX5_layerOf_206
            · have hf := ifp hc31 hf
              refine lv_iload F.1 F.2.1 dX5_layerOf_196 (lv_at hl 4 rfl) ?_
              refine lv_iload F.1 F.2.1 dX5_layerOf_198 (lv_at hl 3 rfl) ?_
              refine lv_isub F.1 F.2.1 dX5_layerOf_200 ?_
              refine lv_goto (tgt := 206) F.1 F.2.1 dX5_layerOf_201 rfl ?_
              obtain rfl := Option.some.inj hf
              exact m_iret F hr hlk hP hS rfl dX5_layerOf_206
          · have hf := ifp hc30 hf
            refine lv_iload F.1 F.2.1 dX5_layerOf_186 (lv_at hl 3 rfl) ?_
            refine lv_goto (tgt := 206) F.1 F.2.1 dX5_layerOf_188 rfl ?_
            obtain rfl := Option.some.inj hf
            exact m_iret F hr hlk hP hS rfl dX5_layerOf_206
        · have hf := ifn hc29 hf
          refine lv_iload F.1 F.2.1 dX5_layerOf_158 (lv_at hl 5 rfl) ?_
          refine lv_aload_n F.1 F.2.1 dX5_layerOf_160 rfl (lv_at hl 0 rfl) ?_
          refine m_getR F hK hP (fun _ h => List.mem_cons_of_mem _ (List.mem_append_right _ h)) 1 (Nat.le_of_ble_eq_true rfl) (List.mem_of_getElem? (i := 1) rfl) rfl (v := .ref (y + 1)) (fun _ => rfl) dX5_layerOf_161 ?_
          refine lv_iload_n F.1 F.2.1 dX5_layerOf_164 rfl (lv_at hl 1 rfl) ?_
          refine lv_iload F.1 F.2.1 dX5_layerOf_165 (lv_at hl 6 rfl) ?_
          obtain ⟨r32, hr33, hf⟩ := bnd hf
          refine m_callS F hK hP hS (c_X5_cell a1 v8 hr33) (va_cwS 2 F.2.2.2.2 gX5_layerOf_X5_cell rfl rfl rfl hd_X5_cell ⟨(Nat.le_of_ble_eq_true rfl), (Nat.le_of_ble_eq_true rfl)⟩) rfl rfl hl.1 (Nat.le_of_ble_eq_true rfl) dX5_layerOf_167 ⟨(Nat.le_of_ble_eq_true rfl), (Nat.le_of_ble_eq_true rfl)⟩ (rest := [.ref (y + 1), .int v7]) (fun H locs hP hS => ?_)
          refine W.eq (g2 := F0 m 170 ls [.int r32, .ref (y + 1), .int v7]) rfl ?_
          obtain ⟨hb34, hf⟩ := ifg hf
          refine m_iald F hK hP (o := 1) (by decide) rfl (fun _ => rfl) rfl hb34 dX5_layerOf_170 ?_
          obtain ⟨r35, hr36, hf⟩ := bnd hf
          refine m_callS F hK hP hS (c_X5_min v7 ((ν 1) r32.toNatClampNeg) hr36) (va_cwS 2 F.2.2.2.2 gX5_layerOf_X5_min rfl rfl rfl hd_X5_min ⟨(Nat.le_of_ble_eq_true rfl), (Nat.le_of_ble_eq_true rfl)⟩) rfl rfl hl.1 (Nat.le_of_ble_eq_true rfl) dX5_layerOf_171 ⟨(Nat.le_of_ble_eq_true rfl), (Nat.le_of_ble_eq_true rfl)⟩ (rest := []) (fun H locs hP hS => ?_)
          refine W.eq (g2 := F0 m 174 ls [.int r35]) rfl ?_
          refine lv_istore F.1 F.2.1 dX5_layerOf_174 hl (Nat.le_of_ble_eq_true rfl) rfl (fun ls hl => ?_)
          have hl : lv_has ls 9 [(7, .int r35), (0, .ref (y)), (1, .int a1), (3, .int a3), (5, .int v5), (6, .int v6), (8, .int v8)] := hl
          refine lv_iinc (v := (v8 + (1 : Int32))) F.1 F.2.1 dX5_layerOf_176 hl (k := 6) rfl rfl (Nat.le_of_ble_eq_true rfl) rfl (fun ls hl => ?_)
          have hl : lv_has ls 9 [(8, .int (v8 + (1 : Int32))), (7, .int r35), (0, .ref (y)), (1, .int a1), (3, .int a3), (5, .int v5), (6, .int v6)] := hl
          refine lv_goto (tgt := 151) F.1 F.2.1 dX5_layerOf_179 rfl ?_
          exact ih.2.2 ν v5 v6 r35 (v8 + (1 : Int32)) _ _ _ (lv_sub hl [2, 3, 4, 5, 6, 1, 0] rfl) hP hS hf
  intro ls H locs hl hP hS
  have hl : lv_has ls 9 [(0, .ref (y)), (1, .int a1), (2, .int a2), (3, .int a3)] := hl
  unfold f_X5_layerOf at hf
  refine lv_aload_n F.1 F.2.1 dX5_layerOf_0 rfl (lv_at hl 0 rfl) ?_
  refine m_getR F hK hP (fun _ h => List.mem_cons_of_mem _ (List.mem_append_right _ h)) 1 (Nat.le_of_ble_eq_true rfl) (List.mem_of_getElem? (i := 1) rfl) rfl (v := .ref (y + 1)) (fun _ => rfl) dX5_layerOf_1 ?_
  refine lv_iload_n F.1 F.2.1 dX5_layerOf_4 rfl (lv_at hl 1 rfl) ?_
  obtain ⟨r1, hr2, hf⟩ := bnd hf
  refine m_callS F hK hP hS (c_X5_isSite (by decide) (by decide) rfl a1 hr2) (va_cwS 2 F.2.2.2.2 gX5_layerOf_X5_isSite rfl rfl rfl hd_X5_isSite ⟨(Nat.le_of_ble_eq_true rfl), (Nat.le_of_ble_eq_true rfl)⟩) rfl rfl hl.1 (Nat.le_of_ble_eq_true rfl) dX5_layerOf_5 ⟨(Nat.le_of_ble_eq_true rfl), (Nat.le_of_ble_eq_true rfl)⟩ (rest := []) (fun H locs hP hS => ?_)
  refine W.eq (g2 := F0 m 8 ls [.int r1]) rfl ?_
  refine lv_if_eq (tgt := 35) F.1 F.2.1 dX5_layerOf_8 rfl (fun hc3 => ?_) (fun hc3 => ?_)
  · have hf := ifp hc3 hf
    refine lv_iconst (v := (0 : Int32)) F.1 F.2.1 dX5_layerOf_35 (by decide) ?_
    exact (KEY FU).1 ν (0 : Int32) _ _ _ (lv_sub hl [0, 1, 2, 3] rfl) hP hS hf
  · have hf := ifn hc3 hf
    refine lv_iload_n F.1 F.2.1 dX5_layerOf_11 rfl (lv_at hl 2 rfl) ?_
    refine lv_i2l (v := a2.toInt64) F.1 F.2.1 dX5_layerOf_12 rfl ?_
    refine lv_lconst (v := (0 : Int64)) F.1 F.2.1 dX5_layerOf_13 rfl ?_
    refine lv_aload_n F.1 F.2.1 dX5_layerOf_14 rfl (lv_at hl 0 rfl) ?_
    refine m_getR F hK hP (fun _ h => List.mem_cons_of_mem _ (List.mem_append_right _ h)) 1 (Nat.le_of_ble_eq_true rfl) (List.mem_of_getElem? (i := 1) rfl) rfl (v := .ref (y + 1)) (fun _ => rfl) dX5_layerOf_15 ?_
    refine lv_iload_n F.1 F.2.1 dX5_layerOf_18 rfl (lv_at hl 1 rfl) ?_
    obtain ⟨r4, hr5, hf⟩ := bnd hf
    refine m_callS F hK hP hS (c_X5_countLayers (by decide) (by decide) rfl a1 hr5) (va_cwS 2 F.2.2.2.2 gX5_layerOf_X5_countLayers rfl rfl rfl hd_X5_countLayers ⟨(Nat.le_of_ble_eq_true rfl), (Nat.le_of_ble_eq_true rfl)⟩) rfl rfl hl.1 (Nat.le_of_ble_eq_true rfl) dX5_layerOf_19 ⟨(Nat.le_of_ble_eq_true rfl), (Nat.le_of_ble_eq_true rfl)⟩ (rest := [.long (0 : Int64), .long a2.toInt64]) (fun H locs hP hS => ?_)
    refine W.eq (g2 := F0 m 22 ls [.int r4, .long (0 : Int64), .long a2.toInt64]) rfl ?_
    refine lv_iconst (v := (1 : Int32)) F.1 F.2.1 dX5_layerOf_22 (by decide) ?_
    refine lv_isub F.1 F.2.1 dX5_layerOf_23 ?_
    refine lv_i2l (v := (r4 - (1 : Int32)).toInt64) F.1 F.2.1 dX5_layerOf_24 rfl ?_
    obtain ⟨r6, hr7, hf⟩ := bnd hf
    refine m_callS F hK hP hS (c_X5_in a2.toInt64 (0 : Int64) ((r4 - (1 : Int32)).toInt64) hr7) (va_cwS 3 F.2.2.2.2 gX5_layerOf_X5_in rfl rfl rfl hd_X5_in ⟨(Nat.le_of_ble_eq_true rfl), (Nat.le_of_ble_eq_true rfl)⟩) rfl rfl hl.1 (Nat.le_of_ble_eq_true rfl) dX5_layerOf_25 ⟨(Nat.le_of_ble_eq_true rfl), (Nat.le_of_ble_eq_true rfl)⟩ (rest := []) (fun H locs hP hS => ?_)
    refine W.eq (g2 := F0 m 28 ls [.int r6]) rfl ?_
    refine lv_if_eq (tgt := 35) F.1 F.2.1 dX5_layerOf_28 rfl (fun hc8 => ?_) (fun hc8 => ?_)
    · have hf := ifp hc8 hf
      refine lv_iconst (v := (0 : Int32)) F.1 F.2.1 dX5_layerOf_35 (by decide) ?_
      exact (KEY FU).1 ν (0 : Int32) _ _ _ (lv_sub hl [0, 1, 2, 3] rfl) hP hS hf
    · have hf := ifn hc8 hf
      refine lv_iconst (v := (1 : Int32)) F.1 F.2.1 dX5_layerOf_31 (by decide) ?_
      refine lv_goto (tgt := 36) F.1 F.2.1 dX5_layerOf_32 rfl ?_
      exact (KEY FU).1 ν (1 : Int32) _ _ _ (lv_sub hl [0, 1, 2, 3] rfl) hP hS hf

-- FrostTubesModel.tubeOf(II)I
def fb_X5_tubeOf_1 (a1 : Int32) (a2 : Int32) (K : Nat → Mem → Int32 → Int32 → Int32 → Int32 → Int32 → Int32 → Int32 → Int32 → Option (Int32 × Mem)) (ν : Mem) (t0 : Int32) (t1 : Int32) (v3 : Int32) (v4 : Int32) (v5 : Int32) (v6 : Int32) (v7 : Int32) (v8 : Int32) : Option (Int32 × Mem) := ((f_X5_refused ν t0).bind fun r7 => (if r7.1 = 0 then (if oob ((140 : Int32) + ((2 : Int32) * a1)) 205 then none else (if oob (((140 : Int32) + ((2 : Int32) * a1)) + (1 : Int32)) 205 then none else (K 2 r7.2 0 0 ((r7.2 1) ((140 : Int32) + ((2 : Int32) * a1)).toNatClampNeg) ((r7.2 1) (((140 : Int32) + ((2 : Int32) * a1)) + (1 : Int32)).toNatClampNeg) (0 : Int32) (0 : Int32) (-1 : Int32) (0 : Int32)))) else some ((0 : Int32), r7.2)))
def fb_X5_tubeOf_2 (a1 : Int32) (a2 : Int32) (K : Nat → Mem → Int32 → Int32 → Int32 → Int32 → Int32 → Int32 → Int32 → Int32 → Option (Int32 × Mem)) (ν : Mem) (t0 : Int32) (t1 : Int32) (v3 : Int32) (v4 : Int32) (v5 : Int32) (v6 : Int32) (v7 : Int32) (v8 : Int32) : Option (Int32 × Mem) := (if v4 ≤ v8 then (if a2 = (0 : Int32) then some (v3, ν) else (if a2 = (1 : Int32) then some (v4, ν) else (if a2 = (2 : Int32) then some (v5, ν) else (if a2 = (3 : Int32) then some (v6, ν) else (if a2 = (4 : Int32) then some (v7, ν) else ((f_X5_lowest (ν 1) v3).bind fun r18 => (if r18 < v4 then some ((0 : Int32), ν) else some ((1 : Int32), ν)))))))) else ((f_X5_frozen (ν 1) v3 v8).bind fun r21 => (if r21 = 0 then (K 3 ν (0 : Int32) v5 v3 v4 0 v6 v7 v8) else (K 3 ν (1 : Int32) v5 v3 v4 0 v6 v7 v8))))
def fb_X5_tubeOf_3 (a1 : Int32) (a2 : Int32) (K : Nat → Mem → Int32 → Int32 → Int32 → Int32 → Int32 → Int32 → Int32 → Int32 → Option (Int32 × Mem)) (ν : Mem) (t0 : Int32) (t1 : Int32) (v3 : Int32) (v4 : Int32) (v5 : Int32) (v6 : Int32) (v7 : Int32) (v8 : Int32) : Option (Int32 × Mem) := ((f_X5_begins (ν 1) v3 v8).bind fun r24 => (if r24 = 0 then (K 4 ν (0 : Int32) v6 v3 v4 (t1 + t0) 0 v7 v8) else (K 4 ν (1 : Int32) v6 v3 v4 (t1 + t0) 0 v7 v8)))
def fb_X5_tubeOf_4 (a1 : Int32) (a2 : Int32) (K : Nat → Mem → Int32 → Int32 → Int32 → Int32 → Int32 → Int32 → Int32 → Int32 → Option (Int32 × Mem)) (ν : Mem) (t0 : Int32) (t1 : Int32) (v3 : Int32) (v4 : Int32) (v5 : Int32) (v6 : Int32) (v7 : Int32) (v8 : Int32) : Option (Int32 × Mem) := ((f_X5_frozen (ν 1) v3 v8).bind fun r27 => (if r27 = 0 then (K 2 ν 0 0 v3 v4 v5 (t1 + t0) v7 (v8 + (1 : Int32))) else (K 2 ν 0 0 v3 v4 v5 (t1 + t0) v8 (v8 + (1 : Int32)))))
def fl_X5_tubeOf (a1 : Int32) (a2 : Int32) : Nat → Nat → Mem → Int32 → Int32 → Int32 → Int32 → Int32 → Int32 → Int32 → Int32 → Option (Int32 × Mem)
  | 0, _, _, _, _, _, _, _, _, _, _ => none
  | n + 1, lab, ν, t0, t1, v3, v4, v5, v6, v7, v8 => match lab with
    | 1 => fb_X5_tubeOf_1 a1 a2 (fl_X5_tubeOf a1 a2 n) ν t0 t1 v3 v4 v5 v6 v7 v8
    | 2 => fb_X5_tubeOf_2 a1 a2 (fl_X5_tubeOf a1 a2 n) ν t0 t1 v3 v4 v5 v6 v7 v8
    | 3 => fb_X5_tubeOf_3 a1 a2 (fl_X5_tubeOf a1 a2 n) ν t0 t1 v3 v4 v5 v6 v7 v8
    | _ => fb_X5_tubeOf_4 a1 a2 (fl_X5_tubeOf a1 a2 n) ν t0 t1 v3 v4 v5 v6 v7 v8
def f_X5_tubeOf (ν : Mem) (a1 : Int32) (a2 : Int32) : Option (Int32 × Mem) := ((f_X5_isTube (ν 1) a1).bind fun r1 => (if r1 = 0 then (fl_X5_tubeOf a1 a2 FU 1 ν (1 : Int32) 0 0 0 0 0 0 0) else ((f_X5_in a2.toInt64 (0 : Int64) (5 : Int64)).bind fun r4 => (if r4 = 0 then (fl_X5_tubeOf a1 a2 FU 1 ν (2 : Int32) 0 0 0 0 0 0 0) else (fl_X5_tubeOf a1 a2 FU 1 ν (0 : Int32) 0 0 0 0 0 0 0)))))
def rmX5_tubeOf : Room := { frames := 3, cells := 0, slots := 0, locals := 65 }
theorem hd_X5_tubeOf : yX5_tubeOf.cls ≠ "java/lang/invoke/MethodHandle" ∧ yX5_tubeOf.cls ≠ "java/lang/invoke/VarHandle" ∧ (parseMethodDescriptor yX5_tubeOf.desc).map (fun d => d.parameters.length) = some 2 := by decide +kernel
set_option maxHeartbeats 8000000 in
set_option maxRecDepth 100000 in
theorem c_X5_tubeOf {l : Launch} {D : va_G} {y : Nat} {ν : Mem} (a1 : Int32) (a2 : Int32) {r : Int32 × Mem} (hf : f_X5_tubeOf ν a1 a2 = some r) : CM l yX5_tubeOf wsX5_tubeOf rmX5_tubeOf [.ref (y), .int a1, .int a2] D y ν (some (.int r.1)) r.2 := by
  refine CM.of (cc := cX5_tubeOf) (maxL := 9) (ret := (some .int)) pn_X5 rfl (Nat.le_of_ble_eq_true rfl) ?_
  intro p e s m args below meth c F hr hlk hK
  have KEY : ∀ n : Nat, (∀ (ν : Mem) (t0 : Int32) (ls : Array Slot) (H : Heap) (locs : List Loc), lv_has ls 9 [(0, .ref (y)), (1, .int a1), (2, .int a2)] → va_P D vwCl (WM D y ν) H → va_S (rngM y) s.heap H locs → fl_X5_tubeOf a1 a2 n 1 ν t0 0 0 0 0 0 0 0 = some r → W p l e rmX5_tubeOf s m args below meth c H locs 0 0 (MQ below (QM D y r.2 (some (.int r.1))) args s 0 0 (rngM y)) (F0 m 33 ls [.int t0, .ref (y)])) ∧ (∀ (ν : Mem) (v3 : Int32) (v4 : Int32) (v5 : Int32) (v6 : Int32) (v7 : Int32) (v8 : Int32) (ls : Array Slot) (H : Heap) (locs : List Loc), lv_has ls 9 [(0, .ref (y)), (2, .int a2), (3, .int v3), (4, .int v4), (5, .int v5), (6, .int v6), (7, .int v7), (8, .int v8)] → va_P D vwCl (WM D y ν) H → va_S (rngM y) s.heap H locs → fl_X5_tubeOf a1 a2 n 2 ν 0 0 v3 v4 v5 v6 v7 v8 = some r → W p l e rmX5_tubeOf s m args below meth c H locs 0 0 (MQ below (QM D y r.2 (some (.int r.1))) args s 0 0 (rngM y)) (F0 m 82 ls [])) ∧ (∀ (ν : Mem) (v3 : Int32) (v4 : Int32) (v6 : Int32) (v7 : Int32) (v8 : Int32) (t0 : Int32) (t1 : Int32) (ls : Array Slot) (H : Heap) (locs : List Loc), lv_has ls 9 [(0, .ref (y)), (2, .int a2), (3, .int v3), (4, .int v4), (6, .int v6), (7, .int v7), (8, .int v8)] → va_P D vwCl (WM D y ν) H → va_S (rngM y) s.heap H locs → fl_X5_tubeOf a1 a2 n 3 ν t0 t1 v3 v4 0 v6 v7 v8 = some r → W p l e rmX5_tubeOf s m args below meth c H locs 0 0 (MQ below (QM D y r.2 (some (.int r.1))) args s 0 0 (rngM y)) (F0 m 109 ls [.int t0, .int t1])) ∧ (∀ (ν : Mem) (v3 : Int32) (v4 : Int32) (v5 : Int32) (v7 : Int32) (v8 : Int32) (t0 : Int32) (t1 : Int32) (ls : Array Slot) (H : Heap) (locs : List Loc), lv_has ls 9 [(0, .ref (y)), (2, .int a2), (3, .int v3), (4, .int v4), (5, .int v5), (7, .int v7), (8, .int v8)] → va_P D vwCl (WM D y ν) H → va_S (rngM y) s.heap H locs → fl_X5_tubeOf a1 a2 n 4 ν t0 t1 v3 v4 v5 0 v7 v8 = some r → W p l e rmX5_tubeOf s m args below meth c H locs 0 0 (MQ below (QM D y r.2 (some (.int r.1))) args s 0 0 (rngM y)) (F0 m 132 ls [.int t0, .int t1])) := by
    intro n
    induction n with
    | zero => exact ⟨(fun _ _ _ _ _ _ _ _ h => nomatch h), (fun _ _ _ _ _ _ _ _ _ _ _ _ _ h => nomatch h), (fun _ _ _ _ _ _ _ _ _ _ _ _ _ _ h => nomatch h), (fun _ _ _ _ _ _ _ _ _ _ _ _ _ _ h => nomatch h)⟩
    | succ n ih =>
      refine ⟨?_, ?_, ?_, ?_⟩
      · intro ν t0  ls H locs hl hP hS hf
        have hf : fb_X5_tubeOf_1 a1 a2 (fl_X5_tubeOf a1 a2 n) ν t0 0 0 0 0 0 0 0 = some r := hf
        unfold fb_X5_tubeOf_1 at hf
        obtain ⟨r7, hr8, hf⟩ := bnd hf
        refine m_callV F hK hP hS (c_X5_refused t0 hr8) (cwV 1 F.2.2.2.2 gX5_tubeOf_X5_refused rfl rfl rfl ⟨rfl, hd_X5_refused⟩ ⟨(Nat.le_of_ble_eq_true rfl), (Nat.le_of_ble_eq_true rfl)⟩) rfl rfl hl.1 (Nat.le_of_ble_eq_true rfl) dX5_tubeOf_33 ⟨(Nat.le_of_ble_eq_true rfl), (Nat.le_of_ble_eq_true rfl)⟩ (rest := []) (fun H locs hP hS => ?_)
        refine W.eq (g2 := F0 m 36 ls [.int r7.1]) rfl ?_
        refine lv_if_eq (tgt := 41) F.1 F.2.1 dX5_tubeOf_36 rfl (fun hc9 => ?_) (fun hc9 => ?_)
        · have hf := ifp hc9 hf
          refine lv_aload_n F.1 F.2.1 dX5_tubeOf_41 rfl (lv_at hl 0 rfl) ?_
          refine m_getR F hK hP (fun _ h => List.mem_cons_of_mem _ (List.mem_append_right _ h)) 1 (Nat.le_of_ble_eq_true rfl) (List.mem_of_getElem? (i := 1) rfl) rfl (v := .ref (y + 1)) (fun _ => rfl) dX5_tubeOf_42 ?_
          refine lv_sipush (v := (140 : Int32)) F.1 F.2.1 dX5_tubeOf_45 (by decide) ?_
          refine lv_iconst (v := (2 : Int32)) F.1 F.2.1 dX5_tubeOf_48 (by decide) ?_
          refine lv_iload_n F.1 F.2.1 dX5_tubeOf_49 rfl (lv_at hl 1 rfl) ?_
          refine lv_imul F.1 F.2.1 dX5_tubeOf_50 ?_
          refine lv_iadd F.1 F.2.1 dX5_tubeOf_51 ?_
          obtain ⟨hb10, hf⟩ := ifg hf
          refine m_iald F hK hP (o := 1) (by decide) rfl (fun _ => rfl) rfl hb10 dX5_tubeOf_52 ?_
          refine lv_istore_n F.1 F.2.1 dX5_tubeOf_53 rfl hl (Nat.le_of_ble_eq_true rfl) rfl (fun ls hl => ?_)
          have hl : lv_has ls 9 [(3, .int ((r7.2 1) ((140 : Int32) + ((2 : Int32) * a1)).toNatClampNeg)), (0, .ref (y)), (1, .int a1), (2, .int a2)] := hl
          refine lv_aload_n F.1 F.2.1 dX5_tubeOf_54 rfl (lv_at hl 1 rfl) ?_
          refine m_getR F hK hP (fun _ h => List.mem_cons_of_mem _ (List.mem_append_right _ h)) 1 (Nat.le_of_ble_eq_true rfl) (List.mem_of_getElem? (i := 1) rfl) rfl (v := .ref (y + 1)) (fun _ => rfl) dX5_tubeOf_55 ?_
          refine lv_sipush (v := (140 : Int32)) F.1 F.2.1 dX5_tubeOf_58 (by decide) ?_
          refine lv_iconst (v := (2 : Int32)) F.1 F.2.1 dX5_tubeOf_61 (by decide) ?_
          refine lv_iload_n F.1 F.2.1 dX5_tubeOf_62 rfl (lv_at hl 2 rfl) ?_
          refine lv_imul F.1 F.2.1 dX5_tubeOf_63 ?_
          refine lv_iadd F.1 F.2.1 dX5_tubeOf_64 ?_
          refine lv_iconst (v := (1 : Int32)) F.1 F.2.1 dX5_tubeOf_65 (by decide) ?_
          refine lv_iadd F.1 F.2.1 dX5_tubeOf_66 ?_
          obtain ⟨hb11, hf⟩ := ifg hf
          refine m_iald F hK hP (o := 1) (by decide) rfl (fun _ => rfl) rfl hb11 dX5_tubeOf_67 ?_
          refine lv_istore F.1 F.2.1 dX5_tubeOf_68 hl (Nat.le_of_ble_eq_true rfl) rfl (fun ls hl => ?_)
          have hl : lv_has ls 9 [(4, .int ((r7.2 1) (((140 : Int32) + ((2 : Int32) * a1)) + (1 : Int32)).toNatClampNeg)), (3, .int ((r7.2 1) ((140 : Int32) + ((2 : Int32) * a1)).toNatClampNeg)), (0, .ref (y)), (1, .int a1), (2, .int a2)] := hl
          refine lv_iconst (v := (0 : Int32)) F.1 F.2.1 dX5_tubeOf_70 (by decide) ?_
          refine lv_istore F.1 F.2.1 dX5_tubeOf_71 hl (Nat.le_of_ble_eq_true rfl) rfl (fun ls hl => ?_)
          have hl : lv_has ls 9 [(5, .int (0 : Int32)), (4, .int ((r7.2 1) (((140 : Int32) + ((2 : Int32) * a1)) + (1 : Int32)).toNatClampNeg)), (3, .int ((r7.2 1) ((140 : Int32) + ((2 : Int32) * a1)).toNatClampNeg)), (0, .ref (y)), (1, .int a1), (2, .int a2)] := hl
          refine lv_iconst (v := (0 : Int32)) F.1 F.2.1 dX5_tubeOf_73 (by decide) ?_
          refine lv_istore F.1 F.2.1 dX5_tubeOf_74 hl (Nat.le_of_ble_eq_true rfl) rfl (fun ls hl => ?_)
          have hl : lv_has ls 9 [(6, .int (0 : Int32)), (5, .int (0 : Int32)), (4, .int ((r7.2 1) (((140 : Int32) + ((2 : Int32) * a1)) + (1 : Int32)).toNatClampNeg)), (3, .int ((r7.2 1) ((140 : Int32) + ((2 : Int32) * a1)).toNatClampNeg)), (0, .ref (y)), (1, .int a1), (2, .int a2)] := hl
          refine lv_iconst (v := (-1 : Int32)) F.1 F.2.1 dX5_tubeOf_76 (by decide) ?_
          refine lv_istore F.1 F.2.1 dX5_tubeOf_77 hl (Nat.le_of_ble_eq_true rfl) rfl (fun ls hl => ?_)
          have hl : lv_has ls 9 [(7, .int (-1 : Int32)), (6, .int (0 : Int32)), (5, .int (0 : Int32)), (4, .int ((r7.2 1) (((140 : Int32) + ((2 : Int32) * a1)) + (1 : Int32)).toNatClampNeg)), (3, .int ((r7.2 1) ((140 : Int32) + ((2 : Int32) * a1)).toNatClampNeg)), (0, .ref (y)), (1, .int a1), (2, .int a2)] := hl
          refine lv_iconst (v := (0 : Int32)) F.1 F.2.1 dX5_tubeOf_79 (by decide) ?_
          refine lv_istore F.1 F.2.1 dX5_tubeOf_80 hl (Nat.le_of_ble_eq_true rfl) rfl (fun ls hl => ?_)
          have hl : lv_has ls 9 [(8, .int (0 : Int32)), (7, .int (-1 : Int32)), (6, .int (0 : Int32)), (5, .int (0 : Int32)), (4, .int ((r7.2 1) (((140 : Int32) + ((2 : Int32) * a1)) + (1 : Int32)).toNatClampNeg)), (3, .int ((r7.2 1) ((140 : Int32) + ((2 : Int32) * a1)).toNatClampNeg)), (0, .ref (y)), (1, .int a1), (2, .int a2)] := hl
          exact ih.2.1 r7.2 ((r7.2 1) ((140 : Int32) + ((2 : Int32) * a1)).toNatClampNeg) ((r7.2 1) (((140 : Int32) + ((2 : Int32) * a1)) + (1 : Int32)).toNatClampNeg) (0 : Int32) (0 : Int32) (-1 : Int32) (0 : Int32) _ _ _ (lv_sub hl [6, 8, 5, 4, 3, 2, 1, 0] rfl) hP hS hf
        · have hf := ifn hc9 hf
          refine lv_iconst (v := (0 : Int32)) F.1 F.2.1 dX5_tubeOf_39 (by decide) ?_
          obtain rfl := Option.some.inj hf
          exact m_iret F hr hlk hP hS rfl dX5_tubeOf_40
      · intro ν v3 v4 v5 v6 v7 v8  ls H locs hl hP hS hf
        have hf : fb_X5_tubeOf_2 a1 a2 (fl_X5_tubeOf a1 a2 n) ν 0 0 v3 v4 v5 v6 v7 v8 = some r := hf
        unfold fb_X5_tubeOf_2 at hf
        refine lv_iload F.1 F.2.1 dX5_tubeOf_82 (lv_at hl 7 rfl) ?_
        refine lv_iload F.1 F.2.1 dX5_tubeOf_84 (lv_at hl 3 rfl) ?_
        refine lv_icmp_ge (tgt := 163) F.1 F.2.1 dX5_tubeOf_86 rfl (fun hc12 => ?_) (fun hc12 => ?_)
        · have hf := ifp hc12 hf
          refine lv_iload_n F.1 F.2.1 dX5_tubeOf_163 rfl (lv_at hl 1 rfl) ?_
          by_cases hc13 : a2 = (0 : Int32)
          · have hf := ifp hc13 hf
            refine lv_tableIn (off := 36) (tgt := 200) F.1 F.2.1 dX5_tubeOf_164 (by rw [hc13]; decide) (by rw [hc13]; decide) (by rw [hc13]; rfl) rfl ?_
            refine lv_iload_n F.1 F.2.1 dX5_tubeOf_200 rfl (lv_at hl 2 rfl) ?_
            obtain rfl := Option.some.inj hf
            exact m_iret F hr hlk hP hS rfl dX5_tubeOf_201
          have hf := ifn hc13 hf
          by_cases hc14 : a2 = (1 : Int32)
          · have hf := ifp hc14 hf
            refine lv_tableIn (off := 38) (tgt := 202) F.1 F.2.1 dX5_tubeOf_164 (by rw [hc14]; decide) (by rw [hc14]; decide) (by rw [hc14]; rfl) rfl ?_
            refine lv_iload F.1 F.2.1 dX5_tubeOf_202 (lv_at hl 3 rfl) ?_
            obtain rfl := Option.some.inj hf
            exact m_iret F hr hlk hP hS rfl dX5_tubeOf_204
          have hf := ifn hc14 hf
          by_cases hc15 : a2 = (2 : Int32)
          · have hf := ifp hc15 hf
            refine lv_tableIn (off := 41) (tgt := 205) F.1 F.2.1 dX5_tubeOf_164 (by rw [hc15]; decide) (by rw [hc15]; decide) (by rw [hc15]; rfl) rfl ?_
            refine lv_iload F.1 F.2.1 dX5_tubeOf_205 (lv_at hl 4 rfl) ?_
            obtain rfl := Option.some.inj hf
            exact m_iret F hr hlk hP hS rfl dX5_tubeOf_207
          have hf := ifn hc15 hf
          by_cases hc16 : a2 = (3 : Int32)
          · have hf := ifp hc16 hf
            refine lv_tableIn (off := 44) (tgt := 208) F.1 F.2.1 dX5_tubeOf_164 (by rw [hc16]; decide) (by rw [hc16]; decide) (by rw [hc16]; rfl) rfl ?_
            refine lv_iload F.1 F.2.1 dX5_tubeOf_208 (lv_at hl 5 rfl) ?_
            obtain rfl := Option.some.inj hf
            exact m_iret F hr hlk hP hS rfl dX5_tubeOf_210
          have hf := ifn hc16 hf
          by_cases hc17 : a2 = (4 : Int32)
          · have hf := ifp hc17 hf
            refine lv_tableIn (off := 47) (tgt := 211) F.1 F.2.1 dX5_tubeOf_164 (by rw [hc17]; decide) (by rw [hc17]; decide) (by rw [hc17]; rfl) rfl ?_
            refine lv_iload F.1 F.2.1 dX5_tubeOf_211 (lv_at hl 6 rfl) ?_
            obtain rfl := Option.some.inj hf
            exact m_iret F hr hlk hP hS rfl dX5_tubeOf_213
          have hf := ifn hc17 hf
          have hc13i := i32_ne hc13
          have hc14i := i32_ne hc14
          have hc15i := i32_ne hc15
          have hc16i := i32_ne hc16
          have hc17i := i32_ne hc17
          refine lv_tableOut (tgt := 214) F.1 F.2.1 dX5_tubeOf_164 (by have : ((0 : Int32)).toInt = 0 := rfl; have : ((1 : Int32)).toInt = 1 := rfl; have : ((2 : Int32)).toInt = 2 := rfl; have : ((3 : Int32)).toInt = 3 := rfl; have : ((4 : Int32)).toInt = 4 := rfl; omega) rfl ?_
          refine lv_aload_n F.1 F.2.1 dX5_tubeOf_214 rfl (lv_at hl 0 rfl) ?_
          refine m_getR F hK hP (fun _ h => List.mem_cons_of_mem _ (List.mem_append_right _ h)) 1 (Nat.le_of_ble_eq_true rfl) (List.mem_of_getElem? (i := 1) rfl) rfl (v := .ref (y + 1)) (fun _ => rfl) dX5_tubeOf_215 ?_
          refine lv_iload_n F.1 F.2.1 dX5_tubeOf_218 rfl (lv_at hl 2 rfl) ?_
          obtain ⟨r18, hr19, hf⟩ := bnd hf
          refine m_callS F hK hP hS (c_X5_lowest (by decide) (by decide) rfl v3 hr19) (va_cwS 2 F.2.2.2.2 gX5_tubeOf_X5_lowest rfl rfl rfl hd_X5_lowest ⟨(Nat.le_of_ble_eq_true rfl), (Nat.le_of_ble_eq_true rfl)⟩) rfl rfl hl.1 (Nat.le_of_ble_eq_true rfl) dX5_tubeOf_219 ⟨(Nat.le_of_ble_eq_true rfl), (Nat.le_of_ble_eq_true rfl)⟩ (rest := []) (fun H locs hP hS => ?_)
          refine W.eq (g2 := F0 m 222 ls [.int r18]) rfl ?_
          refine lv_iload F.1 F.2.1 dX5_tubeOf_222 (lv_at hl 3 rfl) ?_
          refine lv_icmp_lt (tgt := 231) F.1 F.2.1 dX5_tubeOf_224 rfl (fun hc20 => ?_) (fun hc20 => ?_)
          · have hf := ifp hc20 hf
            refine lv_iconst (v := (0 : Int32)) F.1 F.2.1 dX5_tubeOf_231 (by decide) ?_
            obtain rfl := Option.some.inj hf
            exact m_iret F hr hlk hP hS rfl dX5_tubeOf_232
          · have hf := ifn hc20 hf
            refine lv_iconst (v := (1 : Int32)) F.1 F.2.1 dX5_tubeOf_227 (by decide) ?_
            refine lv_goto (tgt := 232) F.1 F.2.1 dX5_tubeOf_228 rfl ?_
            obtain rfl := Option.some.inj hf
            exact m_iret F hr hlk hP hS rfl dX5_tubeOf_232
        · have hf := ifn hc12 hf
          refine lv_iload F.1 F.2.1 dX5_tubeOf_89 (lv_at hl 4 rfl) ?_
          refine lv_aload_n F.1 F.2.1 dX5_tubeOf_91 rfl (lv_at hl 0 rfl) ?_
          refine m_getR F hK hP (fun _ h => List.mem_cons_of_mem _ (List.mem_append_right _ h)) 1 (Nat.le_of_ble_eq_true rfl) (List.mem_of_getElem? (i := 1) rfl) rfl (v := .ref (y + 1)) (fun _ => rfl) dX5_tubeOf_92 ?_
          refine lv_iload_n F.1 F.2.1 dX5_tubeOf_95 rfl (lv_at hl 2 rfl) ?_
          refine lv_iload F.1 F.2.1 dX5_tubeOf_96 (lv_at hl 7 rfl) ?_
          obtain ⟨r21, hr22, hf⟩ := bnd hf
          refine m_callS F hK hP hS (c_X5_frozen (by decide) (by decide) rfl v3 v8 hr22) (va_cwS 3 F.2.2.2.2 gX5_tubeOf_X5_frozen rfl rfl rfl hd_X5_frozen ⟨(Nat.le_of_ble_eq_true rfl), (Nat.le_of_ble_eq_true rfl)⟩) rfl rfl hl.1 (Nat.le_of_ble_eq_true rfl) dX5_tubeOf_98 ⟨(Nat.le_of_ble_eq_true rfl), (Nat.le_of_ble_eq_true rfl)⟩ (rest := [.int v5]) (fun H locs hP hS => ?_)
          refine W.eq (g2 := F0 m 101 ls [.int r21, .int v5]) rfl ?_
          refine lv_if_eq (tgt := 108) F.1 F.2.1 dX5_tubeOf_101 rfl (fun hc23 => ?_) (fun hc23 => ?_)
          · have hf := ifp hc23 hf
            refine lv_iconst (v := (0 : Int32)) F.1 F.2.1 dX5_tubeOf_108 (by decide) ?_
            exact ih.2.2.1 ν v3 v4 v6 v7 v8 (0 : Int32) v5 _ _ _ (lv_sub hl [0, 1, 2, 3, 5, 6, 7] rfl) hP hS hf
          · have hf := ifn hc23 hf
            refine lv_iconst (v := (1 : Int32)) F.1 F.2.1 dX5_tubeOf_104 (by decide) ?_
            refine lv_goto (tgt := 109) F.1 F.2.1 dX5_tubeOf_105 rfl ?_
            exact ih.2.2.1 ν v3 v4 v6 v7 v8 (1 : Int32) v5 _ _ _ (lv_sub hl [0, 1, 2, 3, 5, 6, 7] rfl) hP hS hf
      · intro ν v3 v4 v6 v7 v8 t0 t1  ls H locs hl hP hS hf
        have hf : fb_X5_tubeOf_3 a1 a2 (fl_X5_tubeOf a1 a2 n) ν t0 t1 v3 v4 0 v6 v7 v8 = some r := hf
        unfold fb_X5_tubeOf_3 at hf
        refine lv_iadd F.1 F.2.1 dX5_tubeOf_109 ?_
        refine lv_istore F.1 F.2.1 dX5_tubeOf_110 hl (Nat.le_of_ble_eq_true rfl) rfl (fun ls hl => ?_)
        have hl : lv_has ls 9 [(5, .int (t1 + t0)), (0, .ref (y)), (2, .int a2), (3, .int v3), (4, .int v4), (6, .int v6), (7, .int v7), (8, .int v8)] := hl
        refine lv_iload F.1 F.2.1 dX5_tubeOf_112 (lv_at hl 5 rfl) ?_
        refine lv_aload_n F.1 F.2.1 dX5_tubeOf_114 rfl (lv_at hl 1 rfl) ?_
        refine m_getR F hK hP (fun _ h => List.mem_cons_of_mem _ (List.mem_append_right _ h)) 1 (Nat.le_of_ble_eq_true rfl) (List.mem_of_getElem? (i := 1) rfl) rfl (v := .ref (y + 1)) (fun _ => rfl) dX5_tubeOf_115 ?_
        refine lv_iload_n F.1 F.2.1 dX5_tubeOf_118 rfl (lv_at hl 3 rfl) ?_
        refine lv_iload F.1 F.2.1 dX5_tubeOf_119 (lv_at hl 7 rfl) ?_
        obtain ⟨r24, hr25, hf⟩ := bnd hf
        refine m_callS F hK hP hS (c_X5_begins (by decide) (by decide) rfl v3 v8 hr25) (va_cwS 3 F.2.2.2.2 gX5_tubeOf_X5_begins rfl rfl rfl hd_X5_begins ⟨(Nat.le_of_ble_eq_true rfl), (Nat.le_of_ble_eq_true rfl)⟩) rfl rfl hl.1 (Nat.le_of_ble_eq_true rfl) dX5_tubeOf_121 ⟨(Nat.le_of_ble_eq_true rfl), (Nat.le_of_ble_eq_true rfl)⟩ (rest := [.int v6]) (fun H locs hP hS => ?_)
        refine W.eq (g2 := F0 m 124 ls [.int r24, .int v6]) rfl ?_
        refine lv_if_eq (tgt := 131) F.1 F.2.1 dX5_tubeOf_124 rfl (fun hc26 => ?_) (fun hc26 => ?_)
        · have hf := ifp hc26 hf
          refine lv_iconst (v := (0 : Int32)) F.1 F.2.1 dX5_tubeOf_131 (by decide) ?_
          exact ih.2.2.2 ν v3 v4 (t1 + t0) v7 v8 (0 : Int32) v6 _ _ _ (lv_sub hl [1, 2, 3, 4, 0, 6, 7] rfl) hP hS hf
        · have hf := ifn hc26 hf
          refine lv_iconst (v := (1 : Int32)) F.1 F.2.1 dX5_tubeOf_127 (by decide) ?_
          refine lv_goto (tgt := 132) F.1 F.2.1 dX5_tubeOf_128 rfl ?_
          exact ih.2.2.2 ν v3 v4 (t1 + t0) v7 v8 (1 : Int32) v6 _ _ _ (lv_sub hl [1, 2, 3, 4, 0, 6, 7] rfl) hP hS hf
      · intro ν v3 v4 v5 v7 v8 t0 t1  ls H locs hl hP hS hf
        have hf : fb_X5_tubeOf_4 a1 a2 (fl_X5_tubeOf a1 a2 n) ν t0 t1 v3 v4 v5 0 v7 v8 = some r := hf
        unfold fb_X5_tubeOf_4 at hf
        refine lv_iadd F.1 F.2.1 dX5_tubeOf_132 ?_
        refine lv_istore F.1 F.2.1 dX5_tubeOf_133 hl (Nat.le_of_ble_eq_true rfl) rfl (fun ls hl => ?_)
        have hl : lv_has ls 9 [(6, .int (t1 + t0)), (0, .ref (y)), (2, .int a2), (3, .int v3), (4, .int v4), (5, .int v5), (7, .int v7), (8, .int v8)] := hl
        refine lv_aload_n F.1 F.2.1 dX5_tubeOf_135 rfl (lv_at hl 1 rfl) ?_
        refine m_getR F hK hP (fun _ h => List.mem_cons_of_mem _ (List.mem_append_right _ h)) 1 (Nat.le_of_ble_eq_true rfl) (List.mem_of_getElem? (i := 1) rfl) rfl (v := .ref (y + 1)) (fun _ => rfl) dX5_tubeOf_136 ?_
        refine lv_iload_n F.1 F.2.1 dX5_tubeOf_139 rfl (lv_at hl 3 rfl) ?_
        refine lv_iload F.1 F.2.1 dX5_tubeOf_140 (lv_at hl 7 rfl) ?_
        obtain ⟨r27, hr28, hf⟩ := bnd hf
        refine m_callS F hK hP hS (c_X5_frozen (by decide) (by decide) rfl v3 v8 hr28) (va_cwS 3 F.2.2.2.2 gX5_tubeOf_X5_frozen rfl rfl rfl hd_X5_frozen ⟨(Nat.le_of_ble_eq_true rfl), (Nat.le_of_ble_eq_true rfl)⟩) rfl rfl hl.1 (Nat.le_of_ble_eq_true rfl) dX5_tubeOf_142 ⟨(Nat.le_of_ble_eq_true rfl), (Nat.le_of_ble_eq_true rfl)⟩ (rest := []) (fun H locs hP hS => ?_)
        refine W.eq (g2 := F0 m 145 ls [.int r27]) rfl ?_
        refine lv_if_eq (tgt := 153) F.1 F.2.1 dX5_tubeOf_145 rfl (fun hc29 => ?_) (fun hc29 => ?_)
        · have hf := ifp hc29 hf
          refine lv_iload F.1 F.2.1 dX5_tubeOf_153 (lv_at hl 6 rfl) ?_
          refine lv_istore F.1 F.2.1 dX5_tubeOf_155 hl (Nat.le_of_ble_eq_true rfl) rfl (fun ls hl => ?_)
          have hl : lv_has ls 9 [(7, .int v7), (6, .int (t1 + t0)), (0, .ref (y)), (2, .int a2), (3, .int v3), (4, .int v4), (5, .int v5), (8, .int v8)] := hl
          refine lv_iinc (v := (v8 + (1 : Int32))) F.1 F.2.1 dX5_tubeOf_157 hl (k := 7) rfl rfl (Nat.le_of_ble_eq_true rfl) rfl (fun ls hl => ?_)
          have hl : lv_has ls 9 [(8, .int (v8 + (1 : Int32))), (7, .int v7), (6, .int (t1 + t0)), (0, .ref (y)), (2, .int a2), (3, .int v3), (4, .int v4), (5, .int v5)] := hl
          refine lv_goto (tgt := 82) F.1 F.2.1 dX5_tubeOf_160 rfl ?_
          exact ih.2.1 ν v3 v4 v5 (t1 + t0) v7 (v8 + (1 : Int32)) _ _ _ (lv_sub hl [3, 4, 5, 6, 7, 2, 1, 0] rfl) hP hS hf
        · have hf := ifn hc29 hf
          refine lv_iload F.1 F.2.1 dX5_tubeOf_148 (lv_at hl 7 rfl) ?_
          refine lv_goto (tgt := 155) F.1 F.2.1 dX5_tubeOf_150 rfl ?_
          refine lv_istore F.1 F.2.1 dX5_tubeOf_155 hl (Nat.le_of_ble_eq_true rfl) rfl (fun ls hl => ?_)
          have hl : lv_has ls 9 [(7, .int v8), (6, .int (t1 + t0)), (0, .ref (y)), (2, .int a2), (3, .int v3), (4, .int v4), (5, .int v5), (8, .int v8)] := hl
          refine lv_iinc (v := (v8 + (1 : Int32))) F.1 F.2.1 dX5_tubeOf_157 hl (k := 7) rfl rfl (Nat.le_of_ble_eq_true rfl) rfl (fun ls hl => ?_)
          have hl : lv_has ls 9 [(8, .int (v8 + (1 : Int32))), (7, .int v8), (6, .int (t1 + t0)), (0, .ref (y)), (2, .int a2), (3, .int v3), (4, .int v4), (5, .int v5)] := hl
          refine lv_goto (tgt := 82) F.1 F.2.1 dX5_tubeOf_160 rfl ?_
          exact ih.2.1 ν v3 v4 v5 (t1 + t0) v8 (v8 + (1 : Int32)) _ _ _ (lv_sub hl [3, 4, 5, 6, 7, 2, 1, 0] rfl) hP hS hf
  intro ls H locs hl hP hS
  have hl : lv_has ls 9 [(0, .ref (y)), (1, .int a1), (2, .int a2)] := hl
  unfold f_X5_tubeOf at hf
  refine lv_aload_n F.1 F.2.1 dX5_tubeOf_0 rfl (lv_at hl 0 rfl) ?_
  refine lv_aload_n F.1 F.2.1 dX5_tubeOf_1 rfl (lv_at hl 0 rfl) ?_
  refine m_getR F hK hP (fun _ h => List.mem_cons_of_mem _ (List.mem_append_right _ h)) 1 (Nat.le_of_ble_eq_true rfl) (List.mem_of_getElem? (i := 1) rfl) rfl (v := .ref (y + 1)) (fun _ => rfl) dX5_tubeOf_2 ?_
  refine lv_iload_n F.1 F.2.1 dX5_tubeOf_5 rfl (lv_at hl 1 rfl) ?_
  obtain ⟨r1, hr2, hf⟩ := bnd hf
  refine m_callS F hK hP hS (c_X5_isTube (by decide) (by decide) rfl a1 hr2) (va_cwS 2 F.2.2.2.2 gX5_tubeOf_X5_isTube rfl rfl rfl hd_X5_isTube ⟨(Nat.le_of_ble_eq_true rfl), (Nat.le_of_ble_eq_true rfl)⟩) rfl rfl hl.1 (Nat.le_of_ble_eq_true rfl) dX5_tubeOf_6 ⟨(Nat.le_of_ble_eq_true rfl), (Nat.le_of_ble_eq_true rfl)⟩ (rest := [.ref (y)]) (fun H locs hP hS => ?_)
  refine W.eq (g2 := F0 m 9 ls [.int r1, .ref (y)]) rfl ?_
  refine lv_if_ne (tgt := 16) F.1 F.2.1 dX5_tubeOf_9 rfl (fun hc3 => ?_) (fun hc3 => ?_)
  · have hf := ifn hc3 hf
    refine lv_iload_n F.1 F.2.1 dX5_tubeOf_16 rfl (lv_at hl 2 rfl) ?_
    refine lv_i2l (v := a2.toInt64) F.1 F.2.1 dX5_tubeOf_17 rfl ?_
    refine lv_lconst (v := (0 : Int64)) F.1 F.2.1 dX5_tubeOf_18 rfl ?_
    refine lv_ldc2 (v := (5 : Int64)) F.1 F.2.1 F.2.2.2.1 (F.2.2.2.2 _ (List.mem_of_getElem? (i := 2) rfl)) dX5_tubeOf_19 ?_
    obtain ⟨r4, hr5, hf⟩ := bnd hf
    refine m_callS F hK hP hS (c_X5_in a2.toInt64 (0 : Int64) (5 : Int64) hr5) (va_cwS 3 F.2.2.2.2 gX5_tubeOf_X5_in rfl rfl rfl hd_X5_in ⟨(Nat.le_of_ble_eq_true rfl), (Nat.le_of_ble_eq_true rfl)⟩) rfl rfl hl.1 (Nat.le_of_ble_eq_true rfl) dX5_tubeOf_22 ⟨(Nat.le_of_ble_eq_true rfl), (Nat.le_of_ble_eq_true rfl)⟩ (rest := [.ref (y)]) (fun H locs hP hS => ?_)
    refine W.eq (g2 := F0 m 25 ls [.int r4, .ref (y)]) rfl ?_
    refine lv_if_ne (tgt := 32) F.1 F.2.1 dX5_tubeOf_25 rfl (fun hc6 => ?_) (fun hc6 => ?_)
    · have hf := ifn hc6 hf
      refine lv_iconst (v := (0 : Int32)) F.1 F.2.1 dX5_tubeOf_32 (by decide) ?_
      exact (KEY FU).1 ν (0 : Int32) _ _ _ (lv_sub hl [0, 1, 2] rfl) hP hS hf
    · have hf := ifp hc6 hf
      refine lv_iconst (v := (2 : Int32)) F.1 F.2.1 dX5_tubeOf_28 (by decide) ?_
      refine lv_goto (tgt := 33) F.1 F.2.1 dX5_tubeOf_29 rfl ?_
      exact (KEY FU).1 ν (2 : Int32) _ _ _ (lv_sub hl [0, 1, 2] rfl) hP hS hf
  · have hf := ifp hc3 hf
    refine lv_iconst (v := (1 : Int32)) F.1 F.2.1 dX5_tubeOf_12 (by decide) ?_
    refine lv_goto (tgt := 33) F.1 F.2.1 dX5_tubeOf_13 rfl ?_
    exact (KEY FU).1 ν (1 : Int32) _ _ _ (lv_sub hl [0, 1, 2] rfl) hP hS hf

-- FrostTubesModel.pipeOf(II)I
def fb_X5_pipeOf_1 (a1 : Int32) (a2 : Int32) (K : Mem → Int32 → Option (Int32 × Mem)) (ν : Mem) (t0 : Int32) : Option (Int32 × Mem) := ((f_X5_refused ν t0).bind fun r7 => (if r7.1 = 0 then (if oob (((156 : Int32) + ((5 : Int32) * a1)) + a2) 205 then none else some (((r7.2 1) (((156 : Int32) + ((5 : Int32) * a1)) + a2).toNatClampNeg), r7.2)) else some ((0 : Int32), r7.2)))
def fl_X5_pipeOf (a1 : Int32) (a2 : Int32) : Nat → Mem → Int32 → Option (Int32 × Mem)
  | 0, _, _ => none
  | n + 1, ν, t0 => fb_X5_pipeOf_1 a1 a2 (fl_X5_pipeOf a1 a2 n) ν t0
def f_X5_pipeOf (ν : Mem) (a1 : Int32) (a2 : Int32) : Option (Int32 × Mem) := ((f_X5_isPipe (ν 1) a1).bind fun r1 => (if r1 = 0 then (fl_X5_pipeOf a1 a2 FU ν (1 : Int32)) else ((f_X5_in a2.toInt64 (0 : Int64) (4 : Int64)).bind fun r4 => (if r4 = 0 then (fl_X5_pipeOf a1 a2 FU ν (2 : Int32)) else (fl_X5_pipeOf a1 a2 FU ν (0 : Int32))))))
def rmX5_pipeOf : Room := { frames := 2, cells := 0, slots := 0, locals := 46 }
theorem hd_X5_pipeOf : yX5_pipeOf.cls ≠ "java/lang/invoke/MethodHandle" ∧ yX5_pipeOf.cls ≠ "java/lang/invoke/VarHandle" ∧ (parseMethodDescriptor yX5_pipeOf.desc).map (fun d => d.parameters.length) = some 2 := by decide +kernel
set_option maxHeartbeats 8000000 in
set_option maxRecDepth 100000 in
theorem c_X5_pipeOf {l : Launch} {D : va_G} {y : Nat} {ν : Mem} (a1 : Int32) (a2 : Int32) {r : Int32 × Mem} (hf : f_X5_pipeOf ν a1 a2 = some r) : CM l yX5_pipeOf wsX5_pipeOf rmX5_pipeOf [.ref (y), .int a1, .int a2] D y ν (some (.int r.1)) r.2 := by
  refine CM.of (cc := cX5_pipeOf) (maxL := 3) (ret := (some .int)) pn_X5 rfl (Nat.le_of_ble_eq_true rfl) ?_
  intro p e s m args below meth c F hr hlk hK
  have KEY : ∀ n : Nat, (∀ (ν : Mem) (t0 : Int32) (ls : Array Slot) (H : Heap) (locs : List Loc), lv_has ls 3 [(0, .ref (y)), (1, .int a1), (2, .int a2)] → va_P D vwCl (WM D y ν) H → va_S (rngM y) s.heap H locs → fl_X5_pipeOf a1 a2 n ν t0 = some r → W p l e rmX5_pipeOf s m args below meth c H locs 0 0 (MQ below (QM D y r.2 (some (.int r.1))) args s 0 0 (rngM y)) (F0 m 33 ls [.int t0, .ref (y)])) := by
    intro n
    induction n with
    | zero => exact (fun _ _ _ _ _ _ _ _ h => nomatch h)
    | succ n ih =>
      skip
      intro ν t0  ls H locs hl hP hS hf
      have hf : fb_X5_pipeOf_1 a1 a2 (fl_X5_pipeOf a1 a2 n) ν t0 = some r := hf
      unfold fb_X5_pipeOf_1 at hf
      obtain ⟨r7, hr8, hf⟩ := bnd hf
      refine m_callV F hK hP hS (c_X5_refused t0 hr8) (cwV 1 F.2.2.2.2 gX5_pipeOf_X5_refused rfl rfl rfl ⟨rfl, hd_X5_refused⟩ ⟨(Nat.le_of_ble_eq_true rfl), (Nat.le_of_ble_eq_true rfl)⟩) rfl rfl hl.1 (Nat.le_of_ble_eq_true rfl) dX5_pipeOf_33 ⟨(Nat.le_of_ble_eq_true rfl), (Nat.le_of_ble_eq_true rfl)⟩ (rest := []) (fun H locs hP hS => ?_)
      refine W.eq (g2 := F0 m 36 ls [.int r7.1]) rfl ?_
      refine lv_if_eq (tgt := 41) F.1 F.2.1 dX5_pipeOf_36 rfl (fun hc9 => ?_) (fun hc9 => ?_)
      · have hf := ifp hc9 hf
        refine lv_aload_n F.1 F.2.1 dX5_pipeOf_41 rfl (lv_at hl 0 rfl) ?_
        refine m_getR F hK hP (fun _ h => List.mem_cons_of_mem _ (List.mem_append_right _ h)) 1 (Nat.le_of_ble_eq_true rfl) (List.mem_of_getElem? (i := 1) rfl) rfl (v := .ref (y + 1)) (fun _ => rfl) dX5_pipeOf_42 ?_
        refine lv_sipush (v := (156 : Int32)) F.1 F.2.1 dX5_pipeOf_45 (by decide) ?_
        refine lv_iconst (v := (5 : Int32)) F.1 F.2.1 dX5_pipeOf_48 (by decide) ?_
        refine lv_iload_n F.1 F.2.1 dX5_pipeOf_49 rfl (lv_at hl 1 rfl) ?_
        refine lv_imul F.1 F.2.1 dX5_pipeOf_50 ?_
        refine lv_iadd F.1 F.2.1 dX5_pipeOf_51 ?_
        refine lv_iload_n F.1 F.2.1 dX5_pipeOf_52 rfl (lv_at hl 2 rfl) ?_
        refine lv_iadd F.1 F.2.1 dX5_pipeOf_53 ?_
        obtain ⟨hb10, hf⟩ := ifg hf
        refine m_iald F hK hP (o := 1) (by decide) rfl (fun _ => rfl) rfl hb10 dX5_pipeOf_54 ?_
        obtain rfl := Option.some.inj hf
        exact m_iret F hr hlk hP hS rfl dX5_pipeOf_55
      · have hf := ifn hc9 hf
        refine lv_iconst (v := (0 : Int32)) F.1 F.2.1 dX5_pipeOf_39 (by decide) ?_
        obtain rfl := Option.some.inj hf
        exact m_iret F hr hlk hP hS rfl dX5_pipeOf_40
  intro ls H locs hl hP hS
  have hl : lv_has ls 3 [(0, .ref (y)), (1, .int a1), (2, .int a2)] := hl
  unfold f_X5_pipeOf at hf
  refine lv_aload_n F.1 F.2.1 dX5_pipeOf_0 rfl (lv_at hl 0 rfl) ?_
  refine lv_aload_n F.1 F.2.1 dX5_pipeOf_1 rfl (lv_at hl 0 rfl) ?_
  refine m_getR F hK hP (fun _ h => List.mem_cons_of_mem _ (List.mem_append_right _ h)) 1 (Nat.le_of_ble_eq_true rfl) (List.mem_of_getElem? (i := 1) rfl) rfl (v := .ref (y + 1)) (fun _ => rfl) dX5_pipeOf_2 ?_
  refine lv_iload_n F.1 F.2.1 dX5_pipeOf_5 rfl (lv_at hl 1 rfl) ?_
  obtain ⟨r1, hr2, hf⟩ := bnd hf
  refine m_callS F hK hP hS (c_X5_isPipe (by decide) (by decide) rfl a1 hr2) (va_cwS 2 F.2.2.2.2 gX5_pipeOf_X5_isPipe rfl rfl rfl hd_X5_isPipe ⟨(Nat.le_of_ble_eq_true rfl), (Nat.le_of_ble_eq_true rfl)⟩) rfl rfl hl.1 (Nat.le_of_ble_eq_true rfl) dX5_pipeOf_6 ⟨(Nat.le_of_ble_eq_true rfl), (Nat.le_of_ble_eq_true rfl)⟩ (rest := [.ref (y)]) (fun H locs hP hS => ?_)
  refine W.eq (g2 := F0 m 9 ls [.int r1, .ref (y)]) rfl ?_
  refine lv_if_ne (tgt := 16) F.1 F.2.1 dX5_pipeOf_9 rfl (fun hc3 => ?_) (fun hc3 => ?_)
  · have hf := ifn hc3 hf
    refine lv_iload_n F.1 F.2.1 dX5_pipeOf_16 rfl (lv_at hl 2 rfl) ?_
    refine lv_i2l (v := a2.toInt64) F.1 F.2.1 dX5_pipeOf_17 rfl ?_
    refine lv_lconst (v := (0 : Int64)) F.1 F.2.1 dX5_pipeOf_18 rfl ?_
    refine lv_ldc2 (v := (4 : Int64)) F.1 F.2.1 F.2.2.2.1 (F.2.2.2.2 _ (List.mem_of_getElem? (i := 2) rfl)) dX5_pipeOf_19 ?_
    obtain ⟨r4, hr5, hf⟩ := bnd hf
    refine m_callS F hK hP hS (c_X5_in a2.toInt64 (0 : Int64) (4 : Int64) hr5) (va_cwS 3 F.2.2.2.2 gX5_pipeOf_X5_in rfl rfl rfl hd_X5_in ⟨(Nat.le_of_ble_eq_true rfl), (Nat.le_of_ble_eq_true rfl)⟩) rfl rfl hl.1 (Nat.le_of_ble_eq_true rfl) dX5_pipeOf_22 ⟨(Nat.le_of_ble_eq_true rfl), (Nat.le_of_ble_eq_true rfl)⟩ (rest := [.ref (y)]) (fun H locs hP hS => ?_)
    refine W.eq (g2 := F0 m 25 ls [.int r4, .ref (y)]) rfl ?_
    refine lv_if_ne (tgt := 32) F.1 F.2.1 dX5_pipeOf_25 rfl (fun hc6 => ?_) (fun hc6 => ?_)
    · have hf := ifn hc6 hf
      refine lv_iconst (v := (0 : Int32)) F.1 F.2.1 dX5_pipeOf_32 (by decide) ?_
      exact (KEY FU) ν (0 : Int32) _ _ _ (lv_sub hl [0, 1, 2] rfl) hP hS hf
    · have hf := ifp hc6 hf
      refine lv_iconst (v := (2 : Int32)) F.1 F.2.1 dX5_pipeOf_28 (by decide) ?_
      refine lv_goto (tgt := 33) F.1 F.2.1 dX5_pipeOf_29 rfl ?_
      exact (KEY FU) ν (2 : Int32) _ _ _ (lv_sub hl [0, 1, 2] rfl) hP hS hf
  · have hf := ifp hc3 hf
    refine lv_iconst (v := (1 : Int32)) F.1 F.2.1 dX5_pipeOf_12 (by decide) ?_
    refine lv_goto (tgt := 33) F.1 F.2.1 dX5_pipeOf_13 rfl ?_
    exact (KEY FU) ν (1 : Int32) _ _ _ (lv_sub hl [0, 1, 2] rfl) hP hS hf

-- FrostTubesModel.layers(II)I
def fb_X5_layers_1 (a1 : Int32) (a2 : Int32) (K : Mem → Int32 → Option (Int32 × Mem)) (ν : Mem) (t0 : Int32) : Option (Int32 × Mem) := ((f_X5_refused ν t0).bind fun r7 => (if r7.1 = 0 then (if a2 = 0 then ((f_X5_countLayers (r7.2 1) a1).bind fun r13 => some (r13, r7.2)) else ((f_X5_joinedLayers (r7.2 1) a1).bind fun r11 => some (r11, r7.2))) else some ((0 : Int32), r7.2)))
def fl_X5_layers (a1 : Int32) (a2 : Int32) : Nat → Mem → Int32 → Option (Int32 × Mem)
  | 0, _, _ => none
  | n + 1, ν, t0 => fb_X5_layers_1 a1 a2 (fl_X5_layers a1 a2 n) ν t0
def f_X5_layers (ν : Mem) (a1 : Int32) (a2 : Int32) : Option (Int32 × Mem) := ((f_X5_isSite (ν 1) a1).bind fun r1 => (if r1 = 0 then (fl_X5_layers a1 a2 FU ν (1 : Int32)) else ((f_X5_in a2.toInt64 (0 : Int64) (1 : Int64)).bind fun r4 => (if r4 = 0 then (fl_X5_layers a1 a2 FU ν (2 : Int32)) else (fl_X5_layers a1 a2 FU ν (0 : Int32))))))
def rmX5_layers : Room := { frames := 4, cells := 0, slots := 0, locals := 88 }
theorem hd_X5_layers : yX5_layers.cls ≠ "java/lang/invoke/MethodHandle" ∧ yX5_layers.cls ≠ "java/lang/invoke/VarHandle" ∧ (parseMethodDescriptor yX5_layers.desc).map (fun d => d.parameters.length) = some 2 := by decide +kernel
set_option maxHeartbeats 8000000 in
set_option maxRecDepth 100000 in
theorem c_X5_layers {l : Launch} {D : va_G} {y : Nat} {ν : Mem} (a1 : Int32) (a2 : Int32) {r : Int32 × Mem} (hf : f_X5_layers ν a1 a2 = some r) : CM l yX5_layers wsX5_layers rmX5_layers [.ref (y), .int a1, .int a2] D y ν (some (.int r.1)) r.2 := by
  refine CM.of (cc := cX5_layers) (maxL := 3) (ret := (some .int)) pn_X5 rfl (Nat.le_of_ble_eq_true rfl) ?_
  intro p e s m args below meth c F hr hlk hK
  have KEY : ∀ n : Nat, (∀ (ν : Mem) (t0 : Int32) (ls : Array Slot) (H : Heap) (locs : List Loc), lv_has ls 3 [(0, .ref (y)), (1, .int a1), (2, .int a2)] → va_P D vwCl (WM D y ν) H → va_S (rngM y) s.heap H locs → fl_X5_layers a1 a2 n ν t0 = some r → W p l e rmX5_layers s m args below meth c H locs 0 0 (MQ below (QM D y r.2 (some (.int r.1))) args s 0 0 (rngM y)) (F0 m 31 ls [.int t0, .ref (y)])) := by
    intro n
    induction n with
    | zero => exact (fun _ _ _ _ _ _ _ _ h => nomatch h)
    | succ n ih =>
      skip
      intro ν t0  ls H locs hl hP hS hf
      have hf : fb_X5_layers_1 a1 a2 (fl_X5_layers a1 a2 n) ν t0 = some r := hf
      unfold fb_X5_layers_1 at hf
      obtain ⟨r7, hr8, hf⟩ := bnd hf
      refine m_callV F hK hP hS (c_X5_refused t0 hr8) (cwV 1 F.2.2.2.2 gX5_layers_X5_refused rfl rfl rfl ⟨rfl, hd_X5_refused⟩ ⟨(Nat.le_of_ble_eq_true rfl), (Nat.le_of_ble_eq_true rfl)⟩) rfl rfl hl.1 (Nat.le_of_ble_eq_true rfl) dX5_layers_31 ⟨(Nat.le_of_ble_eq_true rfl), (Nat.le_of_ble_eq_true rfl)⟩ (rest := []) (fun H locs hP hS => ?_)
      refine W.eq (g2 := F0 m 34 ls [.int r7.1]) rfl ?_
      refine lv_if_eq (tgt := 39) F.1 F.2.1 dX5_layers_34 rfl (fun hc9 => ?_) (fun hc9 => ?_)
      · have hf := ifp hc9 hf
        refine lv_iload_n F.1 F.2.1 dX5_layers_39 rfl (lv_at hl 2 rfl) ?_
        refine lv_if_ne (tgt := 54) F.1 F.2.1 dX5_layers_40 rfl (fun hc10 => ?_) (fun hc10 => ?_)
        · have hf := ifn hc10 hf
          refine lv_aload_n F.1 F.2.1 dX5_layers_54 rfl (lv_at hl 0 rfl) ?_
          refine m_getR F hK hP (fun _ h => List.mem_cons_of_mem _ (List.mem_append_right _ h)) 1 (Nat.le_of_ble_eq_true rfl) (List.mem_of_getElem? (i := 1) rfl) rfl (v := .ref (y + 1)) (fun _ => rfl) dX5_layers_55 ?_
          refine lv_iload_n F.1 F.2.1 dX5_layers_58 rfl (lv_at hl 1 rfl) ?_
          obtain ⟨r11, hr12, hf⟩ := bnd hf
          refine m_callS F hK hP hS (c_X5_joinedLayers (by decide) (by decide) rfl a1 hr12) (va_cwS 2 F.2.2.2.2 gX5_layers_X5_joinedLayers rfl rfl rfl hd_X5_joinedLayers ⟨(Nat.le_of_ble_eq_true rfl), (Nat.le_of_ble_eq_true rfl)⟩) rfl rfl hl.1 (Nat.le_of_ble_eq_true rfl) dX5_layers_59 ⟨(Nat.le_of_ble_eq_true rfl), (Nat.le_of_ble_eq_true rfl)⟩ (rest := []) (fun H locs hP hS => ?_)
          refine W.eq (g2 := F0 m 62 ls [.int r11]) rfl ?_
          obtain rfl := Option.some.inj hf
          exact m_iret F hr hlk hP hS rfl dX5_layers_62
        · have hf := ifp hc10 hf
          refine lv_aload_n F.1 F.2.1 dX5_layers_43 rfl (lv_at hl 0 rfl) ?_
          refine m_getR F hK hP (fun _ h => List.mem_cons_of_mem _ (List.mem_append_right _ h)) 1 (Nat.le_of_ble_eq_true rfl) (List.mem_of_getElem? (i := 1) rfl) rfl (v := .ref (y + 1)) (fun _ => rfl) dX5_layers_44 ?_
          refine lv_iload_n F.1 F.2.1 dX5_layers_47 rfl (lv_at hl 1 rfl) ?_
          obtain ⟨r13, hr14, hf⟩ := bnd hf
          refine m_callS F hK hP hS (c_X5_countLayers (by decide) (by decide) rfl a1 hr14) (va_cwS 2 F.2.2.2.2 gX5_layers_X5_countLayers rfl rfl rfl hd_X5_countLayers ⟨(Nat.le_of_ble_eq_true rfl), (Nat.le_of_ble_eq_true rfl)⟩) rfl rfl hl.1 (Nat.le_of_ble_eq_true rfl) dX5_layers_48 ⟨(Nat.le_of_ble_eq_true rfl), (Nat.le_of_ble_eq_true rfl)⟩ (rest := []) (fun H locs hP hS => ?_)
          refine W.eq (g2 := F0 m 51 ls [.int r13]) rfl ?_
          refine lv_goto (tgt := 62) F.1 F.2.1 dX5_layers_51 rfl ?_
          obtain rfl := Option.some.inj hf
          exact m_iret F hr hlk hP hS rfl dX5_layers_62
      · have hf := ifn hc9 hf
        refine lv_iconst (v := (0 : Int32)) F.1 F.2.1 dX5_layers_37 (by decide) ?_
        obtain rfl := Option.some.inj hf
        exact m_iret F hr hlk hP hS rfl dX5_layers_38
  intro ls H locs hl hP hS
  have hl : lv_has ls 3 [(0, .ref (y)), (1, .int a1), (2, .int a2)] := hl
  unfold f_X5_layers at hf
  refine lv_aload_n F.1 F.2.1 dX5_layers_0 rfl (lv_at hl 0 rfl) ?_
  refine lv_aload_n F.1 F.2.1 dX5_layers_1 rfl (lv_at hl 0 rfl) ?_
  refine m_getR F hK hP (fun _ h => List.mem_cons_of_mem _ (List.mem_append_right _ h)) 1 (Nat.le_of_ble_eq_true rfl) (List.mem_of_getElem? (i := 1) rfl) rfl (v := .ref (y + 1)) (fun _ => rfl) dX5_layers_2 ?_
  refine lv_iload_n F.1 F.2.1 dX5_layers_5 rfl (lv_at hl 1 rfl) ?_
  obtain ⟨r1, hr2, hf⟩ := bnd hf
  refine m_callS F hK hP hS (c_X5_isSite (by decide) (by decide) rfl a1 hr2) (va_cwS 2 F.2.2.2.2 gX5_layers_X5_isSite rfl rfl rfl hd_X5_isSite ⟨(Nat.le_of_ble_eq_true rfl), (Nat.le_of_ble_eq_true rfl)⟩) rfl rfl hl.1 (Nat.le_of_ble_eq_true rfl) dX5_layers_6 ⟨(Nat.le_of_ble_eq_true rfl), (Nat.le_of_ble_eq_true rfl)⟩ (rest := [.ref (y)]) (fun H locs hP hS => ?_)
  refine W.eq (g2 := F0 m 9 ls [.int r1, .ref (y)]) rfl ?_
  refine lv_if_ne (tgt := 16) F.1 F.2.1 dX5_layers_9 rfl (fun hc3 => ?_) (fun hc3 => ?_)
  · have hf := ifn hc3 hf
    refine lv_iload_n F.1 F.2.1 dX5_layers_16 rfl (lv_at hl 2 rfl) ?_
    refine lv_i2l (v := a2.toInt64) F.1 F.2.1 dX5_layers_17 rfl ?_
    refine lv_lconst (v := (0 : Int64)) F.1 F.2.1 dX5_layers_18 rfl ?_
    refine lv_lconst (v := (1 : Int64)) F.1 F.2.1 dX5_layers_19 rfl ?_
    obtain ⟨r4, hr5, hf⟩ := bnd hf
    refine m_callS F hK hP hS (c_X5_in a2.toInt64 (0 : Int64) (1 : Int64) hr5) (va_cwS 3 F.2.2.2.2 gX5_layers_X5_in rfl rfl rfl hd_X5_in ⟨(Nat.le_of_ble_eq_true rfl), (Nat.le_of_ble_eq_true rfl)⟩) rfl rfl hl.1 (Nat.le_of_ble_eq_true rfl) dX5_layers_20 ⟨(Nat.le_of_ble_eq_true rfl), (Nat.le_of_ble_eq_true rfl)⟩ (rest := [.ref (y)]) (fun H locs hP hS => ?_)
    refine W.eq (g2 := F0 m 23 ls [.int r4, .ref (y)]) rfl ?_
    refine lv_if_ne (tgt := 30) F.1 F.2.1 dX5_layers_23 rfl (fun hc6 => ?_) (fun hc6 => ?_)
    · have hf := ifn hc6 hf
      refine lv_iconst (v := (0 : Int32)) F.1 F.2.1 dX5_layers_30 (by decide) ?_
      exact (KEY FU) ν (0 : Int32) _ _ _ (lv_sub hl [0, 1, 2] rfl) hP hS hf
    · have hf := ifp hc6 hf
      refine lv_iconst (v := (2 : Int32)) F.1 F.2.1 dX5_layers_26 (by decide) ?_
      refine lv_goto (tgt := 31) F.1 F.2.1 dX5_layers_27 rfl ?_
      exact (KEY FU) ν (2 : Int32) _ _ _ (lv_sub hl [0, 1, 2] rfl) hP hS hf
  · have hf := ifp hc3 hf
    refine lv_iconst (v := (1 : Int32)) F.1 F.2.1 dX5_layers_12 (by decide) ?_
    refine lv_goto (tgt := 31) F.1 F.2.1 dX5_layers_13 rfl ?_
    exact (KEY FU) ν (1 : Int32) _ _ _ (lv_sub hl [0, 1, 2] rfl) hP hS hf

-- FrostTubesModel.oldest(I)I
def fb_X5_oldest_1 (a1 : Int32) (K : Nat → Mem → Int32 → Int32 → Int32 → Int32 → Int32 → Option (Int32 × Mem)) (ν : Mem) (t0 : Int32) (v2 : Int32) (v3 : Int32) (v4 : Int32) (v5 : Int32) : Option (Int32 × Mem) := ((f_X5_refused ν t0).bind fun r6 => (if r6.1 = 0 then (K 2 r6.2 0 a1 (1 : Int32) 0 0) else some ((0 : Int32), r6.2)))
def fb_X5_oldest_2 (a1 : Int32) (K : Nat → Mem → Int32 → Int32 → Int32 → Int32 → Int32 → Option (Int32 × Mem)) (ν : Mem) (t0 : Int32) (v2 : Int32) (v3 : Int32) (v4 : Int32) (v5 : Int32) : Option (Int32 × Mem) := (if ((ν 1) (199 : Int32).toNatClampNeg) < v3 then some ((-1 : Int32), ν) else (K 3 ν 0 v2 v3 (0 : Int32) 0))
def fb_X5_oldest_3 (a1 : Int32) (K : Nat → Mem → Int32 → Int32 → Int32 → Int32 → Int32 → Option (Int32 × Mem)) (ν : Mem) (t0 : Int32) (v2 : Int32) (v3 : Int32) (v4 : Int32) (v5 : Int32) : Option (Int32 × Mem) := (if ((ν 1) (196 : Int32).toNatClampNeg) ≤ v4 then (K 2 ν 0 v2 (v3 + (1 : Int32)) 0 0) else (K 4 ν 0 v2 v3 v4 (0 : Int32)))
def fb_X5_oldest_4 (a1 : Int32) (K : Nat → Mem → Int32 → Int32 → Int32 → Int32 → Int32 → Option (Int32 × Mem)) (ν : Mem) (t0 : Int32) (v2 : Int32) (v3 : Int32) (v4 : Int32) (v5 : Int32) : Option (Int32 × Mem) := (if (30 : Int32) ≤ v5 then (K 3 ν 0 v2 v3 (v4 + (1 : Int32)) 0) else ((f_X5_cell v4 v5).bind fun r12 => (if oob r12 205 then none else (if ((ν 1) r12.toNatClampNeg) = v3 then (if v2 = 0 then some ((((100 : Int32) * v4) + v5), ν) else (K 4 ν 0 (v2 + (-1 : Int32)) v3 v4 (v5 + (1 : Int32)))) else (K 4 ν 0 v2 v3 v4 (v5 + (1 : Int32)))))))
def fl_X5_oldest (a1 : Int32) : Nat → Nat → Mem → Int32 → Int32 → Int32 → Int32 → Int32 → Option (Int32 × Mem)
  | 0, _, _, _, _, _, _, _ => none
  | n + 1, lab, ν, t0, v2, v3, v4, v5 => match lab with
    | 1 => fb_X5_oldest_1 a1 (fl_X5_oldest a1 n) ν t0 v2 v3 v4 v5
    | 2 => fb_X5_oldest_2 a1 (fl_X5_oldest a1 n) ν t0 v2 v3 v4 v5
    | 3 => fb_X5_oldest_3 a1 (fl_X5_oldest a1 n) ν t0 v2 v3 v4 v5
    | _ => fb_X5_oldest_4 a1 (fl_X5_oldest a1 n) ν t0 v2 v3 v4 v5
def f_X5_oldest (ν : Mem) (a1 : Int32) : Option (Int32 × Mem) := ((f_X5_allCells (ν 1)).bind fun r1 => ((f_X5_in a1.toInt64 (0 : Int64) ((r1 - (1 : Int32)).toInt64)).bind fun r3 => (if r3 = 0 then (fl_X5_oldest a1 FU 1 ν (1 : Int32) 0 0 0 0) else (fl_X5_oldest a1 FU 1 ν (0 : Int32) 0 0 0 0))))
def rmX5_oldest : Room := { frames := 4, cells := 0, slots := 0, locals := 88 }
theorem hd_X5_oldest : yX5_oldest.cls ≠ "java/lang/invoke/MethodHandle" ∧ yX5_oldest.cls ≠ "java/lang/invoke/VarHandle" ∧ (parseMethodDescriptor yX5_oldest.desc).map (fun d => d.parameters.length) = some 1 := by decide +kernel
set_option maxHeartbeats 8000000 in
set_option maxRecDepth 100000 in
theorem c_X5_oldest {l : Launch} {D : va_G} {y : Nat} {ν : Mem} (a1 : Int32) {r : Int32 × Mem} (hf : f_X5_oldest ν a1 = some r) : CM l yX5_oldest wsX5_oldest rmX5_oldest [.ref (y), .int a1] D y ν (some (.int r.1)) r.2 := by
  refine CM.of (cc := cX5_oldest) (maxL := 6) (ret := (some .int)) pn_X5 rfl (Nat.le_of_ble_eq_true rfl) ?_
  intro p e s m args below meth c F hr hlk hK
  have KEY : ∀ n : Nat, (∀ (ν : Mem) (t0 : Int32) (ls : Array Slot) (H : Heap) (locs : List Loc), lv_has ls 6 [(0, .ref (y)), (1, .int a1)] → va_P D vwCl (WM D y ν) H → va_S (rngM y) s.heap H locs → fl_X5_oldest a1 n 1 ν t0 0 0 0 0 = some r → W p l e rmX5_oldest s m args below meth c H locs 0 0 (MQ below (QM D y r.2 (some (.int r.1))) args s 0 0 (rngM y)) (F0 m 25 ls [.int t0, .ref (y)])) ∧ (∀ (ν : Mem) (v2 : Int32) (v3 : Int32) (ls : Array Slot) (H : Heap) (locs : List Loc), lv_has ls 6 [(0, .ref (y)), (2, .int v2), (3, .int v3)] → va_P D vwCl (WM D y ν) H → va_S (rngM y) s.heap H locs → fl_X5_oldest a1 n 2 ν 0 v2 v3 0 0 = some r → W p l e rmX5_oldest s m args below meth c H locs 0 0 (MQ below (QM D y r.2 (some (.int r.1))) args s 0 0 (rngM y)) (F0 m 37 ls [])) ∧ (∀ (ν : Mem) (v2 : Int32) (v3 : Int32) (v4 : Int32) (ls : Array Slot) (H : Heap) (locs : List Loc), lv_has ls 6 [(0, .ref (y)), (2, .int v2), (3, .int v3), (4, .int v4)] → va_P D vwCl (WM D y ν) H → va_S (rngM y) s.heap H locs → fl_X5_oldest a1 n 3 ν 0 v2 v3 v4 0 = some r → W p l e rmX5_oldest s m args below meth c H locs 0 0 (MQ below (QM D y r.2 (some (.int r.1))) args s 0 0 (rngM y)) (F0 m 52 ls [])) ∧ (∀ (ν : Mem) (v2 : Int32) (v3 : Int32) (v4 : Int32) (v5 : Int32) (ls : Array Slot) (H : Heap) (locs : List Loc), lv_has ls 6 [(0, .ref (y)), (2, .int v2), (3, .int v3), (4, .int v4), (5, .int v5)] → va_P D vwCl (WM D y ν) H → va_S (rngM y) s.heap H locs → fl_X5_oldest a1 n 4 ν 0 v2 v3 v4 v5 = some r → W p l e rmX5_oldest s m args below meth c H locs 0 0 (MQ below (QM D y r.2 (some (.int r.1))) args s 0 0 (rngM y)) (F0 m 68 ls [])) := by
    intro n
    induction n with
    | zero => exact ⟨(fun _ _ _ _ _ _ _ _ h => nomatch h), (fun _ _ _ _ _ _ _ _ _ h => nomatch h), (fun _ _ _ _ _ _ _ _ _ _ h => nomatch h), (fun _ _ _ _ _ _ _ _ _ _ _ h => nomatch h)⟩
    | succ n ih =>
      refine ⟨?_, ?_, ?_, ?_⟩
      · intro ν t0  ls H locs hl hP hS hf
        have hf : fb_X5_oldest_1 a1 (fl_X5_oldest a1 n) ν t0 0 0 0 0 = some r := hf
        unfold fb_X5_oldest_1 at hf
        obtain ⟨r6, hr7, hf⟩ := bnd hf
        refine m_callV F hK hP hS (c_X5_refused t0 hr7) (cwV 1 F.2.2.2.2 gX5_oldest_X5_refused rfl rfl rfl ⟨rfl, hd_X5_refused⟩ ⟨(Nat.le_of_ble_eq_true rfl), (Nat.le_of_ble_eq_true rfl)⟩) rfl rfl hl.1 (Nat.le_of_ble_eq_true rfl) dX5_oldest_25 ⟨(Nat.le_of_ble_eq_true rfl), (Nat.le_of_ble_eq_true rfl)⟩ (rest := []) (fun H locs hP hS => ?_)
        refine W.eq (g2 := F0 m 28 ls [.int r6.1]) rfl ?_
        refine lv_if_eq (tgt := 33) F.1 F.2.1 dX5_oldest_28 rfl (fun hc8 => ?_) (fun hc8 => ?_)
        · have hf := ifp hc8 hf
          refine lv_iload_n F.1 F.2.1 dX5_oldest_33 rfl (lv_at hl 1 rfl) ?_
          refine lv_istore_n F.1 F.2.1 dX5_oldest_34 rfl hl (Nat.le_of_ble_eq_true rfl) rfl (fun ls hl => ?_)
          have hl : lv_has ls 6 [(2, .int a1), (0, .ref (y)), (1, .int a1)] := hl
          refine lv_iconst (v := (1 : Int32)) F.1 F.2.1 dX5_oldest_35 (by decide) ?_
          refine lv_istore_n F.1 F.2.1 dX5_oldest_36 rfl hl (Nat.le_of_ble_eq_true rfl) rfl (fun ls hl => ?_)
          have hl : lv_has ls 6 [(3, .int (1 : Int32)), (2, .int a1), (0, .ref (y)), (1, .int a1)] := hl
          exact ih.2.1 r6.2 a1 (1 : Int32) _ _ _ (lv_sub hl [2, 1, 0] rfl) hP hS hf
        · have hf := ifn hc8 hf
          refine lv_iconst (v := (0 : Int32)) F.1 F.2.1 dX5_oldest_31 (by decide) ?_
          obtain rfl := Option.some.inj hf
          exact m_iret F hr hlk hP hS rfl dX5_oldest_32
      · intro ν v2 v3  ls H locs hl hP hS hf
        have hf : fb_X5_oldest_2 a1 (fl_X5_oldest a1 n) ν 0 v2 v3 0 0 = some r := hf
        unfold fb_X5_oldest_2 at hf
        refine lv_iload_n F.1 F.2.1 dX5_oldest_37 rfl (lv_at hl 2 rfl) ?_
        refine lv_aload_n F.1 F.2.1 dX5_oldest_38 rfl (lv_at hl 0 rfl) ?_
        refine m_getR F hK hP (fun _ h => List.mem_cons_of_mem _ (List.mem_append_right _ h)) 1 (Nat.le_of_ble_eq_true rfl) (List.mem_of_getElem? (i := 1) rfl) rfl (v := .ref (y + 1)) (fun _ => rfl) dX5_oldest_39 ?_
        refine lv_sipush (v := (199 : Int32)) F.1 F.2.1 dX5_oldest_42 (by decide) ?_
        refine m_iald F hK hP (o := 1) (by decide) rfl (fun _ => rfl) rfl (by decide) dX5_oldest_45 ?_
        refine lv_icmp_gt (tgt := 125) F.1 F.2.1 dX5_oldest_46 rfl (fun hc9 => ?_) (fun hc9 => ?_)
        · have hf := ifp hc9 hf
          refine lv_iconst (v := (-1 : Int32)) F.1 F.2.1 dX5_oldest_125 (by decide) ?_
          obtain rfl := Option.some.inj hf
          exact m_iret F hr hlk hP hS rfl dX5_oldest_126
        · have hf := ifn hc9 hf
          refine lv_iconst (v := (0 : Int32)) F.1 F.2.1 dX5_oldest_49 (by decide) ?_
          refine lv_istore F.1 F.2.1 dX5_oldest_50 hl (Nat.le_of_ble_eq_true rfl) rfl (fun ls hl => ?_)
          have hl : lv_has ls 6 [(4, .int (0 : Int32)), (0, .ref (y)), (2, .int v2), (3, .int v3)] := hl
          exact ih.2.2.1 ν v2 v3 (0 : Int32) _ _ _ (lv_sub hl [1, 2, 3, 0] rfl) hP hS hf
      · intro ν v2 v3 v4  ls H locs hl hP hS hf
        have hf : fb_X5_oldest_3 a1 (fl_X5_oldest a1 n) ν 0 v2 v3 v4 0 = some r := hf
        unfold fb_X5_oldest_3 at hf
        refine lv_iload F.1 F.2.1 dX5_oldest_52 (lv_at hl 3 rfl) ?_
        refine lv_aload_n F.1 F.2.1 dX5_oldest_54 rfl (lv_at hl 0 rfl) ?_
        refine m_getR F hK hP (fun _ h => List.mem_cons_of_mem _ (List.mem_append_right _ h)) 1 (Nat.le_of_ble_eq_true rfl) (List.mem_of_getElem? (i := 1) rfl) rfl (v := .ref (y + 1)) (fun _ => rfl) dX5_oldest_55 ?_
        refine lv_sipush (v := (196 : Int32)) F.1 F.2.1 dX5_oldest_58 (by decide) ?_
        refine m_iald F hK hP (o := 1) (by decide) rfl (fun _ => rfl) rfl (by decide) dX5_oldest_61 ?_
        refine lv_icmp_ge (tgt := 119) F.1 F.2.1 dX5_oldest_62 rfl (fun hc10 => ?_) (fun hc10 => ?_)
        · have hf := ifp hc10 hf
          refine lv_iinc (v := (v3 + (1 : Int32))) F.1 F.2.1 dX5_oldest_119 hl (k := 2) rfl rfl (Nat.le_of_ble_eq_true rfl) rfl (fun ls hl => ?_)
          have hl : lv_has ls 6 [(3, .int (v3 + (1 : Int32))), (0, .ref (y)), (2, .int v2), (4, .int v4)] := hl
          refine lv_goto (tgt := 37) F.1 F.2.1 dX5_oldest_122 rfl ?_
          exact ih.2.1 ν v2 (v3 + (1 : Int32)) _ _ _ (lv_sub hl [1, 2, 0] rfl) hP hS hf
        · have hf := ifn hc10 hf
          refine lv_iconst (v := (0 : Int32)) F.1 F.2.1 dX5_oldest_65 (by decide) ?_
          refine lv_istore F.1 F.2.1 dX5_oldest_66 hl (Nat.le_of_ble_eq_true rfl) rfl (fun ls hl => ?_)
          have hl : lv_has ls 6 [(5, .int (0 : Int32)), (0, .ref (y)), (2, .int v2), (3, .int v3), (4, .int v4)] := hl
          exact ih.2.2.2 ν v2 v3 v4 (0 : Int32) _ _ _ (lv_sub hl [1, 2, 3, 4, 0] rfl) hP hS hf
      · intro ν v2 v3 v4 v5  ls H locs hl hP hS hf
        have hf : fb_X5_oldest_4 a1 (fl_X5_oldest a1 n) ν 0 v2 v3 v4 v5 = some r := hf
        unfold fb_X5_oldest_4 at hf
        refine lv_iload F.1 F.2.1 dX5_oldest_68 (lv_at hl 4 rfl) ?_
        refine lv_bipush (v := (30 : Int32)) F.1 F.2.1 dX5_oldest_70 (by decide) ?_
        refine lv_icmp_ge (tgt := 113) F.1 F.2.1 dX5_oldest_72 rfl (fun hc11 => ?_) (fun hc11 => ?_)
        · have hf := ifp hc11 hf
          refine lv_iinc (v := (v4 + (1 : Int32))) F.1 F.2.1 dX5_oldest_113 hl (k := 3) rfl rfl (Nat.le_of_ble_eq_true rfl) rfl (fun ls hl => ?_)
          have hl : lv_has ls 6 [(4, .int (v4 + (1 : Int32))), (0, .ref (y)), (2, .int v2), (3, .int v3), (5, .int v5)] := hl
          refine lv_goto (tgt := 52) F.1 F.2.1 dX5_oldest_116 rfl ?_
          exact ih.2.2.1 ν v2 v3 (v4 + (1 : Int32)) _ _ _ (lv_sub hl [1, 2, 3, 0] rfl) hP hS hf
        · have hf := ifn hc11 hf
          refine lv_aload_n F.1 F.2.1 dX5_oldest_75 rfl (lv_at hl 0 rfl) ?_
          refine m_getR F hK hP (fun _ h => List.mem_cons_of_mem _ (List.mem_append_right _ h)) 1 (Nat.le_of_ble_eq_true rfl) (List.mem_of_getElem? (i := 1) rfl) rfl (v := .ref (y + 1)) (fun _ => rfl) dX5_oldest_76 ?_
          refine lv_iload F.1 F.2.1 dX5_oldest_79 (lv_at hl 3 rfl) ?_
          refine lv_iload F.1 F.2.1 dX5_oldest_81 (lv_at hl 4 rfl) ?_
          obtain ⟨r12, hr13, hf⟩ := bnd hf
          refine m_callS F hK hP hS (c_X5_cell v4 v5 hr13) (va_cwS 2 F.2.2.2.2 gX5_oldest_X5_cell rfl rfl rfl hd_X5_cell ⟨(Nat.le_of_ble_eq_true rfl), (Nat.le_of_ble_eq_true rfl)⟩) rfl rfl hl.1 (Nat.le_of_ble_eq_true rfl) dX5_oldest_83 ⟨(Nat.le_of_ble_eq_true rfl), (Nat.le_of_ble_eq_true rfl)⟩ (rest := [.ref (y + 1)]) (fun H locs hP hS => ?_)
          refine W.eq (g2 := F0 m 86 ls [.int r12, .ref (y + 1)]) rfl ?_
          obtain ⟨hb14, hf⟩ := ifg hf
          refine m_iald F hK hP (o := 1) (by decide) rfl (fun _ => rfl) rfl hb14 dX5_oldest_86 ?_
          refine lv_iload_n F.1 F.2.1 dX5_oldest_87 rfl (lv_at hl 2 rfl) ?_
          refine lv_icmp_ne (tgt := 107) F.1 F.2.1 dX5_oldest_88 rfl (fun hc15 => ?_) (fun hc15 => ?_)
          · have hf := ifn hc15 hf
            refine lv_iinc (v := (v5 + (1 : Int32))) F.1 F.2.1 dX5_oldest_107 hl (k := 4) rfl rfl (Nat.le_of_ble_eq_true rfl) rfl (fun ls hl => ?_)
            have hl : lv_has ls 6 [(5, .int (v5 + (1 : Int32))), (0, .ref (y)), (2, .int v2), (3, .int v3), (4, .int v4)] := hl
            refine lv_goto (tgt := 68) F.1 F.2.1 dX5_oldest_110 rfl ?_
            exact ih.2.2.2 ν v2 v3 v4 (v5 + (1 : Int32)) _ _ _ (lv_sub hl [1, 2, 3, 4, 0] rfl) hP hS hf
          · have hf := ifp hc15 hf
            refine lv_iload_n F.1 F.2.1 dX5_oldest_91 rfl (lv_at hl 1 rfl) ?_
            refine lv_if_ne (tgt := 104) F.1 F.2.1 dX5_oldest_92 rfl (fun hc16 => ?_) (fun hc16 => ?_)
            · have hf := ifn hc16 hf
              refine lv_iinc (v := (v2 + (-1 : Int32))) F.1 F.2.1 dX5_oldest_104 hl (k := 1) rfl rfl (Nat.le_of_ble_eq_true rfl) rfl (fun ls hl => ?_)
              have hl : lv_has ls 6 [(2, .int (v2 + (-1 : Int32))), (0, .ref (y)), (3, .int v3), (4, .int v4), (5, .int v5)] := hl
              refine lv_iinc (v := (v5 + (1 : Int32))) F.1 F.2.1 dX5_oldest_107 hl (k := 4) rfl rfl (Nat.le_of_ble_eq_true rfl) rfl (fun ls hl => ?_)
              have hl : lv_has ls 6 [(5, .int (v5 + (1 : Int32))), (2, .int (v2 + (-1 : Int32))), (0, .ref (y)), (3, .int v3), (4, .int v4)] := hl
              refine lv_goto (tgt := 68) F.1 F.2.1 dX5_oldest_110 rfl ?_
              exact ih.2.2.2 ν (v2 + (-1 : Int32)) v3 v4 (v5 + (1 : Int32)) _ _ _ (lv_sub hl [2, 1, 3, 4, 0] rfl) hP hS hf
            · have hf := ifp hc16 hf
              refine lv_bipush (v := (100 : Int32)) F.1 F.2.1 dX5_oldest_95 (by decide) ?_
              refine lv_iload F.1 F.2.1 dX5_oldest_97 (lv_at hl 3 rfl) ?_
              refine lv_imul F.1 F.2.1 dX5_oldest_99 ?_
              refine lv_iload F.1 F.2.1 dX5_oldest_100 (lv_at hl 4 rfl) ?_
              refine lv_iadd F.1 F.2.1 dX5_oldest_102 ?_
              obtain rfl := Option.some.inj hf
              exact m_iret F hr hlk hP hS rfl dX5_oldest_103
  intro ls H locs hl hP hS
  have hl : lv_has ls 6 [(0, .ref (y)), (1, .int a1)] := hl
  unfold f_X5_oldest at hf
  refine lv_aload_n F.1 F.2.1 dX5_oldest_0 rfl (lv_at hl 0 rfl) ?_
  refine lv_iload_n F.1 F.2.1 dX5_oldest_1 rfl (lv_at hl 1 rfl) ?_
  refine lv_i2l (v := a1.toInt64) F.1 F.2.1 dX5_oldest_2 rfl ?_
  refine lv_lconst (v := (0 : Int64)) F.1 F.2.1 dX5_oldest_3 rfl ?_
  refine lv_aload_n F.1 F.2.1 dX5_oldest_4 rfl (lv_at hl 0 rfl) ?_
  refine m_getR F hK hP (fun _ h => List.mem_cons_of_mem _ (List.mem_append_right _ h)) 1 (Nat.le_of_ble_eq_true rfl) (List.mem_of_getElem? (i := 1) rfl) rfl (v := .ref (y + 1)) (fun _ => rfl) dX5_oldest_5 ?_
  obtain ⟨r1, hr2, hf⟩ := bnd hf
  refine m_callS F hK hP hS (c_X5_allCells (by decide) (by decide) rfl hr2) (va_cwS 1 F.2.2.2.2 gX5_oldest_X5_allCells rfl rfl rfl hd_X5_allCells ⟨(Nat.le_of_ble_eq_true rfl), (Nat.le_of_ble_eq_true rfl)⟩) rfl rfl hl.1 (Nat.le_of_ble_eq_true rfl) dX5_oldest_8 ⟨(Nat.le_of_ble_eq_true rfl), (Nat.le_of_ble_eq_true rfl)⟩ (rest := [.long (0 : Int64), .long a1.toInt64, .ref (y)]) (fun H locs hP hS => ?_)
  refine W.eq (g2 := F0 m 11 ls [.int r1, .long (0 : Int64), .long a1.toInt64, .ref (y)]) rfl ?_
  refine lv_iconst (v := (1 : Int32)) F.1 F.2.1 dX5_oldest_11 (by decide) ?_
  refine lv_isub F.1 F.2.1 dX5_oldest_12 ?_
  refine lv_i2l (v := (r1 - (1 : Int32)).toInt64) F.1 F.2.1 dX5_oldest_13 rfl ?_
  obtain ⟨r3, hr4, hf⟩ := bnd hf
  refine m_callS F hK hP hS (c_X5_in a1.toInt64 (0 : Int64) ((r1 - (1 : Int32)).toInt64) hr4) (va_cwS 3 F.2.2.2.2 gX5_oldest_X5_in rfl rfl rfl hd_X5_in ⟨(Nat.le_of_ble_eq_true rfl), (Nat.le_of_ble_eq_true rfl)⟩) rfl rfl hl.1 (Nat.le_of_ble_eq_true rfl) dX5_oldest_14 ⟨(Nat.le_of_ble_eq_true rfl), (Nat.le_of_ble_eq_true rfl)⟩ (rest := [.ref (y)]) (fun H locs hP hS => ?_)
  refine W.eq (g2 := F0 m 17 ls [.int r3, .ref (y)]) rfl ?_
  refine lv_if_eq (tgt := 24) F.1 F.2.1 dX5_oldest_17 rfl (fun hc5 => ?_) (fun hc5 => ?_)
  · have hf := ifp hc5 hf
    refine lv_iconst (v := (1 : Int32)) F.1 F.2.1 dX5_oldest_24 (by decide) ?_
    exact (KEY FU).1 ν (1 : Int32) _ _ _ (lv_sub hl [0, 1] rfl) hP hS hf
  · have hf := ifn hc5 hf
    refine lv_iconst (v := (0 : Int32)) F.1 F.2.1 dX5_oldest_20 (by decide) ?_
    refine lv_goto (tgt := 25) F.1 F.2.1 dX5_oldest_21 rfl ?_
    exact (KEY FU).1 ν (0 : Int32) _ _ _ (lv_sub hl [0, 1] rfl) hP hS hf

-- FrostTubesModel.site()I
def fb_X5_site_1  (K : Mem → Int32 → Option (Int32 × Mem)) (ν : Mem) (t0 : Int32) : Option (Int32 × Mem) := ((f_X5_refused ν t0).bind fun r2 => (if r2.1 = 0 then ((f_X5_remember r2.2).bind fun r5 => ((f_X5_addSite (r5 1)).bind fun r7 => some (r7.1, (va_up r5 1 r7.2)))) else some ((0 : Int32), r2.2)))
def fl_X5_site  : Nat → Mem → Int32 → Option (Int32 × Mem)
  | 0, _, _ => none
  | n + 1, ν, t0 => fb_X5_site_1  (fl_X5_site  n) ν t0
def f_X5_site (ν : Mem) : Option (Int32 × Mem) := (if ((ν 1) (196 : Int32).toNatClampNeg) = (4 : Int32) then (fl_X5_site  FU ν (1 : Int32)) else (fl_X5_site  FU ν (0 : Int32)))
def rmX5_site : Room := { frames := 1, cells := 0, slots := 0, locals := 21 }
theorem hd_X5_site : yX5_site.cls ≠ "java/lang/invoke/MethodHandle" ∧ yX5_site.cls ≠ "java/lang/invoke/VarHandle" ∧ (parseMethodDescriptor yX5_site.desc).map (fun d => d.parameters.length) = some 0 := by decide +kernel
set_option maxHeartbeats 8000000 in
set_option maxRecDepth 100000 in
theorem c_X5_site {l : Launch} {D : va_G} {y : Nat} {ν : Mem} {r : Int32 × Mem} (hf : f_X5_site ν = some r) : CM l yX5_site wsX5_site rmX5_site [.ref (y)] D y ν (some (.int r.1)) r.2 := by
  refine CM.of (cc := cX5_site) (maxL := 1) (ret := (some .int)) pn_X5 rfl (Nat.le_of_ble_eq_true rfl) ?_
  intro p e s m args below meth c F hr hlk hK
  have KEY : ∀ n : Nat, (∀ (ν : Mem) (t0 : Int32) (ls : Array Slot) (H : Heap) (locs : List Loc), lv_has ls 1 [(0, .ref (y))] → va_P D vwCl (WM D y ν) H → va_S (rngM y) s.heap H locs → fl_X5_site  n ν t0 = some r → W p l e rmX5_site s m args below meth c H locs 0 0 (MQ below (QM D y r.2 (some (.int r.1))) args s 0 0 (rngM y)) (F0 m 18 ls [.int t0, .ref (y)])) := by
    intro n
    induction n with
    | zero => exact (fun _ _ _ _ _ _ _ _ h => nomatch h)
    | succ n ih =>
      skip
      intro ν t0  ls H locs hl hP hS hf
      have hf : fb_X5_site_1  (fl_X5_site  n) ν t0 = some r := hf
      unfold fb_X5_site_1 at hf
      obtain ⟨r2, hr3, hf⟩ := bnd hf
      refine m_callV F hK hP hS (c_X5_refused t0 hr3) (cwV 1 F.2.2.2.2 gX5_site_X5_refused rfl rfl rfl ⟨rfl, hd_X5_refused⟩ ⟨(Nat.le_of_ble_eq_true rfl), (Nat.le_of_ble_eq_true rfl)⟩) rfl rfl hl.1 (Nat.le_of_ble_eq_true rfl) dX5_site_18 ⟨(Nat.le_of_ble_eq_true rfl), (Nat.le_of_ble_eq_true rfl)⟩ (rest := []) (fun H locs hP hS => ?_)
      refine W.eq (g2 := F0 m 21 ls [.int r2.1]) rfl ?_
      refine lv_if_eq (tgt := 26) F.1 F.2.1 dX5_site_21 rfl (fun hc4 => ?_) (fun hc4 => ?_)
      · have hf := ifp hc4 hf
        refine lv_aload_n F.1 F.2.1 dX5_site_26 rfl (lv_at hl 0 rfl) ?_
        obtain ⟨r5, hr6, hf⟩ := bnd hf
        refine m_callV F hK hP hS (c_X5_remember hr6) (cwV 0 F.2.2.2.2 gX5_site_X5_remember rfl rfl rfl ⟨rfl, hd_X5_remember⟩ ⟨(Nat.le_of_ble_eq_true rfl), (Nat.le_of_ble_eq_true rfl)⟩) rfl rfl hl.1 (Nat.le_of_ble_eq_true rfl) dX5_site_27 ⟨(Nat.le_of_ble_eq_true rfl), (Nat.le_of_ble_eq_true rfl)⟩ (rest := []) (fun H locs hP hS => ?_)
        refine W.eq (g2 := F0 m 30 ls []) rfl ?_
        refine lv_aload_n F.1 F.2.1 dX5_site_30 rfl (lv_at hl 0 rfl) ?_
        refine m_getR F hK hP (fun _ h => List.mem_cons_of_mem _ (List.mem_append_right _ h)) 1 (Nat.le_of_ble_eq_true rfl) (List.mem_of_getElem? (i := 1) rfl) rfl (v := .ref (y + 1)) (fun _ => rfl) dX5_site_31 ?_
        obtain ⟨r7, hr8, hf⟩ := bnd hf
        have hP := m_up 1 hP
        refine m_callS F hK hP hS (c_X5_addSite (by decide) (by decide) hr8) (va_cwS 1 F.2.2.2.2 gX5_site_X5_addSite rfl rfl rfl hd_X5_addSite ⟨(Nat.le_of_ble_eq_true rfl), (Nat.le_of_ble_eq_true rfl)⟩) rfl rfl hl.1 (Nat.le_of_ble_eq_true rfl) dX5_site_34 ⟨(Nat.le_of_ble_eq_true rfl), (Nat.le_of_ble_eq_true rfl)⟩ (rest := []) (fun H locs hP hS => ?_)
        refine W.eq (g2 := F0 m 37 ls [.int r7.1]) rfl ?_
        obtain rfl := Option.some.inj hf
        exact m_iret F hr hlk hP hS rfl dX5_site_37
      · have hf := ifn hc4 hf
        refine lv_iconst (v := (0 : Int32)) F.1 F.2.1 dX5_site_24 (by decide) ?_
        obtain rfl := Option.some.inj hf
        exact m_iret F hr hlk hP hS rfl dX5_site_25
  intro ls H locs hl hP hS
  have hl : lv_has ls 1 [(0, .ref (y))] := hl
  unfold f_X5_site at hf
  refine lv_aload_n F.1 F.2.1 dX5_site_0 rfl (lv_at hl 0 rfl) ?_
  refine lv_aload_n F.1 F.2.1 dX5_site_1 rfl (lv_at hl 0 rfl) ?_
  refine m_getR F hK hP (fun _ h => List.mem_cons_of_mem _ (List.mem_append_right _ h)) 1 (Nat.le_of_ble_eq_true rfl) (List.mem_of_getElem? (i := 1) rfl) rfl (v := .ref (y + 1)) (fun _ => rfl) dX5_site_2 ?_
  refine lv_sipush (v := (196 : Int32)) F.1 F.2.1 dX5_site_5 (by decide) ?_
  refine m_iald F hK hP (o := 1) (by decide) rfl (fun _ => rfl) rfl (by decide) dX5_site_8 ?_
  refine lv_iconst (v := (4 : Int32)) F.1 F.2.1 dX5_site_9 (by decide) ?_
  refine lv_icmp_ne (tgt := 17) F.1 F.2.1 dX5_site_10 rfl (fun hc1 => ?_) (fun hc1 => ?_)
  · have hf := ifn hc1 hf
    refine lv_iconst (v := (0 : Int32)) F.1 F.2.1 dX5_site_17 (by decide) ?_
    exact (KEY FU) ν (0 : Int32) _ _ _ (lv_sub hl [0] rfl) hP hS hf
  · have hf := ifp hc1 hf
    refine lv_iconst (v := (1 : Int32)) F.1 F.2.1 dX5_site_13 (by decide) ?_
    refine lv_goto (tgt := 18) F.1 F.2.1 dX5_site_14 rfl ?_
    exact (KEY FU) ν (1 : Int32) _ _ _ (lv_sub hl [0] rfl) hP hS hf

-- FrostTubesModel.tube(II)I
def fb_X5_tube_1 (a1 : Int32) (a2 : Int32) (K : Mem → Int32 → Option (Int32 × Mem)) (ν : Mem) (t0 : Int32) : Option (Int32 × Mem) := ((f_X5_refused ν t0).bind fun r8 => (if r8.1 = 0 then ((f_X5_remember r8.2).bind fun r11 => ((f_X5_addTube (r11 1) a1 a2).bind fun r13 => some (r13.1, (va_up r11 1 r13.2)))) else some ((0 : Int32), r8.2)))
def fl_X5_tube (a1 : Int32) (a2 : Int32) : Nat → Mem → Int32 → Option (Int32 × Mem)
  | 0, _, _ => none
  | n + 1, ν, t0 => fb_X5_tube_1 a1 a2 (fl_X5_tube a1 a2 n) ν t0
def f_X5_tube (ν : Mem) (a1 : Int32) (a2 : Int32) : Option (Int32 × Mem) := ((f_X5_isSite (ν 1) a1).bind fun r1 => (if r1 = 0 then (fl_X5_tube a1 a2 FU ν (1 : Int32)) else ((f_X5_in a2.toInt64 (1 : Int64) (30 : Int64)).bind fun r4 => (if r4 = 0 then (fl_X5_tube a1 a2 FU ν (2 : Int32)) else (if ((ν 1) (197 : Int32).toNatClampNeg) = (8 : Int32) then (fl_X5_tube a1 a2 FU ν (3 : Int32)) else (fl_X5_tube a1 a2 FU ν (0 : Int32)))))))
def rmX5_tube : Room := { frames := 2, cells := 0, slots := 0, locals := 46 }
theorem hd_X5_tube : yX5_tube.cls ≠ "java/lang/invoke/MethodHandle" ∧ yX5_tube.cls ≠ "java/lang/invoke/VarHandle" ∧ (parseMethodDescriptor yX5_tube.desc).map (fun d => d.parameters.length) = some 2 := by decide +kernel
set_option maxHeartbeats 8000000 in
set_option maxRecDepth 100000 in
theorem c_X5_tube {l : Launch} {D : va_G} {y : Nat} {ν : Mem} (a1 : Int32) (a2 : Int32) {r : Int32 × Mem} (hf : f_X5_tube ν a1 a2 = some r) : CM l yX5_tube wsX5_tube rmX5_tube [.ref (y), .int a1, .int a2] D y ν (some (.int r.1)) r.2 := by
  refine CM.of (cc := cX5_tube) (maxL := 3) (ret := (some .int)) pn_X5 rfl (Nat.le_of_ble_eq_true rfl) ?_
  intro p e s m args below meth c F hr hlk hK
  have KEY : ∀ n : Nat, (∀ (ν : Mem) (t0 : Int32) (ls : Array Slot) (H : Heap) (locs : List Loc), lv_has ls 3 [(0, .ref (y)), (1, .int a1), (2, .int a2)] → va_P D vwCl (WM D y ν) H → va_S (rngM y) s.heap H locs → fl_X5_tube a1 a2 n ν t0 = some r → W p l e rmX5_tube s m args below meth c H locs 0 0 (MQ below (QM D y r.2 (some (.int r.1))) args s 0 0 (rngM y)) (F0 m 50 ls [.int t0, .ref (y)])) := by
    intro n
    induction n with
    | zero => exact (fun _ _ _ _ _ _ _ _ h => nomatch h)
    | succ n ih =>
      skip
      intro ν t0  ls H locs hl hP hS hf
      have hf : fb_X5_tube_1 a1 a2 (fl_X5_tube a1 a2 n) ν t0 = some r := hf
      unfold fb_X5_tube_1 at hf
      obtain ⟨r8, hr9, hf⟩ := bnd hf
      refine m_callV F hK hP hS (c_X5_refused t0 hr9) (cwV 1 F.2.2.2.2 gX5_tube_X5_refused rfl rfl rfl ⟨rfl, hd_X5_refused⟩ ⟨(Nat.le_of_ble_eq_true rfl), (Nat.le_of_ble_eq_true rfl)⟩) rfl rfl hl.1 (Nat.le_of_ble_eq_true rfl) dX5_tube_50 ⟨(Nat.le_of_ble_eq_true rfl), (Nat.le_of_ble_eq_true rfl)⟩ (rest := []) (fun H locs hP hS => ?_)
      refine W.eq (g2 := F0 m 53 ls [.int r8.1]) rfl ?_
      refine lv_if_eq (tgt := 58) F.1 F.2.1 dX5_tube_53 rfl (fun hc10 => ?_) (fun hc10 => ?_)
      · have hf := ifp hc10 hf
        refine lv_aload_n F.1 F.2.1 dX5_tube_58 rfl (lv_at hl 0 rfl) ?_
        obtain ⟨r11, hr12, hf⟩ := bnd hf
        refine m_callV F hK hP hS (c_X5_remember hr12) (cwV 0 F.2.2.2.2 gX5_tube_X5_remember rfl rfl rfl ⟨rfl, hd_X5_remember⟩ ⟨(Nat.le_of_ble_eq_true rfl), (Nat.le_of_ble_eq_true rfl)⟩) rfl rfl hl.1 (Nat.le_of_ble_eq_true rfl) dX5_tube_59 ⟨(Nat.le_of_ble_eq_true rfl), (Nat.le_of_ble_eq_true rfl)⟩ (rest := []) (fun H locs hP hS => ?_)
        refine W.eq (g2 := F0 m 62 ls []) rfl ?_
        refine lv_aload_n F.1 F.2.1 dX5_tube_62 rfl (lv_at hl 0 rfl) ?_
        refine m_getR F hK hP (fun _ h => List.mem_cons_of_mem _ (List.mem_append_right _ h)) 1 (Nat.le_of_ble_eq_true rfl) (List.mem_of_getElem? (i := 1) rfl) rfl (v := .ref (y + 1)) (fun _ => rfl) dX5_tube_63 ?_
        refine lv_iload_n F.1 F.2.1 dX5_tube_66 rfl (lv_at hl 1 rfl) ?_
        refine lv_iload_n F.1 F.2.1 dX5_tube_67 rfl (lv_at hl 2 rfl) ?_
        obtain ⟨r13, hr14, hf⟩ := bnd hf
        have hP := m_up 1 hP
        refine m_callS F hK hP hS (c_X5_addTube (by decide) (by decide) a1 a2 hr14) (va_cwS 3 F.2.2.2.2 gX5_tube_X5_addTube rfl rfl rfl hd_X5_addTube ⟨(Nat.le_of_ble_eq_true rfl), (Nat.le_of_ble_eq_true rfl)⟩) rfl rfl hl.1 (Nat.le_of_ble_eq_true rfl) dX5_tube_68 ⟨(Nat.le_of_ble_eq_true rfl), (Nat.le_of_ble_eq_true rfl)⟩ (rest := []) (fun H locs hP hS => ?_)
        refine W.eq (g2 := F0 m 71 ls [.int r13.1]) rfl ?_
        obtain rfl := Option.some.inj hf
        exact m_iret F hr hlk hP hS rfl dX5_tube_71
      · have hf := ifn hc10 hf
        refine lv_iconst (v := (0 : Int32)) F.1 F.2.1 dX5_tube_56 (by decide) ?_
        obtain rfl := Option.some.inj hf
        exact m_iret F hr hlk hP hS rfl dX5_tube_57
  intro ls H locs hl hP hS
  have hl : lv_has ls 3 [(0, .ref (y)), (1, .int a1), (2, .int a2)] := hl
  unfold f_X5_tube at hf
  refine lv_aload_n F.1 F.2.1 dX5_tube_0 rfl (lv_at hl 0 rfl) ?_
  refine lv_aload_n F.1 F.2.1 dX5_tube_1 rfl (lv_at hl 0 rfl) ?_
  refine m_getR F hK hP (fun _ h => List.mem_cons_of_mem _ (List.mem_append_right _ h)) 1 (Nat.le_of_ble_eq_true rfl) (List.mem_of_getElem? (i := 1) rfl) rfl (v := .ref (y + 1)) (fun _ => rfl) dX5_tube_2 ?_
  refine lv_iload_n F.1 F.2.1 dX5_tube_5 rfl (lv_at hl 1 rfl) ?_
  obtain ⟨r1, hr2, hf⟩ := bnd hf
  refine m_callS F hK hP hS (c_X5_isSite (by decide) (by decide) rfl a1 hr2) (va_cwS 2 F.2.2.2.2 gX5_tube_X5_isSite rfl rfl rfl hd_X5_isSite ⟨(Nat.le_of_ble_eq_true rfl), (Nat.le_of_ble_eq_true rfl)⟩) rfl rfl hl.1 (Nat.le_of_ble_eq_true rfl) dX5_tube_6 ⟨(Nat.le_of_ble_eq_true rfl), (Nat.le_of_ble_eq_true rfl)⟩ (rest := [.ref (y)]) (fun H locs hP hS => ?_)
  refine W.eq (g2 := F0 m 9 ls [.int r1, .ref (y)]) rfl ?_
  refine lv_if_ne (tgt := 16) F.1 F.2.1 dX5_tube_9 rfl (fun hc3 => ?_) (fun hc3 => ?_)
  · have hf := ifn hc3 hf
    refine lv_iload_n F.1 F.2.1 dX5_tube_16 rfl (lv_at hl 2 rfl) ?_
    refine lv_i2l (v := a2.toInt64) F.1 F.2.1 dX5_tube_17 rfl ?_
    refine lv_lconst (v := (1 : Int64)) F.1 F.2.1 dX5_tube_18 rfl ?_
    refine lv_ldc2 (v := (30 : Int64)) F.1 F.2.1 F.2.2.2.1 (F.2.2.2.2 _ (List.mem_of_getElem? (i := 2) rfl)) dX5_tube_19 ?_
    obtain ⟨r4, hr5, hf⟩ := bnd hf
    refine m_callS F hK hP hS (c_X5_in a2.toInt64 (1 : Int64) (30 : Int64) hr5) (va_cwS 3 F.2.2.2.2 gX5_tube_X5_in rfl rfl rfl hd_X5_in ⟨(Nat.le_of_ble_eq_true rfl), (Nat.le_of_ble_eq_true rfl)⟩) rfl rfl hl.1 (Nat.le_of_ble_eq_true rfl) dX5_tube_22 ⟨(Nat.le_of_ble_eq_true rfl), (Nat.le_of_ble_eq_true rfl)⟩ (rest := [.ref (y)]) (fun H locs hP hS => ?_)
    refine W.eq (g2 := F0 m 25 ls [.int r4, .ref (y)]) rfl ?_
    refine lv_if_ne (tgt := 32) F.1 F.2.1 dX5_tube_25 rfl (fun hc6 => ?_) (fun hc6 => ?_)
    · have hf := ifn hc6 hf
      refine lv_aload_n F.1 F.2.1 dX5_tube_32 rfl (lv_at hl 0 rfl) ?_
      refine m_getR F hK hP (fun _ h => List.mem_cons_of_mem _ (List.mem_append_right _ h)) 1 (Nat.le_of_ble_eq_true rfl) (List.mem_of_getElem? (i := 1) rfl) rfl (v := .ref (y + 1)) (fun _ => rfl) dX5_tube_33 ?_
      refine lv_sipush (v := (197 : Int32)) F.1 F.2.1 dX5_tube_36 (by decide) ?_
      refine m_iald F hK hP (o := 1) (by decide) rfl (fun _ => rfl) rfl (by decide) dX5_tube_39 ?_
      refine lv_bipush (v := (8 : Int32)) F.1 F.2.1 dX5_tube_40 (by decide) ?_
      refine lv_icmp_ne (tgt := 49) F.1 F.2.1 dX5_tube_42 rfl (fun hc7 => ?_) (fun hc7 => ?_)
      · have hf := ifn hc7 hf
        refine lv_iconst (v := (0 : Int32)) F.1 F.2.1 dX5_tube_49 (by decide) ?_
        exact (KEY FU) ν (0 : Int32) _ _ _ (lv_sub hl [0, 1, 2] rfl) hP hS hf
      · have hf := ifp hc7 hf
        refine lv_iconst (v := (3 : Int32)) F.1 F.2.1 dX5_tube_45 (by decide) ?_
        refine lv_goto (tgt := 50) F.1 F.2.1 dX5_tube_46 rfl ?_
        exact (KEY FU) ν (3 : Int32) _ _ _ (lv_sub hl [0, 1, 2] rfl) hP hS hf
    · have hf := ifp hc6 hf
      refine lv_iconst (v := (2 : Int32)) F.1 F.2.1 dX5_tube_28 (by decide) ?_
      refine lv_goto (tgt := 50) F.1 F.2.1 dX5_tube_29 rfl ?_
      exact (KEY FU) ν (2 : Int32) _ _ _ (lv_sub hl [0, 1, 2] rfl) hP hS hf
  · have hf := ifp hc3 hf
    refine lv_iconst (v := (1 : Int32)) F.1 F.2.1 dX5_tube_12 (by decide) ?_
    refine lv_goto (tgt := 50) F.1 F.2.1 dX5_tube_13 rfl ?_
    exact (KEY FU) ν (1 : Int32) _ _ _ (lv_sub hl [0, 1, 2] rfl) hP hS hf

-- FrostTubesModel.pipe(II)I
def fb_X5_pipe_1 (a1 : Int32) (a2 : Int32) (K : Nat → Mem → Int32 → Option (Int32 × Mem)) (ν : Mem) (t0 : Int32) : Option (Int32 × Mem) := (if t0 = 0 then (K 2 ν (1 : Int32)) else ((f_X5_canLay (ν 1) a1 a2).bind fun r8 => (if r8 = 0 then (K 2 ν (2 : Int32)) else (K 2 ν (0 : Int32)))))
def fb_X5_pipe_2 (a1 : Int32) (a2 : Int32) (K : Nat → Mem → Int32 → Option (Int32 × Mem)) (ν : Mem) (t0 : Int32) : Option (Int32 × Mem) := ((f_X5_refused ν t0).bind fun r11 => (if r11.1 = 0 then ((f_X5_remember r11.2).bind fun r14 => ((f_X5_addPipe (r14 1) a1 a2).bind fun r16 => some (r16.1, (va_up r14 1 r16.2)))) else some ((0 : Int32), r11.2)))
def fl_X5_pipe (a1 : Int32) (a2 : Int32) : Nat → Nat → Mem → Int32 → Option (Int32 × Mem)
  | 0, _, _, _ => none
  | n + 1, lab, ν, t0 => match lab with
    | 1 => fb_X5_pipe_1 a1 a2 (fl_X5_pipe a1 a2 n) ν t0
    | _ => fb_X5_pipe_2 a1 a2 (fl_X5_pipe a1 a2 n) ν t0
def f_X5_pipe (ν : Mem) (a1 : Int32) (a2 : Int32) : Option (Int32 × Mem) := ((f_X5_isSite (ν 1) a1).bind fun r1 => (if r1 = 0 then (fl_X5_pipe a1 a2 FU 1 ν (0 : Int32)) else ((f_X5_isCell a2).bind fun r4 => (if r4 = 0 then (fl_X5_pipe a1 a2 FU 1 ν (0 : Int32)) else (fl_X5_pipe a1 a2 FU 1 ν (1 : Int32))))))
def rmX5_pipe : Room := { frames := 3, cells := 0, slots := 0, locals := 65 }
theorem hd_X5_pipe : yX5_pipe.cls ≠ "java/lang/invoke/MethodHandle" ∧ yX5_pipe.cls ≠ "java/lang/invoke/VarHandle" ∧ (parseMethodDescriptor yX5_pipe.desc).map (fun d => d.parameters.length) = some 2 := by decide +kernel
set_option maxHeartbeats 8000000 in
set_option maxRecDepth 100000 in
theorem c_X5_pipe {l : Launch} {D : va_G} {y : Nat} {ν : Mem} (a1 : Int32) (a2 : Int32) {r : Int32 × Mem} (hf : f_X5_pipe ν a1 a2 = some r) : CM l yX5_pipe wsX5_pipe rmX5_pipe [.ref (y), .int a1, .int a2] D y ν (some (.int r.1)) r.2 := by
  refine CM.of (cc := cX5_pipe) (maxL := 4) (ret := (some .int)) pn_X5 rfl (Nat.le_of_ble_eq_true rfl) ?_
  intro p e s m args below meth c F hr hlk hK
  have KEY : ∀ n : Nat, (∀ (ν : Mem) (t0 : Int32) (ls : Array Slot) (H : Heap) (locs : List Loc), lv_has ls 4 [(0, .ref (y)), (1, .int a1), (2, .int a2)] → va_P D vwCl (WM D y ν) H → va_S (rngM y) s.heap H locs → fl_X5_pipe a1 a2 n 1 ν t0 = some r → W p l e rmX5_pipe s m args below meth c H locs 0 0 (MQ below (QM D y r.2 (some (.int r.1))) args s 0 0 (rngM y)) (F0 m 23 ls [.int t0])) ∧ (∀ (ν : Mem) (t0 : Int32) (ls : Array Slot) (H : Heap) (locs : List Loc), lv_has ls 4 [(0, .ref (y)), (1, .int a1), (2, .int a2)] → va_P D vwCl (WM D y ν) H → va_S (rngM y) s.heap H locs → fl_X5_pipe a1 a2 n 2 ν t0 = some r → W p l e rmX5_pipe s m args below meth c H locs 0 0 (MQ below (QM D y r.2 (some (.int r.1))) args s 0 0 (rngM y)) (F0 m 50 ls [.int t0, .ref (y)])) := by
    intro n
    induction n with
    | zero => exact ⟨(fun _ _ _ _ _ _ _ _ h => nomatch h), (fun _ _ _ _ _ _ _ _ h => nomatch h)⟩
    | succ n ih =>
      refine ⟨?_, ?_⟩
      · intro ν t0  ls H locs hl hP hS hf
        have hf : fb_X5_pipe_1 a1 a2 (fl_X5_pipe a1 a2 n) ν t0 = some r := hf
        unfold fb_X5_pipe_1 at hf
        refine lv_istore_n F.1 F.2.1 dX5_pipe_23 rfl hl (Nat.le_of_ble_eq_true rfl) rfl (fun ls hl => ?_)
        have hl : lv_has ls 4 [(3, .int t0), (0, .ref (y)), (1, .int a1), (2, .int a2)] := hl
        refine lv_aload_n F.1 F.2.1 dX5_pipe_24 rfl (lv_at hl 1 rfl) ?_
        refine lv_iload_n F.1 F.2.1 dX5_pipe_25 rfl (lv_at hl 0 rfl) ?_
        refine lv_if_ne (tgt := 33) F.1 F.2.1 dX5_pipe_26 rfl (fun hc7 => ?_) (fun hc7 => ?_)
        · have hf := ifn hc7 hf
          refine lv_aload_n F.1 F.2.1 dX5_pipe_33 rfl (lv_at hl 1 rfl) ?_
          refine m_getR F hK hP (fun _ h => List.mem_cons_of_mem _ (List.mem_append_right _ h)) 1 (Nat.le_of_ble_eq_true rfl) (List.mem_of_getElem? (i := 1) rfl) rfl (v := .ref (y + 1)) (fun _ => rfl) dX5_pipe_34 ?_
          refine lv_iload_n F.1 F.2.1 dX5_pipe_37 rfl (lv_at hl 2 rfl) ?_
          refine lv_iload_n F.1 F.2.1 dX5_pipe_38 rfl (lv_at hl 3 rfl) ?_
          obtain ⟨r8, hr9, hf⟩ := bnd hf
          refine m_callS F hK hP hS (c_X5_canLay (by decide) (by decide) rfl a1 a2 hr9) (va_cwS 3 F.2.2.2.2 gX5_pipe_X5_canLay rfl rfl rfl hd_X5_canLay ⟨(Nat.le_of_ble_eq_true rfl), (Nat.le_of_ble_eq_true rfl)⟩) rfl rfl hl.1 (Nat.le_of_ble_eq_true rfl) dX5_pipe_39 ⟨(Nat.le_of_ble_eq_true rfl), (Nat.le_of_ble_eq_true rfl)⟩ (rest := [.ref (y)]) (fun H locs hP hS => ?_)
          refine W.eq (g2 := F0 m 42 ls [.int r8, .ref (y)]) rfl ?_
          refine lv_if_ne (tgt := 49) F.1 F.2.1 dX5_pipe_42 rfl (fun hc10 => ?_) (fun hc10 => ?_)
          · have hf := ifn hc10 hf
            refine lv_iconst (v := (0 : Int32)) F.1 F.2.1 dX5_pipe_49 (by decide) ?_
            exact ih.2 ν (0 : Int32) _ _ _ (lv_sub hl [1, 2, 3] rfl) hP hS hf
          · have hf := ifp hc10 hf
            refine lv_iconst (v := (2 : Int32)) F.1 F.2.1 dX5_pipe_45 (by decide) ?_
            refine lv_goto (tgt := 50) F.1 F.2.1 dX5_pipe_46 rfl ?_
            exact ih.2 ν (2 : Int32) _ _ _ (lv_sub hl [1, 2, 3] rfl) hP hS hf
        · have hf := ifp hc7 hf
          refine lv_iconst (v := (1 : Int32)) F.1 F.2.1 dX5_pipe_29 (by decide) ?_
          refine lv_goto (tgt := 50) F.1 F.2.1 dX5_pipe_30 rfl ?_
          exact ih.2 ν (1 : Int32) _ _ _ (lv_sub hl [1, 2, 3] rfl) hP hS hf
      · intro ν t0  ls H locs hl hP hS hf
        have hf : fb_X5_pipe_2 a1 a2 (fl_X5_pipe a1 a2 n) ν t0 = some r := hf
        unfold fb_X5_pipe_2 at hf
        obtain ⟨r11, hr12, hf⟩ := bnd hf
        refine m_callV F hK hP hS (c_X5_refused t0 hr12) (cwV 1 F.2.2.2.2 gX5_pipe_X5_refused rfl rfl rfl ⟨rfl, hd_X5_refused⟩ ⟨(Nat.le_of_ble_eq_true rfl), (Nat.le_of_ble_eq_true rfl)⟩) rfl rfl hl.1 (Nat.le_of_ble_eq_true rfl) dX5_pipe_50 ⟨(Nat.le_of_ble_eq_true rfl), (Nat.le_of_ble_eq_true rfl)⟩ (rest := []) (fun H locs hP hS => ?_)
        refine W.eq (g2 := F0 m 53 ls [.int r11.1]) rfl ?_
        refine lv_if_eq (tgt := 58) F.1 F.2.1 dX5_pipe_53 rfl (fun hc13 => ?_) (fun hc13 => ?_)
        · have hf := ifp hc13 hf
          refine lv_aload_n F.1 F.2.1 dX5_pipe_58 rfl (lv_at hl 0 rfl) ?_
          obtain ⟨r14, hr15, hf⟩ := bnd hf
          refine m_callV F hK hP hS (c_X5_remember hr15) (cwV 0 F.2.2.2.2 gX5_pipe_X5_remember rfl rfl rfl ⟨rfl, hd_X5_remember⟩ ⟨(Nat.le_of_ble_eq_true rfl), (Nat.le_of_ble_eq_true rfl)⟩) rfl rfl hl.1 (Nat.le_of_ble_eq_true rfl) dX5_pipe_59 ⟨(Nat.le_of_ble_eq_true rfl), (Nat.le_of_ble_eq_true rfl)⟩ (rest := []) (fun H locs hP hS => ?_)
          refine W.eq (g2 := F0 m 62 ls []) rfl ?_
          refine lv_aload_n F.1 F.2.1 dX5_pipe_62 rfl (lv_at hl 0 rfl) ?_
          refine m_getR F hK hP (fun _ h => List.mem_cons_of_mem _ (List.mem_append_right _ h)) 1 (Nat.le_of_ble_eq_true rfl) (List.mem_of_getElem? (i := 1) rfl) rfl (v := .ref (y + 1)) (fun _ => rfl) dX5_pipe_63 ?_
          refine lv_iload_n F.1 F.2.1 dX5_pipe_66 rfl (lv_at hl 1 rfl) ?_
          refine lv_iload_n F.1 F.2.1 dX5_pipe_67 rfl (lv_at hl 2 rfl) ?_
          obtain ⟨r16, hr17, hf⟩ := bnd hf
          have hP := m_up 1 hP
          refine m_callS F hK hP hS (c_X5_addPipe (by decide) (by decide) a1 a2 hr17) (va_cwS 3 F.2.2.2.2 gX5_pipe_X5_addPipe rfl rfl rfl hd_X5_addPipe ⟨(Nat.le_of_ble_eq_true rfl), (Nat.le_of_ble_eq_true rfl)⟩) rfl rfl hl.1 (Nat.le_of_ble_eq_true rfl) dX5_pipe_68 ⟨(Nat.le_of_ble_eq_true rfl), (Nat.le_of_ble_eq_true rfl)⟩ (rest := []) (fun H locs hP hS => ?_)
          refine W.eq (g2 := F0 m 71 ls [.int r16.1]) rfl ?_
          obtain rfl := Option.some.inj hf
          exact m_iret F hr hlk hP hS rfl dX5_pipe_71
        · have hf := ifn hc13 hf
          refine lv_iconst (v := (0 : Int32)) F.1 F.2.1 dX5_pipe_56 (by decide) ?_
          obtain rfl := Option.some.inj hf
          exact m_iret F hr hlk hP hS rfl dX5_pipe_57
  intro ls H locs hl hP hS
  have hl : lv_has ls 4 [(0, .ref (y)), (1, .int a1), (2, .int a2)] := hl
  unfold f_X5_pipe at hf
  refine lv_aload_n F.1 F.2.1 dX5_pipe_0 rfl (lv_at hl 0 rfl) ?_
  refine m_getR F hK hP (fun _ h => List.mem_cons_of_mem _ (List.mem_append_right _ h)) 1 (Nat.le_of_ble_eq_true rfl) (List.mem_of_getElem? (i := 1) rfl) rfl (v := .ref (y + 1)) (fun _ => rfl) dX5_pipe_1 ?_
  refine lv_iload_n F.1 F.2.1 dX5_pipe_4 rfl (lv_at hl 1 rfl) ?_
  obtain ⟨r1, hr2, hf⟩ := bnd hf
  refine m_callS F hK hP hS (c_X5_isSite (by decide) (by decide) rfl a1 hr2) (va_cwS 2 F.2.2.2.2 gX5_pipe_X5_isSite rfl rfl rfl hd_X5_isSite ⟨(Nat.le_of_ble_eq_true rfl), (Nat.le_of_ble_eq_true rfl)⟩) rfl rfl hl.1 (Nat.le_of_ble_eq_true rfl) dX5_pipe_5 ⟨(Nat.le_of_ble_eq_true rfl), (Nat.le_of_ble_eq_true rfl)⟩ (rest := []) (fun H locs hP hS => ?_)
  refine W.eq (g2 := F0 m 8 ls [.int r1]) rfl ?_
  refine lv_if_eq (tgt := 22) F.1 F.2.1 dX5_pipe_8 rfl (fun hc3 => ?_) (fun hc3 => ?_)
  · have hf := ifp hc3 hf
    refine lv_iconst (v := (0 : Int32)) F.1 F.2.1 dX5_pipe_22 (by decide) ?_
    exact (KEY FU).1 ν (0 : Int32) _ _ _ (lv_sub hl [0, 1, 2] rfl) hP hS hf
  · have hf := ifn hc3 hf
    refine lv_iload_n F.1 F.2.1 dX5_pipe_11 rfl (lv_at hl 2 rfl) ?_
    obtain ⟨r4, hr5, hf⟩ := bnd hf
    refine m_callS F hK hP hS (c_X5_isCell a2 hr5) (va_cwS 1 F.2.2.2.2 gX5_pipe_X5_isCell rfl rfl rfl hd_X5_isCell ⟨(Nat.le_of_ble_eq_true rfl), (Nat.le_of_ble_eq_true rfl)⟩) rfl rfl hl.1 (Nat.le_of_ble_eq_true rfl) dX5_pipe_12 ⟨(Nat.le_of_ble_eq_true rfl), (Nat.le_of_ble_eq_true rfl)⟩ (rest := []) (fun H locs hP hS => ?_)
    refine W.eq (g2 := F0 m 15 ls [.int r4]) rfl ?_
    refine lv_if_eq (tgt := 22) F.1 F.2.1 dX5_pipe_15 rfl (fun hc6 => ?_) (fun hc6 => ?_)
    · have hf := ifp hc6 hf
      refine lv_iconst (v := (0 : Int32)) F.1 F.2.1 dX5_pipe_22 (by decide) ?_
      exact (KEY FU).1 ν (0 : Int32) _ _ _ (lv_sub hl [0, 1, 2] rfl) hP hS hf
    · have hf := ifn hc6 hf
      refine lv_iconst (v := (1 : Int32)) F.1 F.2.1 dX5_pipe_18 (by decide) ?_
      refine lv_goto (tgt := 23) F.1 F.2.1 dX5_pipe_19 rfl ?_
      exact (KEY FU).1 ν (1 : Int32) _ _ _ (lv_sub hl [0, 1, 2] rfl) hP hS hf

-- FrostTubesModel.fence(II)I
def fb_X5_fence_1 (a1 : Int32) (a2 : Int32) (K : Mem → Int32 → Option (Int32 × Mem)) (ν : Mem) (t0 : Int32) : Option (Int32 × Mem) := ((f_X5_refused ν t0).bind fun r7 => (if r7.1 = 0 then ((f_X5_remember r7.2).bind fun r10 => ((f_X5_put (r10 1) (((35 : Int32) * a1) + (1 : Int32)) a2).bind fun r12 => some (r12.1, (va_up r10 1 r12.2)))) else some ((0 : Int32), r7.2)))
def fl_X5_fence (a1 : Int32) (a2 : Int32) : Nat → Mem → Int32 → Option (Int32 × Mem)
  | 0, _, _ => none
  | n + 1, ν, t0 => fb_X5_fence_1 a1 a2 (fl_X5_fence a1 a2 n) ν t0
def f_X5_fence (ν : Mem) (a1 : Int32) (a2 : Int32) : Option (Int32 × Mem) := ((f_X5_isSite (ν 1) a1).bind fun r1 => (if r1 = 0 then (fl_X5_fence a1 a2 FU ν (1 : Int32)) else ((f_X5_in a2.toInt64 (0 : Int64) (20 : Int64)).bind fun r4 => (if r4 = 0 then (fl_X5_fence a1 a2 FU ν (2 : Int32)) else (fl_X5_fence a1 a2 FU ν (0 : Int32))))))
def rmX5_fence : Room := { frames := 2, cells := 0, slots := 0, locals := 46 }
theorem hd_X5_fence : yX5_fence.cls ≠ "java/lang/invoke/MethodHandle" ∧ yX5_fence.cls ≠ "java/lang/invoke/VarHandle" ∧ (parseMethodDescriptor yX5_fence.desc).map (fun d => d.parameters.length) = some 2 := by decide +kernel
set_option maxHeartbeats 8000000 in
set_option maxRecDepth 100000 in
theorem c_X5_fence {l : Launch} {D : va_G} {y : Nat} {ν : Mem} (a1 : Int32) (a2 : Int32) {r : Int32 × Mem} (hf : f_X5_fence ν a1 a2 = some r) : CM l yX5_fence wsX5_fence rmX5_fence [.ref (y), .int a1, .int a2] D y ν (some (.int r.1)) r.2 := by
  refine CM.of (cc := cX5_fence) (maxL := 3) (ret := (some .int)) pn_X5 rfl (Nat.le_of_ble_eq_true rfl) ?_
  intro p e s m args below meth c F hr hlk hK
  have KEY : ∀ n : Nat, (∀ (ν : Mem) (t0 : Int32) (ls : Array Slot) (H : Heap) (locs : List Loc), lv_has ls 3 [(0, .ref (y)), (1, .int a1), (2, .int a2)] → va_P D vwCl (WM D y ν) H → va_S (rngM y) s.heap H locs → fl_X5_fence a1 a2 n ν t0 = some r → W p l e rmX5_fence s m args below meth c H locs 0 0 (MQ below (QM D y r.2 (some (.int r.1))) args s 0 0 (rngM y)) (F0 m 33 ls [.int t0, .ref (y)])) := by
    intro n
    induction n with
    | zero => exact (fun _ _ _ _ _ _ _ _ h => nomatch h)
    | succ n ih =>
      skip
      intro ν t0  ls H locs hl hP hS hf
      have hf : fb_X5_fence_1 a1 a2 (fl_X5_fence a1 a2 n) ν t0 = some r := hf
      unfold fb_X5_fence_1 at hf
      obtain ⟨r7, hr8, hf⟩ := bnd hf
      refine m_callV F hK hP hS (c_X5_refused t0 hr8) (cwV 1 F.2.2.2.2 gX5_fence_X5_refused rfl rfl rfl ⟨rfl, hd_X5_refused⟩ ⟨(Nat.le_of_ble_eq_true rfl), (Nat.le_of_ble_eq_true rfl)⟩) rfl rfl hl.1 (Nat.le_of_ble_eq_true rfl) dX5_fence_33 ⟨(Nat.le_of_ble_eq_true rfl), (Nat.le_of_ble_eq_true rfl)⟩ (rest := []) (fun H locs hP hS => ?_)
      refine W.eq (g2 := F0 m 36 ls [.int r7.1]) rfl ?_
      refine lv_if_eq (tgt := 41) F.1 F.2.1 dX5_fence_36 rfl (fun hc9 => ?_) (fun hc9 => ?_)
      · have hf := ifp hc9 hf
        refine lv_aload_n F.1 F.2.1 dX5_fence_41 rfl (lv_at hl 0 rfl) ?_
        obtain ⟨r10, hr11, hf⟩ := bnd hf
        refine m_callV F hK hP hS (c_X5_remember hr11) (cwV 0 F.2.2.2.2 gX5_fence_X5_remember rfl rfl rfl ⟨rfl, hd_X5_remember⟩ ⟨(Nat.le_of_ble_eq_true rfl), (Nat.le_of_ble_eq_true rfl)⟩) rfl rfl hl.1 (Nat.le_of_ble_eq_true rfl) dX5_fence_42 ⟨(Nat.le_of_ble_eq_true rfl), (Nat.le_of_ble_eq_true rfl)⟩ (rest := []) (fun H locs hP hS => ?_)
        refine W.eq (g2 := F0 m 45 ls []) rfl ?_
        refine lv_aload_n F.1 F.2.1 dX5_fence_45 rfl (lv_at hl 0 rfl) ?_
        refine m_getR F hK hP (fun _ h => List.mem_cons_of_mem _ (List.mem_append_right _ h)) 1 (Nat.le_of_ble_eq_true rfl) (List.mem_of_getElem? (i := 1) rfl) rfl (v := .ref (y + 1)) (fun _ => rfl) dX5_fence_46 ?_
        refine lv_bipush (v := (35 : Int32)) F.1 F.2.1 dX5_fence_49 (by decide) ?_
        refine lv_iload_n F.1 F.2.1 dX5_fence_51 rfl (lv_at hl 1 rfl) ?_
        refine lv_imul F.1 F.2.1 dX5_fence_52 ?_
        refine lv_iconst (v := (1 : Int32)) F.1 F.2.1 dX5_fence_53 (by decide) ?_
        refine lv_iadd F.1 F.2.1 dX5_fence_54 ?_
        refine lv_iload_n F.1 F.2.1 dX5_fence_55 rfl (lv_at hl 2 rfl) ?_
        obtain ⟨r12, hr13, hf⟩ := bnd hf
        have hP := m_up 1 hP
        refine m_callS F hK hP hS (c_X5_put (by decide) (by decide) (((35 : Int32) * a1) + (1 : Int32)) a2 hr13) (va_cwS 3 F.2.2.2.2 gX5_fence_X5_put rfl rfl rfl hd_X5_put ⟨(Nat.le_of_ble_eq_true rfl), (Nat.le_of_ble_eq_true rfl)⟩) rfl rfl hl.1 (Nat.le_of_ble_eq_true rfl) dX5_fence_56 ⟨(Nat.le_of_ble_eq_true rfl), (Nat.le_of_ble_eq_true rfl)⟩ (rest := []) (fun H locs hP hS => ?_)
        refine W.eq (g2 := F0 m 59 ls [.int r12.1]) rfl ?_
        obtain rfl := Option.some.inj hf
        exact m_iret F hr hlk hP hS rfl dX5_fence_59
      · have hf := ifn hc9 hf
        refine lv_iconst (v := (0 : Int32)) F.1 F.2.1 dX5_fence_39 (by decide) ?_
        obtain rfl := Option.some.inj hf
        exact m_iret F hr hlk hP hS rfl dX5_fence_40
  intro ls H locs hl hP hS
  have hl : lv_has ls 3 [(0, .ref (y)), (1, .int a1), (2, .int a2)] := hl
  unfold f_X5_fence at hf
  refine lv_aload_n F.1 F.2.1 dX5_fence_0 rfl (lv_at hl 0 rfl) ?_
  refine lv_aload_n F.1 F.2.1 dX5_fence_1 rfl (lv_at hl 0 rfl) ?_
  refine m_getR F hK hP (fun _ h => List.mem_cons_of_mem _ (List.mem_append_right _ h)) 1 (Nat.le_of_ble_eq_true rfl) (List.mem_of_getElem? (i := 1) rfl) rfl (v := .ref (y + 1)) (fun _ => rfl) dX5_fence_2 ?_
  refine lv_iload_n F.1 F.2.1 dX5_fence_5 rfl (lv_at hl 1 rfl) ?_
  obtain ⟨r1, hr2, hf⟩ := bnd hf
  refine m_callS F hK hP hS (c_X5_isSite (by decide) (by decide) rfl a1 hr2) (va_cwS 2 F.2.2.2.2 gX5_fence_X5_isSite rfl rfl rfl hd_X5_isSite ⟨(Nat.le_of_ble_eq_true rfl), (Nat.le_of_ble_eq_true rfl)⟩) rfl rfl hl.1 (Nat.le_of_ble_eq_true rfl) dX5_fence_6 ⟨(Nat.le_of_ble_eq_true rfl), (Nat.le_of_ble_eq_true rfl)⟩ (rest := [.ref (y)]) (fun H locs hP hS => ?_)
  refine W.eq (g2 := F0 m 9 ls [.int r1, .ref (y)]) rfl ?_
  refine lv_if_ne (tgt := 16) F.1 F.2.1 dX5_fence_9 rfl (fun hc3 => ?_) (fun hc3 => ?_)
  · have hf := ifn hc3 hf
    refine lv_iload_n F.1 F.2.1 dX5_fence_16 rfl (lv_at hl 2 rfl) ?_
    refine lv_i2l (v := a2.toInt64) F.1 F.2.1 dX5_fence_17 rfl ?_
    refine lv_lconst (v := (0 : Int64)) F.1 F.2.1 dX5_fence_18 rfl ?_
    refine lv_ldc2 (v := (20 : Int64)) F.1 F.2.1 F.2.2.2.1 (F.2.2.2.2 _ (List.mem_of_getElem? (i := 2) rfl)) dX5_fence_19 ?_
    obtain ⟨r4, hr5, hf⟩ := bnd hf
    refine m_callS F hK hP hS (c_X5_in a2.toInt64 (0 : Int64) (20 : Int64) hr5) (va_cwS 3 F.2.2.2.2 gX5_fence_X5_in rfl rfl rfl hd_X5_in ⟨(Nat.le_of_ble_eq_true rfl), (Nat.le_of_ble_eq_true rfl)⟩) rfl rfl hl.1 (Nat.le_of_ble_eq_true rfl) dX5_fence_22 ⟨(Nat.le_of_ble_eq_true rfl), (Nat.le_of_ble_eq_true rfl)⟩ (rest := [.ref (y)]) (fun H locs hP hS => ?_)
    refine W.eq (g2 := F0 m 25 ls [.int r4, .ref (y)]) rfl ?_
    refine lv_if_ne (tgt := 32) F.1 F.2.1 dX5_fence_25 rfl (fun hc6 => ?_) (fun hc6 => ?_)
    · have hf := ifn hc6 hf
      refine lv_iconst (v := (0 : Int32)) F.1 F.2.1 dX5_fence_32 (by decide) ?_
      exact (KEY FU) ν (0 : Int32) _ _ _ (lv_sub hl [0, 1, 2] rfl) hP hS hf
    · have hf := ifp hc6 hf
      refine lv_iconst (v := (2 : Int32)) F.1 F.2.1 dX5_fence_28 (by decide) ?_
      refine lv_goto (tgt := 33) F.1 F.2.1 dX5_fence_29 rfl ?_
      exact (KEY FU) ν (2 : Int32) _ _ _ (lv_sub hl [0, 1, 2] rfl) hP hS hf
  · have hf := ifp hc3 hf
    refine lv_iconst (v := (1 : Int32)) F.1 F.2.1 dX5_fence_12 (by decide) ?_
    refine lv_goto (tgt := 33) F.1 F.2.1 dX5_fence_13 rfl ?_
    exact (KEY FU) ν (1 : Int32) _ _ _ (lv_sub hl [0, 1, 2] rfl) hP hS hf

-- FrostTubesModel.shovel(I)I
def fb_X5_shovel_1 (a1 : Int32) (K : Mem → Int32 → Option (Int32 × Mem)) (ν : Mem) (t0 : Int32) : Option (Int32 × Mem) := ((f_X5_refused ν t0).bind fun r4 => (if r4.1 = 0 then ((f_X5_remember r4.2).bind fun r7 => ((f_X5_put (r7 1) (((35 : Int32) * a1) + (0 : Int32)) (0 : Int32)).bind fun r9 => some (r9.1, (va_up r7 1 r9.2)))) else some ((0 : Int32), r4.2)))
def fl_X5_shovel (a1 : Int32) : Nat → Mem → Int32 → Option (Int32 × Mem)
  | 0, _, _ => none
  | n + 1, ν, t0 => fb_X5_shovel_1 a1 (fl_X5_shovel a1 n) ν t0
def f_X5_shovel (ν : Mem) (a1 : Int32) : Option (Int32 × Mem) := ((f_X5_isSite (ν 1) a1).bind fun r1 => (if r1 = 0 then (fl_X5_shovel a1 FU ν (1 : Int32)) else (fl_X5_shovel a1 FU ν (0 : Int32))))
def rmX5_shovel : Room := { frames := 2, cells := 0, slots := 0, locals := 46 }
theorem hd_X5_shovel : yX5_shovel.cls ≠ "java/lang/invoke/MethodHandle" ∧ yX5_shovel.cls ≠ "java/lang/invoke/VarHandle" ∧ (parseMethodDescriptor yX5_shovel.desc).map (fun d => d.parameters.length) = some 1 := by decide +kernel
set_option maxHeartbeats 8000000 in
set_option maxRecDepth 100000 in
theorem c_X5_shovel {l : Launch} {D : va_G} {y : Nat} {ν : Mem} (a1 : Int32) {r : Int32 × Mem} (hf : f_X5_shovel ν a1 = some r) : CM l yX5_shovel wsX5_shovel rmX5_shovel [.ref (y), .int a1] D y ν (some (.int r.1)) r.2 := by
  refine CM.of (cc := cX5_shovel) (maxL := 2) (ret := (some .int)) pn_X5 rfl (Nat.le_of_ble_eq_true rfl) ?_
  intro p e s m args below meth c F hr hlk hK
  have KEY : ∀ n : Nat, (∀ (ν : Mem) (t0 : Int32) (ls : Array Slot) (H : Heap) (locs : List Loc), lv_has ls 2 [(0, .ref (y)), (1, .int a1)] → va_P D vwCl (WM D y ν) H → va_S (rngM y) s.heap H locs → fl_X5_shovel a1 n ν t0 = some r → W p l e rmX5_shovel s m args below meth c H locs 0 0 (MQ below (QM D y r.2 (some (.int r.1))) args s 0 0 (rngM y)) (F0 m 17 ls [.int t0, .ref (y)])) := by
    intro n
    induction n with
    | zero => exact (fun _ _ _ _ _ _ _ _ h => nomatch h)
    | succ n ih =>
      skip
      intro ν t0  ls H locs hl hP hS hf
      have hf : fb_X5_shovel_1 a1 (fl_X5_shovel a1 n) ν t0 = some r := hf
      unfold fb_X5_shovel_1 at hf
      obtain ⟨r4, hr5, hf⟩ := bnd hf
      refine m_callV F hK hP hS (c_X5_refused t0 hr5) (cwV 1 F.2.2.2.2 gX5_shovel_X5_refused rfl rfl rfl ⟨rfl, hd_X5_refused⟩ ⟨(Nat.le_of_ble_eq_true rfl), (Nat.le_of_ble_eq_true rfl)⟩) rfl rfl hl.1 (Nat.le_of_ble_eq_true rfl) dX5_shovel_17 ⟨(Nat.le_of_ble_eq_true rfl), (Nat.le_of_ble_eq_true rfl)⟩ (rest := []) (fun H locs hP hS => ?_)
      refine W.eq (g2 := F0 m 20 ls [.int r4.1]) rfl ?_
      refine lv_if_eq (tgt := 25) F.1 F.2.1 dX5_shovel_20 rfl (fun hc6 => ?_) (fun hc6 => ?_)
      · have hf := ifp hc6 hf
        refine lv_aload_n F.1 F.2.1 dX5_shovel_25 rfl (lv_at hl 0 rfl) ?_
        obtain ⟨r7, hr8, hf⟩ := bnd hf
        refine m_callV F hK hP hS (c_X5_remember hr8) (cwV 0 F.2.2.2.2 gX5_shovel_X5_remember rfl rfl rfl ⟨rfl, hd_X5_remember⟩ ⟨(Nat.le_of_ble_eq_true rfl), (Nat.le_of_ble_eq_true rfl)⟩) rfl rfl hl.1 (Nat.le_of_ble_eq_true rfl) dX5_shovel_26 ⟨(Nat.le_of_ble_eq_true rfl), (Nat.le_of_ble_eq_true rfl)⟩ (rest := []) (fun H locs hP hS => ?_)
        refine W.eq (g2 := F0 m 29 ls []) rfl ?_
        refine lv_aload_n F.1 F.2.1 dX5_shovel_29 rfl (lv_at hl 0 rfl) ?_
        refine m_getR F hK hP (fun _ h => List.mem_cons_of_mem _ (List.mem_append_right _ h)) 1 (Nat.le_of_ble_eq_true rfl) (List.mem_of_getElem? (i := 1) rfl) rfl (v := .ref (y + 1)) (fun _ => rfl) dX5_shovel_30 ?_
        refine lv_bipush (v := (35 : Int32)) F.1 F.2.1 dX5_shovel_33 (by decide) ?_
        refine lv_iload_n F.1 F.2.1 dX5_shovel_35 rfl (lv_at hl 1 rfl) ?_
        refine lv_imul F.1 F.2.1 dX5_shovel_36 ?_
        refine lv_iconst (v := (0 : Int32)) F.1 F.2.1 dX5_shovel_37 (by decide) ?_
        refine lv_iadd F.1 F.2.1 dX5_shovel_38 ?_
        refine lv_iconst (v := (0 : Int32)) F.1 F.2.1 dX5_shovel_39 (by decide) ?_
        obtain ⟨r9, hr10, hf⟩ := bnd hf
        have hP := m_up 1 hP
        refine m_callS F hK hP hS (c_X5_put (by decide) (by decide) (((35 : Int32) * a1) + (0 : Int32)) (0 : Int32) hr10) (va_cwS 3 F.2.2.2.2 gX5_shovel_X5_put rfl rfl rfl hd_X5_put ⟨(Nat.le_of_ble_eq_true rfl), (Nat.le_of_ble_eq_true rfl)⟩) rfl rfl hl.1 (Nat.le_of_ble_eq_true rfl) dX5_shovel_40 ⟨(Nat.le_of_ble_eq_true rfl), (Nat.le_of_ble_eq_true rfl)⟩ (rest := []) (fun H locs hP hS => ?_)
        refine W.eq (g2 := F0 m 43 ls [.int r9.1]) rfl ?_
        obtain rfl := Option.some.inj hf
        exact m_iret F hr hlk hP hS rfl dX5_shovel_43
      · have hf := ifn hc6 hf
        refine lv_iconst (v := (0 : Int32)) F.1 F.2.1 dX5_shovel_23 (by decide) ?_
        obtain rfl := Option.some.inj hf
        exact m_iret F hr hlk hP hS rfl dX5_shovel_24
  intro ls H locs hl hP hS
  have hl : lv_has ls 2 [(0, .ref (y)), (1, .int a1)] := hl
  unfold f_X5_shovel at hf
  refine lv_aload_n F.1 F.2.1 dX5_shovel_0 rfl (lv_at hl 0 rfl) ?_
  refine lv_aload_n F.1 F.2.1 dX5_shovel_1 rfl (lv_at hl 0 rfl) ?_
  refine m_getR F hK hP (fun _ h => List.mem_cons_of_mem _ (List.mem_append_right _ h)) 1 (Nat.le_of_ble_eq_true rfl) (List.mem_of_getElem? (i := 1) rfl) rfl (v := .ref (y + 1)) (fun _ => rfl) dX5_shovel_2 ?_
  refine lv_iload_n F.1 F.2.1 dX5_shovel_5 rfl (lv_at hl 1 rfl) ?_
  obtain ⟨r1, hr2, hf⟩ := bnd hf
  refine m_callS F hK hP hS (c_X5_isSite (by decide) (by decide) rfl a1 hr2) (va_cwS 2 F.2.2.2.2 gX5_shovel_X5_isSite rfl rfl rfl hd_X5_isSite ⟨(Nat.le_of_ble_eq_true rfl), (Nat.le_of_ble_eq_true rfl)⟩) rfl rfl hl.1 (Nat.le_of_ble_eq_true rfl) dX5_shovel_6 ⟨(Nat.le_of_ble_eq_true rfl), (Nat.le_of_ble_eq_true rfl)⟩ (rest := [.ref (y)]) (fun H locs hP hS => ?_)
  refine W.eq (g2 := F0 m 9 ls [.int r1, .ref (y)]) rfl ?_
  refine lv_if_eq (tgt := 16) F.1 F.2.1 dX5_shovel_9 rfl (fun hc3 => ?_) (fun hc3 => ?_)
  · have hf := ifp hc3 hf
    refine lv_iconst (v := (1 : Int32)) F.1 F.2.1 dX5_shovel_16 (by decide) ?_
    exact (KEY FU) ν (1 : Int32) _ _ _ (lv_sub hl [0, 1] rfl) hP hS hf
  · have hf := ifn hc3 hf
    refine lv_iconst (v := (0 : Int32)) F.1 F.2.1 dX5_shovel_12 (by decide) ?_
    refine lv_goto (tgt := 17) F.1 F.2.1 dX5_shovel_13 rfl ?_
    exact (KEY FU) ν (0 : Int32) _ _ _ (lv_sub hl [0, 1] rfl) hP hS hf

-- FrostTubesModel.days(III)I
def fb_X5_days_1 (a1 : Int32) (a2 : Int32) (a3 : Int32) (K : Mem → Int32 → Option (Int32 × Mem)) (ν : Mem) (t0 : Int32) : Option (Int32 × Mem) := ((f_X5_refused ν t0).bind fun r7 => (if r7.1 = 0 then ((f_X5_remember r7.2).bind fun r10 => ((f_X5_goDays (r10 1) a1 a2 a3).bind fun r12 => some (r12.1, (va_up r10 1 r12.2)))) else some ((0 : Int32), r7.2)))
def fl_X5_days (a1 : Int32) (a2 : Int32) (a3 : Int32) : Nat → Mem → Int32 → Option (Int32 × Mem)
  | 0, _, _ => none
  | n + 1, ν, t0 => fb_X5_days_1 a1 a2 a3 (fl_X5_days a1 a2 a3 n) ν t0
def f_X5_days (ν : Mem) (a1 : Int32) (a2 : Int32) (a3 : Int32) : Option (Int32 × Mem) := ((f_X5_isWeather a1 a2 a3).bind fun r1 => (if r1 = 0 then (fl_X5_days a1 a2 a3 FU ν (1 : Int32)) else ((f_X5_hasDays (ν 1) a3).bind fun r4 => (if r4 = 0 then (fl_X5_days a1 a2 a3 FU ν (2 : Int32)) else (fl_X5_days a1 a2 a3 FU ν (0 : Int32))))))
def rmX5_days : Room := { frames := 6, cells := 0, slots := 0, locals := 139 }
theorem hd_X5_days : yX5_days.cls ≠ "java/lang/invoke/MethodHandle" ∧ yX5_days.cls ≠ "java/lang/invoke/VarHandle" ∧ (parseMethodDescriptor yX5_days.desc).map (fun d => d.parameters.length) = some 3 := by decide +kernel
set_option maxHeartbeats 8000000 in
set_option maxRecDepth 100000 in
theorem c_X5_days {l : Launch} {D : va_G} {y : Nat} {ν : Mem} (a1 : Int32) (a2 : Int32) (a3 : Int32) {r : Int32 × Mem} (hf : f_X5_days ν a1 a2 a3 = some r) : CM l yX5_days wsX5_days rmX5_days [.ref (y), .int a1, .int a2, .int a3] D y ν (some (.int r.1)) r.2 := by
  refine CM.of (cc := cX5_days) (maxL := 4) (ret := (some .int)) pn_X5 rfl (Nat.le_of_ble_eq_true rfl) ?_
  intro p e s m args below meth c F hr hlk hK
  have KEY : ∀ n : Nat, (∀ (ν : Mem) (t0 : Int32) (ls : Array Slot) (H : Heap) (locs : List Loc), lv_has ls 4 [(0, .ref (y)), (1, .int a1), (2, .int a2), (3, .int a3)] → va_P D vwCl (WM D y ν) H → va_S (rngM y) s.heap H locs → fl_X5_days a1 a2 a3 n ν t0 = some r → W p l e rmX5_days s m args below meth c H locs 0 0 (MQ below (QM D y r.2 (some (.int r.1))) args s 0 0 (rngM y)) (F0 m 30 ls [.int t0, .ref (y)])) := by
    intro n
    induction n with
    | zero => exact (fun _ _ _ _ _ _ _ _ h => nomatch h)
    | succ n ih =>
      skip
      intro ν t0  ls H locs hl hP hS hf
      have hf : fb_X5_days_1 a1 a2 a3 (fl_X5_days a1 a2 a3 n) ν t0 = some r := hf
      unfold fb_X5_days_1 at hf
      obtain ⟨r7, hr8, hf⟩ := bnd hf
      refine m_callV F hK hP hS (c_X5_refused t0 hr8) (cwV 1 F.2.2.2.2 gX5_days_X5_refused rfl rfl rfl ⟨rfl, hd_X5_refused⟩ ⟨(Nat.le_of_ble_eq_true rfl), (Nat.le_of_ble_eq_true rfl)⟩) rfl rfl hl.1 (Nat.le_of_ble_eq_true rfl) dX5_days_30 ⟨(Nat.le_of_ble_eq_true rfl), (Nat.le_of_ble_eq_true rfl)⟩ (rest := []) (fun H locs hP hS => ?_)
      refine W.eq (g2 := F0 m 33 ls [.int r7.1]) rfl ?_
      refine lv_if_eq (tgt := 38) F.1 F.2.1 dX5_days_33 rfl (fun hc9 => ?_) (fun hc9 => ?_)
      · have hf := ifp hc9 hf
        refine lv_aload_n F.1 F.2.1 dX5_days_38 rfl (lv_at hl 0 rfl) ?_
        obtain ⟨r10, hr11, hf⟩ := bnd hf
        refine m_callV F hK hP hS (c_X5_remember hr11) (cwV 0 F.2.2.2.2 gX5_days_X5_remember rfl rfl rfl ⟨rfl, hd_X5_remember⟩ ⟨(Nat.le_of_ble_eq_true rfl), (Nat.le_of_ble_eq_true rfl)⟩) rfl rfl hl.1 (Nat.le_of_ble_eq_true rfl) dX5_days_39 ⟨(Nat.le_of_ble_eq_true rfl), (Nat.le_of_ble_eq_true rfl)⟩ (rest := []) (fun H locs hP hS => ?_)
        refine W.eq (g2 := F0 m 42 ls []) rfl ?_
        refine lv_aload_n F.1 F.2.1 dX5_days_42 rfl (lv_at hl 0 rfl) ?_
        refine m_getR F hK hP (fun _ h => List.mem_cons_of_mem _ (List.mem_append_right _ h)) 1 (Nat.le_of_ble_eq_true rfl) (List.mem_of_getElem? (i := 1) rfl) rfl (v := .ref (y + 1)) (fun _ => rfl) dX5_days_43 ?_
        refine lv_iload_n F.1 F.2.1 dX5_days_46 rfl (lv_at hl 1 rfl) ?_
        refine lv_iload_n F.1 F.2.1 dX5_days_47 rfl (lv_at hl 2 rfl) ?_
        refine lv_iload_n F.1 F.2.1 dX5_days_48 rfl (lv_at hl 3 rfl) ?_
        obtain ⟨r12, hr13, hf⟩ := bnd hf
        have hP := m_up 1 hP
        refine m_callS F hK hP hS (c_X5_goDays (by decide) (by decide) a1 a2 a3 hr13) (va_cwS 4 F.2.2.2.2 gX5_days_X5_goDays rfl rfl rfl hd_X5_goDays ⟨(Nat.le_of_ble_eq_true rfl), (Nat.le_of_ble_eq_true rfl)⟩) rfl rfl hl.1 (Nat.le_of_ble_eq_true rfl) dX5_days_49 ⟨(Nat.le_of_ble_eq_true rfl), (Nat.le_of_ble_eq_true rfl)⟩ (rest := []) (fun H locs hP hS => ?_)
        refine W.eq (g2 := F0 m 52 ls [.int r12.1]) rfl ?_
        obtain rfl := Option.some.inj hf
        exact m_iret F hr hlk hP hS rfl dX5_days_52
      · have hf := ifn hc9 hf
        refine lv_iconst (v := (0 : Int32)) F.1 F.2.1 dX5_days_36 (by decide) ?_
        obtain rfl := Option.some.inj hf
        exact m_iret F hr hlk hP hS rfl dX5_days_37
  intro ls H locs hl hP hS
  have hl : lv_has ls 4 [(0, .ref (y)), (1, .int a1), (2, .int a2), (3, .int a3)] := hl
  unfold f_X5_days at hf
  refine lv_aload_n F.1 F.2.1 dX5_days_0 rfl (lv_at hl 0 rfl) ?_
  refine lv_iload_n F.1 F.2.1 dX5_days_1 rfl (lv_at hl 1 rfl) ?_
  refine lv_iload_n F.1 F.2.1 dX5_days_2 rfl (lv_at hl 2 rfl) ?_
  refine lv_iload_n F.1 F.2.1 dX5_days_3 rfl (lv_at hl 3 rfl) ?_
  obtain ⟨r1, hr2, hf⟩ := bnd hf
  refine m_callS F hK hP hS (c_X5_isWeather a1 a2 a3 hr2) (va_cwS 3 F.2.2.2.2 gX5_days_X5_isWeather rfl rfl rfl hd_X5_isWeather ⟨(Nat.le_of_ble_eq_true rfl), (Nat.le_of_ble_eq_true rfl)⟩) rfl rfl hl.1 (Nat.le_of_ble_eq_true rfl) dX5_days_4 ⟨(Nat.le_of_ble_eq_true rfl), (Nat.le_of_ble_eq_true rfl)⟩ (rest := [.ref (y)]) (fun H locs hP hS => ?_)
  refine W.eq (g2 := F0 m 7 ls [.int r1, .ref (y)]) rfl ?_
  refine lv_if_ne (tgt := 14) F.1 F.2.1 dX5_days_7 rfl (fun hc3 => ?_) (fun hc3 => ?_)
  · have hf := ifn hc3 hf
    refine lv_aload_n F.1 F.2.1 dX5_days_14 rfl (lv_at hl 0 rfl) ?_
    refine m_getR F hK hP (fun _ h => List.mem_cons_of_mem _ (List.mem_append_right _ h)) 1 (Nat.le_of_ble_eq_true rfl) (List.mem_of_getElem? (i := 1) rfl) rfl (v := .ref (y + 1)) (fun _ => rfl) dX5_days_15 ?_
    refine lv_iload_n F.1 F.2.1 dX5_days_18 rfl (lv_at hl 3 rfl) ?_
    obtain ⟨r4, hr5, hf⟩ := bnd hf
    refine m_callS F hK hP hS (c_X5_hasDays (by decide) (by decide) rfl a3 hr5) (va_cwS 2 F.2.2.2.2 gX5_days_X5_hasDays rfl rfl rfl hd_X5_hasDays ⟨(Nat.le_of_ble_eq_true rfl), (Nat.le_of_ble_eq_true rfl)⟩) rfl rfl hl.1 (Nat.le_of_ble_eq_true rfl) dX5_days_19 ⟨(Nat.le_of_ble_eq_true rfl), (Nat.le_of_ble_eq_true rfl)⟩ (rest := [.ref (y)]) (fun H locs hP hS => ?_)
    refine W.eq (g2 := F0 m 22 ls [.int r4, .ref (y)]) rfl ?_
    refine lv_if_ne (tgt := 29) F.1 F.2.1 dX5_days_22 rfl (fun hc6 => ?_) (fun hc6 => ?_)
    · have hf := ifn hc6 hf
      refine lv_iconst (v := (0 : Int32)) F.1 F.2.1 dX5_days_29 (by decide) ?_
      exact (KEY FU) ν (0 : Int32) _ _ _ (lv_sub hl [0, 1, 2, 3] rfl) hP hS hf
    · have hf := ifp hc6 hf
      refine lv_iconst (v := (2 : Int32)) F.1 F.2.1 dX5_days_25 (by decide) ?_
      refine lv_goto (tgt := 30) F.1 F.2.1 dX5_days_26 rfl ?_
      exact (KEY FU) ν (2 : Int32) _ _ _ (lv_sub hl [0, 1, 2, 3] rfl) hP hS hf
  · have hf := ifp hc3 hf
    refine lv_iconst (v := (1 : Int32)) F.1 F.2.1 dX5_days_10 (by decide) ?_
    refine lv_goto (tgt := 30) F.1 F.2.1 dX5_days_11 rfl ?_
    exact (KEY FU) ν (1 : Int32) _ _ _ (lv_sub hl [0, 1, 2, 3] rfl) hP hS hf

-- FrostTubesModel.winter()I
def f_X5_winter (ν : Mem) : Option (Int32 × Mem) := ((f_X5_remember (va_up ν 0 (upd (ν 0) 0 (0 : Int32)))).bind fun r1 => ((f_X5_beginWinter (r1 1)).bind fun r3 => some (r3.1, (va_up r1 1 r3.2))))
def rmX5_winter : Room := { frames := 2, cells := 0, slots := 0, locals := 46 }
theorem hd_X5_winter : yX5_winter.cls ≠ "java/lang/invoke/MethodHandle" ∧ yX5_winter.cls ≠ "java/lang/invoke/VarHandle" ∧ (parseMethodDescriptor yX5_winter.desc).map (fun d => d.parameters.length) = some 0 := by decide +kernel
set_option maxHeartbeats 8000000 in
set_option maxRecDepth 100000 in
theorem c_X5_winter {l : Launch} {D : va_G} {y : Nat} {ν : Mem} {r : Int32 × Mem} (hf : f_X5_winter ν = some r) : CM l yX5_winter wsX5_winter rmX5_winter [.ref (y)] D y ν (some (.int r.1)) r.2 := by
  refine CM.of (cc := cX5_winter) (maxL := 1) (ret := (some .int)) pn_X5 rfl (Nat.le_of_ble_eq_true rfl) ?_
  intro p e s m args below meth c F hr hlk hK
  intro ls H locs hl hP hS
  have hl : lv_has ls 1 [(0, .ref (y))] := hl
  unfold f_X5_winter at hf
  refine lv_aload_n F.1 F.2.1 dX5_winter_0 rfl (lv_at hl 0 rfl) ?_
  refine lv_iconst (v := (0 : Int32)) F.1 F.2.1 dX5_winter_1 (by decide) ?_
  have hP := m_up 0 hP
  refine m_putI F hK hP hS (fun _ h => List.mem_cons_of_mem _ (List.mem_append_right _ h)) 0 (Nat.le_of_ble_eq_true rfl) (List.mem_of_getElem? (i := 1) rfl) rfl rfl (ty := .int) rfl rfl rfl (fun _ _ => rfl) dX5_winter_2 (fun H locs hP hS => ?_)
  refine lv_aload_n F.1 F.2.1 dX5_winter_5 rfl (lv_at hl 0 rfl) ?_
  obtain ⟨r1, hr2, hf⟩ := bnd hf
  refine m_callV F hK hP hS (c_X5_remember hr2) (cwV 0 F.2.2.2.2 gX5_winter_X5_remember rfl rfl rfl ⟨rfl, hd_X5_remember⟩ ⟨(Nat.le_of_ble_eq_true rfl), (Nat.le_of_ble_eq_true rfl)⟩) rfl rfl hl.1 (Nat.le_of_ble_eq_true rfl) dX5_winter_6 ⟨(Nat.le_of_ble_eq_true rfl), (Nat.le_of_ble_eq_true rfl)⟩ (rest := []) (fun H locs hP hS => ?_)
  refine W.eq (g2 := F0 m 9 ls []) rfl ?_
  refine lv_aload_n F.1 F.2.1 dX5_winter_9 rfl (lv_at hl 0 rfl) ?_
  refine m_getR F hK hP (fun _ h => List.mem_cons_of_mem _ (List.mem_append_right _ h)) 1 (Nat.le_of_ble_eq_true rfl) (List.mem_of_getElem? (i := 2) rfl) rfl (v := .ref (y + 1)) (fun _ => rfl) dX5_winter_10 ?_
  obtain ⟨r3, hr4, hf⟩ := bnd hf
  have hP := m_up 1 hP
  refine m_callS F hK hP hS (c_X5_beginWinter (by decide) (by decide) hr4) (va_cwS 1 F.2.2.2.2 gX5_winter_X5_beginWinter rfl rfl rfl hd_X5_beginWinter ⟨(Nat.le_of_ble_eq_true rfl), (Nat.le_of_ble_eq_true rfl)⟩) rfl rfl hl.1 (Nat.le_of_ble_eq_true rfl) dX5_winter_13 ⟨(Nat.le_of_ble_eq_true rfl), (Nat.le_of_ble_eq_true rfl)⟩ (rest := []) (fun H locs hP hS => ?_)
  refine W.eq (g2 := F0 m 16 ls [.int r3.1]) rfl ?_
  obtain rfl := Option.some.inj hf
  exact m_iret F hr hlk hP hS rfl dX5_winter_16

-- FrostTubesModel.set(II)I
def fb_X5_set_1 (a1 : Int32) (a2 : Int32) (K : Mem → Int32 → Option (Int32 × Mem)) (ν : Mem) (t0 : Int32) : Option (Int32 × Mem) := ((f_X5_refused ν t0).bind fun r4 => (if r4.1 = 0 then ((f_X5_remember r4.2).bind fun r7 => ((f_X5_put (r7 1) ((202 : Int32) + a1) a2).bind fun r9 => some (r9.1, (va_up r7 1 r9.2)))) else some ((0 : Int32), r4.2)))
def fl_X5_set (a1 : Int32) (a2 : Int32) : Nat → Mem → Int32 → Option (Int32 × Mem)
  | 0, _, _ => none
  | n + 1, ν, t0 => fb_X5_set_1 a1 a2 (fl_X5_set a1 a2 n) ν t0
def f_X5_set (ν : Mem) (a1 : Int32) (a2 : Int32) : Option (Int32 × Mem) := ((f_X5_isSetting a1 a2).bind fun r1 => (if r1 = 0 then (fl_X5_set a1 a2 FU ν (1 : Int32)) else (fl_X5_set a1 a2 FU ν (0 : Int32))))
def rmX5_set : Room := { frames := 2, cells := 0, slots := 0, locals := 46 }
theorem hd_X5_set : yX5_set.cls ≠ "java/lang/invoke/MethodHandle" ∧ yX5_set.cls ≠ "java/lang/invoke/VarHandle" ∧ (parseMethodDescriptor yX5_set.desc).map (fun d => d.parameters.length) = some 2 := by decide +kernel
set_option maxHeartbeats 8000000 in
set_option maxRecDepth 100000 in
theorem c_X5_set {l : Launch} {D : va_G} {y : Nat} {ν : Mem} (a1 : Int32) (a2 : Int32) {r : Int32 × Mem} (hf : f_X5_set ν a1 a2 = some r) : CM l yX5_set wsX5_set rmX5_set [.ref (y), .int a1, .int a2] D y ν (some (.int r.1)) r.2 := by
  refine CM.of (cc := cX5_set) (maxL := 3) (ret := (some .int)) pn_X5 rfl (Nat.le_of_ble_eq_true rfl) ?_
  intro p e s m args below meth c F hr hlk hK
  have KEY : ∀ n : Nat, (∀ (ν : Mem) (t0 : Int32) (ls : Array Slot) (H : Heap) (locs : List Loc), lv_has ls 3 [(0, .ref (y)), (1, .int a1), (2, .int a2)] → va_P D vwCl (WM D y ν) H → va_S (rngM y) s.heap H locs → fl_X5_set a1 a2 n ν t0 = some r → W p l e rmX5_set s m args below meth c H locs 0 0 (MQ below (QM D y r.2 (some (.int r.1))) args s 0 0 (rngM y)) (F0 m 14 ls [.int t0, .ref (y)])) := by
    intro n
    induction n with
    | zero => exact (fun _ _ _ _ _ _ _ _ h => nomatch h)
    | succ n ih =>
      skip
      intro ν t0  ls H locs hl hP hS hf
      have hf : fb_X5_set_1 a1 a2 (fl_X5_set a1 a2 n) ν t0 = some r := hf
      unfold fb_X5_set_1 at hf
      obtain ⟨r4, hr5, hf⟩ := bnd hf
      refine m_callV F hK hP hS (c_X5_refused t0 hr5) (cwV 1 F.2.2.2.2 gX5_set_X5_refused rfl rfl rfl ⟨rfl, hd_X5_refused⟩ ⟨(Nat.le_of_ble_eq_true rfl), (Nat.le_of_ble_eq_true rfl)⟩) rfl rfl hl.1 (Nat.le_of_ble_eq_true rfl) dX5_set_14 ⟨(Nat.le_of_ble_eq_true rfl), (Nat.le_of_ble_eq_true rfl)⟩ (rest := []) (fun H locs hP hS => ?_)
      refine W.eq (g2 := F0 m 17 ls [.int r4.1]) rfl ?_
      refine lv_if_eq (tgt := 22) F.1 F.2.1 dX5_set_17 rfl (fun hc6 => ?_) (fun hc6 => ?_)
      · have hf := ifp hc6 hf
        refine lv_aload_n F.1 F.2.1 dX5_set_22 rfl (lv_at hl 0 rfl) ?_
        obtain ⟨r7, hr8, hf⟩ := bnd hf
        refine m_callV F hK hP hS (c_X5_remember hr8) (cwV 0 F.2.2.2.2 gX5_set_X5_remember rfl rfl rfl ⟨rfl, hd_X5_remember⟩ ⟨(Nat.le_of_ble_eq_true rfl), (Nat.le_of_ble_eq_true rfl)⟩) rfl rfl hl.1 (Nat.le_of_ble_eq_true rfl) dX5_set_23 ⟨(Nat.le_of_ble_eq_true rfl), (Nat.le_of_ble_eq_true rfl)⟩ (rest := []) (fun H locs hP hS => ?_)
        refine W.eq (g2 := F0 m 26 ls []) rfl ?_
        refine lv_aload_n F.1 F.2.1 dX5_set_26 rfl (lv_at hl 0 rfl) ?_
        refine m_getR F hK hP (fun _ h => List.mem_cons_of_mem _ (List.mem_append_right _ h)) 1 (Nat.le_of_ble_eq_true rfl) (List.mem_of_getElem? (i := 1) rfl) rfl (v := .ref (y + 1)) (fun _ => rfl) dX5_set_27 ?_
        refine lv_sipush (v := (202 : Int32)) F.1 F.2.1 dX5_set_30 (by decide) ?_
        refine lv_iload_n F.1 F.2.1 dX5_set_33 rfl (lv_at hl 1 rfl) ?_
        refine lv_iadd F.1 F.2.1 dX5_set_34 ?_
        refine lv_iload_n F.1 F.2.1 dX5_set_35 rfl (lv_at hl 2 rfl) ?_
        obtain ⟨r9, hr10, hf⟩ := bnd hf
        have hP := m_up 1 hP
        refine m_callS F hK hP hS (c_X5_put (by decide) (by decide) ((202 : Int32) + a1) a2 hr10) (va_cwS 3 F.2.2.2.2 gX5_set_X5_put rfl rfl rfl hd_X5_put ⟨(Nat.le_of_ble_eq_true rfl), (Nat.le_of_ble_eq_true rfl)⟩) rfl rfl hl.1 (Nat.le_of_ble_eq_true rfl) dX5_set_36 ⟨(Nat.le_of_ble_eq_true rfl), (Nat.le_of_ble_eq_true rfl)⟩ (rest := []) (fun H locs hP hS => ?_)
        refine W.eq (g2 := F0 m 39 ls [.int r9.1]) rfl ?_
        obtain rfl := Option.some.inj hf
        exact m_iret F hr hlk hP hS rfl dX5_set_39
      · have hf := ifn hc6 hf
        refine lv_iconst (v := (0 : Int32)) F.1 F.2.1 dX5_set_20 (by decide) ?_
        obtain rfl := Option.some.inj hf
        exact m_iret F hr hlk hP hS rfl dX5_set_21
  intro ls H locs hl hP hS
  have hl : lv_has ls 3 [(0, .ref (y)), (1, .int a1), (2, .int a2)] := hl
  unfold f_X5_set at hf
  refine lv_aload_n F.1 F.2.1 dX5_set_0 rfl (lv_at hl 0 rfl) ?_
  refine lv_iload_n F.1 F.2.1 dX5_set_1 rfl (lv_at hl 1 rfl) ?_
  refine lv_iload_n F.1 F.2.1 dX5_set_2 rfl (lv_at hl 2 rfl) ?_
  obtain ⟨r1, hr2, hf⟩ := bnd hf
  refine m_callS F hK hP hS (c_X5_isSetting a1 a2 hr2) (va_cwS 2 F.2.2.2.2 gX5_set_X5_isSetting rfl rfl rfl hd_X5_isSetting ⟨(Nat.le_of_ble_eq_true rfl), (Nat.le_of_ble_eq_true rfl)⟩) rfl rfl hl.1 (Nat.le_of_ble_eq_true rfl) dX5_set_3 ⟨(Nat.le_of_ble_eq_true rfl), (Nat.le_of_ble_eq_true rfl)⟩ (rest := [.ref (y)]) (fun H locs hP hS => ?_)
  refine W.eq (g2 := F0 m 6 ls [.int r1, .ref (y)]) rfl ?_
  refine lv_if_eq (tgt := 13) F.1 F.2.1 dX5_set_6 rfl (fun hc3 => ?_) (fun hc3 => ?_)
  · have hf := ifp hc3 hf
    refine lv_iconst (v := (1 : Int32)) F.1 F.2.1 dX5_set_13 (by decide) ?_
    exact (KEY FU) ν (1 : Int32) _ _ _ (lv_sub hl [0, 1, 2] rfl) hP hS hf
  · have hf := ifn hc3 hf
    refine lv_iconst (v := (0 : Int32)) F.1 F.2.1 dX5_set_9 (by decide) ?_
    refine lv_goto (tgt := 14) F.1 F.2.1 dX5_set_10 rfl ?_
    exact (KEY FU) ν (0 : Int32) _ _ _ (lv_sub hl [0, 1, 2] rfl) hP hS hf

-- FrostTubesModel.undo()I
def fb_X5_undo_1  (K : Nat → Mem → Int32 → Int32 → Option (Int32 × Mem)) (ν : Mem) (t0 : Int32) (v1 : Int32) : Option (Int32 × Mem) := ((f_X5_refused ν t0).bind fun r2 => (if r2.1 = 0 then (K 2 (va_up r2.2 0 (upd (r2.2 0) 5 (((r2.2 0) 5) - (1 : Int32)))) 0 (0 : Int32)) else some ((0 : Int32), r2.2)))
def fb_X5_undo_2  (K : Nat → Mem → Int32 → Int32 → Option (Int32 × Mem)) (ν : Mem) (t0 : Int32) (v1 : Int32) : Option (Int32 × Mem) := (if (205 : Int32) ≤ v1 then some (((ν 0) 5), ν) else (if oob (((205 : Int32) * ((ν 0) 5)) + v1) 2870 then none else (if oob v1 205 then none else (K 2 (va_up ν 1 (upd (ν 1) v1.toNatClampNeg ((ν 4) (((205 : Int32) * ((ν 0) 5)) + v1).toNatClampNeg))) 0 (v1 + (1 : Int32))))))
def fl_X5_undo  : Nat → Nat → Mem → Int32 → Int32 → Option (Int32 × Mem)
  | 0, _, _, _, _ => none
  | n + 1, lab, ν, t0, v1 => match lab with
    | 1 => fb_X5_undo_1  (fl_X5_undo  n) ν t0 v1
    | _ => fb_X5_undo_2  (fl_X5_undo  n) ν t0 v1
def f_X5_undo (ν : Mem) : Option (Int32 × Mem) := (if ((ν 0) 5) = 0 then (fl_X5_undo  FU 1 ν (1 : Int32) 0) else (fl_X5_undo  FU 1 ν (0 : Int32) 0))
def rmX5_undo : Room := { frames := 1, cells := 0, slots := 0, locals := 21 }
theorem hd_X5_undo : yX5_undo.cls ≠ "java/lang/invoke/MethodHandle" ∧ yX5_undo.cls ≠ "java/lang/invoke/VarHandle" ∧ (parseMethodDescriptor yX5_undo.desc).map (fun d => d.parameters.length) = some 0 := by decide +kernel
set_option maxHeartbeats 8000000 in
set_option maxRecDepth 100000 in
theorem c_X5_undo {l : Launch} {D : va_G} {y : Nat} {ν : Mem} {r : Int32 × Mem} (hf : f_X5_undo ν = some r) : CM l yX5_undo wsX5_undo rmX5_undo [.ref (y)] D y ν (some (.int r.1)) r.2 := by
  refine CM.of (cc := cX5_undo) (maxL := 2) (ret := (some .int)) pn_X5 rfl (Nat.le_of_ble_eq_true rfl) ?_
  intro p e s m args below meth c F hr hlk hK
  have KEY : ∀ n : Nat, (∀ (ν : Mem) (t0 : Int32) (ls : Array Slot) (H : Heap) (locs : List Loc), lv_has ls 2 [(0, .ref (y))] → va_P D vwCl (WM D y ν) H → va_S (rngM y) s.heap H locs → fl_X5_undo  n 1 ν t0 0 = some r → W p l e rmX5_undo s m args below meth c H locs 0 0 (MQ below (QM D y r.2 (some (.int r.1))) args s 0 0 (rngM y)) (F0 m 13 ls [.int t0, .ref (y)])) ∧ (∀ (ν : Mem) (v1 : Int32) (ls : Array Slot) (H : Heap) (locs : List Loc), lv_has ls 2 [(0, .ref (y)), (1, .int v1)] → va_P D vwCl (WM D y ν) H → va_S (rngM y) s.heap H locs → fl_X5_undo  n 2 ν 0 v1 = some r → W p l e rmX5_undo s m args below meth c H locs 0 0 (MQ below (QM D y r.2 (some (.int r.1))) args s 0 0 (rngM y)) (F0 m 33 ls [])) := by
    intro n
    induction n with
    | zero => exact ⟨(fun _ _ _ _ _ _ _ _ h => nomatch h), (fun _ _ _ _ _ _ _ _ h => nomatch h)⟩
    | succ n ih =>
      refine ⟨?_, ?_⟩
      · intro ν t0  ls H locs hl hP hS hf
        have hf : fb_X5_undo_1  (fl_X5_undo  n) ν t0 0 = some r := hf
        unfold fb_X5_undo_1 at hf
        obtain ⟨r2, hr3, hf⟩ := bnd hf
        refine m_callV F hK hP hS (c_X5_refused t0 hr3) (cwV 1 F.2.2.2.2 gX5_undo_X5_refused rfl rfl rfl ⟨rfl, hd_X5_refused⟩ ⟨(Nat.le_of_ble_eq_true rfl), (Nat.le_of_ble_eq_true rfl)⟩) rfl rfl hl.1 (Nat.le_of_ble_eq_true rfl) dX5_undo_13 ⟨(Nat.le_of_ble_eq_true rfl), (Nat.le_of_ble_eq_true rfl)⟩ (rest := []) (fun H locs hP hS => ?_)
        refine W.eq (g2 := F0 m 16 ls [.int r2.1]) rfl ?_
        refine lv_if_eq (tgt := 21) F.1 F.2.1 dX5_undo_16 rfl (fun hc4 => ?_) (fun hc4 => ?_)
        · have hf := ifp hc4 hf
          refine lv_aload_n F.1 F.2.1 dX5_undo_21 rfl (lv_at hl 0 rfl) ?_
          refine lv_dup F.1 F.2.1 dX5_undo_22 rfl ?_
          refine m_getI F hK hP rfl (fun _ h => List.mem_cons_of_mem _ (List.mem_append_right _ h)) 5 (Nat.le_of_ble_eq_true rfl) (List.mem_of_getElem? (i := 1) rfl) rfl (fun _ => rfl) dX5_undo_23 ?_
          refine lv_iconst (v := (1 : Int32)) F.1 F.2.1 dX5_undo_26 (by decide) ?_
          refine lv_isub F.1 F.2.1 dX5_undo_27 ?_
          have hP := m_up 0 hP
          refine m_putI F hK hP hS (fun _ h => List.mem_cons_of_mem _ (List.mem_append_right _ h)) 5 (Nat.le_of_ble_eq_true rfl) (List.mem_of_getElem? (i := 1) rfl) rfl rfl (ty := .int) rfl rfl rfl (fun _ _ => rfl) dX5_undo_28 (fun H locs hP hS => ?_)
          refine lv_iconst (v := (0 : Int32)) F.1 F.2.1 dX5_undo_31 (by decide) ?_
          refine lv_istore_n F.1 F.2.1 dX5_undo_32 rfl hl (Nat.le_of_ble_eq_true rfl) rfl (fun ls hl => ?_)
          have hl : lv_has ls 2 [(1, .int (0 : Int32)), (0, .ref (y))] := hl
          exact ih.2 (va_up r2.2 0 (upd (r2.2 0) 5 (((r2.2 0) 5) - (1 : Int32)))) (0 : Int32) _ _ _ (lv_sub hl [1, 0] rfl) hP hS hf
        · have hf := ifn hc4 hf
          refine lv_iconst (v := (0 : Int32)) F.1 F.2.1 dX5_undo_19 (by decide) ?_
          obtain rfl := Option.some.inj hf
          exact m_iret F hr hlk hP hS rfl dX5_undo_20
      · intro ν v1  ls H locs hl hP hS hf
        have hf : fb_X5_undo_2  (fl_X5_undo  n) ν 0 v1 = some r := hf
        unfold fb_X5_undo_2 at hf
        refine lv_iload_n F.1 F.2.1 dX5_undo_33 rfl (lv_at hl 1 rfl) ?_
        refine lv_sipush (v := (205 : Int32)) F.1 F.2.1 dX5_undo_34 (by decide) ?_
        refine lv_icmp_ge (tgt := 67) F.1 F.2.1 dX5_undo_37 rfl (fun hc5 => ?_) (fun hc5 => ?_)
        · have hf := ifp hc5 hf
          refine lv_aload_n F.1 F.2.1 dX5_undo_67 rfl (lv_at hl 0 rfl) ?_
          refine m_getI F hK hP rfl (fun _ h => List.mem_cons_of_mem _ (List.mem_append_right _ h)) 5 (Nat.le_of_ble_eq_true rfl) (List.mem_of_getElem? (i := 1) rfl) rfl (fun _ => rfl) dX5_undo_68 ?_
          obtain rfl := Option.some.inj hf
          exact m_iret F hr hlk hP hS rfl dX5_undo_71
        · have hf := ifn hc5 hf
          refine lv_aload_n F.1 F.2.1 dX5_undo_40 rfl (lv_at hl 0 rfl) ?_
          refine m_getR F hK hP (fun _ h => List.mem_cons_of_mem _ (List.mem_append_right _ h)) 1 (Nat.le_of_ble_eq_true rfl) (List.mem_of_getElem? (i := 2) rfl) rfl (v := .ref (y + 1)) (fun _ => rfl) dX5_undo_41 ?_
          refine lv_iload_n F.1 F.2.1 dX5_undo_44 rfl (lv_at hl 1 rfl) ?_
          refine lv_aload_n F.1 F.2.1 dX5_undo_45 rfl (lv_at hl 0 rfl) ?_
          refine m_getR F hK hP (fun _ h => List.mem_cons_of_mem _ (List.mem_append_right _ h)) 4 (Nat.le_of_ble_eq_true rfl) (List.mem_of_getElem? (i := 3) rfl) rfl (v := .ref (y + 4)) (fun _ => rfl) dX5_undo_46 ?_
          refine lv_sipush (v := (205 : Int32)) F.1 F.2.1 dX5_undo_49 (by decide) ?_
          refine lv_aload_n F.1 F.2.1 dX5_undo_52 rfl (lv_at hl 0 rfl) ?_
          refine m_getI F hK hP rfl (fun _ h => List.mem_cons_of_mem _ (List.mem_append_right _ h)) 5 (Nat.le_of_ble_eq_true rfl) (List.mem_of_getElem? (i := 1) rfl) rfl (fun _ => rfl) dX5_undo_53 ?_
          refine lv_imul F.1 F.2.1 dX5_undo_56 ?_
          refine lv_iload_n F.1 F.2.1 dX5_undo_57 rfl (lv_at hl 1 rfl) ?_
          refine lv_iadd F.1 F.2.1 dX5_undo_58 ?_
          obtain ⟨hb6, hf⟩ := ifg hf
          refine m_iald F hK hP (o := 4) (by decide) rfl (fun _ => rfl) rfl hb6 dX5_undo_59 ?_
          obtain ⟨hb7, hf⟩ := ifg hf
          have hP := m_up 1 hP
          refine m_iast F hK hP hS (by decide) (fun _ => rfl) rfl hb7 dX5_undo_60 (fun H locs hP hS => ?_)
          refine lv_iinc (v := (v1 + (1 : Int32))) F.1 F.2.1 dX5_undo_61 hl (k := 1) rfl rfl (Nat.le_of_ble_eq_true rfl) rfl (fun ls hl => ?_)
          have hl : lv_has ls 2 [(1, .int (v1 + (1 : Int32))), (0, .ref (y))] := hl
          refine lv_goto (tgt := 33) F.1 F.2.1 dX5_undo_64 rfl ?_
          exact ih.2 (va_up ν 1 (upd (ν 1) v1.toNatClampNeg ((ν 4) (((205 : Int32) * ((ν 0) 5)) + v1).toNatClampNeg))) (v1 + (1 : Int32)) _ _ _ (lv_sub hl [1, 0] rfl) hP hS hf
  intro ls H locs hl hP hS
  have hl : lv_has ls 2 [(0, .ref (y))] := hl
  unfold f_X5_undo at hf
  refine lv_aload_n F.1 F.2.1 dX5_undo_0 rfl (lv_at hl 0 rfl) ?_
  refine lv_aload_n F.1 F.2.1 dX5_undo_1 rfl (lv_at hl 0 rfl) ?_
  refine m_getI F hK hP rfl (fun _ h => List.mem_cons_of_mem _ (List.mem_append_right _ h)) 5 (Nat.le_of_ble_eq_true rfl) (List.mem_of_getElem? (i := 1) rfl) rfl (fun _ => rfl) dX5_undo_2 ?_
  refine lv_if_ne (tgt := 12) F.1 F.2.1 dX5_undo_5 rfl (fun hc1 => ?_) (fun hc1 => ?_)
  · have hf := ifn hc1 hf
    refine lv_iconst (v := (0 : Int32)) F.1 F.2.1 dX5_undo_12 (by decide) ?_
    exact (KEY FU).1 ν (0 : Int32) _ _ _ (lv_sub hl [0] rfl) hP hS hf
  · have hf := ifp hc1 hf
    refine lv_iconst (v := (1 : Int32)) F.1 F.2.1 dX5_undo_8 (by decide) ?_
    refine lv_goto (tgt := 13) F.1 F.2.1 dX5_undo_9 rfl ?_
    exact (KEY FU).1 ν (1 : Int32) _ _ _ (lv_sub hl [0] rfl) hP hS hf

-- FrostTubesModel.goneIn(II)I
def fb_X5_goneIn_1 (a1 : Int32) (a2 : Int32) (K : Nat → Mem → Int32 → Int32 → Option (Int32 × Mem)) (ν : Mem) (t0 : Int32) (v3 : Int32) : Option (Int32 × Mem) := ((f_X5_refused ν t0).bind fun r7 => (if r7.1 = 0 then ((f_X5_copy (r7.2 2) (r7.2 1)).bind fun r10 => (K 2 (va_up r7.2 2 r10) 0 (0 : Int32))) else some ((0 : Int32), r7.2)))
def fb_X5_goneIn_2 (a1 : Int32) (a2 : Int32) (K : Nat → Mem → Int32 → Int32 → Option (Int32 × Mem)) (ν : Mem) (t0 : Int32) (v3 : Int32) : Option (Int32 × Mem) := (if (400 : Int32) < v3 then some ((-1 : Int32), ν) else ((f_X5_cells (ν 2) a1).bind fun r13 => (if r13 = 0 then some (v3, ν) else ((f_X5_day (ν 2) a2 (0 : Int32)).bind fun r16 => (K 2 (va_up ν 2 r16) 0 (v3 + (1 : Int32)))))))
def fl_X5_goneIn (a1 : Int32) (a2 : Int32) : Nat → Nat → Mem → Int32 → Int32 → Option (Int32 × Mem)
  | 0, _, _, _, _ => none
  | n + 1, lab, ν, t0, v3 => match lab with
    | 1 => fb_X5_goneIn_1 a1 a2 (fl_X5_goneIn a1 a2 n) ν t0 v3
    | _ => fb_X5_goneIn_2 a1 a2 (fl_X5_goneIn a1 a2 n) ν t0 v3
def f_X5_goneIn (ν : Mem) (a1 : Int32) (a2 : Int32) : Option (Int32 × Mem) := ((f_X5_isSite (ν 1) a1).bind fun r1 => (if r1 = 0 then (fl_X5_goneIn a1 a2 FU 1 ν (1 : Int32) 0) else ((f_X5_in a2.toInt64 (1 : Int64) (30 : Int64)).bind fun r4 => (if r4 = 0 then (fl_X5_goneIn a1 a2 FU 1 ν (2 : Int32) 0) else (fl_X5_goneIn a1 a2 FU 1 ν (0 : Int32) 0)))))
def rmX5_goneIn : Room := { frames := 5, cells := 0, slots := 0, locals := 115 }
theorem hd_X5_goneIn : yX5_goneIn.cls ≠ "java/lang/invoke/MethodHandle" ∧ yX5_goneIn.cls ≠ "java/lang/invoke/VarHandle" ∧ (parseMethodDescriptor yX5_goneIn.desc).map (fun d => d.parameters.length) = some 2 := by decide +kernel
set_option maxHeartbeats 8000000 in
set_option maxRecDepth 100000 in
theorem c_X5_goneIn {l : Launch} {D : va_G} {y : Nat} {ν : Mem} (a1 : Int32) (a2 : Int32) {r : Int32 × Mem} (hf : f_X5_goneIn ν a1 a2 = some r) : CM l yX5_goneIn wsX5_goneIn rmX5_goneIn [.ref (y), .int a1, .int a2] D y ν (some (.int r.1)) r.2 := by
  refine CM.of (cc := cX5_goneIn) (maxL := 4) (ret := (some .int)) pn_X5 rfl (Nat.le_of_ble_eq_true rfl) ?_
  intro p e s m args below meth c F hr hlk hK
  have KEY : ∀ n : Nat, (∀ (ν : Mem) (t0 : Int32) (ls : Array Slot) (H : Heap) (locs : List Loc), lv_has ls 4 [(0, .ref (y)), (1, .int a1), (2, .int a2)] → va_P D vwCl (WM D y ν) H → va_S (rngM y) s.heap H locs → fl_X5_goneIn a1 a2 n 1 ν t0 0 = some r → W p l e rmX5_goneIn s m args below meth c H locs 0 0 (MQ below (QM D y r.2 (some (.int r.1))) args s 0 0 (rngM y)) (F0 m 33 ls [.int t0, .ref (y)])) ∧ (∀ (ν : Mem) (v3 : Int32) (ls : Array Slot) (H : Heap) (locs : List Loc), lv_has ls 4 [(0, .ref (y)), (1, .int a1), (2, .int a2), (3, .int v3)] → va_P D vwCl (WM D y ν) H → va_S (rngM y) s.heap H locs → fl_X5_goneIn a1 a2 n 2 ν 0 v3 = some r → W p l e rmX5_goneIn s m args below meth c H locs 0 0 (MQ below (QM D y r.2 (some (.int r.1))) args s 0 0 (rngM y)) (F0 m 54 ls [])) := by
    intro n
    induction n with
    | zero => exact ⟨(fun _ _ _ _ _ _ _ _ h => nomatch h), (fun _ _ _ _ _ _ _ _ h => nomatch h)⟩
    | succ n ih =>
      refine ⟨?_, ?_⟩
      · intro ν t0  ls H locs hl hP hS hf
        have hf : fb_X5_goneIn_1 a1 a2 (fl_X5_goneIn a1 a2 n) ν t0 0 = some r := hf
        unfold fb_X5_goneIn_1 at hf
        obtain ⟨r7, hr8, hf⟩ := bnd hf
        refine m_callV F hK hP hS (c_X5_refused t0 hr8) (cwV 1 F.2.2.2.2 gX5_goneIn_X5_refused rfl rfl rfl ⟨rfl, hd_X5_refused⟩ ⟨(Nat.le_of_ble_eq_true rfl), (Nat.le_of_ble_eq_true rfl)⟩) rfl rfl hl.1 (Nat.le_of_ble_eq_true rfl) dX5_goneIn_33 ⟨(Nat.le_of_ble_eq_true rfl), (Nat.le_of_ble_eq_true rfl)⟩ (rest := []) (fun H locs hP hS => ?_)
        refine W.eq (g2 := F0 m 36 ls [.int r7.1]) rfl ?_
        refine lv_if_eq (tgt := 41) F.1 F.2.1 dX5_goneIn_36 rfl (fun hc9 => ?_) (fun hc9 => ?_)
        · have hf := ifp hc9 hf
          refine lv_aload_n F.1 F.2.1 dX5_goneIn_41 rfl (lv_at hl 0 rfl) ?_
          refine m_getR F hK hP (fun _ h => List.mem_cons_of_mem _ (List.mem_append_right _ h)) 1 (Nat.le_of_ble_eq_true rfl) (List.mem_of_getElem? (i := 1) rfl) rfl (v := .ref (y + 1)) (fun _ => rfl) dX5_goneIn_42 ?_
          refine lv_aload_n F.1 F.2.1 dX5_goneIn_45 rfl (lv_at hl 0 rfl) ?_
          refine m_getR F hK hP (fun _ h => List.mem_cons_of_mem _ (List.mem_append_right _ h)) 2 (Nat.le_of_ble_eq_true rfl) (List.mem_of_getElem? (i := 3) rfl) rfl (v := .ref (y + 2)) (fun _ => rfl) dX5_goneIn_46 ?_
          obtain ⟨r10, hr11, hf⟩ := bnd hf
          have hP := m_up 2 hP
          refine m_callS F hK hP hS (c_X5_copy (by decide) (by decide) (by decide) (by decide) (by decide) rfl hr11) (va_cwS 2 F.2.2.2.2 gX5_goneIn_X5_copy rfl rfl rfl hd_X5_copy ⟨(Nat.le_of_ble_eq_true rfl), (Nat.le_of_ble_eq_true rfl)⟩) rfl rfl hl.1 (Nat.le_of_ble_eq_true rfl) dX5_goneIn_49 ⟨(Nat.le_of_ble_eq_true rfl), (Nat.le_of_ble_eq_true rfl)⟩ (rest := []) (fun H locs hP hS => ?_)
          refine W.eq (g2 := F0 m 52 ls []) rfl ?_
          refine lv_iconst (v := (0 : Int32)) F.1 F.2.1 dX5_goneIn_52 (by decide) ?_
          refine lv_istore_n F.1 F.2.1 dX5_goneIn_53 rfl hl (Nat.le_of_ble_eq_true rfl) rfl (fun ls hl => ?_)
          have hl : lv_has ls 4 [(3, .int (0 : Int32)), (0, .ref (y)), (1, .int a1), (2, .int a2)] := hl
          exact ih.2 (va_up r7.2 2 r10) (0 : Int32) _ _ _ (lv_sub hl [1, 2, 3, 0] rfl) hP hS hf
        · have hf := ifn hc9 hf
          refine lv_iconst (v := (0 : Int32)) F.1 F.2.1 dX5_goneIn_39 (by decide) ?_
          obtain rfl := Option.some.inj hf
          exact m_iret F hr hlk hP hS rfl dX5_goneIn_40
      · intro ν v3  ls H locs hl hP hS hf
        have hf : fb_X5_goneIn_2 a1 a2 (fl_X5_goneIn a1 a2 n) ν 0 v3 = some r := hf
        unfold fb_X5_goneIn_2 at hf
        refine lv_iload_n F.1 F.2.1 dX5_goneIn_54 rfl (lv_at hl 3 rfl) ?_
        refine lv_sipush (v := (400 : Int32)) F.1 F.2.1 dX5_goneIn_55 (by decide) ?_
        refine lv_icmp_gt (tgt := 89) F.1 F.2.1 dX5_goneIn_58 rfl (fun hc12 => ?_) (fun hc12 => ?_)
        · have hf := ifp hc12 hf
          refine lv_iconst (v := (-1 : Int32)) F.1 F.2.1 dX5_goneIn_89 (by decide) ?_
          obtain rfl := Option.some.inj hf
          exact m_iret F hr hlk hP hS rfl dX5_goneIn_90
        · have hf := ifn hc12 hf
          refine lv_aload_n F.1 F.2.1 dX5_goneIn_61 rfl (lv_at hl 0 rfl) ?_
          refine m_getR F hK hP (fun _ h => List.mem_cons_of_mem _ (List.mem_append_right _ h)) 2 (Nat.le_of_ble_eq_true rfl) (List.mem_of_getElem? (i := 3) rfl) rfl (v := .ref (y + 2)) (fun _ => rfl) dX5_goneIn_62 ?_
          refine lv_iload_n F.1 F.2.1 dX5_goneIn_65 rfl (lv_at hl 1 rfl) ?_
          obtain ⟨r13, hr14, hf⟩ := bnd hf
          refine m_callS F hK hP hS (c_X5_cells (by decide) (by decide) rfl a1 hr14) (va_cwS 2 F.2.2.2.2 gX5_goneIn_X5_cells rfl rfl rfl hd_X5_cells ⟨(Nat.le_of_ble_eq_true rfl), (Nat.le_of_ble_eq_true rfl)⟩) rfl rfl hl.1 (Nat.le_of_ble_eq_true rfl) dX5_goneIn_66 ⟨(Nat.le_of_ble_eq_true rfl), (Nat.le_of_ble_eq_true rfl)⟩ (rest := []) (fun H locs hP hS => ?_)
          refine W.eq (g2 := F0 m 69 ls [.int r13]) rfl ?_
          refine lv_if_ne (tgt := 74) F.1 F.2.1 dX5_goneIn_69 rfl (fun hc15 => ?_) (fun hc15 => ?_)
          · have hf := ifn hc15 hf
            refine lv_aload_n F.1 F.2.1 dX5_goneIn_74 rfl (lv_at hl 0 rfl) ?_
            refine m_getR F hK hP (fun _ h => List.mem_cons_of_mem _ (List.mem_append_right _ h)) 2 (Nat.le_of_ble_eq_true rfl) (List.mem_of_getElem? (i := 3) rfl) rfl (v := .ref (y + 2)) (fun _ => rfl) dX5_goneIn_75 ?_
            refine lv_iload_n F.1 F.2.1 dX5_goneIn_78 rfl (lv_at hl 2 rfl) ?_
            refine lv_iconst (v := (0 : Int32)) F.1 F.2.1 dX5_goneIn_79 (by decide) ?_
            obtain ⟨r16, hr17, hf⟩ := bnd hf
            have hP := m_up 2 hP
            refine m_callS F hK hP hS (c_X5_day (by decide) (by decide) a2 (0 : Int32) hr17) (va_cwS 3 F.2.2.2.2 gX5_goneIn_X5_day rfl rfl rfl hd_X5_day ⟨(Nat.le_of_ble_eq_true rfl), (Nat.le_of_ble_eq_true rfl)⟩) rfl rfl hl.1 (Nat.le_of_ble_eq_true rfl) dX5_goneIn_80 ⟨(Nat.le_of_ble_eq_true rfl), (Nat.le_of_ble_eq_true rfl)⟩ (rest := []) (fun H locs hP hS => ?_)
            refine W.eq (g2 := F0 m 83 ls []) rfl ?_
            refine lv_iinc (v := (v3 + (1 : Int32))) F.1 F.2.1 dX5_goneIn_83 hl (k := 3) rfl rfl (Nat.le_of_ble_eq_true rfl) rfl (fun ls hl => ?_)
            have hl : lv_has ls 4 [(3, .int (v3 + (1 : Int32))), (0, .ref (y)), (1, .int a1), (2, .int a2)] := hl
            refine lv_goto (tgt := 54) F.1 F.2.1 dX5_goneIn_86 rfl ?_
            exact ih.2 (va_up ν 2 r16) (v3 + (1 : Int32)) _ _ _ (lv_sub hl [1, 2, 3, 0] rfl) hP hS hf
          · have hf := ifp hc15 hf
            refine lv_iload_n F.1 F.2.1 dX5_goneIn_72 rfl (lv_at hl 3 rfl) ?_
            obtain rfl := Option.some.inj hf
            exact m_iret F hr hlk hP hS rfl dX5_goneIn_73
  intro ls H locs hl hP hS
  have hl : lv_has ls 4 [(0, .ref (y)), (1, .int a1), (2, .int a2)] := hl
  unfold f_X5_goneIn at hf
  refine lv_aload_n F.1 F.2.1 dX5_goneIn_0 rfl (lv_at hl 0 rfl) ?_
  refine lv_aload_n F.1 F.2.1 dX5_goneIn_1 rfl (lv_at hl 0 rfl) ?_
  refine m_getR F hK hP (fun _ h => List.mem_cons_of_mem _ (List.mem_append_right _ h)) 1 (Nat.le_of_ble_eq_true rfl) (List.mem_of_getElem? (i := 1) rfl) rfl (v := .ref (y + 1)) (fun _ => rfl) dX5_goneIn_2 ?_
  refine lv_iload_n F.1 F.2.1 dX5_goneIn_5 rfl (lv_at hl 1 rfl) ?_
  obtain ⟨r1, hr2, hf⟩ := bnd hf
  refine m_callS F hK hP hS (c_X5_isSite (by decide) (by decide) rfl a1 hr2) (va_cwS 2 F.2.2.2.2 gX5_goneIn_X5_isSite rfl rfl rfl hd_X5_isSite ⟨(Nat.le_of_ble_eq_true rfl), (Nat.le_of_ble_eq_true rfl)⟩) rfl rfl hl.1 (Nat.le_of_ble_eq_true rfl) dX5_goneIn_6 ⟨(Nat.le_of_ble_eq_true rfl), (Nat.le_of_ble_eq_true rfl)⟩ (rest := [.ref (y)]) (fun H locs hP hS => ?_)
  refine W.eq (g2 := F0 m 9 ls [.int r1, .ref (y)]) rfl ?_
  refine lv_if_ne (tgt := 16) F.1 F.2.1 dX5_goneIn_9 rfl (fun hc3 => ?_) (fun hc3 => ?_)
  · have hf := ifn hc3 hf
    refine lv_iload_n F.1 F.2.1 dX5_goneIn_16 rfl (lv_at hl 2 rfl) ?_
    refine lv_i2l (v := a2.toInt64) F.1 F.2.1 dX5_goneIn_17 rfl ?_
    refine lv_lconst (v := (1 : Int64)) F.1 F.2.1 dX5_goneIn_18 rfl ?_
    refine lv_ldc2 (v := (30 : Int64)) F.1 F.2.1 F.2.2.2.1 (F.2.2.2.2 _ (List.mem_of_getElem? (i := 2) rfl)) dX5_goneIn_19 ?_
    obtain ⟨r4, hr5, hf⟩ := bnd hf
    refine m_callS F hK hP hS (c_X5_in a2.toInt64 (1 : Int64) (30 : Int64) hr5) (va_cwS 3 F.2.2.2.2 gX5_goneIn_X5_in rfl rfl rfl hd_X5_in ⟨(Nat.le_of_ble_eq_true rfl), (Nat.le_of_ble_eq_true rfl)⟩) rfl rfl hl.1 (Nat.le_of_ble_eq_true rfl) dX5_goneIn_22 ⟨(Nat.le_of_ble_eq_true rfl), (Nat.le_of_ble_eq_true rfl)⟩ (rest := [.ref (y)]) (fun H locs hP hS => ?_)
    refine W.eq (g2 := F0 m 25 ls [.int r4, .ref (y)]) rfl ?_
    refine lv_if_ne (tgt := 32) F.1 F.2.1 dX5_goneIn_25 rfl (fun hc6 => ?_) (fun hc6 => ?_)
    · have hf := ifn hc6 hf
      refine lv_iconst (v := (0 : Int32)) F.1 F.2.1 dX5_goneIn_32 (by decide) ?_
      exact (KEY FU).1 ν (0 : Int32) _ _ _ (lv_sub hl [0, 1, 2] rfl) hP hS hf
    · have hf := ifp hc6 hf
      refine lv_iconst (v := (2 : Int32)) F.1 F.2.1 dX5_goneIn_28 (by decide) ?_
      refine lv_goto (tgt := 33) F.1 F.2.1 dX5_goneIn_29 rfl ?_
      exact (KEY FU).1 ν (2 : Int32) _ _ _ (lv_sub hl [0, 1, 2] rfl) hP hS hf
  · have hf := ifp hc3 hf
    refine lv_iconst (v := (1 : Int32)) F.1 F.2.1 dX5_goneIn_12 (by decide) ?_
    refine lv_goto (tgt := 33) F.1 F.2.1 dX5_goneIn_13 rfl ?_
    exact (KEY FU).1 ν (1 : Int32) _ _ _ (lv_sub hl [0, 1, 2] rfl) hP hS hf

-- FrostTubesModel.reachedIn(III)I
def fb_X5_reachedIn_1 (a1 : Int32) (a2 : Int32) (a3 : Int32) (K : Nat → Mem → Int32 → Int32 → Option (Int32 × Mem)) (ν : Mem) (t0 : Int32) (v5 : Int32) : Option (Int32 × Mem) := (if t0 = 0 then (K 2 ν (1 : Int32) 0) else ((f_X5_in a3.toInt64 (-30 : Int64) (-1 : Int64)).bind fun r8 => (if r8 = 0 then (K 2 ν (2 : Int32) 0) else (K 2 ν (0 : Int32) 0))))
def fb_X5_reachedIn_2 (a1 : Int32) (a2 : Int32) (a3 : Int32) (K : Nat → Mem → Int32 → Int32 → Option (Int32 × Mem)) (ν : Mem) (t0 : Int32) (v5 : Int32) : Option (Int32 × Mem) := ((f_X5_refused ν t0).bind fun r11 => (if r11.1 = 0 then ((f_X5_copy (r11.2 2) (r11.2 1)).bind fun r14 => (K 3 (va_up r11.2 2 r14) 0 (0 : Int32))) else some ((0 : Int32), r11.2)))
def fb_X5_reachedIn_3 (a1 : Int32) (a2 : Int32) (a3 : Int32) (K : Nat → Mem → Int32 → Int32 → Option (Int32 × Mem)) (ν : Mem) (t0 : Int32) (v5 : Int32) : Option (Int32 × Mem) := (if (400 : Int32) < v5 then some ((-1 : Int32), ν) else ((f_X5_frozen (ν 2) a1 a2).bind fun r17 => (if r17 = 0 then ((f_X5_day (ν 2) a3 (0 : Int32)).bind fun r20 => (K 3 (va_up ν 2 r20) 0 (v5 + (1 : Int32)))) else some (v5, ν))))
def fl_X5_reachedIn (a1 : Int32) (a2 : Int32) (a3 : Int32) : Nat → Nat → Mem → Int32 → Int32 → Option (Int32 × Mem)
  | 0, _, _, _, _ => none
  | n + 1, lab, ν, t0, v5 => match lab with
    | 1 => fb_X5_reachedIn_1 a1 a2 a3 (fl_X5_reachedIn a1 a2 a3 n) ν t0 v5
    | 2 => fb_X5_reachedIn_2 a1 a2 a3 (fl_X5_reachedIn a1 a2 a3 n) ν t0 v5
    | _ => fb_X5_reachedIn_3 a1 a2 a3 (fl_X5_reachedIn a1 a2 a3 n) ν t0 v5
def f_X5_reachedIn (ν : Mem) (a1 : Int32) (a2 : Int32) (a3 : Int32) : Option (Int32 × Mem) := ((f_X5_isSite (ν 1) a1).bind fun r1 => (if r1 = 0 then (fl_X5_reachedIn a1 a2 a3 FU 1 ν (0 : Int32) 0) else ((f_X5_isCell a2).bind fun r4 => (if r4 = 0 then (fl_X5_reachedIn a1 a2 a3 FU 1 ν (0 : Int32) 0) else (fl_X5_reachedIn a1 a2 a3 FU 1 ν (1 : Int32) 0)))))
def rmX5_reachedIn : Room := { frames := 5, cells := 0, slots := 0, locals := 115 }
theorem hd_X5_reachedIn : yX5_reachedIn.cls ≠ "java/lang/invoke/MethodHandle" ∧ yX5_reachedIn.cls ≠ "java/lang/invoke/VarHandle" ∧ (parseMethodDescriptor yX5_reachedIn.desc).map (fun d => d.parameters.length) = some 3 := by decide +kernel
set_option maxHeartbeats 8000000 in
set_option maxRecDepth 100000 in
theorem c_X5_reachedIn {l : Launch} {D : va_G} {y : Nat} {ν : Mem} (a1 : Int32) (a2 : Int32) (a3 : Int32) {r : Int32 × Mem} (hf : f_X5_reachedIn ν a1 a2 a3 = some r) : CM l yX5_reachedIn wsX5_reachedIn rmX5_reachedIn [.ref (y), .int a1, .int a2, .int a3] D y ν (some (.int r.1)) r.2 := by
  refine CM.of (cc := cX5_reachedIn) (maxL := 6) (ret := (some .int)) pn_X5 rfl (Nat.le_of_ble_eq_true rfl) ?_
  intro p e s m args below meth c F hr hlk hK
  have KEY : ∀ n : Nat, (∀ (ν : Mem) (t0 : Int32) (ls : Array Slot) (H : Heap) (locs : List Loc), lv_has ls 6 [(0, .ref (y)), (1, .int a1), (2, .int a2), (3, .int a3)] → va_P D vwCl (WM D y ν) H → va_S (rngM y) s.heap H locs → fl_X5_reachedIn a1 a2 a3 n 1 ν t0 0 = some r → W p l e rmX5_reachedIn s m args below meth c H locs 0 0 (MQ below (QM D y r.2 (some (.int r.1))) args s 0 0 (rngM y)) (F0 m 23 ls [.int t0])) ∧ (∀ (ν : Mem) (t0 : Int32) (ls : Array Slot) (H : Heap) (locs : List Loc), lv_has ls 6 [(0, .ref (y)), (1, .int a1), (2, .int a2), (3, .int a3)] → va_P D vwCl (WM D y ν) H → va_S (rngM y) s.heap H locs → fl_X5_reachedIn a1 a2 a3 n 2 ν t0 0 = some r → W p l e rmX5_reachedIn s m args below meth c H locs 0 0 (MQ below (QM D y r.2 (some (.int r.1))) args s 0 0 (rngM y)) (F0 m 54 ls [.int t0, .ref (y)])) ∧ (∀ (ν : Mem) (v5 : Int32) (ls : Array Slot) (H : Heap) (locs : List Loc), lv_has ls 6 [(0, .ref (y)), (1, .int a1), (2, .int a2), (3, .int a3), (5, .int v5)] → va_P D vwCl (WM D y ν) H → va_S (rngM y) s.heap H locs → fl_X5_reachedIn a1 a2 a3 n 3 ν 0 v5 = some r → W p l e rmX5_reachedIn s m args below meth c H locs 0 0 (MQ below (QM D y r.2 (some (.int r.1))) args s 0 0 (rngM y)) (F0 m 76 ls [])) := by
    intro n
    induction n with
    | zero => exact ⟨(fun _ _ _ _ _ _ _ _ h => nomatch h), (fun _ _ _ _ _ _ _ _ h => nomatch h), (fun _ _ _ _ _ _ _ _ h => nomatch h)⟩
    | succ n ih =>
      refine ⟨?_, ?_, ?_⟩
      · intro ν t0  ls H locs hl hP hS hf
        have hf : fb_X5_reachedIn_1 a1 a2 a3 (fl_X5_reachedIn a1 a2 a3 n) ν t0 0 = some r := hf
        unfold fb_X5_reachedIn_1 at hf
        refine lv_istore F.1 F.2.1 dX5_reachedIn_23 hl (Nat.le_of_ble_eq_true rfl) rfl (fun ls hl => ?_)
        have hl : lv_has ls 6 [(4, .int t0), (0, .ref (y)), (1, .int a1), (2, .int a2), (3, .int a3)] := hl
        refine lv_aload_n F.1 F.2.1 dX5_reachedIn_25 rfl (lv_at hl 1 rfl) ?_
        refine lv_iload F.1 F.2.1 dX5_reachedIn_26 (lv_at hl 0 rfl) ?_
        refine lv_if_ne (tgt := 35) F.1 F.2.1 dX5_reachedIn_28 rfl (fun hc7 => ?_) (fun hc7 => ?_)
        · have hf := ifn hc7 hf
          refine lv_iload_n F.1 F.2.1 dX5_reachedIn_35 rfl (lv_at hl 4 rfl) ?_
          refine lv_i2l (v := a3.toInt64) F.1 F.2.1 dX5_reachedIn_36 rfl ?_
          refine lv_ldc2 (v := (-30 : Int64)) F.1 F.2.1 F.2.2.2.1 (F.2.2.2.2 _ (List.mem_of_getElem? (i := 2) rfl)) dX5_reachedIn_37 ?_
          refine lv_ldc2 (v := (-1 : Int64)) F.1 F.2.1 F.2.2.2.1 (F.2.2.2.2 _ (List.mem_of_getElem? (i := 3) rfl)) dX5_reachedIn_40 ?_
          obtain ⟨r8, hr9, hf⟩ := bnd hf
          refine m_callS F hK hP hS (c_X5_in a3.toInt64 (-30 : Int64) (-1 : Int64) hr9) (va_cwS 3 F.2.2.2.2 gX5_reachedIn_X5_in rfl rfl rfl hd_X5_in ⟨(Nat.le_of_ble_eq_true rfl), (Nat.le_of_ble_eq_true rfl)⟩) rfl rfl hl.1 (Nat.le_of_ble_eq_true rfl) dX5_reachedIn_43 ⟨(Nat.le_of_ble_eq_true rfl), (Nat.le_of_ble_eq_true rfl)⟩ (rest := [.ref (y)]) (fun H locs hP hS => ?_)
          refine W.eq (g2 := F0 m 46 ls [.int r8, .ref (y)]) rfl ?_
          refine lv_if_ne (tgt := 53) F.1 F.2.1 dX5_reachedIn_46 rfl (fun hc10 => ?_) (fun hc10 => ?_)
          · have hf := ifn hc10 hf
            refine lv_iconst (v := (0 : Int32)) F.1 F.2.1 dX5_reachedIn_53 (by decide) ?_
            exact ih.2.1 ν (0 : Int32) _ _ _ (lv_sub hl [1, 2, 3, 4] rfl) hP hS hf
          · have hf := ifp hc10 hf
            refine lv_iconst (v := (2 : Int32)) F.1 F.2.1 dX5_reachedIn_49 (by decide) ?_
            refine lv_goto (tgt := 54) F.1 F.2.1 dX5_reachedIn_50 rfl ?_
            exact ih.2.1 ν (2 : Int32) _ _ _ (lv_sub hl [1, 2, 3, 4] rfl) hP hS hf
        · have hf := ifp hc7 hf
          refine lv_iconst (v := (1 : Int32)) F.1 F.2.1 dX5_reachedIn_31 (by decide) ?_
          refine lv_goto (tgt := 54) F.1 F.2.1 dX5_reachedIn_32 rfl ?_
          exact ih.2.1 ν (1 : Int32) _ _ _ (lv_sub hl [1, 2, 3, 4] rfl) hP hS hf
      · intro ν t0  ls H locs hl hP hS hf
        have hf : fb_X5_reachedIn_2 a1 a2 a3 (fl_X5_reachedIn a1 a2 a3 n) ν t0 0 = some r := hf
        unfold fb_X5_reachedIn_2 at hf
        obtain ⟨r11, hr12, hf⟩ := bnd hf
        refine m_callV F hK hP hS (c_X5_refused t0 hr12) (cwV 1 F.2.2.2.2 gX5_reachedIn_X5_refused rfl rfl rfl ⟨rfl, hd_X5_refused⟩ ⟨(Nat.le_of_ble_eq_true rfl), (Nat.le_of_ble_eq_true rfl)⟩) rfl rfl hl.1 (Nat.le_of_ble_eq_true rfl) dX5_reachedIn_54 ⟨(Nat.le_of_ble_eq_true rfl), (Nat.le_of_ble_eq_true rfl)⟩ (rest := []) (fun H locs hP hS => ?_)
        refine W.eq (g2 := F0 m 57 ls [.int r11.1]) rfl ?_
        refine lv_if_eq (tgt := 62) F.1 F.2.1 dX5_reachedIn_57 rfl (fun hc13 => ?_) (fun hc13 => ?_)
        · have hf := ifp hc13 hf
          refine lv_aload_n F.1 F.2.1 dX5_reachedIn_62 rfl (lv_at hl 0 rfl) ?_
          refine m_getR F hK hP (fun _ h => List.mem_cons_of_mem _ (List.mem_append_right _ h)) 1 (Nat.le_of_ble_eq_true rfl) (List.mem_of_getElem? (i := 1) rfl) rfl (v := .ref (y + 1)) (fun _ => rfl) dX5_reachedIn_63 ?_
          refine lv_aload_n F.1 F.2.1 dX5_reachedIn_66 rfl (lv_at hl 0 rfl) ?_
          refine m_getR F hK hP (fun _ h => List.mem_cons_of_mem _ (List.mem_append_right _ h)) 2 (Nat.le_of_ble_eq_true rfl) (List.mem_of_getElem? (i := 4) rfl) rfl (v := .ref (y + 2)) (fun _ => rfl) dX5_reachedIn_67 ?_
          obtain ⟨r14, hr15, hf⟩ := bnd hf
          have hP := m_up 2 hP
          refine m_callS F hK hP hS (c_X5_copy (by decide) (by decide) (by decide) (by decide) (by decide) rfl hr15) (va_cwS 2 F.2.2.2.2 gX5_reachedIn_X5_copy rfl rfl rfl hd_X5_copy ⟨(Nat.le_of_ble_eq_true rfl), (Nat.le_of_ble_eq_true rfl)⟩) rfl rfl hl.1 (Nat.le_of_ble_eq_true rfl) dX5_reachedIn_70 ⟨(Nat.le_of_ble_eq_true rfl), (Nat.le_of_ble_eq_true rfl)⟩ (rest := []) (fun H locs hP hS => ?_)
          refine W.eq (g2 := F0 m 73 ls []) rfl ?_
          refine lv_iconst (v := (0 : Int32)) F.1 F.2.1 dX5_reachedIn_73 (by decide) ?_
          refine lv_istore F.1 F.2.1 dX5_reachedIn_74 hl (Nat.le_of_ble_eq_true rfl) rfl (fun ls hl => ?_)
          have hl : lv_has ls 6 [(5, .int (0 : Int32)), (0, .ref (y)), (1, .int a1), (2, .int a2), (3, .int a3)] := hl
          exact ih.2.2 (va_up r11.2 2 r14) (0 : Int32) _ _ _ (lv_sub hl [1, 2, 3, 4, 0] rfl) hP hS hf
        · have hf := ifn hc13 hf
          refine lv_iconst (v := (0 : Int32)) F.1 F.2.1 dX5_reachedIn_60 (by decide) ?_
          obtain rfl := Option.some.inj hf
          exact m_iret F hr hlk hP hS rfl dX5_reachedIn_61
      · intro ν v5  ls H locs hl hP hS hf
        have hf : fb_X5_reachedIn_3 a1 a2 a3 (fl_X5_reachedIn a1 a2 a3 n) ν 0 v5 = some r := hf
        unfold fb_X5_reachedIn_3 at hf
        refine lv_iload F.1 F.2.1 dX5_reachedIn_76 (lv_at hl 4 rfl) ?_
        refine lv_sipush (v := (400 : Int32)) F.1 F.2.1 dX5_reachedIn_78 (by decide) ?_
        refine lv_icmp_gt (tgt := 114) F.1 F.2.1 dX5_reachedIn_81 rfl (fun hc16 => ?_) (fun hc16 => ?_)
        · have hf := ifp hc16 hf
          refine lv_iconst (v := (-1 : Int32)) F.1 F.2.1 dX5_reachedIn_114 (by decide) ?_
          obtain rfl := Option.some.inj hf
          exact m_iret F hr hlk hP hS rfl dX5_reachedIn_115
        · have hf := ifn hc16 hf
          refine lv_aload_n F.1 F.2.1 dX5_reachedIn_84 rfl (lv_at hl 0 rfl) ?_
          refine m_getR F hK hP (fun _ h => List.mem_cons_of_mem _ (List.mem_append_right _ h)) 2 (Nat.le_of_ble_eq_true rfl) (List.mem_of_getElem? (i := 4) rfl) rfl (v := .ref (y + 2)) (fun _ => rfl) dX5_reachedIn_85 ?_
          refine lv_iload_n F.1 F.2.1 dX5_reachedIn_88 rfl (lv_at hl 1 rfl) ?_
          refine lv_iload_n F.1 F.2.1 dX5_reachedIn_89 rfl (lv_at hl 2 rfl) ?_
          obtain ⟨r17, hr18, hf⟩ := bnd hf
          refine m_callS F hK hP hS (c_X5_frozen (by decide) (by decide) rfl a1 a2 hr18) (va_cwS 3 F.2.2.2.2 gX5_reachedIn_X5_frozen rfl rfl rfl hd_X5_frozen ⟨(Nat.le_of_ble_eq_true rfl), (Nat.le_of_ble_eq_true rfl)⟩) rfl rfl hl.1 (Nat.le_of_ble_eq_true rfl) dX5_reachedIn_90 ⟨(Nat.le_of_ble_eq_true rfl), (Nat.le_of_ble_eq_true rfl)⟩ (rest := []) (fun H locs hP hS => ?_)
          refine W.eq (g2 := F0 m 93 ls [.int r17]) rfl ?_
          refine lv_if_eq (tgt := 99) F.1 F.2.1 dX5_reachedIn_93 rfl (fun hc19 => ?_) (fun hc19 => ?_)
          · have hf := ifp hc19 hf
            refine lv_aload_n F.1 F.2.1 dX5_reachedIn_99 rfl (lv_at hl 0 rfl) ?_
            refine m_getR F hK hP (fun _ h => List.mem_cons_of_mem _ (List.mem_append_right _ h)) 2 (Nat.le_of_ble_eq_true rfl) (List.mem_of_getElem? (i := 4) rfl) rfl (v := .ref (y + 2)) (fun _ => rfl) dX5_reachedIn_100 ?_
            refine lv_iload_n F.1 F.2.1 dX5_reachedIn_103 rfl (lv_at hl 3 rfl) ?_
            refine lv_iconst (v := (0 : Int32)) F.1 F.2.1 dX5_reachedIn_104 (by decide) ?_
            obtain ⟨r20, hr21, hf⟩ := bnd hf
            have hP := m_up 2 hP
            refine m_callS F hK hP hS (c_X5_day (by decide) (by decide) a3 (0 : Int32) hr21) (va_cwS 3 F.2.2.2.2 gX5_reachedIn_X5_day rfl rfl rfl hd_X5_day ⟨(Nat.le_of_ble_eq_true rfl), (Nat.le_of_ble_eq_true rfl)⟩) rfl rfl hl.1 (Nat.le_of_ble_eq_true rfl) dX5_reachedIn_105 ⟨(Nat.le_of_ble_eq_true rfl), (Nat.le_of_ble_eq_true rfl)⟩ (rest := []) (fun H locs hP hS => ?_)
            refine W.eq (g2 := F0 m 108 ls []) rfl ?_
            refine lv_iinc (v := (v5 + (1 : Int32))) F.1 F.2.1 dX5_reachedIn_108 hl (k := 4) rfl rfl (Nat.le_of_ble_eq_true rfl) rfl (fun ls hl => ?_)
            have hl : lv_has ls 6 [(5, .int (v5 + (1 : Int32))), (0, .ref (y)), (1, .int a1), (2, .int a2), (3, .int a3)] := hl
            refine lv_goto (tgt := 76) F.1 F.2.1 dX5_reachedIn_111 rfl ?_
            exact ih.2.2 (va_up ν 2 r20) (v5 + (1 : Int32)) _ _ _ (lv_sub hl [1, 2, 3, 4, 0] rfl) hP hS hf
          · have hf := ifn hc19 hf
            refine lv_iload F.1 F.2.1 dX5_reachedIn_96 (lv_at hl 4 rfl) ?_
            obtain rfl := Option.some.inj hf
            exact m_iret F hr hlk hP hS rfl dX5_reachedIn_98
  intro ls H locs hl hP hS
  have hl : lv_has ls 6 [(0, .ref (y)), (1, .int a1), (2, .int a2), (3, .int a3)] := hl
  unfold f_X5_reachedIn at hf
  refine lv_aload_n F.1 F.2.1 dX5_reachedIn_0 rfl (lv_at hl 0 rfl) ?_
  refine m_getR F hK hP (fun _ h => List.mem_cons_of_mem _ (List.mem_append_right _ h)) 1 (Nat.le_of_ble_eq_true rfl) (List.mem_of_getElem? (i := 1) rfl) rfl (v := .ref (y + 1)) (fun _ => rfl) dX5_reachedIn_1 ?_
  refine lv_iload_n F.1 F.2.1 dX5_reachedIn_4 rfl (lv_at hl 1 rfl) ?_
  obtain ⟨r1, hr2, hf⟩ := bnd hf
  refine m_callS F hK hP hS (c_X5_isSite (by decide) (by decide) rfl a1 hr2) (va_cwS 2 F.2.2.2.2 gX5_reachedIn_X5_isSite rfl rfl rfl hd_X5_isSite ⟨(Nat.le_of_ble_eq_true rfl), (Nat.le_of_ble_eq_true rfl)⟩) rfl rfl hl.1 (Nat.le_of_ble_eq_true rfl) dX5_reachedIn_5 ⟨(Nat.le_of_ble_eq_true rfl), (Nat.le_of_ble_eq_true rfl)⟩ (rest := []) (fun H locs hP hS => ?_)
  refine W.eq (g2 := F0 m 8 ls [.int r1]) rfl ?_
  refine lv_if_eq (tgt := 22) F.1 F.2.1 dX5_reachedIn_8 rfl (fun hc3 => ?_) (fun hc3 => ?_)
  · have hf := ifp hc3 hf
    refine lv_iconst (v := (0 : Int32)) F.1 F.2.1 dX5_reachedIn_22 (by decide) ?_
    exact (KEY FU).1 ν (0 : Int32) _ _ _ (lv_sub hl [0, 1, 2, 3] rfl) hP hS hf
  · have hf := ifn hc3 hf
    refine lv_iload_n F.1 F.2.1 dX5_reachedIn_11 rfl (lv_at hl 2 rfl) ?_
    obtain ⟨r4, hr5, hf⟩ := bnd hf
    refine m_callS F hK hP hS (c_X5_isCell a2 hr5) (va_cwS 1 F.2.2.2.2 gX5_reachedIn_X5_isCell rfl rfl rfl hd_X5_isCell ⟨(Nat.le_of_ble_eq_true rfl), (Nat.le_of_ble_eq_true rfl)⟩) rfl rfl hl.1 (Nat.le_of_ble_eq_true rfl) dX5_reachedIn_12 ⟨(Nat.le_of_ble_eq_true rfl), (Nat.le_of_ble_eq_true rfl)⟩ (rest := []) (fun H locs hP hS => ?_)
    refine W.eq (g2 := F0 m 15 ls [.int r4]) rfl ?_
    refine lv_if_eq (tgt := 22) F.1 F.2.1 dX5_reachedIn_15 rfl (fun hc6 => ?_) (fun hc6 => ?_)
    · have hf := ifp hc6 hf
      refine lv_iconst (v := (0 : Int32)) F.1 F.2.1 dX5_reachedIn_22 (by decide) ?_
      exact (KEY FU).1 ν (0 : Int32) _ _ _ (lv_sub hl [0, 1, 2, 3] rfl) hP hS hf
    · have hf := ifn hc6 hf
      refine lv_iconst (v := (1 : Int32)) F.1 F.2.1 dX5_reachedIn_18 (by decide) ?_
      refine lv_goto (tgt := 23) F.1 F.2.1 dX5_reachedIn_19 rfl ?_
      exact (KEY FU).1 ν (1 : Int32) _ _ _ (lv_sub hl [0, 1, 2, 3] rfl) hP hS hf

-- FrostTubesModel.bestFence(IIII)I
def fb_X5_bestFence_1 (a1 : Int32) (a2 : Int32) (a3 : Int32) (a4 : Int32) (K : Nat → Mem → Int32 → Int32 → Int32 → Int32 → Int32 → Int32 → Option (Int32 × Mem)) (ν : Mem) (t0 : Int32) (v10 : Int32) (v5 : Int32) (v6 : Int32) (v7 : Int32) (v9 : Int32) : Option (Int32 × Mem) := ((f_X5_refused ν t0).bind fun r7 => (if r7.1 = 0 then (K 2 r7.2 0 0 (-1 : Int32) (0 : Int32) (0 : Int32) 0) else some ((0 : Int32), r7.2)))
def fb_X5_bestFence_2 (a1 : Int32) (a2 : Int32) (a3 : Int32) (a4 : Int32) (K : Nat → Mem → Int32 → Int32 → Int32 → Int32 → Int32 → Int32 → Option (Int32 × Mem)) (ν : Mem) (t0 : Int32) (v10 : Int32) (v5 : Int32) (v6 : Int32) (v7 : Int32) (v9 : Int32) : Option (Int32 × Mem) := (if (20 : Int32) < v7 then some (v5, ν) else ((f_X5_copy (ν 2) (ν 1)).bind fun r11 => (if oob (((35 : Int32) * a1) + (1 : Int32)) 205 then none else ((f_X5_goDays ((va_up (va_up ν 2 r11) 2 (upd ((va_up ν 2 r11) 2) ((((35 : Int32) * a1) + (1 : Int32)).toNatClampNeg) v7)) 2) a2 a3 a4).bind fun r14 => ((f_X5_cells ((va_up (va_up (va_up ν 2 r11) 2 (upd ((va_up ν 2 r11) 2) ((((35 : Int32) * a1) + (1 : Int32)).toNatClampNeg) v7)) 2 r14.2) 2) a1).bind fun r16 => (if v5 = (-1 : Int32) then (K 3 (va_up (va_up (va_up ν 2 r11) 2 (upd ((va_up ν 2 r11) 2) ((((35 : Int32) * a1) + (1 : Int32)).toNatClampNeg) v7)) 2 r14.2) (1 : Int32) 0 v5 v6 v7 r16) else (if v6 ≤ r16 then (K 3 (va_up (va_up (va_up ν 2 r11) 2 (upd ((va_up ν 2 r11) 2) ((((35 : Int32) * a1) + (1 : Int32)).toNatClampNeg) v7)) 2 r14.2) (0 : Int32) 0 v5 v6 v7 r16) else (K 3 (va_up (va_up (va_up ν 2 r11) 2 (upd ((va_up ν 2 r11) 2) ((((35 : Int32) * a1) + (1 : Int32)).toNatClampNeg) v7)) 2 r14.2) (1 : Int32) 0 v5 v6 v7 r16))))))))
def fb_X5_bestFence_3 (a1 : Int32) (a2 : Int32) (a3 : Int32) (a4 : Int32) (K : Nat → Mem → Int32 → Int32 → Int32 → Int32 → Int32 → Int32 → Option (Int32 × Mem)) (ν : Mem) (t0 : Int32) (v10 : Int32) (v5 : Int32) (v6 : Int32) (v7 : Int32) (v9 : Int32) : Option (Int32 × Mem) := (if t0 = 0 then (K 4 ν v5 t0 0 v6 v7 v9) else (K 4 ν v7 t0 0 v6 v7 v9))
def fb_X5_bestFence_4 (a1 : Int32) (a2 : Int32) (a3 : Int32) (a4 : Int32) (K : Nat → Mem → Int32 → Int32 → Int32 → Int32 → Int32 → Int32 → Option (Int32 × Mem)) (ν : Mem) (t0 : Int32) (v10 : Int32) (v5 : Int32) (v6 : Int32) (v7 : Int32) (v9 : Int32) : Option (Int32 × Mem) := (if v10 = 0 then (K 2 ν 0 0 t0 v6 (v7 + (1 : Int32)) 0) else (K 2 ν 0 0 t0 v9 (v7 + (1 : Int32)) 0))
def fl_X5_bestFence (a1 : Int32) (a2 : Int32) (a3 : Int32) (a4 : Int32) : Nat → Nat → Mem → Int32 → Int32 → Int32 → Int32 → Int32 → Int32 → Option (Int32 × Mem)
  | 0, _, _, _, _, _, _, _, _ => none
  | n + 1, lab, ν, t0, v10, v5, v6, v7, v9 => match lab with
    | 1 => fb_X5_bestFence_1 a1 a2 a3 a4 (fl_X5_bestFence a1 a2 a3 a4 n) ν t0 v10 v5 v6 v7 v9
    | 2 => fb_X5_bestFence_2 a1 a2 a3 a4 (fl_X5_bestFence a1 a2 a3 a4 n) ν t0 v10 v5 v6 v7 v9
    | 3 => fb_X5_bestFence_3 a1 a2 a3 a4 (fl_X5_bestFence a1 a2 a3 a4 n) ν t0 v10 v5 v6 v7 v9
    | _ => fb_X5_bestFence_4 a1 a2 a3 a4 (fl_X5_bestFence a1 a2 a3 a4 n) ν t0 v10 v5 v6 v7 v9
def f_X5_bestFence (ν : Mem) (a1 : Int32) (a2 : Int32) (a3 : Int32) (a4 : Int32) : Option (Int32 × Mem) := ((f_X5_isSite (ν 1) a1).bind fun r1 => (if r1 = 0 then (fl_X5_bestFence a1 a2 a3 a4 FU 1 ν (1 : Int32) 0 0 0 0 0) else ((f_X5_isWeather a2 a3 a4).bind fun r4 => (if r4 = 0 then (fl_X5_bestFence a1 a2 a3 a4 FU 1 ν (2 : Int32) 0 0 0 0 0) else (fl_X5_bestFence a1 a2 a3 a4 FU 1 ν (0 : Int32) 0 0 0 0 0)))))
def rmX5_bestFence : Room := { frames := 6, cells := 0, slots := 0, locals := 139 }
theorem hd_X5_bestFence : yX5_bestFence.cls ≠ "java/lang/invoke/MethodHandle" ∧ yX5_bestFence.cls ≠ "java/lang/invoke/VarHandle" ∧ (parseMethodDescriptor yX5_bestFence.desc).map (fun d => d.parameters.length) = some 4 := by decide +kernel
set_option maxHeartbeats 8000000 in
set_option maxRecDepth 100000 in
theorem c_X5_bestFence {l : Launch} {D : va_G} {y : Nat} {ν : Mem} (a1 : Int32) (a2 : Int32) (a3 : Int32) (a4 : Int32) {r : Int32 × Mem} (hf : f_X5_bestFence ν a1 a2 a3 a4 = some r) : CM l yX5_bestFence wsX5_bestFence rmX5_bestFence [.ref (y), .int a1, .int a2, .int a3, .int a4] D y ν (some (.int r.1)) r.2 := by
  refine CM.of (cc := cX5_bestFence) (maxL := 11) (ret := (some .int)) pn_X5 rfl (Nat.le_of_ble_eq_true rfl) ?_
  intro p e s m args below meth c F hr hlk hK
  have KEY : ∀ n : Nat, (∀ (ν : Mem) (t0 : Int32) (ls : Array Slot) (H : Heap) (locs : List Loc), lv_has ls 11 [(0, .ref (y)), (1, .int a1), (2, .int a2), (3, .int a3), (4, .int a4)] → va_P D vwCl (WM D y ν) H → va_S (rngM y) s.heap H locs → fl_X5_bestFence a1 a2 a3 a4 n 1 ν t0 0 0 0 0 0 = some r → W p l e rmX5_bestFence s m args below meth c H locs 0 0 (MQ below (QM D y r.2 (some (.int r.1))) args s 0 0 (rngM y)) (F0 m 31 ls [.int t0, .ref (y)])) ∧ (∀ (ν : Mem) (v5 : Int32) (v6 : Int32) (v7 : Int32) (ls : Array Slot) (H : Heap) (locs : List Loc), lv_has ls 11 [(0, .ref (y)), (1, .int a1), (2, .int a2), (3, .int a3), (4, .int a4), (5, .int v5), (6, .int v6), (7, .int v7)] → va_P D vwCl (WM D y ν) H → va_S (rngM y) s.heap H locs → fl_X5_bestFence a1 a2 a3 a4 n 2 ν 0 0 v5 v6 v7 0 = some r → W p l e rmX5_bestFence s m args below meth c H locs 0 0 (MQ below (QM D y r.2 (some (.int r.1))) args s 0 0 (rngM y)) (F0 m 48 ls [])) ∧ (∀ (ν : Mem) (v5 : Int32) (v6 : Int32) (v7 : Int32) (v9 : Int32) (t0 : Int32) (ls : Array Slot) (H : Heap) (locs : List Loc), lv_has ls 11 [(0, .ref (y)), (1, .int a1), (2, .int a2), (3, .int a3), (4, .int a4), (5, .int v5), (6, .int v6), (7, .int v7), (9, .int v9)] → va_P D vwCl (WM D y ν) H → va_S (rngM y) s.heap H locs → fl_X5_bestFence a1 a2 a3 a4 n 3 ν t0 0 v5 v6 v7 v9 = some r → W p l e rmX5_bestFence s m args below meth c H locs 0 0 (MQ below (QM D y r.2 (some (.int r.1))) args s 0 0 (rngM y)) (F0 m 120 ls [.int t0])) ∧ (∀ (ν : Mem) (v6 : Int32) (v7 : Int32) (v9 : Int32) (v10 : Int32) (t0 : Int32) (ls : Array Slot) (H : Heap) (locs : List Loc), lv_has ls 11 [(0, .ref (y)), (1, .int a1), (2, .int a2), (3, .int a3), (4, .int a4), (6, .int v6), (7, .int v7), (9, .int v9), (10, .int v10)] → va_P D vwCl (WM D y ν) H → va_S (rngM y) s.heap H locs → fl_X5_bestFence a1 a2 a3 a4 n 4 ν t0 v10 0 v6 v7 v9 = some r → W p l e rmX5_bestFence s m args below meth c H locs 0 0 (MQ below (QM D y r.2 (some (.int r.1))) args s 0 0 (rngM y)) (F0 m 134 ls [.int t0])) := by
    intro n
    induction n with
    | zero => exact ⟨(fun _ _ _ _ _ _ _ _ h => nomatch h), (fun _ _ _ _ _ _ _ _ _ _ h => nomatch h), (fun _ _ _ _ _ _ _ _ _ _ _ _ h => nomatch h), (fun _ _ _ _ _ _ _ _ _ _ _ _ h => nomatch h)⟩
    | succ n ih =>
      refine ⟨?_, ?_, ?_, ?_⟩
      · intro ν t0  ls H locs hl hP hS hf
        have hf : fb_X5_bestFence_1 a1 a2 a3 a4 (fl_X5_bestFence a1 a2 a3 a4 n) ν t0 0 0 0 0 0 = some r := hf
        unfold fb_X5_bestFence_1 at hf
        obtain ⟨r7, hr8, hf⟩ := bnd hf
        refine m_callV F hK hP hS (c_X5_refused t0 hr8) (cwV 1 F.2.2.2.2 gX5_bestFence_X5_refused rfl rfl rfl ⟨rfl, hd_X5_refused⟩ ⟨(Nat.le_of_ble_eq_true rfl), (Nat.le_of_ble_eq_true rfl)⟩) rfl rfl hl.1 (Nat.le_of_ble_eq_true rfl) dX5_bestFence_31 ⟨(Nat.le_of_ble_eq_true rfl), (Nat.le_of_ble_eq_true rfl)⟩ (rest := []) (fun H locs hP hS => ?_)
        refine W.eq (g2 := F0 m 34 ls [.int r7.1]) rfl ?_
        refine lv_if_eq (tgt := 39) F.1 F.2.1 dX5_bestFence_34 rfl (fun hc9 => ?_) (fun hc9 => ?_)
        · have hf := ifp hc9 hf
          refine lv_iconst (v := (-1 : Int32)) F.1 F.2.1 dX5_bestFence_39 (by decide) ?_
          refine lv_istore F.1 F.2.1 dX5_bestFence_40 hl (Nat.le_of_ble_eq_true rfl) rfl (fun ls hl => ?_)
          have hl : lv_has ls 11 [(5, .int (-1 : Int32)), (0, .ref (y)), (1, .int a1), (2, .int a2), (3, .int a3), (4, .int a4)] := hl
          refine lv_iconst (v := (0 : Int32)) F.1 F.2.1 dX5_bestFence_42 (by decide) ?_
          refine lv_istore F.1 F.2.1 dX5_bestFence_43 hl (Nat.le_of_ble_eq_true rfl) rfl (fun ls hl => ?_)
          have hl : lv_has ls 11 [(6, .int (0 : Int32)), (5, .int (-1 : Int32)), (0, .ref (y)), (1, .int a1), (2, .int a2), (3, .int a3), (4, .int a4)] := hl
          refine lv_iconst (v := (0 : Int32)) F.1 F.2.1 dX5_bestFence_45 (by decide) ?_
          refine lv_istore F.1 F.2.1 dX5_bestFence_46 hl (Nat.le_of_ble_eq_true rfl) rfl (fun ls hl => ?_)
          have hl : lv_has ls 11 [(7, .int (0 : Int32)), (6, .int (0 : Int32)), (5, .int (-1 : Int32)), (0, .ref (y)), (1, .int a1), (2, .int a2), (3, .int a3), (4, .int a4)] := hl
          exact ih.2.1 r7.2 (-1 : Int32) (0 : Int32) (0 : Int32) _ _ _ (lv_sub hl [3, 4, 5, 6, 7, 2, 1, 0] rfl) hP hS hf
        · have hf := ifn hc9 hf
          refine lv_iconst (v := (0 : Int32)) F.1 F.2.1 dX5_bestFence_37 (by decide) ?_
          obtain rfl := Option.some.inj hf
          exact m_iret F hr hlk hP hS rfl dX5_bestFence_38
      · intro ν v5 v6 v7  ls H locs hl hP hS hf
        have hf : fb_X5_bestFence_2 a1 a2 a3 a4 (fl_X5_bestFence a1 a2 a3 a4 n) ν 0 0 v5 v6 v7 0 = some r := hf
        unfold fb_X5_bestFence_2 at hf
        refine lv_iload F.1 F.2.1 dX5_bestFence_48 (lv_at hl 7 rfl) ?_
        refine lv_bipush (v := (20 : Int32)) F.1 F.2.1 dX5_bestFence_50 (by decide) ?_
        refine lv_icmp_gt (tgt := 156) F.1 F.2.1 dX5_bestFence_52 rfl (fun hc10 => ?_) (fun hc10 => ?_)
        · have hf := ifp hc10 hf
          refine lv_iload F.1 F.2.1 dX5_bestFence_156 (lv_at hl 5 rfl) ?_
          obtain rfl := Option.some.inj hf
          exact m_iret F hr hlk hP hS rfl dX5_bestFence_158
        · have hf := ifn hc10 hf
          refine lv_aload_n F.1 F.2.1 dX5_bestFence_55 rfl (lv_at hl 0 rfl) ?_
          refine m_getR F hK hP (fun _ h => List.mem_cons_of_mem _ (List.mem_append_right _ h)) 1 (Nat.le_of_ble_eq_true rfl) (List.mem_of_getElem? (i := 1) rfl) rfl (v := .ref (y + 1)) (fun _ => rfl) dX5_bestFence_56 ?_
          refine lv_aload_n F.1 F.2.1 dX5_bestFence_59 rfl (lv_at hl 0 rfl) ?_
          refine m_getR F hK hP (fun _ h => List.mem_cons_of_mem _ (List.mem_append_right _ h)) 2 (Nat.le_of_ble_eq_true rfl) (List.mem_of_getElem? (i := 2) rfl) rfl (v := .ref (y + 2)) (fun _ => rfl) dX5_bestFence_60 ?_
          obtain ⟨r11, hr12, hf⟩ := bnd hf
          have hP := m_up 2 hP
          refine m_callS F hK hP hS (c_X5_copy (by decide) (by decide) (by decide) (by decide) (by decide) rfl hr12) (va_cwS 2 F.2.2.2.2 gX5_bestFence_X5_copy rfl rfl rfl hd_X5_copy ⟨(Nat.le_of_ble_eq_true rfl), (Nat.le_of_ble_eq_true rfl)⟩) rfl rfl hl.1 (Nat.le_of_ble_eq_true rfl) dX5_bestFence_63 ⟨(Nat.le_of_ble_eq_true rfl), (Nat.le_of_ble_eq_true rfl)⟩ (rest := []) (fun H locs hP hS => ?_)
          refine W.eq (g2 := F0 m 66 ls []) rfl ?_
          refine lv_aload_n F.1 F.2.1 dX5_bestFence_66 rfl (lv_at hl 0 rfl) ?_
          refine m_getR F hK hP (fun _ h => List.mem_cons_of_mem _ (List.mem_append_right _ h)) 2 (Nat.le_of_ble_eq_true rfl) (List.mem_of_getElem? (i := 2) rfl) rfl (v := .ref (y + 2)) (fun _ => rfl) dX5_bestFence_67 ?_
          refine lv_bipush (v := (35 : Int32)) F.1 F.2.1 dX5_bestFence_70 (by decide) ?_
          refine lv_iload_n F.1 F.2.1 dX5_bestFence_72 rfl (lv_at hl 1 rfl) ?_
          refine lv_imul F.1 F.2.1 dX5_bestFence_73 ?_
          refine lv_iconst (v := (1 : Int32)) F.1 F.2.1 dX5_bestFence_74 (by decide) ?_
          refine lv_iadd F.1 F.2.1 dX5_bestFence_75 ?_
          refine lv_iload F.1 F.2.1 dX5_bestFence_76 (lv_at hl 7 rfl) ?_
          obtain ⟨hb13, hf⟩ := ifg hf
          have hP := m_up 2 hP
          refine m_iast F hK hP hS (by decide) (fun _ => rfl) rfl hb13 dX5_bestFence_78 (fun H locs hP hS => ?_)
          refine lv_aload_n F.1 F.2.1 dX5_bestFence_79 rfl (lv_at hl 0 rfl) ?_
          refine m_getR F hK hP (fun _ h => List.mem_cons_of_mem _ (List.mem_append_right _ h)) 2 (Nat.le_of_ble_eq_true rfl) (List.mem_of_getElem? (i := 2) rfl) rfl (v := .ref (y + 2)) (fun _ => rfl) dX5_bestFence_80 ?_
          refine lv_iload_n F.1 F.2.1 dX5_bestFence_83 rfl (lv_at hl 2 rfl) ?_
          refine lv_iload_n F.1 F.2.1 dX5_bestFence_84 rfl (lv_at hl 3 rfl) ?_
          refine lv_iload F.1 F.2.1 dX5_bestFence_85 (lv_at hl 4 rfl) ?_
          obtain ⟨r14, hr15, hf⟩ := bnd hf
          have hP := m_up 2 hP
          refine m_callS F hK hP hS (c_X5_goDays (by decide) (by decide) a2 a3 a4 hr15) (va_cwS 4 F.2.2.2.2 gX5_bestFence_X5_goDays rfl rfl rfl hd_X5_goDays ⟨(Nat.le_of_ble_eq_true rfl), (Nat.le_of_ble_eq_true rfl)⟩) rfl rfl hl.1 (Nat.le_of_ble_eq_true rfl) dX5_bestFence_87 ⟨(Nat.le_of_ble_eq_true rfl), (Nat.le_of_ble_eq_true rfl)⟩ (rest := []) (fun H locs hP hS => ?_)
          refine W.eq (g2 := F0 m 90 ls [.int r14.1]) rfl ?_
          refine lv_istore F.1 F.2.1 dX5_bestFence_90 hl (Nat.le_of_ble_eq_true rfl) rfl (fun ls hl => ?_)
          have hl : lv_has ls 11 [(8, .int r14.1), (0, .ref (y)), (1, .int a1), (2, .int a2), (3, .int a3), (4, .int a4), (5, .int v5), (6, .int v6), (7, .int v7)] := hl
          refine lv_aload_n F.1 F.2.1 dX5_bestFence_92 rfl (lv_at hl 1 rfl) ?_
          refine m_getR F hK hP (fun _ h => List.mem_cons_of_mem _ (List.mem_append_right _ h)) 2 (Nat.le_of_ble_eq_true rfl) (List.mem_of_getElem? (i := 2) rfl) rfl (v := .ref (y + 2)) (fun _ => rfl) dX5_bestFence_93 ?_
          refine lv_iload_n F.1 F.2.1 dX5_bestFence_96 rfl (lv_at hl 2 rfl) ?_
          obtain ⟨r16, hr17, hf⟩ := bnd hf
          refine m_callS F hK hP hS (c_X5_cells (by decide) (by decide) rfl a1 hr17) (va_cwS 2 F.2.2.2.2 gX5_bestFence_X5_cells rfl rfl rfl hd_X5_cells ⟨(Nat.le_of_ble_eq_true rfl), (Nat.le_of_ble_eq_true rfl)⟩) rfl rfl hl.1 (Nat.le_of_ble_eq_true rfl) dX5_bestFence_97 ⟨(Nat.le_of_ble_eq_true rfl), (Nat.le_of_ble_eq_true rfl)⟩ (rest := []) (fun H locs hP hS => ?_)
          refine W.eq (g2 := F0 m 100 ls [.int r16]) rfl ?_
          refine lv_istore F.1 F.2.1 dX5_bestFence_100 hl (Nat.le_of_ble_eq_true rfl) rfl (fun ls hl => ?_)
          have hl : lv_has ls 11 [(9, .int r16), (8, .int r14.1), (0, .ref (y)), (1, .int a1), (2, .int a2), (3, .int a3), (4, .int a4), (5, .int v5), (6, .int v6), (7, .int v7)] := hl
          refine lv_iload F.1 F.2.1 dX5_bestFence_102 (lv_at hl 7 rfl) ?_
          refine lv_iconst (v := (-1 : Int32)) F.1 F.2.1 dX5_bestFence_104 (by decide) ?_
          refine lv_icmp_eq (tgt := 115) F.1 F.2.1 dX5_bestFence_105 rfl (fun hc18 => ?_) (fun hc18 => ?_)
          · have hf := ifp hc18 hf
            refine lv_iconst (v := (1 : Int32)) F.1 F.2.1 dX5_bestFence_115 (by decide) ?_
            refine lv_goto (tgt := 120) F.1 F.2.1 dX5_bestFence_116 rfl ?_
            exact ih.2.2.1 (va_up (va_up (va_up ν 2 r11) 2 (upd ((va_up ν 2 r11) 2) ((((35 : Int32) * a1) + (1 : Int32)).toNatClampNeg) v7)) 2 r14.2) v5 v6 v7 r16 (1 : Int32) _ _ _ (lv_sub hl [2, 3, 4, 5, 6, 7, 8, 9, 0] rfl) hP hS hf
          · have hf := ifn hc18 hf
            refine lv_iload F.1 F.2.1 dX5_bestFence_108 (lv_at hl 0 rfl) ?_
            refine lv_iload F.1 F.2.1 dX5_bestFence_110 (lv_at hl 8 rfl) ?_
            refine lv_icmp_ge (tgt := 119) F.1 F.2.1 dX5_bestFence_112 rfl (fun hc19 => ?_) (fun hc19 => ?_)
            · have hf := ifp hc19 hf
              refine lv_iconst (v := (0 : Int32)) F.1 F.2.1 dX5_bestFence_119 (by decide) ?_
              exact ih.2.2.1 (va_up (va_up (va_up ν 2 r11) 2 (upd ((va_up ν 2 r11) 2) ((((35 : Int32) * a1) + (1 : Int32)).toNatClampNeg) v7)) 2 r14.2) v5 v6 v7 r16 (0 : Int32) _ _ _ (lv_sub hl [2, 3, 4, 5, 6, 7, 8, 9, 0] rfl) hP hS hf
            · have hf := ifn hc19 hf
              refine lv_iconst (v := (1 : Int32)) F.1 F.2.1 dX5_bestFence_115 (by decide) ?_
              refine lv_goto (tgt := 120) F.1 F.2.1 dX5_bestFence_116 rfl ?_
              exact ih.2.2.1 (va_up (va_up (va_up ν 2 r11) 2 (upd ((va_up ν 2 r11) 2) ((((35 : Int32) * a1) + (1 : Int32)).toNatClampNeg) v7)) 2 r14.2) v5 v6 v7 r16 (1 : Int32) _ _ _ (lv_sub hl [2, 3, 4, 5, 6, 7, 8, 9, 0] rfl) hP hS hf
      · intro ν v5 v6 v7 v9 t0  ls H locs hl hP hS hf
        have hf : fb_X5_bestFence_3 a1 a2 a3 a4 (fl_X5_bestFence a1 a2 a3 a4 n) ν t0 0 v5 v6 v7 v9 = some r := hf
        unfold fb_X5_bestFence_3 at hf
        refine lv_istore F.1 F.2.1 dX5_bestFence_120 hl (Nat.le_of_ble_eq_true rfl) rfl (fun ls hl => ?_)
        have hl : lv_has ls 11 [(10, .int t0), (0, .ref (y)), (1, .int a1), (2, .int a2), (3, .int a3), (4, .int a4), (5, .int v5), (6, .int v6), (7, .int v7), (9, .int v9)] := hl
        refine lv_iload F.1 F.2.1 dX5_bestFence_122 (lv_at hl 0 rfl) ?_
        refine lv_if_eq (tgt := 132) F.1 F.2.1 dX5_bestFence_124 rfl (fun hc20 => ?_) (fun hc20 => ?_)
        · have hf := ifp hc20 hf
          refine lv_iload F.1 F.2.1 dX5_bestFence_132 (lv_at hl 6 rfl) ?_
          exact ih.2.2.2 ν v6 v7 v9 t0 v5 _ _ _ (lv_sub hl [1, 2, 3, 4, 5, 7, 8, 9, 0] rfl) hP hS hf
        · have hf := ifn hc20 hf
          refine lv_iload F.1 F.2.1 dX5_bestFence_127 (lv_at hl 8 rfl) ?_
          refine lv_goto (tgt := 134) F.1 F.2.1 dX5_bestFence_129 rfl ?_
          exact ih.2.2.2 ν v6 v7 v9 t0 v7 _ _ _ (lv_sub hl [1, 2, 3, 4, 5, 7, 8, 9, 0] rfl) hP hS hf
      · intro ν v6 v7 v9 v10 t0  ls H locs hl hP hS hf
        have hf : fb_X5_bestFence_4 a1 a2 a3 a4 (fl_X5_bestFence a1 a2 a3 a4 n) ν t0 v10 0 v6 v7 v9 = some r := hf
        unfold fb_X5_bestFence_4 at hf
        refine lv_istore F.1 F.2.1 dX5_bestFence_134 hl (Nat.le_of_ble_eq_true rfl) rfl (fun ls hl => ?_)
        have hl : lv_has ls 11 [(5, .int t0), (0, .ref (y)), (1, .int a1), (2, .int a2), (3, .int a3), (4, .int a4), (6, .int v6), (7, .int v7), (9, .int v9), (10, .int v10)] := hl
        refine lv_iload F.1 F.2.1 dX5_bestFence_136 (lv_at hl 9 rfl) ?_
        refine lv_if_eq (tgt := 146) F.1 F.2.1 dX5_bestFence_138 rfl (fun hc21 => ?_) (fun hc21 => ?_)
        · have hf := ifp hc21 hf
          refine lv_iload F.1 F.2.1 dX5_bestFence_146 (lv_at hl 6 rfl) ?_
          refine lv_istore F.1 F.2.1 dX5_bestFence_148 hl (Nat.le_of_ble_eq_true rfl) rfl (fun ls hl => ?_)
          have hl : lv_has ls 11 [(6, .int v6), (5, .int t0), (0, .ref (y)), (1, .int a1), (2, .int a2), (3, .int a3), (4, .int a4), (7, .int v7), (9, .int v9), (10, .int v10)] := hl
          refine lv_iinc (v := (v7 + (1 : Int32))) F.1 F.2.1 dX5_bestFence_150 hl (k := 7) rfl rfl (Nat.le_of_ble_eq_true rfl) rfl (fun ls hl => ?_)
          have hl : lv_has ls 11 [(7, .int (v7 + (1 : Int32))), (6, .int v6), (5, .int t0), (0, .ref (y)), (1, .int a1), (2, .int a2), (3, .int a3), (4, .int a4), (9, .int v9), (10, .int v10)] := hl
          refine lv_goto (tgt := 48) F.1 F.2.1 dX5_bestFence_153 rfl ?_
          exact ih.2.1 ν t0 v6 (v7 + (1 : Int32)) _ _ _ (lv_sub hl [3, 4, 5, 6, 7, 2, 1, 0] rfl) hP hS hf
        · have hf := ifn hc21 hf
          refine lv_iload F.1 F.2.1 dX5_bestFence_141 (lv_at hl 8 rfl) ?_
          refine lv_goto (tgt := 148) F.1 F.2.1 dX5_bestFence_143 rfl ?_
          refine lv_istore F.1 F.2.1 dX5_bestFence_148 hl (Nat.le_of_ble_eq_true rfl) rfl (fun ls hl => ?_)
          have hl : lv_has ls 11 [(6, .int v9), (5, .int t0), (0, .ref (y)), (1, .int a1), (2, .int a2), (3, .int a3), (4, .int a4), (7, .int v7), (9, .int v9), (10, .int v10)] := hl
          refine lv_iinc (v := (v7 + (1 : Int32))) F.1 F.2.1 dX5_bestFence_150 hl (k := 7) rfl rfl (Nat.le_of_ble_eq_true rfl) rfl (fun ls hl => ?_)
          have hl : lv_has ls 11 [(7, .int (v7 + (1 : Int32))), (6, .int v9), (5, .int t0), (0, .ref (y)), (1, .int a1), (2, .int a2), (3, .int a3), (4, .int a4), (9, .int v9), (10, .int v10)] := hl
          refine lv_goto (tgt := 48) F.1 F.2.1 dX5_bestFence_153 rfl ?_
          exact ih.2.1 ν t0 v9 (v7 + (1 : Int32)) _ _ _ (lv_sub hl [3, 4, 5, 6, 7, 2, 1, 0] rfl) hP hS hf
  intro ls H locs hl hP hS
  have hl : lv_has ls 11 [(0, .ref (y)), (1, .int a1), (2, .int a2), (3, .int a3), (4, .int a4)] := hl
  unfold f_X5_bestFence at hf
  refine lv_aload_n F.1 F.2.1 dX5_bestFence_0 rfl (lv_at hl 0 rfl) ?_
  refine lv_aload_n F.1 F.2.1 dX5_bestFence_1 rfl (lv_at hl 0 rfl) ?_
  refine m_getR F hK hP (fun _ h => List.mem_cons_of_mem _ (List.mem_append_right _ h)) 1 (Nat.le_of_ble_eq_true rfl) (List.mem_of_getElem? (i := 1) rfl) rfl (v := .ref (y + 1)) (fun _ => rfl) dX5_bestFence_2 ?_
  refine lv_iload_n F.1 F.2.1 dX5_bestFence_5 rfl (lv_at hl 1 rfl) ?_
  obtain ⟨r1, hr2, hf⟩ := bnd hf
  refine m_callS F hK hP hS (c_X5_isSite (by decide) (by decide) rfl a1 hr2) (va_cwS 2 F.2.2.2.2 gX5_bestFence_X5_isSite rfl rfl rfl hd_X5_isSite ⟨(Nat.le_of_ble_eq_true rfl), (Nat.le_of_ble_eq_true rfl)⟩) rfl rfl hl.1 (Nat.le_of_ble_eq_true rfl) dX5_bestFence_6 ⟨(Nat.le_of_ble_eq_true rfl), (Nat.le_of_ble_eq_true rfl)⟩ (rest := [.ref (y)]) (fun H locs hP hS => ?_)
  refine W.eq (g2 := F0 m 9 ls [.int r1, .ref (y)]) rfl ?_
  refine lv_if_ne (tgt := 16) F.1 F.2.1 dX5_bestFence_9 rfl (fun hc3 => ?_) (fun hc3 => ?_)
  · have hf := ifn hc3 hf
    refine lv_iload_n F.1 F.2.1 dX5_bestFence_16 rfl (lv_at hl 2 rfl) ?_
    refine lv_iload_n F.1 F.2.1 dX5_bestFence_17 rfl (lv_at hl 3 rfl) ?_
    refine lv_iload F.1 F.2.1 dX5_bestFence_18 (lv_at hl 4 rfl) ?_
    obtain ⟨r4, hr5, hf⟩ := bnd hf
    refine m_callS F hK hP hS (c_X5_isWeather a2 a3 a4 hr5) (va_cwS 3 F.2.2.2.2 gX5_bestFence_X5_isWeather rfl rfl rfl hd_X5_isWeather ⟨(Nat.le_of_ble_eq_true rfl), (Nat.le_of_ble_eq_true rfl)⟩) rfl rfl hl.1 (Nat.le_of_ble_eq_true rfl) dX5_bestFence_20 ⟨(Nat.le_of_ble_eq_true rfl), (Nat.le_of_ble_eq_true rfl)⟩ (rest := [.ref (y)]) (fun H locs hP hS => ?_)
    refine W.eq (g2 := F0 m 23 ls [.int r4, .ref (y)]) rfl ?_
    refine lv_if_ne (tgt := 30) F.1 F.2.1 dX5_bestFence_23 rfl (fun hc6 => ?_) (fun hc6 => ?_)
    · have hf := ifn hc6 hf
      refine lv_iconst (v := (0 : Int32)) F.1 F.2.1 dX5_bestFence_30 (by decide) ?_
      exact (KEY FU).1 ν (0 : Int32) _ _ _ (lv_sub hl [0, 1, 2, 3, 4] rfl) hP hS hf
    · have hf := ifp hc6 hf
      refine lv_iconst (v := (2 : Int32)) F.1 F.2.1 dX5_bestFence_26 (by decide) ?_
      refine lv_goto (tgt := 31) F.1 F.2.1 dX5_bestFence_27 rfl ?_
      exact (KEY FU).1 ν (2 : Int32) _ _ _ (lv_sub hl [0, 1, 2, 3, 4] rfl) hP hS hf
  · have hf := ifp hc3 hf
    refine lv_iconst (v := (1 : Int32)) F.1 F.2.1 dX5_bestFence_12 (by decide) ?_
    refine lv_goto (tgt := 31) F.1 F.2.1 dX5_bestFence_13 rfl ?_
    exact (KEY FU).1 ν (1 : Int32) _ _ _ (lv_sub hl [0, 1, 2, 3, 4] rfl) hP hS hf

-- FrostTubesModel.heaveIn(III)I
def fb_X5_heaveIn_1 (a1 : Int32) (a2 : Int32) (a3 : Int32) (K : Mem → Int32 → Option (Int32 × Mem)) (ν : Mem) (t0 : Int32) : Option (Int32 × Mem) := ((f_X5_refused ν t0).bind fun r7 => (if r7.1 = 0 then ((f_X5_copy (r7.2 2) (r7.2 1)).bind fun r10 => ((f_X5_goDays ((va_up r7.2 2 r10) 2) a2 (0 : Int32) a3).bind fun r12 => (if oob (((156 : Int32) + ((5 : Int32) * a1)) + (2 : Int32)) 205 then none else some ((((va_up (va_up r7.2 2 r10) 2 r12.2) 2) (((156 : Int32) + ((5 : Int32) * a1)) + (2 : Int32)).toNatClampNeg), (va_up (va_up r7.2 2 r10) 2 r12.2))))) else some ((0 : Int32), r7.2)))
def fl_X5_heaveIn (a1 : Int32) (a2 : Int32) (a3 : Int32) : Nat → Mem → Int32 → Option (Int32 × Mem)
  | 0, _, _ => none
  | n + 1, ν, t0 => fb_X5_heaveIn_1 a1 a2 a3 (fl_X5_heaveIn a1 a2 a3 n) ν t0
def f_X5_heaveIn (ν : Mem) (a1 : Int32) (a2 : Int32) (a3 : Int32) : Option (Int32 × Mem) := ((f_X5_isPipe (ν 1) a1).bind fun r1 => (if r1 = 0 then (fl_X5_heaveIn a1 a2 a3 FU ν (1 : Int32)) else ((f_X5_isWeather a2 (0 : Int32) a3).bind fun r4 => (if r4 = 0 then (fl_X5_heaveIn a1 a2 a3 FU ν (2 : Int32)) else (fl_X5_heaveIn a1 a2 a3 FU ν (0 : Int32))))))
def rmX5_heaveIn : Room := { frames := 6, cells := 0, slots := 0, locals := 139 }
theorem hd_X5_heaveIn : yX5_heaveIn.cls ≠ "java/lang/invoke/MethodHandle" ∧ yX5_heaveIn.cls ≠ "java/lang/invoke/VarHandle" ∧ (parseMethodDescriptor yX5_heaveIn.desc).map (fun d => d.parameters.length) = some 3 := by decide +kernel
set_option maxHeartbeats 8000000 in
set_option maxRecDepth 100000 in
theorem c_X5_heaveIn {l : Launch} {D : va_G} {y : Nat} {ν : Mem} (a1 : Int32) (a2 : Int32) (a3 : Int32) {r : Int32 × Mem} (hf : f_X5_heaveIn ν a1 a2 a3 = some r) : CM l yX5_heaveIn wsX5_heaveIn rmX5_heaveIn [.ref (y), .int a1, .int a2, .int a3] D y ν (some (.int r.1)) r.2 := by
  refine CM.of (cc := cX5_heaveIn) (maxL := 5) (ret := (some .int)) pn_X5 rfl (Nat.le_of_ble_eq_true rfl) ?_
  intro p e s m args below meth c F hr hlk hK
  have KEY : ∀ n : Nat, (∀ (ν : Mem) (t0 : Int32) (ls : Array Slot) (H : Heap) (locs : List Loc), lv_has ls 5 [(0, .ref (y)), (1, .int a1), (2, .int a2), (3, .int a3)] → va_P D vwCl (WM D y ν) H → va_S (rngM y) s.heap H locs → fl_X5_heaveIn a1 a2 a3 n ν t0 = some r → W p l e rmX5_heaveIn s m args below meth c H locs 0 0 (MQ below (QM D y r.2 (some (.int r.1))) args s 0 0 (rngM y)) (F0 m 30 ls [.int t0, .ref (y)])) := by
    intro n
    induction n with
    | zero => exact (fun _ _ _ _ _ _ _ _ h => nomatch h)
    | succ n ih =>
      skip
      intro ν t0  ls H locs hl hP hS hf
      have hf : fb_X5_heaveIn_1 a1 a2 a3 (fl_X5_heaveIn a1 a2 a3 n) ν t0 = some r := hf
      unfold fb_X5_heaveIn_1 at hf
      obtain ⟨r7, hr8, hf⟩ := bnd hf
      refine m_callV F hK hP hS (c_X5_refused t0 hr8) (cwV 1 F.2.2.2.2 gX5_heaveIn_X5_refused rfl rfl rfl ⟨rfl, hd_X5_refused⟩ ⟨(Nat.le_of_ble_eq_true rfl), (Nat.le_of_ble_eq_true rfl)⟩) rfl rfl hl.1 (Nat.le_of_ble_eq_true rfl) dX5_heaveIn_30 ⟨(Nat.le_of_ble_eq_true rfl), (Nat.le_of_ble_eq_true rfl)⟩ (rest := []) (fun H locs hP hS => ?_)
      refine W.eq (g2 := F0 m 33 ls [.int r7.1]) rfl ?_
      refine lv_if_eq (tgt := 38) F.1 F.2.1 dX5_heaveIn_33 rfl (fun hc9 => ?_) (fun hc9 => ?_)
      · have hf := ifp hc9 hf
        refine lv_aload_n F.1 F.2.1 dX5_heaveIn_38 rfl (lv_at hl 0 rfl) ?_
        refine m_getR F hK hP (fun _ h => List.mem_cons_of_mem _ (List.mem_append_right _ h)) 1 (Nat.le_of_ble_eq_true rfl) (List.mem_of_getElem? (i := 1) rfl) rfl (v := .ref (y + 1)) (fun _ => rfl) dX5_heaveIn_39 ?_
        refine lv_aload_n F.1 F.2.1 dX5_heaveIn_42 rfl (lv_at hl 0 rfl) ?_
        refine m_getR F hK hP (fun _ h => List.mem_cons_of_mem _ (List.mem_append_right _ h)) 2 (Nat.le_of_ble_eq_true rfl) (List.mem_of_getElem? (i := 2) rfl) rfl (v := .ref (y + 2)) (fun _ => rfl) dX5_heaveIn_43 ?_
        obtain ⟨r10, hr11, hf⟩ := bnd hf
        have hP := m_up 2 hP
        refine m_callS F hK hP hS (c_X5_copy (by decide) (by decide) (by decide) (by decide) (by decide) rfl hr11) (va_cwS 2 F.2.2.2.2 gX5_heaveIn_X5_copy rfl rfl rfl hd_X5_copy ⟨(Nat.le_of_ble_eq_true rfl), (Nat.le_of_ble_eq_true rfl)⟩) rfl rfl hl.1 (Nat.le_of_ble_eq_true rfl) dX5_heaveIn_46 ⟨(Nat.le_of_ble_eq_true rfl), (Nat.le_of_ble_eq_true rfl)⟩ (rest := []) (fun H locs hP hS => ?_)
        refine W.eq (g2 := F0 m 49 ls []) rfl ?_
        refine lv_aload_n F.1 F.2.1 dX5_heaveIn_49 rfl (lv_at hl 0 rfl) ?_
        refine m_getR F hK hP (fun _ h => List.mem_cons_of_mem _ (List.mem_append_right _ h)) 2 (Nat.le_of_ble_eq_true rfl) (List.mem_of_getElem? (i := 2) rfl) rfl (v := .ref (y + 2)) (fun _ => rfl) dX5_heaveIn_50 ?_
        refine lv_iload_n F.1 F.2.1 dX5_heaveIn_53 rfl (lv_at hl 2 rfl) ?_
        refine lv_iconst (v := (0 : Int32)) F.1 F.2.1 dX5_heaveIn_54 (by decide) ?_
        refine lv_iload_n F.1 F.2.1 dX5_heaveIn_55 rfl (lv_at hl 3 rfl) ?_
        obtain ⟨r12, hr13, hf⟩ := bnd hf
        have hP := m_up 2 hP
        refine m_callS F hK hP hS (c_X5_goDays (by decide) (by decide) a2 (0 : Int32) a3 hr13) (va_cwS 4 F.2.2.2.2 gX5_heaveIn_X5_goDays rfl rfl rfl hd_X5_goDays ⟨(Nat.le_of_ble_eq_true rfl), (Nat.le_of_ble_eq_true rfl)⟩) rfl rfl hl.1 (Nat.le_of_ble_eq_true rfl) dX5_heaveIn_56 ⟨(Nat.le_of_ble_eq_true rfl), (Nat.le_of_ble_eq_true rfl)⟩ (rest := []) (fun H locs hP hS => ?_)
        refine W.eq (g2 := F0 m 59 ls [.int r12.1]) rfl ?_
        refine lv_istore F.1 F.2.1 dX5_heaveIn_59 hl (Nat.le_of_ble_eq_true rfl) rfl (fun ls hl => ?_)
        have hl : lv_has ls 5 [(4, .int r12.1), (0, .ref (y)), (1, .int a1), (2, .int a2), (3, .int a3)] := hl
        refine lv_aload_n F.1 F.2.1 dX5_heaveIn_61 rfl (lv_at hl 1 rfl) ?_
        refine m_getR F hK hP (fun _ h => List.mem_cons_of_mem _ (List.mem_append_right _ h)) 2 (Nat.le_of_ble_eq_true rfl) (List.mem_of_getElem? (i := 2) rfl) rfl (v := .ref (y + 2)) (fun _ => rfl) dX5_heaveIn_62 ?_
        refine lv_sipush (v := (156 : Int32)) F.1 F.2.1 dX5_heaveIn_65 (by decide) ?_
        refine lv_iconst (v := (5 : Int32)) F.1 F.2.1 dX5_heaveIn_68 (by decide) ?_
        refine lv_iload_n F.1 F.2.1 dX5_heaveIn_69 rfl (lv_at hl 2 rfl) ?_
        refine lv_imul F.1 F.2.1 dX5_heaveIn_70 ?_
        refine lv_iadd F.1 F.2.1 dX5_heaveIn_71 ?_
        refine lv_iconst (v := (2 : Int32)) F.1 F.2.1 dX5_heaveIn_72 (by decide) ?_
        refine lv_iadd F.1 F.2.1 dX5_heaveIn_73 ?_
        obtain ⟨hb14, hf⟩ := ifg hf
        refine m_iald F hK hP (o := 2) (by decide) rfl (fun _ => rfl) rfl hb14 dX5_heaveIn_74 ?_
        obtain rfl := Option.some.inj hf
        exact m_iret F hr hlk hP hS rfl dX5_heaveIn_75
      · have hf := ifn hc9 hf
        refine lv_iconst (v := (0 : Int32)) F.1 F.2.1 dX5_heaveIn_36 (by decide) ?_
        obtain rfl := Option.some.inj hf
        exact m_iret F hr hlk hP hS rfl dX5_heaveIn_37
  intro ls H locs hl hP hS
  have hl : lv_has ls 5 [(0, .ref (y)), (1, .int a1), (2, .int a2), (3, .int a3)] := hl
  unfold f_X5_heaveIn at hf
  refine lv_aload_n F.1 F.2.1 dX5_heaveIn_0 rfl (lv_at hl 0 rfl) ?_
  refine lv_aload_n F.1 F.2.1 dX5_heaveIn_1 rfl (lv_at hl 0 rfl) ?_
  refine m_getR F hK hP (fun _ h => List.mem_cons_of_mem _ (List.mem_append_right _ h)) 1 (Nat.le_of_ble_eq_true rfl) (List.mem_of_getElem? (i := 1) rfl) rfl (v := .ref (y + 1)) (fun _ => rfl) dX5_heaveIn_2 ?_
  refine lv_iload_n F.1 F.2.1 dX5_heaveIn_5 rfl (lv_at hl 1 rfl) ?_
  obtain ⟨r1, hr2, hf⟩ := bnd hf
  refine m_callS F hK hP hS (c_X5_isPipe (by decide) (by decide) rfl a1 hr2) (va_cwS 2 F.2.2.2.2 gX5_heaveIn_X5_isPipe rfl rfl rfl hd_X5_isPipe ⟨(Nat.le_of_ble_eq_true rfl), (Nat.le_of_ble_eq_true rfl)⟩) rfl rfl hl.1 (Nat.le_of_ble_eq_true rfl) dX5_heaveIn_6 ⟨(Nat.le_of_ble_eq_true rfl), (Nat.le_of_ble_eq_true rfl)⟩ (rest := [.ref (y)]) (fun H locs hP hS => ?_)
  refine W.eq (g2 := F0 m 9 ls [.int r1, .ref (y)]) rfl ?_
  refine lv_if_ne (tgt := 16) F.1 F.2.1 dX5_heaveIn_9 rfl (fun hc3 => ?_) (fun hc3 => ?_)
  · have hf := ifn hc3 hf
    refine lv_iload_n F.1 F.2.1 dX5_heaveIn_16 rfl (lv_at hl 2 rfl) ?_
    refine lv_iconst (v := (0 : Int32)) F.1 F.2.1 dX5_heaveIn_17 (by decide) ?_
    refine lv_iload_n F.1 F.2.1 dX5_heaveIn_18 rfl (lv_at hl 3 rfl) ?_
    obtain ⟨r4, hr5, hf⟩ := bnd hf
    refine m_callS F hK hP hS (c_X5_isWeather a2 (0 : Int32) a3 hr5) (va_cwS 3 F.2.2.2.2 gX5_heaveIn_X5_isWeather rfl rfl rfl hd_X5_isWeather ⟨(Nat.le_of_ble_eq_true rfl), (Nat.le_of_ble_eq_true rfl)⟩) rfl rfl hl.1 (Nat.le_of_ble_eq_true rfl) dX5_heaveIn_19 ⟨(Nat.le_of_ble_eq_true rfl), (Nat.le_of_ble_eq_true rfl)⟩ (rest := [.ref (y)]) (fun H locs hP hS => ?_)
    refine W.eq (g2 := F0 m 22 ls [.int r4, .ref (y)]) rfl ?_
    refine lv_if_ne (tgt := 29) F.1 F.2.1 dX5_heaveIn_22 rfl (fun hc6 => ?_) (fun hc6 => ?_)
    · have hf := ifn hc6 hf
      refine lv_iconst (v := (0 : Int32)) F.1 F.2.1 dX5_heaveIn_29 (by decide) ?_
      exact (KEY FU) ν (0 : Int32) _ _ _ (lv_sub hl [0, 1, 2, 3] rfl) hP hS hf
    · have hf := ifp hc6 hf
      refine lv_iconst (v := (2 : Int32)) F.1 F.2.1 dX5_heaveIn_25 (by decide) ?_
      refine lv_goto (tgt := 30) F.1 F.2.1 dX5_heaveIn_26 rfl ?_
      exact (KEY FU) ν (2 : Int32) _ _ _ (lv_sub hl [0, 1, 2, 3] rfl) hP hS hf
  · have hf := ifp hc3 hf
    refine lv_iconst (v := (1 : Int32)) F.1 F.2.1 dX5_heaveIn_12 (by decide) ?_
    refine lv_goto (tgt := 30) F.1 F.2.1 dX5_heaveIn_13 rfl ?_
    exact (KEY FU) ν (1 : Int32) _ _ _ (lv_sub hl [0, 1, 2, 3] rfl) hP hS hf

-- FrostTubesModel.deepest()I
def fb_X5_deepest_1  (K : Nat → Mem → Int32 → Int32 → Int32 → Int32 → Option (Int32 × Mem)) (ν : Mem) (t0 : Int32) (v1 : Int32) (v2 : Int32) (v3 : Int32) : Option (Int32 × Mem) := (if ((ν 1) (196 : Int32).toNatClampNeg) ≤ v2 then some (v1, ν) else ((f_X5_cells (ν 1) v2).bind fun r2 => (if r2 ≤ 0 then (K 2 ν (0 : Int32) v1 v2 0) else (K 2 ν (1 : Int32) v1 v2 0))))
def fb_X5_deepest_2  (K : Nat → Mem → Int32 → Int32 → Int32 → Int32 → Option (Int32 × Mem)) (ν : Mem) (t0 : Int32) (v1 : Int32) (v2 : Int32) (v3 : Int32) : Option (Int32 × Mem) := (if v1 = (-1 : Int32) then (K 3 ν (1 : Int32) v1 v2 t0) else ((f_X5_lowest (ν 1) v2).bind fun r6 => ((f_X5_lowest (ν 1) v1).bind fun r8 => (K 3 ν (r6 - r8) v1 v2 t0))))
def fb_X5_deepest_3  (K : Nat → Mem → Int32 → Int32 → Int32 → Int32 → Option (Int32 × Mem)) (ν : Mem) (t0 : Int32) (v1 : Int32) (v2 : Int32) (v3 : Int32) : Option (Int32 × Mem) := (if v3 = 0 then (K 1 ν 0 v1 (v2 + (1 : Int32)) 0) else (if 0 < t0 then (K 1 ν 0 v2 (v2 + (1 : Int32)) 0) else (if t0 = 0 then ((f_X5_cells (ν 1) v2).bind fun r13 => ((f_X5_cells (ν 1) v1).bind fun r15 => (if r13 ≤ r15 then (K 1 ν 0 v1 (v2 + (1 : Int32)) 0) else (K 1 ν 0 v2 (v2 + (1 : Int32)) 0)))) else (K 1 ν 0 v1 (v2 + (1 : Int32)) 0))))
def fl_X5_deepest  : Nat → Nat → Mem → Int32 → Int32 → Int32 → Int32 → Option (Int32 × Mem)
  | 0, _, _, _, _, _, _ => none
  | n + 1, lab, ν, t0, v1, v2, v3 => match lab with
    | 1 => fb_X5_deepest_1  (fl_X5_deepest  n) ν t0 v1 v2 v3
    | 2 => fb_X5_deepest_2  (fl_X5_deepest  n) ν t0 v1 v2 v3
    | _ => fb_X5_deepest_3  (fl_X5_deepest  n) ν t0 v1 v2 v3
def f_X5_deepest (ν : Mem) : Option (Int32 × Mem) := (fl_X5_deepest  FU 1 (va_up ν 0 (upd (ν 0) 0 (0 : Int32))) 0 (-1 : Int32) (0 : Int32) 0)
def rmX5_deepest : Room := { frames := 3, cells := 0, slots := 0, locals := 66 }
theorem hd_X5_deepest : yX5_deepest.cls ≠ "java/lang/invoke/MethodHandle" ∧ yX5_deepest.cls ≠ "java/lang/invoke/VarHandle" ∧ (parseMethodDescriptor yX5_deepest.desc).map (fun d => d.parameters.length) = some 0 := by decide +kernel
set_option maxHeartbeats 8000000 in
set_option maxRecDepth 100000 in
theorem c_X5_deepest {l : Launch} {D : va_G} {y : Nat} {ν : Mem} {r : Int32 × Mem} (hf : f_X5_deepest ν = some r) : CM l yX5_deepest wsX5_deepest rmX5_deepest [.ref (y)] D y ν (some (.int r.1)) r.2 := by
  refine CM.of (cc := cX5_deepest) (maxL := 5) (ret := (some .int)) pn_X5 rfl (Nat.le_of_ble_eq_true rfl) ?_
  intro p e s m args below meth c F hr hlk hK
  have KEY : ∀ n : Nat, (∀ (ν : Mem) (v1 : Int32) (v2 : Int32) (ls : Array Slot) (H : Heap) (locs : List Loc), lv_has ls 5 [(0, .ref (y)), (1, .int v1), (2, .int v2)] → va_P D vwCl (WM D y ν) H → va_S (rngM y) s.heap H locs → fl_X5_deepest  n 1 ν 0 v1 v2 0 = some r → W p l e rmX5_deepest s m args below meth c H locs 0 0 (MQ below (QM D y r.2 (some (.int r.1))) args s 0 0 (rngM y)) (F0 m 9 ls [])) ∧ (∀ (ν : Mem) (v1 : Int32) (v2 : Int32) (t0 : Int32) (ls : Array Slot) (H : Heap) (locs : List Loc), lv_has ls 5 [(0, .ref (y)), (1, .int v1), (2, .int v2)] → va_P D vwCl (WM D y ν) H → va_S (rngM y) s.heap H locs → fl_X5_deepest  n 2 ν t0 v1 v2 0 = some r → W p l e rmX5_deepest s m args below meth c H locs 0 0 (MQ below (QM D y r.2 (some (.int r.1))) args s 0 0 (rngM y)) (F0 m 37 ls [.int t0])) ∧ (∀ (ν : Mem) (v1 : Int32) (v2 : Int32) (v3 : Int32) (t0 : Int32) (ls : Array Slot) (H : Heap) (locs : List Loc), lv_has ls 5 [(0, .ref (y)), (1, .int v1), (2, .int v2), (3, .int v3)] → va_P D vwCl (WM D y ν) H → va_S (rngM y) s.heap H locs → fl_X5_deepest  n 3 ν t0 v1 v2 v3 = some r → W p l e rmX5_deepest s m args below meth c H locs 0 0 (MQ below (QM D y r.2 (some (.int r.1))) args s 0 0 (rngM y)) (F0 m 64 ls [.int t0])) := by
    intro n
    induction n with
    | zero => exact ⟨(fun _ _ _ _ _ _ _ _ _ h => nomatch h), (fun _ _ _ _ _ _ _ _ _ _ h => nomatch h), (fun _ _ _ _ _ _ _ _ _ _ _ h => nomatch h)⟩
    | succ n ih =>
      refine ⟨?_, ?_, ?_⟩
      · intro ν v1 v2  ls H locs hl hP hS hf
        have hf : fb_X5_deepest_1  (fl_X5_deepest  n) ν 0 v1 v2 0 = some r := hf
        unfold fb_X5_deepest_1 at hf
        refine lv_iload_n F.1 F.2.1 dX5_deepest_9 rfl (lv_at hl 2 rfl) ?_
        refine lv_aload_n F.1 F.2.1 dX5_deepest_10 rfl (lv_at hl 0 rfl) ?_
        refine m_getR F hK hP (fun _ h => List.mem_cons_of_mem _ (List.mem_append_right _ h)) 1 (Nat.le_of_ble_eq_true rfl) (List.mem_of_getElem? (i := 2) rfl) rfl (v := .ref (y + 1)) (fun _ => rfl) dX5_deepest_11 ?_
        refine lv_sipush (v := (196 : Int32)) F.1 F.2.1 dX5_deepest_14 (by decide) ?_
        refine m_iald F hK hP (o := 1) (by decide) rfl (fun _ => rfl) rfl (by decide) dX5_deepest_17 ?_
        refine lv_icmp_ge (tgt := 111) F.1 F.2.1 dX5_deepest_18 rfl (fun hc1 => ?_) (fun hc1 => ?_)
        · have hf := ifp hc1 hf
          refine lv_iload_n F.1 F.2.1 dX5_deepest_111 rfl (lv_at hl 1 rfl) ?_
          obtain rfl := Option.some.inj hf
          exact m_iret F hr hlk hP hS rfl dX5_deepest_112
        · have hf := ifn hc1 hf
          refine lv_aload_n F.1 F.2.1 dX5_deepest_21 rfl (lv_at hl 0 rfl) ?_
          refine m_getR F hK hP (fun _ h => List.mem_cons_of_mem _ (List.mem_append_right _ h)) 1 (Nat.le_of_ble_eq_true rfl) (List.mem_of_getElem? (i := 2) rfl) rfl (v := .ref (y + 1)) (fun _ => rfl) dX5_deepest_22 ?_
          refine lv_iload_n F.1 F.2.1 dX5_deepest_25 rfl (lv_at hl 2 rfl) ?_
          obtain ⟨r2, hr3, hf⟩ := bnd hf
          refine m_callS F hK hP hS (c_X5_cells (by decide) (by decide) rfl v2 hr3) (va_cwS 2 F.2.2.2.2 gX5_deepest_X5_cells rfl rfl rfl hd_X5_cells ⟨(Nat.le_of_ble_eq_true rfl), (Nat.le_of_ble_eq_true rfl)⟩) rfl rfl hl.1 (Nat.le_of_ble_eq_true rfl) dX5_deepest_26 ⟨(Nat.le_of_ble_eq_true rfl), (Nat.le_of_ble_eq_true rfl)⟩ (rest := []) (fun H locs hP hS => ?_)
          refine W.eq (g2 := F0 m 29 ls [.int r2]) rfl ?_
          refine lv_if_le (tgt := 36) F.1 F.2.1 dX5_deepest_29 rfl (fun hc4 => ?_) (fun hc4 => ?_)
          · have hf := ifp hc4 hf
            refine lv_iconst (v := (0 : Int32)) F.1 F.2.1 dX5_deepest_36 (by decide) ?_
            exact ih.2.1 ν v1 v2 (0 : Int32) _ _ _ (lv_sub hl [0, 1, 2] rfl) hP hS hf
          · have hf := ifn hc4 hf
            refine lv_iconst (v := (1 : Int32)) F.1 F.2.1 dX5_deepest_32 (by decide) ?_
            refine lv_goto (tgt := 37) F.1 F.2.1 dX5_deepest_33 rfl ?_
            exact ih.2.1 ν v1 v2 (1 : Int32) _ _ _ (lv_sub hl [0, 1, 2] rfl) hP hS hf
      · intro ν v1 v2 t0  ls H locs hl hP hS hf
        have hf : fb_X5_deepest_2  (fl_X5_deepest  n) ν t0 v1 v2 0 = some r := hf
        unfold fb_X5_deepest_2 at hf
        refine lv_istore_n F.1 F.2.1 dX5_deepest_37 rfl hl (Nat.le_of_ble_eq_true rfl) rfl (fun ls hl => ?_)
        have hl : lv_has ls 5 [(3, .int t0), (0, .ref (y)), (1, .int v1), (2, .int v2)] := hl
        refine lv_iload_n F.1 F.2.1 dX5_deepest_38 rfl (lv_at hl 2 rfl) ?_
        refine lv_iconst (v := (-1 : Int32)) F.1 F.2.1 dX5_deepest_39 (by decide) ?_
        refine lv_icmp_ne (tgt := 47) F.1 F.2.1 dX5_deepest_40 rfl (fun hc5 => ?_) (fun hc5 => ?_)
        · have hf := ifn hc5 hf
          refine lv_aload_n F.1 F.2.1 dX5_deepest_47 rfl (lv_at hl 1 rfl) ?_
          refine m_getR F hK hP (fun _ h => List.mem_cons_of_mem _ (List.mem_append_right _ h)) 1 (Nat.le_of_ble_eq_true rfl) (List.mem_of_getElem? (i := 2) rfl) rfl (v := .ref (y + 1)) (fun _ => rfl) dX5_deepest_48 ?_
          refine lv_iload_n F.1 F.2.1 dX5_deepest_51 rfl (lv_at hl 3 rfl) ?_
          obtain ⟨r6, hr7, hf⟩ := bnd hf
          refine m_callS F hK hP hS (c_X5_lowest (by decide) (by decide) rfl v2 hr7) (va_cwS 2 F.2.2.2.2 gX5_deepest_X5_lowest rfl rfl rfl hd_X5_lowest ⟨(Nat.le_of_ble_eq_true rfl), (Nat.le_of_ble_eq_true rfl)⟩) rfl rfl hl.1 (Nat.le_of_ble_eq_true rfl) dX5_deepest_52 ⟨(Nat.le_of_ble_eq_true rfl), (Nat.le_of_ble_eq_true rfl)⟩ (rest := []) (fun H locs hP hS => ?_)
          refine W.eq (g2 := F0 m 55 ls [.int r6]) rfl ?_
          refine lv_aload_n F.1 F.2.1 dX5_deepest_55 rfl (lv_at hl 1 rfl) ?_
          refine m_getR F hK hP (fun _ h => List.mem_cons_of_mem _ (List.mem_append_right _ h)) 1 (Nat.le_of_ble_eq_true rfl) (List.mem_of_getElem? (i := 2) rfl) rfl (v := .ref (y + 1)) (fun _ => rfl) dX5_deepest_56 ?_
          refine lv_iload_n F.1 F.2.1 dX5_deepest_59 rfl (lv_at hl 2 rfl) ?_
          obtain ⟨r8, hr9, hf⟩ := bnd hf
          refine m_callS F hK hP hS (c_X5_lowest (by decide) (by decide) rfl v1 hr9) (va_cwS 2 F.2.2.2.2 gX5_deepest_X5_lowest rfl rfl rfl hd_X5_lowest ⟨(Nat.le_of_ble_eq_true rfl), (Nat.le_of_ble_eq_true rfl)⟩) rfl rfl hl.1 (Nat.le_of_ble_eq_true rfl) dX5_deepest_60 ⟨(Nat.le_of_ble_eq_true rfl), (Nat.le_of_ble_eq_true rfl)⟩ (rest := [.int r6]) (fun H locs hP hS => ?_)
          refine W.eq (g2 := F0 m 63 ls [.int r8, .int r6]) rfl ?_
          refine lv_isub F.1 F.2.1 dX5_deepest_63 ?_
          exact ih.2.2 ν v1 v2 t0 (r6 - r8) _ _ _ (lv_sub hl [1, 2, 3, 0] rfl) hP hS hf
        · have hf := ifp hc5 hf
          refine lv_iconst (v := (1 : Int32)) F.1 F.2.1 dX5_deepest_43 (by decide) ?_
          refine lv_goto (tgt := 64) F.1 F.2.1 dX5_deepest_44 rfl ?_
          exact ih.2.2 ν v1 v2 t0 (1 : Int32) _ _ _ (lv_sub hl [1, 2, 3, 0] rfl) hP hS hf
      · intro ν v1 v2 v3 t0  ls H locs hl hP hS hf
        have hf : fb_X5_deepest_3  (fl_X5_deepest  n) ν t0 v1 v2 v3 = some r := hf
        unfold fb_X5_deepest_3 at hf
        refine lv_istore F.1 F.2.1 dX5_deepest_64 hl (Nat.le_of_ble_eq_true rfl) rfl (fun ls hl => ?_)
        have hl : lv_has ls 5 [(4, .int t0), (0, .ref (y)), (1, .int v1), (2, .int v2), (3, .int v3)] := hl
        refine lv_iload_n F.1 F.2.1 dX5_deepest_66 rfl (lv_at hl 4 rfl) ?_
        refine lv_if_eq (tgt := 103) F.1 F.2.1 dX5_deepest_67 rfl (fun hc10 => ?_) (fun hc10 => ?_)
        · have hf := ifp hc10 hf
          refine lv_iload_n F.1 F.2.1 dX5_deepest_103 rfl (lv_at hl 2 rfl) ?_
          refine lv_istore_n F.1 F.2.1 dX5_deepest_104 rfl hl (Nat.le_of_ble_eq_true rfl) rfl (fun ls hl => ?_)
          have hl : lv_has ls 5 [(1, .int v1), (4, .int t0), (0, .ref (y)), (2, .int v2), (3, .int v3)] := hl
          refine lv_iinc (v := (v2 + (1 : Int32))) F.1 F.2.1 dX5_deepest_105 hl (k := 3) rfl rfl (Nat.le_of_ble_eq_true rfl) rfl (fun ls hl => ?_)
          have hl : lv_has ls 5 [(2, .int (v2 + (1 : Int32))), (1, .int v1), (4, .int t0), (0, .ref (y)), (3, .int v3)] := hl
          refine lv_goto (tgt := 9) F.1 F.2.1 dX5_deepest_108 rfl ?_
          exact ih.1 ν v1 (v2 + (1 : Int32)) _ _ _ (lv_sub hl [3, 1, 0] rfl) hP hS hf
        · have hf := ifn hc10 hf
          refine lv_iload F.1 F.2.1 dX5_deepest_70 (lv_at hl 0 rfl) ?_
          refine lv_if_gt (tgt := 99) F.1 F.2.1 dX5_deepest_72 rfl (fun hc11 => ?_) (fun hc11 => ?_)
          · have hf := ifp hc11 hf
            refine lv_iload_n F.1 F.2.1 dX5_deepest_99 rfl (lv_at hl 3 rfl) ?_
            refine lv_goto (tgt := 104) F.1 F.2.1 dX5_deepest_100 rfl ?_
            refine lv_istore_n F.1 F.2.1 dX5_deepest_104 rfl hl (Nat.le_of_ble_eq_true rfl) rfl (fun ls hl => ?_)
            have hl : lv_has ls 5 [(1, .int v2), (4, .int t0), (0, .ref (y)), (2, .int v2), (3, .int v3)] := hl
            refine lv_iinc (v := (v2 + (1 : Int32))) F.1 F.2.1 dX5_deepest_105 hl (k := 3) rfl rfl (Nat.le_of_ble_eq_true rfl) rfl (fun ls hl => ?_)
            have hl : lv_has ls 5 [(2, .int (v2 + (1 : Int32))), (1, .int v2), (4, .int t0), (0, .ref (y)), (3, .int v3)] := hl
            refine lv_goto (tgt := 9) F.1 F.2.1 dX5_deepest_108 rfl ?_
            exact ih.1 ν v2 (v2 + (1 : Int32)) _ _ _ (lv_sub hl [3, 1, 0] rfl) hP hS hf
          · have hf := ifn hc11 hf
            refine lv_iload F.1 F.2.1 dX5_deepest_75 (lv_at hl 0 rfl) ?_
            refine lv_if_ne (tgt := 103) F.1 F.2.1 dX5_deepest_77 rfl (fun hc12 => ?_) (fun hc12 => ?_)
            · have hf := ifn hc12 hf
              refine lv_iload_n F.1 F.2.1 dX5_deepest_103 rfl (lv_at hl 2 rfl) ?_
              refine lv_istore_n F.1 F.2.1 dX5_deepest_104 rfl hl (Nat.le_of_ble_eq_true rfl) rfl (fun ls hl => ?_)
              have hl : lv_has ls 5 [(1, .int v1), (4, .int t0), (0, .ref (y)), (2, .int v2), (3, .int v3)] := hl
              refine lv_iinc (v := (v2 + (1 : Int32))) F.1 F.2.1 dX5_deepest_105 hl (k := 3) rfl rfl (Nat.le_of_ble_eq_true rfl) rfl (fun ls hl => ?_)
              have hl : lv_has ls 5 [(2, .int (v2 + (1 : Int32))), (1, .int v1), (4, .int t0), (0, .ref (y)), (3, .int v3)] := hl
              refine lv_goto (tgt := 9) F.1 F.2.1 dX5_deepest_108 rfl ?_
              exact ih.1 ν v1 (v2 + (1 : Int32)) _ _ _ (lv_sub hl [3, 1, 0] rfl) hP hS hf
            · have hf := ifp hc12 hf
              refine lv_aload_n F.1 F.2.1 dX5_deepest_80 rfl (lv_at hl 1 rfl) ?_
              refine m_getR F hK hP (fun _ h => List.mem_cons_of_mem _ (List.mem_append_right _ h)) 1 (Nat.le_of_ble_eq_true rfl) (List.mem_of_getElem? (i := 2) rfl) rfl (v := .ref (y + 1)) (fun _ => rfl) dX5_deepest_81 ?_
              refine lv_iload_n F.1 F.2.1 dX5_deepest_84 rfl (lv_at hl 3 rfl) ?_
              obtain ⟨r13, hr14, hf⟩ := bnd hf
              refine m_callS F hK hP hS (c_X5_cells (by decide) (by decide) rfl v2 hr14) (va_cwS 2 F.2.2.2.2 gX5_deepest_X5_cells rfl rfl rfl hd_X5_cells ⟨(Nat.le_of_ble_eq_true rfl), (Nat.le_of_ble_eq_true rfl)⟩) rfl rfl hl.1 (Nat.le_of_ble_eq_true rfl) dX5_deepest_85 ⟨(Nat.le_of_ble_eq_true rfl), (Nat.le_of_ble_eq_true rfl)⟩ (rest := []) (fun H locs hP hS => ?_)
              refine W.eq (g2 := F0 m 88 ls [.int r13]) rfl ?_
              refine lv_aload_n F.1 F.2.1 dX5_deepest_88 rfl (lv_at hl 1 rfl) ?_
              refine m_getR F hK hP (fun _ h => List.mem_cons_of_mem _ (List.mem_append_right _ h)) 1 (Nat.le_of_ble_eq_true rfl) (List.mem_of_getElem? (i := 2) rfl) rfl (v := .ref (y + 1)) (fun _ => rfl) dX5_deepest_89 ?_
              refine lv_iload_n F.1 F.2.1 dX5_deepest_92 rfl (lv_at hl 2 rfl) ?_
              obtain ⟨r15, hr16, hf⟩ := bnd hf
              refine m_callS F hK hP hS (c_X5_cells (by decide) (by decide) rfl v1 hr16) (va_cwS 2 F.2.2.2.2 gX5_deepest_X5_cells rfl rfl rfl hd_X5_cells ⟨(Nat.le_of_ble_eq_true rfl), (Nat.le_of_ble_eq_true rfl)⟩) rfl rfl hl.1 (Nat.le_of_ble_eq_true rfl) dX5_deepest_93 ⟨(Nat.le_of_ble_eq_true rfl), (Nat.le_of_ble_eq_true rfl)⟩ (rest := [.int r13]) (fun H locs hP hS => ?_)
              refine W.eq (g2 := F0 m 96 ls [.int r15, .int r13]) rfl ?_
              refine lv_icmp_le (tgt := 103) F.1 F.2.1 dX5_deepest_96 rfl (fun hc17 => ?_) (fun hc17 => ?_)
              · have hf := ifp hc17 hf
                refine lv_iload_n F.1 F.2.1 dX5_deepest_103 rfl (lv_at hl 2 rfl) ?_
                refine lv_istore_n F.1 F.2.1 dX5_deepest_104 rfl hl (Nat.le_of_ble_eq_true rfl) rfl (fun ls hl => ?_)
                have hl : lv_has ls 5 [(1, .int v1), (4, .int t0), (0, .ref (y)), (2, .int v2), (3, .int v3)] := hl
                refine lv_iinc (v := (v2 + (1 : Int32))) F.1 F.2.1 dX5_deepest_105 hl (k := 3) rfl rfl (Nat.le_of_ble_eq_true rfl) rfl (fun ls hl => ?_)
                have hl : lv_has ls 5 [(2, .int (v2 + (1 : Int32))), (1, .int v1), (4, .int t0), (0, .ref (y)), (3, .int v3)] := hl
                refine lv_goto (tgt := 9) F.1 F.2.1 dX5_deepest_108 rfl ?_
                exact ih.1 ν v1 (v2 + (1 : Int32)) _ _ _ (lv_sub hl [3, 1, 0] rfl) hP hS hf
              · have hf := ifn hc17 hf
                refine lv_iload_n F.1 F.2.1 dX5_deepest_99 rfl (lv_at hl 3 rfl) ?_
                refine lv_goto (tgt := 104) F.1 F.2.1 dX5_deepest_100 rfl ?_
                refine lv_istore_n F.1 F.2.1 dX5_deepest_104 rfl hl (Nat.le_of_ble_eq_true rfl) rfl (fun ls hl => ?_)
                have hl : lv_has ls 5 [(1, .int v2), (4, .int t0), (0, .ref (y)), (2, .int v2), (3, .int v3)] := hl
                refine lv_iinc (v := (v2 + (1 : Int32))) F.1 F.2.1 dX5_deepest_105 hl (k := 3) rfl rfl (Nat.le_of_ble_eq_true rfl) rfl (fun ls hl => ?_)
                have hl : lv_has ls 5 [(2, .int (v2 + (1 : Int32))), (1, .int v2), (4, .int t0), (0, .ref (y)), (3, .int v3)] := hl
                refine lv_goto (tgt := 9) F.1 F.2.1 dX5_deepest_108 rfl ?_
                exact ih.1 ν v2 (v2 + (1 : Int32)) _ _ _ (lv_sub hl [3, 1, 0] rfl) hP hS hf
  intro ls H locs hl hP hS
  have hl : lv_has ls 5 [(0, .ref (y))] := hl
  unfold f_X5_deepest at hf
  refine lv_aload_n F.1 F.2.1 dX5_deepest_0 rfl (lv_at hl 0 rfl) ?_
  refine lv_iconst (v := (0 : Int32)) F.1 F.2.1 dX5_deepest_1 (by decide) ?_
  have hP := m_up 0 hP
  refine m_putI F hK hP hS (fun _ h => List.mem_cons_of_mem _ (List.mem_append_right _ h)) 0 (Nat.le_of_ble_eq_true rfl) (List.mem_of_getElem? (i := 1) rfl) rfl rfl (ty := .int) rfl rfl rfl (fun _ _ => rfl) dX5_deepest_2 (fun H locs hP hS => ?_)
  refine lv_iconst (v := (-1 : Int32)) F.1 F.2.1 dX5_deepest_5 (by decide) ?_
  refine lv_istore_n F.1 F.2.1 dX5_deepest_6 rfl hl (Nat.le_of_ble_eq_true rfl) rfl (fun ls hl => ?_)
  have hl : lv_has ls 5 [(1, .int (-1 : Int32)), (0, .ref (y))] := hl
  refine lv_iconst (v := (0 : Int32)) F.1 F.2.1 dX5_deepest_7 (by decide) ?_
  refine lv_istore_n F.1 F.2.1 dX5_deepest_8 rfl hl (Nat.le_of_ble_eq_true rfl) rfl (fun ls hl => ?_)
  have hl : lv_has ls 5 [(2, .int (0 : Int32)), (1, .int (-1 : Int32)), (0, .ref (y))] := hl
  exact (KEY FU).1 (va_up ν 0 (upd (ν 0) 0 (0 : Int32))) (-1 : Int32) (0 : Int32) _ _ _ (lv_sub hl [2, 1, 0] rfl) hP hS hf

-- FrostTubesModel.runDays(III)Z
def f_X5_runDays (ν : Mem) (a1 : Int32) (a2 : Int32) (a3 : Int32) : Option (Int32 × Mem) := ((f_X5_isWeather a1 a2 a3).bind fun r1 => (if r1 = 0 then some ((0 : Int32), ν) else ((f_X5_hasDays (ν 2) a3).bind fun r4 => (if r4 = 0 then some ((0 : Int32), ν) else ((f_X5_goDays (ν 2) a1 a2 a3).bind fun r7 => (if r7.1 < 0 then some ((0 : Int32), (va_up ν 2 r7.2)) else some ((1 : Int32), (va_up ν 2 r7.2))))))))
def rmX5_runDays : Room := { frames := 6, cells := 0, slots := 0, locals := 139 }
theorem hd_X5_runDays : yX5_runDays.cls ≠ "java/lang/invoke/MethodHandle" ∧ yX5_runDays.cls ≠ "java/lang/invoke/VarHandle" ∧ (parseMethodDescriptor yX5_runDays.desc).map (fun d => d.parameters.length) = some 3 := by decide +kernel
set_option maxHeartbeats 8000000 in
set_option maxRecDepth 100000 in
theorem c_X5_runDays {l : Launch} {D : va_G} {y : Nat} {ν : Mem} (a1 : Int32) (a2 : Int32) (a3 : Int32) {r : Int32 × Mem} (hf : f_X5_runDays ν a1 a2 a3 = some r) : CM l yX5_runDays wsX5_runDays rmX5_runDays [.ref (y), .int a1, .int a2, .int a3] D y ν (some (.int r.1)) r.2 := by
  refine CM.of (cc := cX5_runDays) (maxL := 4) (ret := (some .boolean)) pn_X5 rfl (Nat.le_of_ble_eq_true rfl) ?_
  intro p e s m args below meth c F hr hlk hK
  intro ls H locs hl hP hS
  have hl : lv_has ls 4 [(0, .ref (y)), (1, .int a1), (2, .int a2), (3, .int a3)] := hl
  unfold f_X5_runDays at hf
  refine lv_iload_n F.1 F.2.1 dX5_runDays_0 rfl (lv_at hl 1 rfl) ?_
  refine lv_iload_n F.1 F.2.1 dX5_runDays_1 rfl (lv_at hl 2 rfl) ?_
  refine lv_iload_n F.1 F.2.1 dX5_runDays_2 rfl (lv_at hl 3 rfl) ?_
  obtain ⟨r1, hr2, hf⟩ := bnd hf
  refine m_callS F hK hP hS (c_X5_isWeather a1 a2 a3 hr2) (va_cwS 3 F.2.2.2.2 gX5_runDays_X5_isWeather rfl rfl rfl hd_X5_isWeather ⟨(Nat.le_of_ble_eq_true rfl), (Nat.le_of_ble_eq_true rfl)⟩) rfl rfl hl.1 (Nat.le_of_ble_eq_true rfl) dX5_runDays_3 ⟨(Nat.le_of_ble_eq_true rfl), (Nat.le_of_ble_eq_true rfl)⟩ (rest := []) (fun H locs hP hS => ?_)
  refine W.eq (g2 := F0 m 6 ls [.int r1]) rfl ?_
  refine lv_if_eq (tgt := 37) F.1 F.2.1 dX5_runDays_6 rfl (fun hc3 => ?_) (fun hc3 => ?_)
  · have hf := ifp hc3 hf
    refine lv_iconst (v := (0 : Int32)) F.1 F.2.1 dX5_runDays_37 (by decide) ?_
    obtain rfl := Option.some.inj hf
    exact m_zret F hr hlk hP hS rfl (b01_v (v := (0 : Int32)) (Or.inl rfl)) dX5_runDays_38
  · have hf := ifn hc3 hf
    refine lv_aload_n F.1 F.2.1 dX5_runDays_9 rfl (lv_at hl 0 rfl) ?_
    refine m_getR F hK hP (fun _ h => List.mem_cons_of_mem _ (List.mem_append_right _ h)) 2 (Nat.le_of_ble_eq_true rfl) (List.mem_of_getElem? (i := 1) rfl) rfl (v := .ref (y + 2)) (fun _ => rfl) dX5_runDays_10 ?_
    refine lv_iload_n F.1 F.2.1 dX5_runDays_13 rfl (lv_at hl 3 rfl) ?_
    obtain ⟨r4, hr5, hf⟩ := bnd hf
    refine m_callS F hK hP hS (c_X5_hasDays (by decide) (by decide) rfl a3 hr5) (va_cwS 2 F.2.2.2.2 gX5_runDays_X5_hasDays rfl rfl rfl hd_X5_hasDays ⟨(Nat.le_of_ble_eq_true rfl), (Nat.le_of_ble_eq_true rfl)⟩) rfl rfl hl.1 (Nat.le_of_ble_eq_true rfl) dX5_runDays_14 ⟨(Nat.le_of_ble_eq_true rfl), (Nat.le_of_ble_eq_true rfl)⟩ (rest := []) (fun H locs hP hS => ?_)
    refine W.eq (g2 := F0 m 17 ls [.int r4]) rfl ?_
    refine lv_if_eq (tgt := 37) F.1 F.2.1 dX5_runDays_17 rfl (fun hc6 => ?_) (fun hc6 => ?_)
    · have hf := ifp hc6 hf
      refine lv_iconst (v := (0 : Int32)) F.1 F.2.1 dX5_runDays_37 (by decide) ?_
      obtain rfl := Option.some.inj hf
      exact m_zret F hr hlk hP hS rfl (b01_v (v := (0 : Int32)) (Or.inl rfl)) dX5_runDays_38
    · have hf := ifn hc6 hf
      refine lv_aload_n F.1 F.2.1 dX5_runDays_20 rfl (lv_at hl 0 rfl) ?_
      refine m_getR F hK hP (fun _ h => List.mem_cons_of_mem _ (List.mem_append_right _ h)) 2 (Nat.le_of_ble_eq_true rfl) (List.mem_of_getElem? (i := 1) rfl) rfl (v := .ref (y + 2)) (fun _ => rfl) dX5_runDays_21 ?_
      refine lv_iload_n F.1 F.2.1 dX5_runDays_24 rfl (lv_at hl 1 rfl) ?_
      refine lv_iload_n F.1 F.2.1 dX5_runDays_25 rfl (lv_at hl 2 rfl) ?_
      refine lv_iload_n F.1 F.2.1 dX5_runDays_26 rfl (lv_at hl 3 rfl) ?_
      obtain ⟨r7, hr8, hf⟩ := bnd hf
      have hP := m_up 2 hP
      refine m_callS F hK hP hS (c_X5_goDays (by decide) (by decide) a1 a2 a3 hr8) (va_cwS 4 F.2.2.2.2 gX5_runDays_X5_goDays rfl rfl rfl hd_X5_goDays ⟨(Nat.le_of_ble_eq_true rfl), (Nat.le_of_ble_eq_true rfl)⟩) rfl rfl hl.1 (Nat.le_of_ble_eq_true rfl) dX5_runDays_27 ⟨(Nat.le_of_ble_eq_true rfl), (Nat.le_of_ble_eq_true rfl)⟩ (rest := []) (fun H locs hP hS => ?_)
      refine W.eq (g2 := F0 m 30 ls [.int r7.1]) rfl ?_
      refine lv_if_lt (tgt := 37) F.1 F.2.1 dX5_runDays_30 rfl (fun hc9 => ?_) (fun hc9 => ?_)
      · have hf := ifp hc9 hf
        refine lv_iconst (v := (0 : Int32)) F.1 F.2.1 dX5_runDays_37 (by decide) ?_
        obtain rfl := Option.some.inj hf
        exact m_zret F hr hlk hP hS rfl (b01_v (v := (0 : Int32)) (Or.inl rfl)) dX5_runDays_38
      · have hf := ifn hc9 hf
        refine lv_iconst (v := (1 : Int32)) F.1 F.2.1 dX5_runDays_33 (by decide) ?_
        refine lv_goto (tgt := 38) F.1 F.2.1 dX5_runDays_34 rfl ?_
        obtain rfl := Option.some.inj hf
        exact m_zret F hr hlk hP hS rfl (b01_v (v := (1 : Int32)) (Or.inr rfl)) dX5_runDays_38

-- FrostTubesModel.runFence(II)Z
def f_X5_runFence (ν : Mem) (a1 : Int32) (a2 : Int32) : Option (Int32 × Mem) := ((f_X5_isSite (ν 2) a1).bind fun r1 => (if r1 = 0 then some ((0 : Int32), ν) else ((f_X5_in a2.toInt64 (0 : Int64) (20 : Int64)).bind fun r4 => (if r4 = 0 then some ((0 : Int32), ν) else ((f_X5_put (ν 2) (((35 : Int32) * a1) + (1 : Int32)) a2).bind fun r7 => (if r7.1 < 0 then some ((0 : Int32), (va_up ν 2 r7.2)) else some ((1 : Int32), (va_up ν 2 r7.2))))))))
def rmX5_runFence : Room := { frames := 2, cells := 0, slots := 0, locals := 46 }
theorem hd_X5_runFence : yX5_runFence.cls ≠ "java/lang/invoke/MethodHandle" ∧ yX5_runFence.cls ≠ "java/lang/invoke/VarHandle" ∧ (parseMethodDescriptor yX5_runFence.desc).map (fun d => d.parameters.length) = some 2 := by decide +kernel
set_option maxHeartbeats 8000000 in
set_option maxRecDepth 100000 in
theorem c_X5_runFence {l : Launch} {D : va_G} {y : Nat} {ν : Mem} (a1 : Int32) (a2 : Int32) {r : Int32 × Mem} (hf : f_X5_runFence ν a1 a2 = some r) : CM l yX5_runFence wsX5_runFence rmX5_runFence [.ref (y), .int a1, .int a2] D y ν (some (.int r.1)) r.2 := by
  refine CM.of (cc := cX5_runFence) (maxL := 3) (ret := (some .boolean)) pn_X5 rfl (Nat.le_of_ble_eq_true rfl) ?_
  intro p e s m args below meth c F hr hlk hK
  intro ls H locs hl hP hS
  have hl : lv_has ls 3 [(0, .ref (y)), (1, .int a1), (2, .int a2)] := hl
  unfold f_X5_runFence at hf
  refine lv_aload_n F.1 F.2.1 dX5_runFence_0 rfl (lv_at hl 0 rfl) ?_
  refine m_getR F hK hP (fun _ h => List.mem_cons_of_mem _ (List.mem_append_right _ h)) 2 (Nat.le_of_ble_eq_true rfl) (List.mem_of_getElem? (i := 1) rfl) rfl (v := .ref (y + 2)) (fun _ => rfl) dX5_runFence_1 ?_
  refine lv_iload_n F.1 F.2.1 dX5_runFence_4 rfl (lv_at hl 1 rfl) ?_
  obtain ⟨r1, hr2, hf⟩ := bnd hf
  refine m_callS F hK hP hS (c_X5_isSite (by decide) (by decide) rfl a1 hr2) (va_cwS 2 F.2.2.2.2 gX5_runFence_X5_isSite rfl rfl rfl hd_X5_isSite ⟨(Nat.le_of_ble_eq_true rfl), (Nat.le_of_ble_eq_true rfl)⟩) rfl rfl hl.1 (Nat.le_of_ble_eq_true rfl) dX5_runFence_5 ⟨(Nat.le_of_ble_eq_true rfl), (Nat.le_of_ble_eq_true rfl)⟩ (rest := []) (fun H locs hP hS => ?_)
  refine W.eq (g2 := F0 m 8 ls [.int r1]) rfl ?_
  refine lv_if_eq (tgt := 44) F.1 F.2.1 dX5_runFence_8 rfl (fun hc3 => ?_) (fun hc3 => ?_)
  · have hf := ifp hc3 hf
    refine lv_iconst (v := (0 : Int32)) F.1 F.2.1 dX5_runFence_44 (by decide) ?_
    obtain rfl := Option.some.inj hf
    exact m_zret F hr hlk hP hS rfl (b01_v (v := (0 : Int32)) (Or.inl rfl)) dX5_runFence_45
  · have hf := ifn hc3 hf
    refine lv_iload_n F.1 F.2.1 dX5_runFence_11 rfl (lv_at hl 2 rfl) ?_
    refine lv_i2l (v := a2.toInt64) F.1 F.2.1 dX5_runFence_12 rfl ?_
    refine lv_lconst (v := (0 : Int64)) F.1 F.2.1 dX5_runFence_13 rfl ?_
    refine lv_ldc2 (v := (20 : Int64)) F.1 F.2.1 F.2.2.2.1 (F.2.2.2.2 _ (List.mem_of_getElem? (i := 2) rfl)) dX5_runFence_14 ?_
    obtain ⟨r4, hr5, hf⟩ := bnd hf
    refine m_callS F hK hP hS (c_X5_in a2.toInt64 (0 : Int64) (20 : Int64) hr5) (va_cwS 3 F.2.2.2.2 gX5_runFence_X5_in rfl rfl rfl hd_X5_in ⟨(Nat.le_of_ble_eq_true rfl), (Nat.le_of_ble_eq_true rfl)⟩) rfl rfl hl.1 (Nat.le_of_ble_eq_true rfl) dX5_runFence_17 ⟨(Nat.le_of_ble_eq_true rfl), (Nat.le_of_ble_eq_true rfl)⟩ (rest := []) (fun H locs hP hS => ?_)
    refine W.eq (g2 := F0 m 20 ls [.int r4]) rfl ?_
    refine lv_if_eq (tgt := 44) F.1 F.2.1 dX5_runFence_20 rfl (fun hc6 => ?_) (fun hc6 => ?_)
    · have hf := ifp hc6 hf
      refine lv_iconst (v := (0 : Int32)) F.1 F.2.1 dX5_runFence_44 (by decide) ?_
      obtain rfl := Option.some.inj hf
      exact m_zret F hr hlk hP hS rfl (b01_v (v := (0 : Int32)) (Or.inl rfl)) dX5_runFence_45
    · have hf := ifn hc6 hf
      refine lv_aload_n F.1 F.2.1 dX5_runFence_23 rfl (lv_at hl 0 rfl) ?_
      refine m_getR F hK hP (fun _ h => List.mem_cons_of_mem _ (List.mem_append_right _ h)) 2 (Nat.le_of_ble_eq_true rfl) (List.mem_of_getElem? (i := 1) rfl) rfl (v := .ref (y + 2)) (fun _ => rfl) dX5_runFence_24 ?_
      refine lv_bipush (v := (35 : Int32)) F.1 F.2.1 dX5_runFence_27 (by decide) ?_
      refine lv_iload_n F.1 F.2.1 dX5_runFence_29 rfl (lv_at hl 1 rfl) ?_
      refine lv_imul F.1 F.2.1 dX5_runFence_30 ?_
      refine lv_iconst (v := (1 : Int32)) F.1 F.2.1 dX5_runFence_31 (by decide) ?_
      refine lv_iadd F.1 F.2.1 dX5_runFence_32 ?_
      refine lv_iload_n F.1 F.2.1 dX5_runFence_33 rfl (lv_at hl 2 rfl) ?_
      obtain ⟨r7, hr8, hf⟩ := bnd hf
      have hP := m_up 2 hP
      refine m_callS F hK hP hS (c_X5_put (by decide) (by decide) (((35 : Int32) * a1) + (1 : Int32)) a2 hr8) (va_cwS 3 F.2.2.2.2 gX5_runFence_X5_put rfl rfl rfl hd_X5_put ⟨(Nat.le_of_ble_eq_true rfl), (Nat.le_of_ble_eq_true rfl)⟩) rfl rfl hl.1 (Nat.le_of_ble_eq_true rfl) dX5_runFence_34 ⟨(Nat.le_of_ble_eq_true rfl), (Nat.le_of_ble_eq_true rfl)⟩ (rest := []) (fun H locs hP hS => ?_)
      refine W.eq (g2 := F0 m 37 ls [.int r7.1]) rfl ?_
      refine lv_if_lt (tgt := 44) F.1 F.2.1 dX5_runFence_37 rfl (fun hc9 => ?_) (fun hc9 => ?_)
      · have hf := ifp hc9 hf
        refine lv_iconst (v := (0 : Int32)) F.1 F.2.1 dX5_runFence_44 (by decide) ?_
        obtain rfl := Option.some.inj hf
        exact m_zret F hr hlk hP hS rfl (b01_v (v := (0 : Int32)) (Or.inl rfl)) dX5_runFence_45
      · have hf := ifn hc9 hf
        refine lv_iconst (v := (1 : Int32)) F.1 F.2.1 dX5_runFence_40 (by decide) ?_
        refine lv_goto (tgt := 45) F.1 F.2.1 dX5_runFence_41 rfl ?_
        obtain rfl := Option.some.inj hf
        exact m_zret F hr hlk hP hS rfl (b01_v (v := (1 : Int32)) (Or.inr rfl)) dX5_runFence_45

-- FrostTubesModel.runShovel(I)Z
def f_X5_runShovel (ν : Mem) (a1 : Int32) : Option (Int32 × Mem) := ((f_X5_isSite (ν 2) a1).bind fun r1 => (if r1 = 0 then some ((0 : Int32), ν) else ((f_X5_put (ν 2) (((35 : Int32) * a1) + (0 : Int32)) (0 : Int32)).bind fun r4 => (if r4.1 < 0 then some ((0 : Int32), (va_up ν 2 r4.2)) else some ((1 : Int32), (va_up ν 2 r4.2))))))
def rmX5_runShovel : Room := { frames := 2, cells := 0, slots := 0, locals := 46 }
theorem hd_X5_runShovel : yX5_runShovel.cls ≠ "java/lang/invoke/MethodHandle" ∧ yX5_runShovel.cls ≠ "java/lang/invoke/VarHandle" ∧ (parseMethodDescriptor yX5_runShovel.desc).map (fun d => d.parameters.length) = some 1 := by decide +kernel
set_option maxHeartbeats 8000000 in
set_option maxRecDepth 100000 in
theorem c_X5_runShovel {l : Launch} {D : va_G} {y : Nat} {ν : Mem} (a1 : Int32) {r : Int32 × Mem} (hf : f_X5_runShovel ν a1 = some r) : CM l yX5_runShovel wsX5_runShovel rmX5_runShovel [.ref (y), .int a1] D y ν (some (.int r.1)) r.2 := by
  refine CM.of (cc := cX5_runShovel) (maxL := 2) (ret := (some .boolean)) pn_X5 rfl (Nat.le_of_ble_eq_true rfl) ?_
  intro p e s m args below meth c F hr hlk hK
  intro ls H locs hl hP hS
  have hl : lv_has ls 2 [(0, .ref (y)), (1, .int a1)] := hl
  unfold f_X5_runShovel at hf
  refine lv_aload_n F.1 F.2.1 dX5_runShovel_0 rfl (lv_at hl 0 rfl) ?_
  refine m_getR F hK hP (fun _ h => List.mem_cons_of_mem _ (List.mem_append_right _ h)) 2 (Nat.le_of_ble_eq_true rfl) (List.mem_of_getElem? (i := 1) rfl) rfl (v := .ref (y + 2)) (fun _ => rfl) dX5_runShovel_1 ?_
  refine lv_iload_n F.1 F.2.1 dX5_runShovel_4 rfl (lv_at hl 1 rfl) ?_
  obtain ⟨r1, hr2, hf⟩ := bnd hf
  refine m_callS F hK hP hS (c_X5_isSite (by decide) (by decide) rfl a1 hr2) (va_cwS 2 F.2.2.2.2 gX5_runShovel_X5_isSite rfl rfl rfl hd_X5_isSite ⟨(Nat.le_of_ble_eq_true rfl), (Nat.le_of_ble_eq_true rfl)⟩) rfl rfl hl.1 (Nat.le_of_ble_eq_true rfl) dX5_runShovel_5 ⟨(Nat.le_of_ble_eq_true rfl), (Nat.le_of_ble_eq_true rfl)⟩ (rest := []) (fun H locs hP hS => ?_)
  refine W.eq (g2 := F0 m 8 ls [.int r1]) rfl ?_
  refine lv_if_eq (tgt := 32) F.1 F.2.1 dX5_runShovel_8 rfl (fun hc3 => ?_) (fun hc3 => ?_)
  · have hf := ifp hc3 hf
    refine lv_iconst (v := (0 : Int32)) F.1 F.2.1 dX5_runShovel_32 (by decide) ?_
    obtain rfl := Option.some.inj hf
    exact m_zret F hr hlk hP hS rfl (b01_v (v := (0 : Int32)) (Or.inl rfl)) dX5_runShovel_33
  · have hf := ifn hc3 hf
    refine lv_aload_n F.1 F.2.1 dX5_runShovel_11 rfl (lv_at hl 0 rfl) ?_
    refine m_getR F hK hP (fun _ h => List.mem_cons_of_mem _ (List.mem_append_right _ h)) 2 (Nat.le_of_ble_eq_true rfl) (List.mem_of_getElem? (i := 1) rfl) rfl (v := .ref (y + 2)) (fun _ => rfl) dX5_runShovel_12 ?_
    refine lv_bipush (v := (35 : Int32)) F.1 F.2.1 dX5_runShovel_15 (by decide) ?_
    refine lv_iload_n F.1 F.2.1 dX5_runShovel_17 rfl (lv_at hl 1 rfl) ?_
    refine lv_imul F.1 F.2.1 dX5_runShovel_18 ?_
    refine lv_iconst (v := (0 : Int32)) F.1 F.2.1 dX5_runShovel_19 (by decide) ?_
    refine lv_iadd F.1 F.2.1 dX5_runShovel_20 ?_
    refine lv_iconst (v := (0 : Int32)) F.1 F.2.1 dX5_runShovel_21 (by decide) ?_
    obtain ⟨r4, hr5, hf⟩ := bnd hf
    have hP := m_up 2 hP
    refine m_callS F hK hP hS (c_X5_put (by decide) (by decide) (((35 : Int32) * a1) + (0 : Int32)) (0 : Int32) hr5) (va_cwS 3 F.2.2.2.2 gX5_runShovel_X5_put rfl rfl rfl hd_X5_put ⟨(Nat.le_of_ble_eq_true rfl), (Nat.le_of_ble_eq_true rfl)⟩) rfl rfl hl.1 (Nat.le_of_ble_eq_true rfl) dX5_runShovel_22 ⟨(Nat.le_of_ble_eq_true rfl), (Nat.le_of_ble_eq_true rfl)⟩ (rest := []) (fun H locs hP hS => ?_)
    refine W.eq (g2 := F0 m 25 ls [.int r4.1]) rfl ?_
    refine lv_if_lt (tgt := 32) F.1 F.2.1 dX5_runShovel_25 rfl (fun hc6 => ?_) (fun hc6 => ?_)
    · have hf := ifp hc6 hf
      refine lv_iconst (v := (0 : Int32)) F.1 F.2.1 dX5_runShovel_32 (by decide) ?_
      obtain rfl := Option.some.inj hf
      exact m_zret F hr hlk hP hS rfl (b01_v (v := (0 : Int32)) (Or.inl rfl)) dX5_runShovel_33
    · have hf := ifn hc6 hf
      refine lv_iconst (v := (1 : Int32)) F.1 F.2.1 dX5_runShovel_28 (by decide) ?_
      refine lv_goto (tgt := 33) F.1 F.2.1 dX5_runShovel_29 rfl ?_
      obtain rfl := Option.some.inj hf
      exact m_zret F hr hlk hP hS rfl (b01_v (v := (1 : Int32)) (Or.inr rfl)) dX5_runShovel_33

-- FrostTubesModel.runSet(II)Z
def f_X5_runSet (ν : Mem) (a1 : Int32) (a2 : Int32) : Option (Int32 × Mem) := ((f_X5_isSetting a1 a2).bind fun r1 => (if r1 = 0 then some ((0 : Int32), ν) else ((f_X5_put (ν 2) ((202 : Int32) + a1) a2).bind fun r4 => (if r4.1 < 0 then some ((0 : Int32), (va_up ν 2 r4.2)) else some ((1 : Int32), (va_up ν 2 r4.2))))))
def rmX5_runSet : Room := { frames := 2, cells := 0, slots := 0, locals := 46 }
theorem hd_X5_runSet : yX5_runSet.cls ≠ "java/lang/invoke/MethodHandle" ∧ yX5_runSet.cls ≠ "java/lang/invoke/VarHandle" ∧ (parseMethodDescriptor yX5_runSet.desc).map (fun d => d.parameters.length) = some 2 := by decide +kernel
set_option maxHeartbeats 8000000 in
set_option maxRecDepth 100000 in
theorem c_X5_runSet {l : Launch} {D : va_G} {y : Nat} {ν : Mem} (a1 : Int32) (a2 : Int32) {r : Int32 × Mem} (hf : f_X5_runSet ν a1 a2 = some r) : CM l yX5_runSet wsX5_runSet rmX5_runSet [.ref (y), .int a1, .int a2] D y ν (some (.int r.1)) r.2 := by
  refine CM.of (cc := cX5_runSet) (maxL := 3) (ret := (some .boolean)) pn_X5 rfl (Nat.le_of_ble_eq_true rfl) ?_
  intro p e s m args below meth c F hr hlk hK
  intro ls H locs hl hP hS
  have hl : lv_has ls 3 [(0, .ref (y)), (1, .int a1), (2, .int a2)] := hl
  unfold f_X5_runSet at hf
  refine lv_iload_n F.1 F.2.1 dX5_runSet_0 rfl (lv_at hl 1 rfl) ?_
  refine lv_iload_n F.1 F.2.1 dX5_runSet_1 rfl (lv_at hl 2 rfl) ?_
  obtain ⟨r1, hr2, hf⟩ := bnd hf
  refine m_callS F hK hP hS (c_X5_isSetting a1 a2 hr2) (va_cwS 2 F.2.2.2.2 gX5_runSet_X5_isSetting rfl rfl rfl hd_X5_isSetting ⟨(Nat.le_of_ble_eq_true rfl), (Nat.le_of_ble_eq_true rfl)⟩) rfl rfl hl.1 (Nat.le_of_ble_eq_true rfl) dX5_runSet_2 ⟨(Nat.le_of_ble_eq_true rfl), (Nat.le_of_ble_eq_true rfl)⟩ (rest := []) (fun H locs hP hS => ?_)
  refine W.eq (g2 := F0 m 5 ls [.int r1]) rfl ?_
  refine lv_if_eq (tgt := 28) F.1 F.2.1 dX5_runSet_5 rfl (fun hc3 => ?_) (fun hc3 => ?_)
  · have hf := ifp hc3 hf
    refine lv_iconst (v := (0 : Int32)) F.1 F.2.1 dX5_runSet_28 (by decide) ?_
    obtain rfl := Option.some.inj hf
    exact m_zret F hr hlk hP hS rfl (b01_v (v := (0 : Int32)) (Or.inl rfl)) dX5_runSet_29
  · have hf := ifn hc3 hf
    refine lv_aload_n F.1 F.2.1 dX5_runSet_8 rfl (lv_at hl 0 rfl) ?_
    refine m_getR F hK hP (fun _ h => List.mem_cons_of_mem _ (List.mem_append_right _ h)) 2 (Nat.le_of_ble_eq_true rfl) (List.mem_of_getElem? (i := 1) rfl) rfl (v := .ref (y + 2)) (fun _ => rfl) dX5_runSet_9 ?_
    refine lv_sipush (v := (202 : Int32)) F.1 F.2.1 dX5_runSet_12 (by decide) ?_
    refine lv_iload_n F.1 F.2.1 dX5_runSet_15 rfl (lv_at hl 1 rfl) ?_
    refine lv_iadd F.1 F.2.1 dX5_runSet_16 ?_
    refine lv_iload_n F.1 F.2.1 dX5_runSet_17 rfl (lv_at hl 2 rfl) ?_
    obtain ⟨r4, hr5, hf⟩ := bnd hf
    have hP := m_up 2 hP
    refine m_callS F hK hP hS (c_X5_put (by decide) (by decide) ((202 : Int32) + a1) a2 hr5) (va_cwS 3 F.2.2.2.2 gX5_runSet_X5_put rfl rfl rfl hd_X5_put ⟨(Nat.le_of_ble_eq_true rfl), (Nat.le_of_ble_eq_true rfl)⟩) rfl rfl hl.1 (Nat.le_of_ble_eq_true rfl) dX5_runSet_18 ⟨(Nat.le_of_ble_eq_true rfl), (Nat.le_of_ble_eq_true rfl)⟩ (rest := []) (fun H locs hP hS => ?_)
    refine W.eq (g2 := F0 m 21 ls [.int r4.1]) rfl ?_
    refine lv_if_lt (tgt := 28) F.1 F.2.1 dX5_runSet_21 rfl (fun hc6 => ?_) (fun hc6 => ?_)
    · have hf := ifp hc6 hf
      refine lv_iconst (v := (0 : Int32)) F.1 F.2.1 dX5_runSet_28 (by decide) ?_
      obtain rfl := Option.some.inj hf
      exact m_zret F hr hlk hP hS rfl (b01_v (v := (0 : Int32)) (Or.inl rfl)) dX5_runSet_29
    · have hf := ifn hc6 hf
      refine lv_iconst (v := (1 : Int32)) F.1 F.2.1 dX5_runSet_24 (by decide) ?_
      refine lv_goto (tgt := 29) F.1 F.2.1 dX5_runSet_25 rfl ?_
      obtain rfl := Option.some.inj hf
      exact m_zret F hr hlk hP hS rfl (b01_v (v := (1 : Int32)) (Or.inr rfl)) dX5_runSet_29

-- FrostTubesModel.command(I)Z
def fb_X5_command_1 (a1 : Int32) (K : Mem → Int32 → Int32 → Option (Int32 × Mem)) (ν : Mem) (t0 : Int32) (t1 : Int32) : Option (Int32 × Mem) := (if t1 = t0 then some ((1 : Int32), ν) else some ((0 : Int32), ν))
def fl_X5_command (a1 : Int32) : Nat → Mem → Int32 → Int32 → Option (Int32 × Mem)
  | 0, _, _, _ => none
  | n + 1, ν, t0, t1 => fb_X5_command_1 a1 (fl_X5_command a1 n) ν t0 t1
def f_X5_command (ν : Mem) (a1 : Int32) : Option (Int32 × Mem) := (if (a1 / (100000 : Int32)) = (1 : Int32) then ((f_X5_runDays ν (-((a1 / (1000 : Int32)) - ((a1 / (1000 : Int32)) / (100 : Int32)) * (100 : Int32))) ((a1 / (10 : Int32)) - ((a1 / (10 : Int32)) / (100 : Int32)) * (100 : Int32)) (a1 - (a1 / (10 : Int32)) * (10 : Int32))).bind fun r2 => (if r2.1 = 0 ∨ r2.1 = 1 then some (r2.1, r2.2) else none)) else (if (a1 / (100000 : Int32)) = (2 : Int32) then (if ((a1 / (10 : Int32)) - ((a1 / (10 : Int32)) / (100 : Int32)) * (100 : Int32)) = 0 then ((f_X5_runDays ν ((a1 / (1000 : Int32)) - ((a1 / (1000 : Int32)) / (100 : Int32)) * (100 : Int32)) (0 : Int32) (a1 - (a1 / (10 : Int32)) * (10 : Int32))).bind fun r7 => (if r7.1 = 0 then some ((0 : Int32), r7.2) else some ((1 : Int32), r7.2))) else some ((0 : Int32), ν)) else (if (a1 / (100000 : Int32)) = (3 : Int32) then (if ((a1 / (1000 : Int32)) - ((a1 / (1000 : Int32)) / (10 : Int32)) * (10 : Int32)) = 0 then (if (a1 - (a1 / (10 : Int32)) * (10 : Int32)) = 0 then ((f_X5_runFence ν ((a1 / (10000 : Int32)) - ((a1 / (10000 : Int32)) / (10 : Int32)) * (10 : Int32)) ((a1 / (10 : Int32)) - ((a1 / (10 : Int32)) / (100 : Int32)) * (100 : Int32))).bind fun r13 => (if r13.1 = 0 then some ((0 : Int32), r13.2) else some ((1 : Int32), r13.2))) else some ((0 : Int32), ν)) else some ((0 : Int32), ν)) else (if (a1 / (100000 : Int32)) = (4 : Int32) then (if (a1 - (a1 / (10000 : Int32)) * (10000 : Int32)) = 0 then ((f_X5_runShovel ν ((a1 / (10000 : Int32)) - ((a1 / (10000 : Int32)) / (10 : Int32)) * (10 : Int32))).bind fun r18 => (if r18.1 = 0 then some ((0 : Int32), r18.2) else some ((1 : Int32), r18.2))) else some ((0 : Int32), ν)) else (if (a1 / (100000 : Int32)) = (5 : Int32) then (if ((a1 / (1000 : Int32)) - ((a1 / (1000 : Int32)) / (10 : Int32)) * (10 : Int32)) = 0 then (if (a1 - (a1 / (10 : Int32)) * (10 : Int32)) = 0 then ((f_X5_runSet ν ((a1 / (10000 : Int32)) - ((a1 / (10000 : Int32)) / (10 : Int32)) * (10 : Int32)) ((a1 / (10 : Int32)) - ((a1 / (10 : Int32)) / (100 : Int32)) * (100 : Int32))).bind fun r24 => (if r24.1 = 0 then some ((0 : Int32), r24.2) else some ((1 : Int32), r24.2))) else some ((0 : Int32), ν)) else some ((0 : Int32), ν)) else (if (a1 / (100000 : Int32)) = (6 : Int32) then (if ((a1 / (1000 : Int32)) - ((a1 / (1000 : Int32)) / (10 : Int32)) * (10 : Int32)) = 0 then (if (2 : Int32) ≤ (a1 - (a1 / (10 : Int32)) * (10 : Int32)) then some ((0 : Int32), ν) else ((f_X5_isSite (ν 2) ((a1 / (10000 : Int32)) - ((a1 / (10000 : Int32)) / (10 : Int32)) * (10 : Int32))).bind fun r30 => (if r30 = 0 then some ((0 : Int32), ν) else ((f_X5_isCell ((a1 / (10 : Int32)) - ((a1 / (10 : Int32)) / (100 : Int32)) * (100 : Int32))).bind fun r33 => (if r33 = 0 then some ((0 : Int32), ν) else ((f_X5_frozen (ν 2) ((a1 / (10000 : Int32)) - ((a1 / (10000 : Int32)) / (10 : Int32)) * (10 : Int32)) ((a1 / (10 : Int32)) - ((a1 / (10 : Int32)) / (100 : Int32)) * (100 : Int32))).bind fun r36 => (if (a1 - (a1 / (10 : Int32)) * (10 : Int32)) = (1 : Int32) then (fl_X5_command a1 FU ν (1 : Int32) r36) else (fl_X5_command a1 FU ν (0 : Int32) r36)))))))) else some ((0 : Int32), ν)) else (if (a1 / (100000 : Int32)) = (7 : Int32) then (if (100 : Int32) ≤ (a1 - (a1 / (10000 : Int32)) * (10000 : Int32)) then some ((0 : Int32), ν) else ((f_X5_isSite (ν 2) ((a1 / (10000 : Int32)) - ((a1 / (10000 : Int32)) / (10 : Int32)) * (10 : Int32))).bind fun r41 => (if r41 = 0 then some ((0 : Int32), ν) else ((f_X5_cells (ν 2) ((a1 / (10000 : Int32)) - ((a1 / (10000 : Int32)) / (10 : Int32)) * (10 : Int32))).bind fun r44 => (if r44 < (a1 - (a1 / (10000 : Int32)) * (10000 : Int32)) then some ((0 : Int32), ν) else some ((1 : Int32), ν)))))) else (if (a1 / (100000 : Int32)) = (8 : Int32) then (if (10 : Int32) ≤ (a1 - (a1 / (10000 : Int32)) * (10000 : Int32)) then some ((0 : Int32), ν) else ((f_X5_isSite (ν 2) ((a1 / (10000 : Int32)) - ((a1 / (10000 : Int32)) / (10 : Int32)) * (10 : Int32))).bind fun r49 => (if r49 = 0 then some ((0 : Int32), ν) else ((f_X5_countLayers (ν 2) ((a1 / (10000 : Int32)) - ((a1 / (10000 : Int32)) / (10 : Int32)) * (10 : Int32))).bind fun r52 => (if r52 = (a1 - (a1 / (10000 : Int32)) * (10000 : Int32)) then some ((1 : Int32), ν) else some ((0 : Int32), ν)))))) else (if (a1 / (100000 : Int32)) = (9 : Int32) then (if (1000 : Int32) ≤ (a1 - (a1 / (10000 : Int32)) * (10000 : Int32)) then some ((0 : Int32), ν) else ((f_X5_isPipe (ν 2) ((a1 / (10000 : Int32)) - ((a1 / (10000 : Int32)) / (10 : Int32)) * (10 : Int32))).bind fun r57 => (if r57 = 0 then some ((0 : Int32), ν) else (if oob (((156 : Int32) + ((5 : Int32) * ((a1 / (10000 : Int32)) - ((a1 / (10000 : Int32)) / (10 : Int32)) * (10 : Int32)))) + (2 : Int32)) 205 then none else (if ((ν 2) (((156 : Int32) + ((5 : Int32) * ((a1 / (10000 : Int32)) - ((a1 / (10000 : Int32)) / (10 : Int32)) * (10 : Int32)))) + (2 : Int32)).toNatClampNeg) < (a1 - (a1 / (10000 : Int32)) * (10000 : Int32)) then some ((0 : Int32), ν) else some ((1 : Int32), ν)))))) else some ((0 : Int32), ν))))))))))
def rmX5_command : Room := { frames := 7, cells := 0, slots := 0, locals := 162 }
theorem hd_X5_command : yX5_command.cls ≠ "java/lang/invoke/MethodHandle" ∧ yX5_command.cls ≠ "java/lang/invoke/VarHandle" ∧ (parseMethodDescriptor yX5_command.desc).map (fun d => d.parameters.length) = some 1 := by decide +kernel
set_option maxHeartbeats 8000000 in
set_option maxRecDepth 100000 in
theorem c_X5_command {l : Launch} {D : va_G} {y : Nat} {ν : Mem} (a1 : Int32) {r : Int32 × Mem} (hf : f_X5_command ν a1 = some r) : CM l yX5_command wsX5_command rmX5_command [.ref (y), .int a1] D y ν (some (.int r.1)) r.2 := by
  refine CM.of (cc := cX5_command) (maxL := 8) (ret := (some .boolean)) pn_X5 rfl (Nat.le_of_ble_eq_true rfl) ?_
  intro p e s m args below meth c F hr hlk hK
  have KEY : ∀ n : Nat, (∀ (ν : Mem) (t0 : Int32) (t1 : Int32) (ls : Array Slot) (H : Heap) (locs : List Loc), lv_has ls 8 [] → va_P D vwCl (WM D y ν) H → va_S (rngM y) s.heap H locs → fl_X5_command a1 n ν t0 t1 = some r → W p l e rmX5_command s m args below meth c H locs 0 0 (MQ below (QM D y r.2 (some (.int r.1))) args s 0 0 (rngM y)) (F0 m 259 ls [.int t0, .int t1])) := by
    intro n
    induction n with
    | zero => exact (fun _ _ _ _ _ _ _ _ _ h => nomatch h)
    | succ n ih =>
      skip
      intro ν t0 t1  ls H locs hl hP hS hf
      have hf : fb_X5_command_1 a1 (fl_X5_command a1 n) ν t0 t1 = some r := hf
      unfold fb_X5_command_1 at hf
      refine lv_icmp_ne (tgt := 266) F.1 F.2.1 dX5_command_259 rfl (fun hc62 => ?_) (fun hc62 => ?_)
      · have hf := ifn hc62 hf
        refine lv_iconst (v := (0 : Int32)) F.1 F.2.1 dX5_command_266 (by decide) ?_
        obtain rfl := Option.some.inj hf
        exact m_zret F hr hlk hP hS rfl (b01_v (v := (0 : Int32)) (Or.inl rfl)) dX5_command_267
      · have hf := ifp hc62 hf
        refine lv_iconst (v := (1 : Int32)) F.1 F.2.1 dX5_command_262 (by decide) ?_
        refine lv_goto (tgt := 267) F.1 F.2.1 dX5_command_263 rfl ?_
        obtain rfl := Option.some.inj hf
        exact m_zret F hr hlk hP hS rfl (b01_v (v := (1 : Int32)) (Or.inr rfl)) dX5_command_267
  intro ls H locs hl hP hS
  have hl : lv_has ls 8 [(0, .ref (y)), (1, .int a1)] := hl
  unfold f_X5_command at hf
  refine lv_iload_n F.1 F.2.1 dX5_command_0 rfl (lv_at hl 1 rfl) ?_
  refine lv_sipush (v := (10000 : Int32)) F.1 F.2.1 dX5_command_1 (by decide) ?_
  refine lv_idiv F.1 F.2.1 dX5_command_4 (by decide) ?_
  refine lv_bipush (v := (10 : Int32)) F.1 F.2.1 dX5_command_5 (by decide) ?_
  refine lv_irem F.1 F.2.1 dX5_command_7 (by decide) ?_
  refine lv_istore_n F.1 F.2.1 dX5_command_8 rfl hl (Nat.le_of_ble_eq_true rfl) rfl (fun ls hl => ?_)
  have hl : lv_has ls 8 [(2, .int ((a1 / (10000 : Int32)) - ((a1 / (10000 : Int32)) / (10 : Int32)) * (10 : Int32))), (0, .ref (y)), (1, .int a1)] := hl
  refine lv_iload_n F.1 F.2.1 dX5_command_9 rfl (lv_at hl 2 rfl) ?_
  refine lv_sipush (v := (1000 : Int32)) F.1 F.2.1 dX5_command_10 (by decide) ?_
  refine lv_idiv F.1 F.2.1 dX5_command_13 (by decide) ?_
  refine lv_bipush (v := (100 : Int32)) F.1 F.2.1 dX5_command_14 (by decide) ?_
  refine lv_irem F.1 F.2.1 dX5_command_16 (by decide) ?_
  refine lv_istore_n F.1 F.2.1 dX5_command_17 rfl hl (Nat.le_of_ble_eq_true rfl) rfl (fun ls hl => ?_)
  have hl : lv_has ls 8 [(3, .int ((a1 / (1000 : Int32)) - ((a1 / (1000 : Int32)) / (100 : Int32)) * (100 : Int32))), (2, .int ((a1 / (10000 : Int32)) - ((a1 / (10000 : Int32)) / (10 : Int32)) * (10 : Int32))), (0, .ref (y)), (1, .int a1)] := hl
  refine lv_iload_n F.1 F.2.1 dX5_command_18 rfl (lv_at hl 3 rfl) ?_
  refine lv_bipush (v := (10 : Int32)) F.1 F.2.1 dX5_command_19 (by decide) ?_
  refine lv_idiv F.1 F.2.1 dX5_command_21 (by decide) ?_
  refine lv_bipush (v := (100 : Int32)) F.1 F.2.1 dX5_command_22 (by decide) ?_
  refine lv_irem F.1 F.2.1 dX5_command_24 (by decide) ?_
  refine lv_istore F.1 F.2.1 dX5_command_25 hl (Nat.le_of_ble_eq_true rfl) rfl (fun ls hl => ?_)
  have hl : lv_has ls 8 [(4, .int ((a1 / (10 : Int32)) - ((a1 / (10 : Int32)) / (100 : Int32)) * (100 : Int32))), (3, .int ((a1 / (1000 : Int32)) - ((a1 / (1000 : Int32)) / (100 : Int32)) * (100 : Int32))), (2, .int ((a1 / (10000 : Int32)) - ((a1 / (10000 : Int32)) / (10 : Int32)) * (10 : Int32))), (0, .ref (y)), (1, .int a1)] := hl
  refine lv_iload_n F.1 F.2.1 dX5_command_27 rfl (lv_at hl 4 rfl) ?_
  refine lv_sipush (v := (1000 : Int32)) F.1 F.2.1 dX5_command_28 (by decide) ?_
  refine lv_idiv F.1 F.2.1 dX5_command_31 (by decide) ?_
  refine lv_bipush (v := (10 : Int32)) F.1 F.2.1 dX5_command_32 (by decide) ?_
  refine lv_irem F.1 F.2.1 dX5_command_34 (by decide) ?_
  refine lv_istore F.1 F.2.1 dX5_command_35 hl (Nat.le_of_ble_eq_true rfl) rfl (fun ls hl => ?_)
  have hl : lv_has ls 8 [(5, .int ((a1 / (1000 : Int32)) - ((a1 / (1000 : Int32)) / (10 : Int32)) * (10 : Int32))), (4, .int ((a1 / (10 : Int32)) - ((a1 / (10 : Int32)) / (100 : Int32)) * (100 : Int32))), (3, .int ((a1 / (1000 : Int32)) - ((a1 / (1000 : Int32)) / (100 : Int32)) * (100 : Int32))), (2, .int ((a1 / (10000 : Int32)) - ((a1 / (10000 : Int32)) / (10 : Int32)) * (10 : Int32))), (0, .ref (y)), (1, .int a1)] := hl
  refine lv_iload_n F.1 F.2.1 dX5_command_37 rfl (lv_at hl 5 rfl) ?_
  refine lv_bipush (v := (10 : Int32)) F.1 F.2.1 dX5_command_38 (by decide) ?_
  refine lv_irem F.1 F.2.1 dX5_command_40 (by decide) ?_
  refine lv_istore F.1 F.2.1 dX5_command_41 hl (Nat.le_of_ble_eq_true rfl) rfl (fun ls hl => ?_)
  have hl : lv_has ls 8 [(6, .int (a1 - (a1 / (10 : Int32)) * (10 : Int32))), (5, .int ((a1 / (1000 : Int32)) - ((a1 / (1000 : Int32)) / (10 : Int32)) * (10 : Int32))), (4, .int ((a1 / (10 : Int32)) - ((a1 / (10 : Int32)) / (100 : Int32)) * (100 : Int32))), (3, .int ((a1 / (1000 : Int32)) - ((a1 / (1000 : Int32)) / (100 : Int32)) * (100 : Int32))), (2, .int ((a1 / (10000 : Int32)) - ((a1 / (10000 : Int32)) / (10 : Int32)) * (10 : Int32))), (0, .ref (y)), (1, .int a1)] := hl
  refine lv_iload_n F.1 F.2.1 dX5_command_43 rfl (lv_at hl 6 rfl) ?_
  refine lv_sipush (v := (10000 : Int32)) F.1 F.2.1 dX5_command_44 (by decide) ?_
  refine lv_irem F.1 F.2.1 dX5_command_47 (by decide) ?_
  refine lv_istore F.1 F.2.1 dX5_command_48 hl (Nat.le_of_ble_eq_true rfl) rfl (fun ls hl => ?_)
  have hl : lv_has ls 8 [(7, .int (a1 - (a1 / (10000 : Int32)) * (10000 : Int32))), (6, .int (a1 - (a1 / (10 : Int32)) * (10 : Int32))), (5, .int ((a1 / (1000 : Int32)) - ((a1 / (1000 : Int32)) / (10 : Int32)) * (10 : Int32))), (4, .int ((a1 / (10 : Int32)) - ((a1 / (10 : Int32)) / (100 : Int32)) * (100 : Int32))), (3, .int ((a1 / (1000 : Int32)) - ((a1 / (1000 : Int32)) / (100 : Int32)) * (100 : Int32))), (2, .int ((a1 / (10000 : Int32)) - ((a1 / (10000 : Int32)) / (10 : Int32)) * (10 : Int32))), (0, .ref (y)), (1, .int a1)] := hl
  refine lv_iload_n F.1 F.2.1 dX5_command_50 rfl (lv_at hl 7 rfl) ?_
  refine lv_ldc (v := (100000 : Int32)) F.1 F.2.1 F.2.2.2.1 (F.2.2.2.2 _ (List.mem_of_getElem? (i := 1) rfl)) dX5_command_51 ?_
  refine lv_idiv F.1 F.2.1 dX5_command_53 (by decide) ?_
  by_cases hc1 : (a1 / (100000 : Int32)) = (1 : Int32)
  · have hf := ifp hc1 hf
    refine lv_tableIn (off := 50) (tgt := 104) F.1 F.2.1 dX5_command_54 (by rw [hc1]; decide) (by rw [hc1]; decide) (by rw [hc1]; rfl) rfl ?_
    refine lv_aload_n F.1 F.2.1 dX5_command_104 rfl (lv_at hl 6 rfl) ?_
    refine lv_iload_n F.1 F.2.1 dX5_command_105 rfl (lv_at hl 4 rfl) ?_
    refine lv_ineg F.1 F.2.1 dX5_command_106 ?_
    refine lv_iload F.1 F.2.1 dX5_command_107 (lv_at hl 3 rfl) ?_
    refine lv_iload F.1 F.2.1 dX5_command_109 (lv_at hl 1 rfl) ?_
    obtain ⟨r2, hr3, hf⟩ := bnd hf
    refine m_callV F hK hP hS (c_X5_runDays (-((a1 / (1000 : Int32)) - ((a1 / (1000 : Int32)) / (100 : Int32)) * (100 : Int32))) ((a1 / (10 : Int32)) - ((a1 / (10 : Int32)) / (100 : Int32)) * (100 : Int32)) (a1 - (a1 / (10 : Int32)) * (10 : Int32)) hr3) (cwV 3 F.2.2.2.2 gX5_command_X5_runDays rfl rfl rfl ⟨rfl, hd_X5_runDays⟩ ⟨(Nat.le_of_ble_eq_true rfl), (Nat.le_of_ble_eq_true rfl)⟩) rfl rfl hl.1 (Nat.le_of_ble_eq_true rfl) dX5_command_111 ⟨(Nat.le_of_ble_eq_true rfl), (Nat.le_of_ble_eq_true rfl)⟩ (rest := []) (fun H locs hP hS => ?_)
    refine W.eq (g2 := F0 m 114 ls [.int r2.1]) rfl ?_
    obtain ⟨hb4, hf⟩ := ifgp hf
    obtain rfl := Option.some.inj hf
    exact m_zret F hr hlk hP hS rfl (b01_v hb4) dX5_command_114
  have hf := ifn hc1 hf
  by_cases hc5 : (a1 / (100000 : Int32)) = (2 : Int32)
  · have hf := ifp hc5 hf
    refine lv_tableIn (off := 61) (tgt := 115) F.1 F.2.1 dX5_command_54 (by rw [hc5]; decide) (by rw [hc5]; decide) (by rw [hc5]; rfl) rfl ?_
    refine lv_iload F.1 F.2.1 dX5_command_115 (lv_at hl 3 rfl) ?_
    refine lv_if_ne (tgt := 135) F.1 F.2.1 dX5_command_117 rfl (fun hc6 => ?_) (fun hc6 => ?_)
    · have hf := ifn hc6 hf
      refine lv_iconst (v := (0 : Int32)) F.1 F.2.1 dX5_command_135 (by decide) ?_
      obtain rfl := Option.some.inj hf
      exact m_zret F hr hlk hP hS rfl (b01_v (v := (0 : Int32)) (Or.inl rfl)) dX5_command_136
    · have hf := ifp hc6 hf
      refine lv_aload_n F.1 F.2.1 dX5_command_120 rfl (lv_at hl 6 rfl) ?_
      refine lv_iload_n F.1 F.2.1 dX5_command_121 rfl (lv_at hl 4 rfl) ?_
      refine lv_iconst (v := (0 : Int32)) F.1 F.2.1 dX5_command_122 (by decide) ?_
      refine lv_iload F.1 F.2.1 dX5_command_123 (lv_at hl 1 rfl) ?_
      obtain ⟨r7, hr8, hf⟩ := bnd hf
      refine m_callV F hK hP hS (c_X5_runDays ((a1 / (1000 : Int32)) - ((a1 / (1000 : Int32)) / (100 : Int32)) * (100 : Int32)) (0 : Int32) (a1 - (a1 / (10 : Int32)) * (10 : Int32)) hr8) (cwV 3 F.2.2.2.2 gX5_command_X5_runDays rfl rfl rfl ⟨rfl, hd_X5_runDays⟩ ⟨(Nat.le_of_ble_eq_true rfl), (Nat.le_of_ble_eq_true rfl)⟩) rfl rfl hl.1 (Nat.le_of_ble_eq_true rfl) dX5_command_125 ⟨(Nat.le_of_ble_eq_true rfl), (Nat.le_of_ble_eq_true rfl)⟩ (rest := []) (fun H locs hP hS => ?_)
      refine W.eq (g2 := F0 m 128 ls [.int r7.1]) rfl ?_
      refine lv_if_eq (tgt := 135) F.1 F.2.1 dX5_command_128 rfl (fun hc9 => ?_) (fun hc9 => ?_)
      · have hf := ifp hc9 hf
        refine lv_iconst (v := (0 : Int32)) F.1 F.2.1 dX5_command_135 (by decide) ?_
        obtain rfl := Option.some.inj hf
        exact m_zret F hr hlk hP hS rfl (b01_v (v := (0 : Int32)) (Or.inl rfl)) dX5_command_136
      · have hf := ifn hc9 hf
        refine lv_iconst (v := (1 : Int32)) F.1 F.2.1 dX5_command_131 (by decide) ?_
        refine lv_goto (tgt := 136) F.1 F.2.1 dX5_command_132 rfl ?_
        obtain rfl := Option.some.inj hf
        exact m_zret F hr hlk hP hS rfl (b01_v (v := (1 : Int32)) (Or.inr rfl)) dX5_command_136
  have hf := ifn hc5 hf
  by_cases hc10 : (a1 / (100000 : Int32)) = (3 : Int32)
  · have hf := ifp hc10 hf
    refine lv_tableIn (off := 83) (tgt := 137) F.1 F.2.1 dX5_command_54 (by rw [hc10]; decide) (by rw [hc10]; decide) (by rw [hc10]; rfl) rfl ?_
    refine lv_iload F.1 F.2.1 dX5_command_137 (lv_at hl 2 rfl) ?_
    refine lv_if_ne (tgt := 161) F.1 F.2.1 dX5_command_139 rfl (fun hc11 => ?_) (fun hc11 => ?_)
    · have hf := ifn hc11 hf
      refine lv_iconst (v := (0 : Int32)) F.1 F.2.1 dX5_command_161 (by decide) ?_
      obtain rfl := Option.some.inj hf
      exact m_zret F hr hlk hP hS rfl (b01_v (v := (0 : Int32)) (Or.inl rfl)) dX5_command_162
    · have hf := ifp hc11 hf
      refine lv_iload F.1 F.2.1 dX5_command_142 (lv_at hl 1 rfl) ?_
      refine lv_if_ne (tgt := 161) F.1 F.2.1 dX5_command_144 rfl (fun hc12 => ?_) (fun hc12 => ?_)
      · have hf := ifn hc12 hf
        refine lv_iconst (v := (0 : Int32)) F.1 F.2.1 dX5_command_161 (by decide) ?_
        obtain rfl := Option.some.inj hf
        exact m_zret F hr hlk hP hS rfl (b01_v (v := (0 : Int32)) (Or.inl rfl)) dX5_command_162
      · have hf := ifp hc12 hf
        refine lv_aload_n F.1 F.2.1 dX5_command_147 rfl (lv_at hl 6 rfl) ?_
        refine lv_iload_n F.1 F.2.1 dX5_command_148 rfl (lv_at hl 5 rfl) ?_
        refine lv_iload F.1 F.2.1 dX5_command_149 (lv_at hl 3 rfl) ?_
        obtain ⟨r13, hr14, hf⟩ := bnd hf
        refine m_callV F hK hP hS (c_X5_runFence ((a1 / (10000 : Int32)) - ((a1 / (10000 : Int32)) / (10 : Int32)) * (10 : Int32)) ((a1 / (10 : Int32)) - ((a1 / (10 : Int32)) / (100 : Int32)) * (100 : Int32)) hr14) (cwV 2 F.2.2.2.2 gX5_command_X5_runFence rfl rfl rfl ⟨rfl, hd_X5_runFence⟩ ⟨(Nat.le_of_ble_eq_true rfl), (Nat.le_of_ble_eq_true rfl)⟩) rfl rfl hl.1 (Nat.le_of_ble_eq_true rfl) dX5_command_151 ⟨(Nat.le_of_ble_eq_true rfl), (Nat.le_of_ble_eq_true rfl)⟩ (rest := []) (fun H locs hP hS => ?_)
        refine W.eq (g2 := F0 m 154 ls [.int r13.1]) rfl ?_
        refine lv_if_eq (tgt := 161) F.1 F.2.1 dX5_command_154 rfl (fun hc15 => ?_) (fun hc15 => ?_)
        · have hf := ifp hc15 hf
          refine lv_iconst (v := (0 : Int32)) F.1 F.2.1 dX5_command_161 (by decide) ?_
          obtain rfl := Option.some.inj hf
          exact m_zret F hr hlk hP hS rfl (b01_v (v := (0 : Int32)) (Or.inl rfl)) dX5_command_162
        · have hf := ifn hc15 hf
          refine lv_iconst (v := (1 : Int32)) F.1 F.2.1 dX5_command_157 (by decide) ?_
          refine lv_goto (tgt := 162) F.1 F.2.1 dX5_command_158 rfl ?_
          obtain rfl := Option.some.inj hf
          exact m_zret F hr hlk hP hS rfl (b01_v (v := (1 : Int32)) (Or.inr rfl)) dX5_command_162
  have hf := ifn hc10 hf
  by_cases hc16 : (a1 / (100000 : Int32)) = (4 : Int32)
  · have hf := ifp hc16 hf
    refine lv_tableIn (off := 109) (tgt := 163) F.1 F.2.1 dX5_command_54 (by rw [hc16]; decide) (by rw [hc16]; decide) (by rw [hc16]; rfl) rfl ?_
    refine lv_iload F.1 F.2.1 dX5_command_163 (lv_at hl 0 rfl) ?_
    refine lv_if_ne (tgt := 180) F.1 F.2.1 dX5_command_165 rfl (fun hc17 => ?_) (fun hc17 => ?_)
    · have hf := ifn hc17 hf
      refine lv_iconst (v := (0 : Int32)) F.1 F.2.1 dX5_command_180 (by decide) ?_
      obtain rfl := Option.some.inj hf
      exact m_zret F hr hlk hP hS rfl (b01_v (v := (0 : Int32)) (Or.inl rfl)) dX5_command_181
    · have hf := ifp hc17 hf
      refine lv_aload_n F.1 F.2.1 dX5_command_168 rfl (lv_at hl 6 rfl) ?_
      refine lv_iload_n F.1 F.2.1 dX5_command_169 rfl (lv_at hl 5 rfl) ?_
      obtain ⟨r18, hr19, hf⟩ := bnd hf
      refine m_callV F hK hP hS (c_X5_runShovel ((a1 / (10000 : Int32)) - ((a1 / (10000 : Int32)) / (10 : Int32)) * (10 : Int32)) hr19) (cwV 1 F.2.2.2.2 gX5_command_X5_runShovel rfl rfl rfl ⟨rfl, hd_X5_runShovel⟩ ⟨(Nat.le_of_ble_eq_true rfl), (Nat.le_of_ble_eq_true rfl)⟩) rfl rfl hl.1 (Nat.le_of_ble_eq_true rfl) dX5_command_170 ⟨(Nat.le_of_ble_eq_true rfl), (Nat.le_of_ble_eq_true rfl)⟩ (rest := []) (fun H locs hP hS => ?_)
      refine W.eq (g2 := F0 m 173 ls [.int r18.1]) rfl ?_
      refine lv_if_eq (tgt := 180) F.1 F.2.1 dX5_command_173 rfl (fun hc20 => ?_) (fun hc20 => ?_)
      · have hf := ifp hc20 hf
        refine lv_iconst (v := (0 : Int32)) F.1 F.2.1 dX5_command_180 (by decide) ?_
        obtain rfl := Option.some.inj hf
        exact m_zret F hr hlk hP hS rfl (b01_v (v := (0 : Int32)) (Or.inl rfl)) dX5_command_181
      · have hf := ifn hc20 hf
        refine lv_iconst (v := (1 : Int32)) F.1 F.2.1 dX5_command_176 (by decide) ?_
        refine lv_goto (tgt := 181) F.1 F.2.1 dX5_command_177 rfl ?_
        obtain rfl := Option.some.inj hf
        exact m_zret F hr hlk hP hS rfl (b01_v (v := (1 : Int32)) (Or.inr rfl)) dX5_command_181
  have hf := ifn hc16 hf
  by_cases hc21 : (a1 / (100000 : Int32)) = (5 : Int32)
  · have hf := ifp hc21 hf
    refine lv_tableIn (off := 128) (tgt := 182) F.1 F.2.1 dX5_command_54 (by rw [hc21]; decide) (by rw [hc21]; decide) (by rw [hc21]; rfl) rfl ?_
    refine lv_iload F.1 F.2.1 dX5_command_182 (lv_at hl 2 rfl) ?_
    refine lv_if_ne (tgt := 206) F.1 F.2.1 dX5_command_184 rfl (fun hc22 => ?_) (fun hc22 => ?_)
    · have hf := ifn hc22 hf
      refine lv_iconst (v := (0 : Int32)) F.1 F.2.1 dX5_command_206 (by decide) ?_
      obtain rfl := Option.some.inj hf
      exact m_zret F hr hlk hP hS rfl (b01_v (v := (0 : Int32)) (Or.inl rfl)) dX5_command_207
    · have hf := ifp hc22 hf
      refine lv_iload F.1 F.2.1 dX5_command_187 (lv_at hl 1 rfl) ?_
      refine lv_if_ne (tgt := 206) F.1 F.2.1 dX5_command_189 rfl (fun hc23 => ?_) (fun hc23 => ?_)
      · have hf := ifn hc23 hf
        refine lv_iconst (v := (0 : Int32)) F.1 F.2.1 dX5_command_206 (by decide) ?_
        obtain rfl := Option.some.inj hf
        exact m_zret F hr hlk hP hS rfl (b01_v (v := (0 : Int32)) (Or.inl rfl)) dX5_command_207
      · have hf := ifp hc23 hf
        refine lv_aload_n F.1 F.2.1 dX5_command_192 rfl (lv_at hl 6 rfl) ?_
        refine lv_iload_n F.1 F.2.1 dX5_command_193 rfl (lv_at hl 5 rfl) ?_
        refine lv_iload F.1 F.2.1 dX5_command_194 (lv_at hl 3 rfl) ?_
        obtain ⟨r24, hr25, hf⟩ := bnd hf
        refine m_callV F hK hP hS (c_X5_runSet ((a1 / (10000 : Int32)) - ((a1 / (10000 : Int32)) / (10 : Int32)) * (10 : Int32)) ((a1 / (10 : Int32)) - ((a1 / (10 : Int32)) / (100 : Int32)) * (100 : Int32)) hr25) (cwV 2 F.2.2.2.2 gX5_command_X5_runSet rfl rfl rfl ⟨rfl, hd_X5_runSet⟩ ⟨(Nat.le_of_ble_eq_true rfl), (Nat.le_of_ble_eq_true rfl)⟩) rfl rfl hl.1 (Nat.le_of_ble_eq_true rfl) dX5_command_196 ⟨(Nat.le_of_ble_eq_true rfl), (Nat.le_of_ble_eq_true rfl)⟩ (rest := []) (fun H locs hP hS => ?_)
        refine W.eq (g2 := F0 m 199 ls [.int r24.1]) rfl ?_
        refine lv_if_eq (tgt := 206) F.1 F.2.1 dX5_command_199 rfl (fun hc26 => ?_) (fun hc26 => ?_)
        · have hf := ifp hc26 hf
          refine lv_iconst (v := (0 : Int32)) F.1 F.2.1 dX5_command_206 (by decide) ?_
          obtain rfl := Option.some.inj hf
          exact m_zret F hr hlk hP hS rfl (b01_v (v := (0 : Int32)) (Or.inl rfl)) dX5_command_207
        · have hf := ifn hc26 hf
          refine lv_iconst (v := (1 : Int32)) F.1 F.2.1 dX5_command_202 (by decide) ?_
          refine lv_goto (tgt := 207) F.1 F.2.1 dX5_command_203 rfl ?_
          obtain rfl := Option.some.inj hf
          exact m_zret F hr hlk hP hS rfl (b01_v (v := (1 : Int32)) (Or.inr rfl)) dX5_command_207
  have hf := ifn hc21 hf
  by_cases hc27 : (a1 / (100000 : Int32)) = (6 : Int32)
  · have hf := ifp hc27 hf
    refine lv_tableIn (off := 154) (tgt := 208) F.1 F.2.1 dX5_command_54 (by rw [hc27]; decide) (by rw [hc27]; decide) (by rw [hc27]; rfl) rfl ?_
    refine lv_iload F.1 F.2.1 dX5_command_208 (lv_at hl 2 rfl) ?_
    refine lv_if_ne (tgt := 266) F.1 F.2.1 dX5_command_210 rfl (fun hc28 => ?_) (fun hc28 => ?_)
    · have hf := ifn hc28 hf
      refine lv_iconst (v := (0 : Int32)) F.1 F.2.1 dX5_command_266 (by decide) ?_
      obtain rfl := Option.some.inj hf
      exact m_zret F hr hlk hP hS rfl (b01_v (v := (0 : Int32)) (Or.inl rfl)) dX5_command_267
    · have hf := ifp hc28 hf
      refine lv_iload F.1 F.2.1 dX5_command_213 (lv_at hl 1 rfl) ?_
      refine lv_iconst (v := (2 : Int32)) F.1 F.2.1 dX5_command_215 (by decide) ?_
      refine lv_icmp_ge (tgt := 266) F.1 F.2.1 dX5_command_216 rfl (fun hc29 => ?_) (fun hc29 => ?_)
      · have hf := ifp hc29 hf
        refine lv_iconst (v := (0 : Int32)) F.1 F.2.1 dX5_command_266 (by decide) ?_
        obtain rfl := Option.some.inj hf
        exact m_zret F hr hlk hP hS rfl (b01_v (v := (0 : Int32)) (Or.inl rfl)) dX5_command_267
      · have hf := ifn hc29 hf
        refine lv_aload_n F.1 F.2.1 dX5_command_219 rfl (lv_at hl 6 rfl) ?_
        refine m_getR F hK hP (fun _ h => List.mem_cons_of_mem _ (List.mem_append_right _ h)) 2 (Nat.le_of_ble_eq_true rfl) (List.mem_of_getElem? (i := 2) rfl) rfl (v := .ref (y + 2)) (fun _ => rfl) dX5_command_220 ?_
        refine lv_iload_n F.1 F.2.1 dX5_command_223 rfl (lv_at hl 5 rfl) ?_
        obtain ⟨r30, hr31, hf⟩ := bnd hf
        refine m_callS F hK hP hS (c_X5_isSite (by decide) (by decide) rfl ((a1 / (10000 : Int32)) - ((a1 / (10000 : Int32)) / (10 : Int32)) * (10 : Int32)) hr31) (va_cwS 2 F.2.2.2.2 gX5_command_X5_isSite rfl rfl rfl hd_X5_isSite ⟨(Nat.le_of_ble_eq_true rfl), (Nat.le_of_ble_eq_true rfl)⟩) rfl rfl hl.1 (Nat.le_of_ble_eq_true rfl) dX5_command_224 ⟨(Nat.le_of_ble_eq_true rfl), (Nat.le_of_ble_eq_true rfl)⟩ (rest := []) (fun H locs hP hS => ?_)
        refine W.eq (g2 := F0 m 227 ls [.int r30]) rfl ?_
        refine lv_if_eq (tgt := 266) F.1 F.2.1 dX5_command_227 rfl (fun hc32 => ?_) (fun hc32 => ?_)
        · have hf := ifp hc32 hf
          refine lv_iconst (v := (0 : Int32)) F.1 F.2.1 dX5_command_266 (by decide) ?_
          obtain rfl := Option.some.inj hf
          exact m_zret F hr hlk hP hS rfl (b01_v (v := (0 : Int32)) (Or.inl rfl)) dX5_command_267
        · have hf := ifn hc32 hf
          refine lv_iload F.1 F.2.1 dX5_command_230 (lv_at hl 3 rfl) ?_
          obtain ⟨r33, hr34, hf⟩ := bnd hf
          refine m_callS F hK hP hS (c_X5_isCell ((a1 / (10 : Int32)) - ((a1 / (10 : Int32)) / (100 : Int32)) * (100 : Int32)) hr34) (va_cwS 1 F.2.2.2.2 gX5_command_X5_isCell rfl rfl rfl hd_X5_isCell ⟨(Nat.le_of_ble_eq_true rfl), (Nat.le_of_ble_eq_true rfl)⟩) rfl rfl hl.1 (Nat.le_of_ble_eq_true rfl) dX5_command_232 ⟨(Nat.le_of_ble_eq_true rfl), (Nat.le_of_ble_eq_true rfl)⟩ (rest := []) (fun H locs hP hS => ?_)
          refine W.eq (g2 := F0 m 235 ls [.int r33]) rfl ?_
          refine lv_if_eq (tgt := 266) F.1 F.2.1 dX5_command_235 rfl (fun hc35 => ?_) (fun hc35 => ?_)
          · have hf := ifp hc35 hf
            refine lv_iconst (v := (0 : Int32)) F.1 F.2.1 dX5_command_266 (by decide) ?_
            obtain rfl := Option.some.inj hf
            exact m_zret F hr hlk hP hS rfl (b01_v (v := (0 : Int32)) (Or.inl rfl)) dX5_command_267
          · have hf := ifn hc35 hf
            refine lv_aload_n F.1 F.2.1 dX5_command_238 rfl (lv_at hl 6 rfl) ?_
            refine m_getR F hK hP (fun _ h => List.mem_cons_of_mem _ (List.mem_append_right _ h)) 2 (Nat.le_of_ble_eq_true rfl) (List.mem_of_getElem? (i := 2) rfl) rfl (v := .ref (y + 2)) (fun _ => rfl) dX5_command_239 ?_
            refine lv_iload_n F.1 F.2.1 dX5_command_242 rfl (lv_at hl 5 rfl) ?_
            refine lv_iload F.1 F.2.1 dX5_command_243 (lv_at hl 3 rfl) ?_
            obtain ⟨r36, hr37, hf⟩ := bnd hf
            refine m_callS F hK hP hS (c_X5_frozen (by decide) (by decide) rfl ((a1 / (10000 : Int32)) - ((a1 / (10000 : Int32)) / (10 : Int32)) * (10 : Int32)) ((a1 / (10 : Int32)) - ((a1 / (10 : Int32)) / (100 : Int32)) * (100 : Int32)) hr37) (va_cwS 3 F.2.2.2.2 gX5_command_X5_frozen rfl rfl rfl hd_X5_frozen ⟨(Nat.le_of_ble_eq_true rfl), (Nat.le_of_ble_eq_true rfl)⟩) rfl rfl hl.1 (Nat.le_of_ble_eq_true rfl) dX5_command_245 ⟨(Nat.le_of_ble_eq_true rfl), (Nat.le_of_ble_eq_true rfl)⟩ (rest := []) (fun H locs hP hS => ?_)
            refine W.eq (g2 := F0 m 248 ls [.int r36]) rfl ?_
            refine lv_iload F.1 F.2.1 dX5_command_248 (lv_at hl 1 rfl) ?_
            refine lv_iconst (v := (1 : Int32)) F.1 F.2.1 dX5_command_250 (by decide) ?_
            refine lv_icmp_ne (tgt := 258) F.1 F.2.1 dX5_command_251 rfl (fun hc38 => ?_) (fun hc38 => ?_)
            · have hf := ifn hc38 hf
              refine lv_iconst (v := (0 : Int32)) F.1 F.2.1 dX5_command_258 (by decide) ?_
              exact (KEY FU) ν (0 : Int32) r36 _ _ _ (lv_sub hl [] rfl) hP hS hf
            · have hf := ifp hc38 hf
              refine lv_iconst (v := (1 : Int32)) F.1 F.2.1 dX5_command_254 (by decide) ?_
              refine lv_goto (tgt := 259) F.1 F.2.1 dX5_command_255 rfl ?_
              exact (KEY FU) ν (1 : Int32) r36 _ _ _ (lv_sub hl [] rfl) hP hS hf
  have hf := ifn hc27 hf
  by_cases hc39 : (a1 / (100000 : Int32)) = (7 : Int32)
  · have hf := ifp hc39 hf
    refine lv_tableIn (off := 214) (tgt := 268) F.1 F.2.1 dX5_command_54 (by rw [hc39]; decide) (by rw [hc39]; decide) (by rw [hc39]; rfl) rfl ?_
    refine lv_iload F.1 F.2.1 dX5_command_268 (lv_at hl 0 rfl) ?_
    refine lv_bipush (v := (100 : Int32)) F.1 F.2.1 dX5_command_270 (by decide) ?_
    refine lv_icmp_ge (tgt := 303) F.1 F.2.1 dX5_command_272 rfl (fun hc40 => ?_) (fun hc40 => ?_)
    · have hf := ifp hc40 hf
      refine lv_iconst (v := (0 : Int32)) F.1 F.2.1 dX5_command_303 (by decide) ?_
      obtain rfl := Option.some.inj hf
      exact m_zret F hr hlk hP hS rfl (b01_v (v := (0 : Int32)) (Or.inl rfl)) dX5_command_304
    · have hf := ifn hc40 hf
      refine lv_aload_n F.1 F.2.1 dX5_command_275 rfl (lv_at hl 6 rfl) ?_
      refine m_getR F hK hP (fun _ h => List.mem_cons_of_mem _ (List.mem_append_right _ h)) 2 (Nat.le_of_ble_eq_true rfl) (List.mem_of_getElem? (i := 2) rfl) rfl (v := .ref (y + 2)) (fun _ => rfl) dX5_command_276 ?_
      refine lv_iload_n F.1 F.2.1 dX5_command_279 rfl (lv_at hl 5 rfl) ?_
      obtain ⟨r41, hr42, hf⟩ := bnd hf
      refine m_callS F hK hP hS (c_X5_isSite (by decide) (by decide) rfl ((a1 / (10000 : Int32)) - ((a1 / (10000 : Int32)) / (10 : Int32)) * (10 : Int32)) hr42) (va_cwS 2 F.2.2.2.2 gX5_command_X5_isSite rfl rfl rfl hd_X5_isSite ⟨(Nat.le_of_ble_eq_true rfl), (Nat.le_of_ble_eq_true rfl)⟩) rfl rfl hl.1 (Nat.le_of_ble_eq_true rfl) dX5_command_280 ⟨(Nat.le_of_ble_eq_true rfl), (Nat.le_of_ble_eq_true rfl)⟩ (rest := []) (fun H locs hP hS => ?_)
      refine W.eq (g2 := F0 m 283 ls [.int r41]) rfl ?_
      refine lv_if_eq (tgt := 303) F.1 F.2.1 dX5_command_283 rfl (fun hc43 => ?_) (fun hc43 => ?_)
      · have hf := ifp hc43 hf
        refine lv_iconst (v := (0 : Int32)) F.1 F.2.1 dX5_command_303 (by decide) ?_
        obtain rfl := Option.some.inj hf
        exact m_zret F hr hlk hP hS rfl (b01_v (v := (0 : Int32)) (Or.inl rfl)) dX5_command_304
      · have hf := ifn hc43 hf
        refine lv_aload_n F.1 F.2.1 dX5_command_286 rfl (lv_at hl 6 rfl) ?_
        refine m_getR F hK hP (fun _ h => List.mem_cons_of_mem _ (List.mem_append_right _ h)) 2 (Nat.le_of_ble_eq_true rfl) (List.mem_of_getElem? (i := 2) rfl) rfl (v := .ref (y + 2)) (fun _ => rfl) dX5_command_287 ?_
        refine lv_iload_n F.1 F.2.1 dX5_command_290 rfl (lv_at hl 5 rfl) ?_
        obtain ⟨r44, hr45, hf⟩ := bnd hf
        refine m_callS F hK hP hS (c_X5_cells (by decide) (by decide) rfl ((a1 / (10000 : Int32)) - ((a1 / (10000 : Int32)) / (10 : Int32)) * (10 : Int32)) hr45) (va_cwS 2 F.2.2.2.2 gX5_command_X5_cells rfl rfl rfl hd_X5_cells ⟨(Nat.le_of_ble_eq_true rfl), (Nat.le_of_ble_eq_true rfl)⟩) rfl rfl hl.1 (Nat.le_of_ble_eq_true rfl) dX5_command_291 ⟨(Nat.le_of_ble_eq_true rfl), (Nat.le_of_ble_eq_true rfl)⟩ (rest := []) (fun H locs hP hS => ?_)
        refine W.eq (g2 := F0 m 294 ls [.int r44]) rfl ?_
        refine lv_iload F.1 F.2.1 dX5_command_294 (lv_at hl 0 rfl) ?_
        refine lv_icmp_lt (tgt := 303) F.1 F.2.1 dX5_command_296 rfl (fun hc46 => ?_) (fun hc46 => ?_)
        · have hf := ifp hc46 hf
          refine lv_iconst (v := (0 : Int32)) F.1 F.2.1 dX5_command_303 (by decide) ?_
          obtain rfl := Option.some.inj hf
          exact m_zret F hr hlk hP hS rfl (b01_v (v := (0 : Int32)) (Or.inl rfl)) dX5_command_304
        · have hf := ifn hc46 hf
          refine lv_iconst (v := (1 : Int32)) F.1 F.2.1 dX5_command_299 (by decide) ?_
          refine lv_goto (tgt := 304) F.1 F.2.1 dX5_command_300 rfl ?_
          obtain rfl := Option.some.inj hf
          exact m_zret F hr hlk hP hS rfl (b01_v (v := (1 : Int32)) (Or.inr rfl)) dX5_command_304
  have hf := ifn hc39 hf
  by_cases hc47 : (a1 / (100000 : Int32)) = (8 : Int32)
  · have hf := ifp hc47 hf
    refine lv_tableIn (off := 251) (tgt := 305) F.1 F.2.1 dX5_command_54 (by rw [hc47]; decide) (by rw [hc47]; decide) (by rw [hc47]; rfl) rfl ?_
    refine lv_iload F.1 F.2.1 dX5_command_305 (lv_at hl 0 rfl) ?_
    refine lv_bipush (v := (10 : Int32)) F.1 F.2.1 dX5_command_307 (by decide) ?_
    refine lv_icmp_ge (tgt := 340) F.1 F.2.1 dX5_command_309 rfl (fun hc48 => ?_) (fun hc48 => ?_)
    · have hf := ifp hc48 hf
      refine lv_iconst (v := (0 : Int32)) F.1 F.2.1 dX5_command_340 (by decide) ?_
      obtain rfl := Option.some.inj hf
      exact m_zret F hr hlk hP hS rfl (b01_v (v := (0 : Int32)) (Or.inl rfl)) dX5_command_341
    · have hf := ifn hc48 hf
      refine lv_aload_n F.1 F.2.1 dX5_command_312 rfl (lv_at hl 6 rfl) ?_
      refine m_getR F hK hP (fun _ h => List.mem_cons_of_mem _ (List.mem_append_right _ h)) 2 (Nat.le_of_ble_eq_true rfl) (List.mem_of_getElem? (i := 2) rfl) rfl (v := .ref (y + 2)) (fun _ => rfl) dX5_command_313 ?_
      refine lv_iload_n F.1 F.2.1 dX5_command_316 rfl (lv_at hl 5 rfl) ?_
      obtain ⟨r49, hr50, hf⟩ := bnd hf
      refine m_callS F hK hP hS (c_X5_isSite (by decide) (by decide) rfl ((a1 / (10000 : Int32)) - ((a1 / (10000 : Int32)) / (10 : Int32)) * (10 : Int32)) hr50) (va_cwS 2 F.2.2.2.2 gX5_command_X5_isSite rfl rfl rfl hd_X5_isSite ⟨(Nat.le_of_ble_eq_true rfl), (Nat.le_of_ble_eq_true rfl)⟩) rfl rfl hl.1 (Nat.le_of_ble_eq_true rfl) dX5_command_317 ⟨(Nat.le_of_ble_eq_true rfl), (Nat.le_of_ble_eq_true rfl)⟩ (rest := []) (fun H locs hP hS => ?_)
      refine W.eq (g2 := F0 m 320 ls [.int r49]) rfl ?_
      refine lv_if_eq (tgt := 340) F.1 F.2.1 dX5_command_320 rfl (fun hc51 => ?_) (fun hc51 => ?_)
      · have hf := ifp hc51 hf
        refine lv_iconst (v := (0 : Int32)) F.1 F.2.1 dX5_command_340 (by decide) ?_
        obtain rfl := Option.some.inj hf
        exact m_zret F hr hlk hP hS rfl (b01_v (v := (0 : Int32)) (Or.inl rfl)) dX5_command_341
      · have hf := ifn hc51 hf
        refine lv_aload_n F.1 F.2.1 dX5_command_323 rfl (lv_at hl 6 rfl) ?_
        refine m_getR F hK hP (fun _ h => List.mem_cons_of_mem _ (List.mem_append_right _ h)) 2 (Nat.le_of_ble_eq_true rfl) (List.mem_of_getElem? (i := 2) rfl) rfl (v := .ref (y + 2)) (fun _ => rfl) dX5_command_324 ?_
        refine lv_iload_n F.1 F.2.1 dX5_command_327 rfl (lv_at hl 5 rfl) ?_
        obtain ⟨r52, hr53, hf⟩ := bnd hf
        refine m_callS F hK hP hS (c_X5_countLayers (by decide) (by decide) rfl ((a1 / (10000 : Int32)) - ((a1 / (10000 : Int32)) / (10 : Int32)) * (10 : Int32)) hr53) (va_cwS 2 F.2.2.2.2 gX5_command_X5_countLayers rfl rfl rfl hd_X5_countLayers ⟨(Nat.le_of_ble_eq_true rfl), (Nat.le_of_ble_eq_true rfl)⟩) rfl rfl hl.1 (Nat.le_of_ble_eq_true rfl) dX5_command_328 ⟨(Nat.le_of_ble_eq_true rfl), (Nat.le_of_ble_eq_true rfl)⟩ (rest := []) (fun H locs hP hS => ?_)
        refine W.eq (g2 := F0 m 331 ls [.int r52]) rfl ?_
        refine lv_iload F.1 F.2.1 dX5_command_331 (lv_at hl 0 rfl) ?_
        refine lv_icmp_ne (tgt := 340) F.1 F.2.1 dX5_command_333 rfl (fun hc54 => ?_) (fun hc54 => ?_)
        · have hf := ifn hc54 hf
          refine lv_iconst (v := (0 : Int32)) F.1 F.2.1 dX5_command_340 (by decide) ?_
          obtain rfl := Option.some.inj hf
          exact m_zret F hr hlk hP hS rfl (b01_v (v := (0 : Int32)) (Or.inl rfl)) dX5_command_341
        · have hf := ifp hc54 hf
          refine lv_iconst (v := (1 : Int32)) F.1 F.2.1 dX5_command_336 (by decide) ?_
          refine lv_goto (tgt := 341) F.1 F.2.1 dX5_command_337 rfl ?_
          obtain rfl := Option.some.inj hf
          exact m_zret F hr hlk hP hS rfl (b01_v (v := (1 : Int32)) (Or.inr rfl)) dX5_command_341
  have hf := ifn hc47 hf
  by_cases hc55 : (a1 / (100000 : Int32)) = (9 : Int32)
  · have hf := ifp hc55 hf
    refine lv_tableIn (off := 288) (tgt := 342) F.1 F.2.1 dX5_command_54 (by rw [hc55]; decide) (by rw [hc55]; decide) (by rw [hc55]; rfl) rfl ?_
    refine lv_iload F.1 F.2.1 dX5_command_342 (lv_at hl 0 rfl) ?_
    refine lv_sipush (v := (1000 : Int32)) F.1 F.2.1 dX5_command_344 (by decide) ?_
    refine lv_icmp_ge (tgt := 384) F.1 F.2.1 dX5_command_347 rfl (fun hc56 => ?_) (fun hc56 => ?_)
    · have hf := ifp hc56 hf
      refine lv_iconst (v := (0 : Int32)) F.1 F.2.1 dX5_command_384 (by decide) ?_
      obtain rfl := Option.some.inj hf
      exact m_zret F hr hlk hP hS rfl (b01_v (v := (0 : Int32)) (Or.inl rfl)) dX5_command_385
    · have hf := ifn hc56 hf
      refine lv_aload_n F.1 F.2.1 dX5_command_350 rfl (lv_at hl 6 rfl) ?_
      refine m_getR F hK hP (fun _ h => List.mem_cons_of_mem _ (List.mem_append_right _ h)) 2 (Nat.le_of_ble_eq_true rfl) (List.mem_of_getElem? (i := 2) rfl) rfl (v := .ref (y + 2)) (fun _ => rfl) dX5_command_351 ?_
      refine lv_iload_n F.1 F.2.1 dX5_command_354 rfl (lv_at hl 5 rfl) ?_
      obtain ⟨r57, hr58, hf⟩ := bnd hf
      refine m_callS F hK hP hS (c_X5_isPipe (by decide) (by decide) rfl ((a1 / (10000 : Int32)) - ((a1 / (10000 : Int32)) / (10 : Int32)) * (10 : Int32)) hr58) (va_cwS 2 F.2.2.2.2 gX5_command_X5_isPipe rfl rfl rfl hd_X5_isPipe ⟨(Nat.le_of_ble_eq_true rfl), (Nat.le_of_ble_eq_true rfl)⟩) rfl rfl hl.1 (Nat.le_of_ble_eq_true rfl) dX5_command_355 ⟨(Nat.le_of_ble_eq_true rfl), (Nat.le_of_ble_eq_true rfl)⟩ (rest := []) (fun H locs hP hS => ?_)
      refine W.eq (g2 := F0 m 358 ls [.int r57]) rfl ?_
      refine lv_if_eq (tgt := 384) F.1 F.2.1 dX5_command_358 rfl (fun hc59 => ?_) (fun hc59 => ?_)
      · have hf := ifp hc59 hf
        refine lv_iconst (v := (0 : Int32)) F.1 F.2.1 dX5_command_384 (by decide) ?_
        obtain rfl := Option.some.inj hf
        exact m_zret F hr hlk hP hS rfl (b01_v (v := (0 : Int32)) (Or.inl rfl)) dX5_command_385
      · have hf := ifn hc59 hf
        refine lv_aload_n F.1 F.2.1 dX5_command_361 rfl (lv_at hl 6 rfl) ?_
        refine m_getR F hK hP (fun _ h => List.mem_cons_of_mem _ (List.mem_append_right _ h)) 2 (Nat.le_of_ble_eq_true rfl) (List.mem_of_getElem? (i := 2) rfl) rfl (v := .ref (y + 2)) (fun _ => rfl) dX5_command_362 ?_
        refine lv_sipush (v := (156 : Int32)) F.1 F.2.1 dX5_command_365 (by decide) ?_
        refine lv_iconst (v := (5 : Int32)) F.1 F.2.1 dX5_command_368 (by decide) ?_
        refine lv_iload_n F.1 F.2.1 dX5_command_369 rfl (lv_at hl 5 rfl) ?_
        refine lv_imul F.1 F.2.1 dX5_command_370 ?_
        refine lv_iadd F.1 F.2.1 dX5_command_371 ?_
        refine lv_iconst (v := (2 : Int32)) F.1 F.2.1 dX5_command_372 (by decide) ?_
        refine lv_iadd F.1 F.2.1 dX5_command_373 ?_
        obtain ⟨hb60, hf⟩ := ifg hf
        refine m_iald F hK hP (o := 2) (by decide) rfl (fun _ => rfl) rfl hb60 dX5_command_374 ?_
        refine lv_iload F.1 F.2.1 dX5_command_375 (lv_at hl 0 rfl) ?_
        refine lv_icmp_lt (tgt := 384) F.1 F.2.1 dX5_command_377 rfl (fun hc61 => ?_) (fun hc61 => ?_)
        · have hf := ifp hc61 hf
          refine lv_iconst (v := (0 : Int32)) F.1 F.2.1 dX5_command_384 (by decide) ?_
          obtain rfl := Option.some.inj hf
          exact m_zret F hr hlk hP hS rfl (b01_v (v := (0 : Int32)) (Or.inl rfl)) dX5_command_385
        · have hf := ifn hc61 hf
          refine lv_iconst (v := (1 : Int32)) F.1 F.2.1 dX5_command_380 (by decide) ?_
          refine lv_goto (tgt := 385) F.1 F.2.1 dX5_command_381 rfl ?_
          obtain rfl := Option.some.inj hf
          exact m_zret F hr hlk hP hS rfl (b01_v (v := (1 : Int32)) (Or.inr rfl)) dX5_command_385
  have hf := ifn hc55 hf
  have hc1i := i32_ne hc1
  have hc5i := i32_ne hc5
  have hc10i := i32_ne hc10
  have hc16i := i32_ne hc16
  have hc21i := i32_ne hc21
  have hc27i := i32_ne hc27
  have hc39i := i32_ne hc39
  have hc47i := i32_ne hc47
  have hc55i := i32_ne hc55
  refine lv_tableOut (tgt := 386) F.1 F.2.1 dX5_command_54 (by have : ((1 : Int32)).toInt = 1 := rfl; have : ((2 : Int32)).toInt = 2 := rfl; have : ((3 : Int32)).toInt = 3 := rfl; have : ((4 : Int32)).toInt = 4 := rfl; have : ((5 : Int32)).toInt = 5 := rfl; have : ((6 : Int32)).toInt = 6 := rfl; have : ((7 : Int32)).toInt = 7 := rfl; have : ((8 : Int32)).toInt = 8 := rfl; have : ((9 : Int32)).toInt = 9 := rfl; omega) rfl ?_
  refine lv_iconst (v := (0 : Int32)) F.1 F.2.1 dX5_command_386 (by decide) ?_
  obtain rfl := Option.some.inj hf
  exact m_zret F hr hlk hP hS rfl (b01_v (v := (0 : Int32)) (Or.inl rfl)) dX5_command_387

-- FrostTubesModel.runScript(IJ)I
def fb_X5_runScript_1 (a1 : Int32) (a2 : Int64) (K : Nat → Mem → Int32 → Int32 → Option (Int32 × Mem)) (ν : Mem) (t0 : Int32) (v4 : Int32) : Option (Int32 × Mem) := ((f_X5_refused ν t0).bind fun r9 => (if r9.1 = 0 then ((f_X5_copy (r9.2 2) (r9.2 1)).bind fun r12 => (K 2 (va_up r9.2 2 r12) 0 (0 : Int32))) else some ((0 : Int32), r9.2)))
def fb_X5_runScript_2 (a1 : Int32) (a2 : Int64) (K : Nat → Mem → Int32 → Int32 → Option (Int32 × Mem)) (ν : Mem) (t0 : Int32) (v4 : Int32) : Option (Int32 × Mem) := (if a1 ≤ v4 then some ((-1 : Int32), ν) else ((f_X5_tens ((6 : Int32) * ((a1 - (1 : Int32)) - v4))).bind fun r15 => (if r15 = 0 then none else ((f_X5_command ν (((a2 / r15) - ((a2 / r15) / (1000000 : Int64)) * (1000000 : Int64)).toInt32)).bind fun r18 => (if r18.1 = 0 then some (v4, r18.2) else (K 2 r18.2 0 (v4 + (1 : Int32))))))))
def fl_X5_runScript (a1 : Int32) (a2 : Int64) : Nat → Nat → Mem → Int32 → Int32 → Option (Int32 × Mem)
  | 0, _, _, _, _ => none
  | n + 1, lab, ν, t0, v4 => match lab with
    | 1 => fb_X5_runScript_1 a1 a2 (fl_X5_runScript a1 a2 n) ν t0 v4
    | _ => fb_X5_runScript_2 a1 a2 (fl_X5_runScript a1 a2 n) ν t0 v4
def f_X5_runScript (ν : Mem) (a1 : Int32) (a2 : Int64) : Option (Int32 × Mem) := ((f_X5_in a1.toInt64 (1 : Int64) (3 : Int64)).bind fun r1 => (if r1 = 0 then (fl_X5_runScript a1 a2 FU 1 ν (1 : Int32) 0) else ((f_X5_tens ((6 : Int32) * a1)).bind fun r4 => ((f_X5_in a2 (0 : Int64) (r4 - (1 : Int64))).bind fun r6 => (if r6 = 0 then (fl_X5_runScript a1 a2 FU 1 ν (1 : Int32) 0) else (fl_X5_runScript a1 a2 FU 1 ν (0 : Int32) 0))))))
def rmX5_runScript : Room := { frames := 8, cells := 0, slots := 0, locals := 189 }
theorem hd_X5_runScript : yX5_runScript.cls ≠ "java/lang/invoke/MethodHandle" ∧ yX5_runScript.cls ≠ "java/lang/invoke/VarHandle" ∧ (parseMethodDescriptor yX5_runScript.desc).map (fun d => d.parameters.length) = some 2 := by decide +kernel
set_option maxHeartbeats 8000000 in
set_option maxRecDepth 100000 in
theorem c_X5_runScript {l : Launch} {D : va_G} {y : Nat} {ν : Mem} (a1 : Int32) (a2 : Int64) {r : Int32 × Mem} (hf : f_X5_runScript ν a1 a2 = some r) : CM l yX5_runScript wsX5_runScript rmX5_runScript [.ref (y), .int a1, .long a2] D y ν (some (.int r.1)) r.2 := by
  refine CM.of (cc := cX5_runScript) (maxL := 5) (ret := (some .int)) pn_X5 rfl (Nat.le_of_ble_eq_true rfl) ?_
  intro p e s m args below meth c F hr hlk hK
  have KEY : ∀ n : Nat, (∀ (ν : Mem) (t0 : Int32) (ls : Array Slot) (H : Heap) (locs : List Loc), lv_has ls 5 [(0, .ref (y)), (1, .int a1), (2, .long a2)] → va_P D vwCl (WM D y ν) H → va_S (rngM y) s.heap H locs → fl_X5_runScript a1 a2 n 1 ν t0 0 = some r → W p l e rmX5_runScript s m args below meth c H locs 0 0 (MQ below (QM D y r.2 (some (.int r.1))) args s 0 0 (rngM y)) (F0 m 35 ls [.int t0, .ref (y)])) ∧ (∀ (ν : Mem) (v4 : Int32) (ls : Array Slot) (H : Heap) (locs : List Loc), lv_has ls 5 [(0, .ref (y)), (1, .int a1), (2, .long a2), (4, .int v4)] → va_P D vwCl (WM D y ν) H → va_S (rngM y) s.heap H locs → fl_X5_runScript a1 a2 n 2 ν 0 v4 = some r → W p l e rmX5_runScript s m args below meth c H locs 0 0 (MQ below (QM D y r.2 (some (.int r.1))) args s 0 0 (rngM y)) (F0 m 57 ls [])) := by
    intro n
    induction n with
    | zero => exact ⟨(fun _ _ _ _ _ _ _ _ h => nomatch h), (fun _ _ _ _ _ _ _ _ h => nomatch h)⟩
    | succ n ih =>
      refine ⟨?_, ?_⟩
      · intro ν t0  ls H locs hl hP hS hf
        have hf : fb_X5_runScript_1 a1 a2 (fl_X5_runScript a1 a2 n) ν t0 0 = some r := hf
        unfold fb_X5_runScript_1 at hf
        obtain ⟨r9, hr10, hf⟩ := bnd hf
        refine m_callV F hK hP hS (c_X5_refused t0 hr10) (cwV 1 F.2.2.2.2 gX5_runScript_X5_refused rfl rfl rfl ⟨rfl, hd_X5_refused⟩ ⟨(Nat.le_of_ble_eq_true rfl), (Nat.le_of_ble_eq_true rfl)⟩) rfl rfl hl.1 (Nat.le_of_ble_eq_true rfl) dX5_runScript_35 ⟨(Nat.le_of_ble_eq_true rfl), (Nat.le_of_ble_eq_true rfl)⟩ (rest := []) (fun H locs hP hS => ?_)
        refine W.eq (g2 := F0 m 38 ls [.int r9.1]) rfl ?_
        refine lv_if_eq (tgt := 43) F.1 F.2.1 dX5_runScript_38 rfl (fun hc11 => ?_) (fun hc11 => ?_)
        · have hf := ifp hc11 hf
          refine lv_aload_n F.1 F.2.1 dX5_runScript_43 rfl (lv_at hl 0 rfl) ?_
          refine m_getR F hK hP (fun _ h => List.mem_cons_of_mem _ (List.mem_append_right _ h)) 1 (Nat.le_of_ble_eq_true rfl) (List.mem_of_getElem? (i := 2) rfl) rfl (v := .ref (y + 1)) (fun _ => rfl) dX5_runScript_44 ?_
          refine lv_aload_n F.1 F.2.1 dX5_runScript_47 rfl (lv_at hl 0 rfl) ?_
          refine m_getR F hK hP (fun _ h => List.mem_cons_of_mem _ (List.mem_append_right _ h)) 2 (Nat.le_of_ble_eq_true rfl) (List.mem_of_getElem? (i := 3) rfl) rfl (v := .ref (y + 2)) (fun _ => rfl) dX5_runScript_48 ?_
          obtain ⟨r12, hr13, hf⟩ := bnd hf
          have hP := m_up 2 hP
          refine m_callS F hK hP hS (c_X5_copy (by decide) (by decide) (by decide) (by decide) (by decide) rfl hr13) (va_cwS 2 F.2.2.2.2 gX5_runScript_X5_copy rfl rfl rfl hd_X5_copy ⟨(Nat.le_of_ble_eq_true rfl), (Nat.le_of_ble_eq_true rfl)⟩) rfl rfl hl.1 (Nat.le_of_ble_eq_true rfl) dX5_runScript_51 ⟨(Nat.le_of_ble_eq_true rfl), (Nat.le_of_ble_eq_true rfl)⟩ (rest := []) (fun H locs hP hS => ?_)
          refine W.eq (g2 := F0 m 54 ls []) rfl ?_
          refine lv_iconst (v := (0 : Int32)) F.1 F.2.1 dX5_runScript_54 (by decide) ?_
          refine lv_istore F.1 F.2.1 dX5_runScript_55 hl (Nat.le_of_ble_eq_true rfl) rfl (fun ls hl => ?_)
          have hl : lv_has ls 5 [(4, .int (0 : Int32)), (0, .ref (y)), (1, .int a1), (2, .long a2)] := hl
          exact ih.2 (va_up r9.2 2 r12) (0 : Int32) _ _ _ (lv_sub hl [1, 2, 3, 0] rfl) hP hS hf
        · have hf := ifn hc11 hf
          refine lv_iconst (v := (0 : Int32)) F.1 F.2.1 dX5_runScript_41 (by decide) ?_
          obtain rfl := Option.some.inj hf
          exact m_iret F hr hlk hP hS rfl dX5_runScript_42
      · intro ν v4  ls H locs hl hP hS hf
        have hf : fb_X5_runScript_2 a1 a2 (fl_X5_runScript a1 a2 n) ν 0 v4 = some r := hf
        unfold fb_X5_runScript_2 at hf
        refine lv_iload F.1 F.2.1 dX5_runScript_57 (lv_at hl 3 rfl) ?_
        refine lv_iload_n F.1 F.2.1 dX5_runScript_59 rfl (lv_at hl 1 rfl) ?_
        refine lv_icmp_ge (tgt := 98) F.1 F.2.1 dX5_runScript_60 rfl (fun hc14 => ?_) (fun hc14 => ?_)
        · have hf := ifp hc14 hf
          refine lv_iconst (v := (-1 : Int32)) F.1 F.2.1 dX5_runScript_98 (by decide) ?_
          obtain rfl := Option.some.inj hf
          exact m_iret F hr hlk hP hS rfl dX5_runScript_99
        · have hf := ifn hc14 hf
          refine lv_aload_n F.1 F.2.1 dX5_runScript_63 rfl (lv_at hl 0 rfl) ?_
          refine lv_lload_n F.1 F.2.1 dX5_runScript_64 rfl (lv_at hl 2 rfl) ?_
          refine lv_bipush (v := (6 : Int32)) F.1 F.2.1 dX5_runScript_65 (by decide) ?_
          refine lv_iload_n F.1 F.2.1 dX5_runScript_67 rfl (lv_at hl 1 rfl) ?_
          refine lv_iconst (v := (1 : Int32)) F.1 F.2.1 dX5_runScript_68 (by decide) ?_
          refine lv_isub F.1 F.2.1 dX5_runScript_69 ?_
          refine lv_iload F.1 F.2.1 dX5_runScript_70 (lv_at hl 3 rfl) ?_
          refine lv_isub F.1 F.2.1 dX5_runScript_72 ?_
          refine lv_imul F.1 F.2.1 dX5_runScript_73 ?_
          obtain ⟨r15, hr16, hf⟩ := bnd hf
          refine m_callS F hK hP hS (c_X5_tens ((6 : Int32) * ((a1 - (1 : Int32)) - v4)) hr16) (va_cwS 1 F.2.2.2.2 gX5_runScript_X5_tens rfl rfl rfl hd_X5_tens ⟨(Nat.le_of_ble_eq_true rfl), (Nat.le_of_ble_eq_true rfl)⟩) rfl rfl hl.1 (Nat.le_of_ble_eq_true rfl) dX5_runScript_74 ⟨(Nat.le_of_ble_eq_true rfl), (Nat.le_of_ble_eq_true rfl)⟩ (rest := [.long a2, .ref (y)]) (fun H locs hP hS => ?_)
          refine W.eq (g2 := F0 m 77 ls [.long r15, .long a2, .ref (y)]) rfl ?_
          obtain ⟨hz17, hf⟩ := ifg hf
          refine lv_ldiv F.1 F.2.1 dX5_runScript_77 hz17 ?_
          refine lv_ldc2 (v := (1000000 : Int64)) F.1 F.2.1 F.2.2.2.1 (F.2.2.2.2 _ (List.mem_of_getElem? (i := 4) rfl)) dX5_runScript_78 ?_
          refine lv_lrem F.1 F.2.1 dX5_runScript_81 (by decide) ?_
          refine lv_l2i (v := ((a2 / r15) - ((a2 / r15) / (1000000 : Int64)) * (1000000 : Int64)).toInt32) F.1 F.2.1 dX5_runScript_82 rfl ?_
          obtain ⟨r18, hr19, hf⟩ := bnd hf
          refine m_callV F hK hP hS (c_X5_command (((a2 / r15) - ((a2 / r15) / (1000000 : Int64)) * (1000000 : Int64)).toInt32) hr19) (cwV 1 F.2.2.2.2 gX5_runScript_X5_command rfl rfl rfl ⟨rfl, hd_X5_command⟩ ⟨(Nat.le_of_ble_eq_true rfl), (Nat.le_of_ble_eq_true rfl)⟩) rfl rfl hl.1 (Nat.le_of_ble_eq_true rfl) dX5_runScript_83 ⟨(Nat.le_of_ble_eq_true rfl), (Nat.le_of_ble_eq_true rfl)⟩ (rest := []) (fun H locs hP hS => ?_)
          refine W.eq (g2 := F0 m 86 ls [.int r18.1]) rfl ?_
          refine lv_if_ne (tgt := 92) F.1 F.2.1 dX5_runScript_86 rfl (fun hc20 => ?_) (fun hc20 => ?_)
          · have hf := ifn hc20 hf
            refine lv_iinc (v := (v4 + (1 : Int32))) F.1 F.2.1 dX5_runScript_92 hl (k := 3) rfl rfl (Nat.le_of_ble_eq_true rfl) rfl (fun ls hl => ?_)
            have hl : lv_has ls 5 [(4, .int (v4 + (1 : Int32))), (0, .ref (y)), (1, .int a1), (2, .long a2)] := hl
            refine lv_goto (tgt := 57) F.1 F.2.1 dX5_runScript_95 rfl ?_
            exact ih.2 r18.2 (v4 + (1 : Int32)) _ _ _ (lv_sub hl [1, 2, 3, 0] rfl) hP hS hf
          · have hf := ifp hc20 hf
            refine lv_iload F.1 F.2.1 dX5_runScript_89 (lv_at hl 3 rfl) ?_
            obtain rfl := Option.some.inj hf
            exact m_iret F hr hlk hP hS rfl dX5_runScript_91
  intro ls H locs hl hP hS
  have hl : lv_has ls 5 [(0, .ref (y)), (1, .int a1), (2, .long a2)] := hl
  unfold f_X5_runScript at hf
  refine lv_aload_n F.1 F.2.1 dX5_runScript_0 rfl (lv_at hl 0 rfl) ?_
  refine lv_iload_n F.1 F.2.1 dX5_runScript_1 rfl (lv_at hl 1 rfl) ?_
  refine lv_i2l (v := a1.toInt64) F.1 F.2.1 dX5_runScript_2 rfl ?_
  refine lv_lconst (v := (1 : Int64)) F.1 F.2.1 dX5_runScript_3 rfl ?_
  refine lv_ldc2 (v := (3 : Int64)) F.1 F.2.1 F.2.2.2.1 (F.2.2.2.2 _ (List.mem_of_getElem? (i := 1) rfl)) dX5_runScript_4 ?_
  obtain ⟨r1, hr2, hf⟩ := bnd hf
  refine m_callS F hK hP hS (c_X5_in a1.toInt64 (1 : Int64) (3 : Int64) hr2) (va_cwS 3 F.2.2.2.2 gX5_runScript_X5_in rfl rfl rfl hd_X5_in ⟨(Nat.le_of_ble_eq_true rfl), (Nat.le_of_ble_eq_true rfl)⟩) rfl rfl hl.1 (Nat.le_of_ble_eq_true rfl) dX5_runScript_7 ⟨(Nat.le_of_ble_eq_true rfl), (Nat.le_of_ble_eq_true rfl)⟩ (rest := [.ref (y)]) (fun H locs hP hS => ?_)
  refine W.eq (g2 := F0 m 10 ls [.int r1, .ref (y)]) rfl ?_
  refine lv_if_eq (tgt := 34) F.1 F.2.1 dX5_runScript_10 rfl (fun hc3 => ?_) (fun hc3 => ?_)
  · have hf := ifp hc3 hf
    refine lv_iconst (v := (1 : Int32)) F.1 F.2.1 dX5_runScript_34 (by decide) ?_
    exact (KEY FU).1 ν (1 : Int32) _ _ _ (lv_sub hl [0, 1, 2] rfl) hP hS hf
  · have hf := ifn hc3 hf
    refine lv_lload_n F.1 F.2.1 dX5_runScript_13 rfl (lv_at hl 2 rfl) ?_
    refine lv_lconst (v := (0 : Int64)) F.1 F.2.1 dX5_runScript_14 rfl ?_
    refine lv_bipush (v := (6 : Int32)) F.1 F.2.1 dX5_runScript_15 (by decide) ?_
    refine lv_iload_n F.1 F.2.1 dX5_runScript_17 rfl (lv_at hl 1 rfl) ?_
    refine lv_imul F.1 F.2.1 dX5_runScript_18 ?_
    obtain ⟨r4, hr5, hf⟩ := bnd hf
    refine m_callS F hK hP hS (c_X5_tens ((6 : Int32) * a1) hr5) (va_cwS 1 F.2.2.2.2 gX5_runScript_X5_tens rfl rfl rfl hd_X5_tens ⟨(Nat.le_of_ble_eq_true rfl), (Nat.le_of_ble_eq_true rfl)⟩) rfl rfl hl.1 (Nat.le_of_ble_eq_true rfl) dX5_runScript_19 ⟨(Nat.le_of_ble_eq_true rfl), (Nat.le_of_ble_eq_true rfl)⟩ (rest := [.long (0 : Int64), .long a2, .ref (y)]) (fun H locs hP hS => ?_)
    refine W.eq (g2 := F0 m 22 ls [.long r4, .long (0 : Int64), .long a2, .ref (y)]) rfl ?_
    refine lv_lconst (v := (1 : Int64)) F.1 F.2.1 dX5_runScript_22 rfl ?_
    refine lv_lsub F.1 F.2.1 dX5_runScript_23 ?_
    obtain ⟨r6, hr7, hf⟩ := bnd hf
    refine m_callS F hK hP hS (c_X5_in a2 (0 : Int64) (r4 - (1 : Int64)) hr7) (va_cwS 3 F.2.2.2.2 gX5_runScript_X5_in rfl rfl rfl hd_X5_in ⟨(Nat.le_of_ble_eq_true rfl), (Nat.le_of_ble_eq_true rfl)⟩) rfl rfl hl.1 (Nat.le_of_ble_eq_true rfl) dX5_runScript_24 ⟨(Nat.le_of_ble_eq_true rfl), (Nat.le_of_ble_eq_true rfl)⟩ (rest := [.ref (y)]) (fun H locs hP hS => ?_)
    refine W.eq (g2 := F0 m 27 ls [.int r6, .ref (y)]) rfl ?_
    refine lv_if_eq (tgt := 34) F.1 F.2.1 dX5_runScript_27 rfl (fun hc8 => ?_) (fun hc8 => ?_)
    · have hf := ifp hc8 hf
      refine lv_iconst (v := (1 : Int32)) F.1 F.2.1 dX5_runScript_34 (by decide) ?_
      exact (KEY FU).1 ν (1 : Int32) _ _ _ (lv_sub hl [0, 1, 2] rfl) hP hS hf
    · have hf := ifn hc8 hf
      refine lv_iconst (v := (0 : Int32)) F.1 F.2.1 dX5_runScript_30 (by decide) ?_
      refine lv_goto (tgt := 35) F.1 F.2.1 dX5_runScript_31 rfl ?_
      exact (KEY FU).1 ν (0 : Int32) _ _ _ (lv_sub hl [0, 1, 2] rfl) hP hS hf

-- FrostTubesModel.runTube(II)Z
def f_X5_runTube (ν : Mem) (a1 : Int32) (a2 : Int32) : Option (Int32 × Mem) := ((f_X5_isSite (ν 2) a1).bind fun r1 => (if r1 = 0 then some ((0 : Int32), ν) else (if (8 : Int32) ≤ ((ν 2) (197 : Int32).toNatClampNeg) then some ((0 : Int32), ν) else ((f_X5_addTube (ν 2) a1 a2).bind fun r5 => (if r5.1 < 0 then some ((0 : Int32), (va_up ν 2 r5.2)) else some ((1 : Int32), (va_up ν 2 r5.2)))))))
def rmX5_runTube : Room := { frames := 2, cells := 0, slots := 0, locals := 46 }
theorem hd_X5_runTube : yX5_runTube.cls ≠ "java/lang/invoke/MethodHandle" ∧ yX5_runTube.cls ≠ "java/lang/invoke/VarHandle" ∧ (parseMethodDescriptor yX5_runTube.desc).map (fun d => d.parameters.length) = some 2 := by decide +kernel
set_option maxHeartbeats 8000000 in
set_option maxRecDepth 100000 in
theorem c_X5_runTube {l : Launch} {D : va_G} {y : Nat} {ν : Mem} (a1 : Int32) (a2 : Int32) {r : Int32 × Mem} (hf : f_X5_runTube ν a1 a2 = some r) : CM l yX5_runTube wsX5_runTube rmX5_runTube [.ref (y), .int a1, .int a2] D y ν (some (.int r.1)) r.2 := by
  refine CM.of (cc := cX5_runTube) (maxL := 3) (ret := (some .boolean)) pn_X5 rfl (Nat.le_of_ble_eq_true rfl) ?_
  intro p e s m args below meth c F hr hlk hK
  intro ls H locs hl hP hS
  have hl : lv_has ls 3 [(0, .ref (y)), (1, .int a1), (2, .int a2)] := hl
  unfold f_X5_runTube at hf
  refine lv_aload_n F.1 F.2.1 dX5_runTube_0 rfl (lv_at hl 0 rfl) ?_
  refine m_getR F hK hP (fun _ h => List.mem_cons_of_mem _ (List.mem_append_right _ h)) 2 (Nat.le_of_ble_eq_true rfl) (List.mem_of_getElem? (i := 1) rfl) rfl (v := .ref (y + 2)) (fun _ => rfl) dX5_runTube_1 ?_
  refine lv_iload_n F.1 F.2.1 dX5_runTube_4 rfl (lv_at hl 1 rfl) ?_
  obtain ⟨r1, hr2, hf⟩ := bnd hf
  refine m_callS F hK hP hS (c_X5_isSite (by decide) (by decide) rfl a1 hr2) (va_cwS 2 F.2.2.2.2 gX5_runTube_X5_isSite rfl rfl rfl hd_X5_isSite ⟨(Nat.le_of_ble_eq_true rfl), (Nat.le_of_ble_eq_true rfl)⟩) rfl rfl hl.1 (Nat.le_of_ble_eq_true rfl) dX5_runTube_5 ⟨(Nat.le_of_ble_eq_true rfl), (Nat.le_of_ble_eq_true rfl)⟩ (rest := []) (fun H locs hP hS => ?_)
  refine W.eq (g2 := F0 m 8 ls [.int r1]) rfl ?_
  refine lv_if_eq (tgt := 40) F.1 F.2.1 dX5_runTube_8 rfl (fun hc3 => ?_) (fun hc3 => ?_)
  · have hf := ifp hc3 hf
    refine lv_iconst (v := (0 : Int32)) F.1 F.2.1 dX5_runTube_40 (by decide) ?_
    obtain rfl := Option.some.inj hf
    exact m_zret F hr hlk hP hS rfl (b01_v (v := (0 : Int32)) (Or.inl rfl)) dX5_runTube_41
  · have hf := ifn hc3 hf
    refine lv_aload_n F.1 F.2.1 dX5_runTube_11 rfl (lv_at hl 0 rfl) ?_
    refine m_getR F hK hP (fun _ h => List.mem_cons_of_mem _ (List.mem_append_right _ h)) 2 (Nat.le_of_ble_eq_true rfl) (List.mem_of_getElem? (i := 1) rfl) rfl (v := .ref (y + 2)) (fun _ => rfl) dX5_runTube_12 ?_
    refine lv_sipush (v := (197 : Int32)) F.1 F.2.1 dX5_runTube_15 (by decide) ?_
    refine m_iald F hK hP (o := 2) (by decide) rfl (fun _ => rfl) rfl (by decide) dX5_runTube_18 ?_
    refine lv_bipush (v := (8 : Int32)) F.1 F.2.1 dX5_runTube_19 (by decide) ?_
    refine lv_icmp_ge (tgt := 40) F.1 F.2.1 dX5_runTube_21 rfl (fun hc4 => ?_) (fun hc4 => ?_)
    · have hf := ifp hc4 hf
      refine lv_iconst (v := (0 : Int32)) F.1 F.2.1 dX5_runTube_40 (by decide) ?_
      obtain rfl := Option.some.inj hf
      exact m_zret F hr hlk hP hS rfl (b01_v (v := (0 : Int32)) (Or.inl rfl)) dX5_runTube_41
    · have hf := ifn hc4 hf
      refine lv_aload_n F.1 F.2.1 dX5_runTube_24 rfl (lv_at hl 0 rfl) ?_
      refine m_getR F hK hP (fun _ h => List.mem_cons_of_mem _ (List.mem_append_right _ h)) 2 (Nat.le_of_ble_eq_true rfl) (List.mem_of_getElem? (i := 1) rfl) rfl (v := .ref (y + 2)) (fun _ => rfl) dX5_runTube_25 ?_
      refine lv_iload_n F.1 F.2.1 dX5_runTube_28 rfl (lv_at hl 1 rfl) ?_
      refine lv_iload_n F.1 F.2.1 dX5_runTube_29 rfl (lv_at hl 2 rfl) ?_
      obtain ⟨r5, hr6, hf⟩ := bnd hf
      have hP := m_up 2 hP
      refine m_callS F hK hP hS (c_X5_addTube (by decide) (by decide) a1 a2 hr6) (va_cwS 3 F.2.2.2.2 gX5_runTube_X5_addTube rfl rfl rfl hd_X5_addTube ⟨(Nat.le_of_ble_eq_true rfl), (Nat.le_of_ble_eq_true rfl)⟩) rfl rfl hl.1 (Nat.le_of_ble_eq_true rfl) dX5_runTube_30 ⟨(Nat.le_of_ble_eq_true rfl), (Nat.le_of_ble_eq_true rfl)⟩ (rest := []) (fun H locs hP hS => ?_)
      refine W.eq (g2 := F0 m 33 ls [.int r5.1]) rfl ?_
      refine lv_if_lt (tgt := 40) F.1 F.2.1 dX5_runTube_33 rfl (fun hc7 => ?_) (fun hc7 => ?_)
      · have hf := ifp hc7 hf
        refine lv_iconst (v := (0 : Int32)) F.1 F.2.1 dX5_runTube_40 (by decide) ?_
        obtain rfl := Option.some.inj hf
        exact m_zret F hr hlk hP hS rfl (b01_v (v := (0 : Int32)) (Or.inl rfl)) dX5_runTube_41
      · have hf := ifn hc7 hf
        refine lv_iconst (v := (1 : Int32)) F.1 F.2.1 dX5_runTube_36 (by decide) ?_
        refine lv_goto (tgt := 41) F.1 F.2.1 dX5_runTube_37 rfl ?_
        obtain rfl := Option.some.inj hf
        exact m_zret F hr hlk hP hS rfl (b01_v (v := (1 : Int32)) (Or.inr rfl)) dX5_runTube_41

-- FrostTubesModel.runPipe(II)Z
def f_X5_runPipe (ν : Mem) (a1 : Int32) (a2 : Int32) : Option (Int32 × Mem) := ((f_X5_isSite (ν 2) a1).bind fun r1 => (if r1 = 0 then some ((0 : Int32), ν) else ((f_X5_canLay (ν 2) a1 a2).bind fun r4 => (if r4 = 0 then some ((0 : Int32), ν) else ((f_X5_addPipe (ν 2) a1 a2).bind fun r7 => (if r7.1 < 0 then some ((0 : Int32), (va_up ν 2 r7.2)) else some ((1 : Int32), (va_up ν 2 r7.2))))))))
def rmX5_runPipe : Room := { frames := 3, cells := 0, slots := 0, locals := 65 }
theorem hd_X5_runPipe : yX5_runPipe.cls ≠ "java/lang/invoke/MethodHandle" ∧ yX5_runPipe.cls ≠ "java/lang/invoke/VarHandle" ∧ (parseMethodDescriptor yX5_runPipe.desc).map (fun d => d.parameters.length) = some 2 := by decide +kernel
set_option maxHeartbeats 8000000 in
set_option maxRecDepth 100000 in
theorem c_X5_runPipe {l : Launch} {D : va_G} {y : Nat} {ν : Mem} (a1 : Int32) (a2 : Int32) {r : Int32 × Mem} (hf : f_X5_runPipe ν a1 a2 = some r) : CM l yX5_runPipe wsX5_runPipe rmX5_runPipe [.ref (y), .int a1, .int a2] D y ν (some (.int r.1)) r.2 := by
  refine CM.of (cc := cX5_runPipe) (maxL := 3) (ret := (some .boolean)) pn_X5 rfl (Nat.le_of_ble_eq_true rfl) ?_
  intro p e s m args below meth c F hr hlk hK
  intro ls H locs hl hP hS
  have hl : lv_has ls 3 [(0, .ref (y)), (1, .int a1), (2, .int a2)] := hl
  unfold f_X5_runPipe at hf
  refine lv_aload_n F.1 F.2.1 dX5_runPipe_0 rfl (lv_at hl 0 rfl) ?_
  refine m_getR F hK hP (fun _ h => List.mem_cons_of_mem _ (List.mem_append_right _ h)) 2 (Nat.le_of_ble_eq_true rfl) (List.mem_of_getElem? (i := 1) rfl) rfl (v := .ref (y + 2)) (fun _ => rfl) dX5_runPipe_1 ?_
  refine lv_iload_n F.1 F.2.1 dX5_runPipe_4 rfl (lv_at hl 1 rfl) ?_
  obtain ⟨r1, hr2, hf⟩ := bnd hf
  refine m_callS F hK hP hS (c_X5_isSite (by decide) (by decide) rfl a1 hr2) (va_cwS 2 F.2.2.2.2 gX5_runPipe_X5_isSite rfl rfl rfl hd_X5_isSite ⟨(Nat.le_of_ble_eq_true rfl), (Nat.le_of_ble_eq_true rfl)⟩) rfl rfl hl.1 (Nat.le_of_ble_eq_true rfl) dX5_runPipe_5 ⟨(Nat.le_of_ble_eq_true rfl), (Nat.le_of_ble_eq_true rfl)⟩ (rest := []) (fun H locs hP hS => ?_)
  refine W.eq (g2 := F0 m 8 ls [.int r1]) rfl ?_
  refine lv_if_eq (tgt := 39) F.1 F.2.1 dX5_runPipe_8 rfl (fun hc3 => ?_) (fun hc3 => ?_)
  · have hf := ifp hc3 hf
    refine lv_iconst (v := (0 : Int32)) F.1 F.2.1 dX5_runPipe_39 (by decide) ?_
    obtain rfl := Option.some.inj hf
    exact m_zret F hr hlk hP hS rfl (b01_v (v := (0 : Int32)) (Or.inl rfl)) dX5_runPipe_40
  · have hf := ifn hc3 hf
    refine lv_aload_n F.1 F.2.1 dX5_runPipe_11 rfl (lv_at hl 0 rfl) ?_
    refine m_getR F hK hP (fun _ h => List.mem_cons_of_mem _ (List.mem_append_right _ h)) 2 (Nat.le_of_ble_eq_true rfl) (List.mem_of_getElem? (i := 1) rfl) rfl (v := .ref (y + 2)) (fun _ => rfl) dX5_runPipe_12 ?_
    refine lv_iload_n F.1 F.2.1 dX5_runPipe_15 rfl (lv_at hl 1 rfl) ?_
    refine lv_iload_n F.1 F.2.1 dX5_runPipe_16 rfl (lv_at hl 2 rfl) ?_
    obtain ⟨r4, hr5, hf⟩ := bnd hf
    refine m_callS F hK hP hS (c_X5_canLay (by decide) (by decide) rfl a1 a2 hr5) (va_cwS 3 F.2.2.2.2 gX5_runPipe_X5_canLay rfl rfl rfl hd_X5_canLay ⟨(Nat.le_of_ble_eq_true rfl), (Nat.le_of_ble_eq_true rfl)⟩) rfl rfl hl.1 (Nat.le_of_ble_eq_true rfl) dX5_runPipe_17 ⟨(Nat.le_of_ble_eq_true rfl), (Nat.le_of_ble_eq_true rfl)⟩ (rest := []) (fun H locs hP hS => ?_)
    refine W.eq (g2 := F0 m 20 ls [.int r4]) rfl ?_
    refine lv_if_eq (tgt := 39) F.1 F.2.1 dX5_runPipe_20 rfl (fun hc6 => ?_) (fun hc6 => ?_)
    · have hf := ifp hc6 hf
      refine lv_iconst (v := (0 : Int32)) F.1 F.2.1 dX5_runPipe_39 (by decide) ?_
      obtain rfl := Option.some.inj hf
      exact m_zret F hr hlk hP hS rfl (b01_v (v := (0 : Int32)) (Or.inl rfl)) dX5_runPipe_40
    · have hf := ifn hc6 hf
      refine lv_aload_n F.1 F.2.1 dX5_runPipe_23 rfl (lv_at hl 0 rfl) ?_
      refine m_getR F hK hP (fun _ h => List.mem_cons_of_mem _ (List.mem_append_right _ h)) 2 (Nat.le_of_ble_eq_true rfl) (List.mem_of_getElem? (i := 1) rfl) rfl (v := .ref (y + 2)) (fun _ => rfl) dX5_runPipe_24 ?_
      refine lv_iload_n F.1 F.2.1 dX5_runPipe_27 rfl (lv_at hl 1 rfl) ?_
      refine lv_iload_n F.1 F.2.1 dX5_runPipe_28 rfl (lv_at hl 2 rfl) ?_
      obtain ⟨r7, hr8, hf⟩ := bnd hf
      have hP := m_up 2 hP
      refine m_callS F hK hP hS (c_X5_addPipe (by decide) (by decide) a1 a2 hr8) (va_cwS 3 F.2.2.2.2 gX5_runPipe_X5_addPipe rfl rfl rfl hd_X5_addPipe ⟨(Nat.le_of_ble_eq_true rfl), (Nat.le_of_ble_eq_true rfl)⟩) rfl rfl hl.1 (Nat.le_of_ble_eq_true rfl) dX5_runPipe_29 ⟨(Nat.le_of_ble_eq_true rfl), (Nat.le_of_ble_eq_true rfl)⟩ (rest := []) (fun H locs hP hS => ?_)
      refine W.eq (g2 := F0 m 32 ls [.int r7.1]) rfl ?_
      refine lv_if_lt (tgt := 39) F.1 F.2.1 dX5_runPipe_32 rfl (fun hc9 => ?_) (fun hc9 => ?_)
      · have hf := ifp hc9 hf
        refine lv_iconst (v := (0 : Int32)) F.1 F.2.1 dX5_runPipe_39 (by decide) ?_
        obtain rfl := Option.some.inj hf
        exact m_zret F hr hlk hP hS rfl (b01_v (v := (0 : Int32)) (Or.inl rfl)) dX5_runPipe_40
      · have hf := ifn hc9 hf
        refine lv_iconst (v := (1 : Int32)) F.1 F.2.1 dX5_runPipe_35 (by decide) ?_
        refine lv_goto (tgt := 40) F.1 F.2.1 dX5_runPipe_36 rfl ?_
        obtain rfl := Option.some.inj hf
        exact m_zret F hr hlk hP hS rfl (b01_v (v := (1 : Int32)) (Or.inr rfl)) dX5_runPipe_40

-- FrostTubesModel.stir(I)V
def fb_X5_stir_1 (a1 : Int32) (K : Mem → Int32 → Option (Mem)) (ν : Mem) (v2 : Int32) : Option (Mem) := ((f_X5_runDays ν (-(v2 - (v2 / (31 : Int32)) * (31 : Int32))) ((v2 / (32 : Int32)) - ((v2 / (32 : Int32)) / (4 : Int32)) * (4 : Int32)) ((1 : Int32) + ((v2 / (128 : Int32)) - ((v2 / (128 : Int32)) / (6 : Int32)) * (6 : Int32)))).bind fun r32 => some r32.2)
def fl_X5_stir (a1 : Int32) : Nat → Mem → Int32 → Option (Mem)
  | 0, _, _ => none
  | n + 1, ν, v2 => fb_X5_stir_1 a1 (fl_X5_stir a1 n) ν v2
def f_X5_stir (ν : Mem) (a1 : Int32) : Option (Mem) := (if (a1 - (a1 / (16 : Int32)) * (16 : Int32)) = (0 : Int32) then (if (4 : Int32) ≤ ((ν 2) (196 : Int32).toNatClampNeg) then some ν else ((f_X5_addSite (ν 2)).bind fun r3 => (if r3.1 < 0 then some (va_up ν 2 r3.2) else some (va_up ν 2 r3.2)))) else (if (a1 - (a1 / (16 : Int32)) * (16 : Int32)) = (1 : Int32) then ((f_X5_runTube ν ((a1 / (16 : Int32)) - ((a1 / (16 : Int32)) / (4 : Int32)) * (4 : Int32)) ((1 : Int32) + (((a1 / (16 : Int32)) / (4 : Int32)) - (((a1 / (16 : Int32)) / (4 : Int32)) / (30 : Int32)) * (30 : Int32)))).bind fun r7 => some r7.2) else (if (a1 - (a1 / (16 : Int32)) * (16 : Int32)) = (2 : Int32) then ((f_X5_runPipe ν ((a1 / (16 : Int32)) - ((a1 / (16 : Int32)) / (4 : Int32)) * (4 : Int32)) (((a1 / (16 : Int32)) / (4 : Int32)) - (((a1 / (16 : Int32)) / (4 : Int32)) / (30 : Int32)) * (30 : Int32))).bind fun r10 => some r10.2) else (if (a1 - (a1 / (16 : Int32)) * (16 : Int32)) = (3 : Int32) then ((f_X5_runFence ν ((a1 / (16 : Int32)) - ((a1 / (16 : Int32)) / (4 : Int32)) * (4 : Int32)) (((a1 / (16 : Int32)) / (4 : Int32)) - (((a1 / (16 : Int32)) / (4 : Int32)) / (21 : Int32)) * (21 : Int32))).bind fun r13 => some r13.2) else (if (a1 - (a1 / (16 : Int32)) * (16 : Int32)) = (4 : Int32) then ((f_X5_runShovel ν ((a1 / (16 : Int32)) - ((a1 / (16 : Int32)) / (4 : Int32)) * (4 : Int32))).bind fun r16 => some r16.2) else (if (a1 - (a1 / (16 : Int32)) * (16 : Int32)) = (5 : Int32) then ((f_X5_runSet ν ((a1 / (16 : Int32)) - ((a1 / (16 : Int32)) / (3 : Int32)) * (3 : Int32)) (((a1 / (16 : Int32)) / (4 : Int32)) - (((a1 / (16 : Int32)) / (4 : Int32)) / (31 : Int32)) * (31 : Int32))).bind fun r19 => some r19.2) else (if (a1 - (a1 / (16 : Int32)) * (16 : Int32)) = (6 : Int32) then ((f_X5_beginWinter (ν 2)).bind fun r22 => (if r22.1 < 0 then some (va_up ν 2 r22.2) else some (va_up ν 2 r22.2))) else (if (a1 - (a1 / (16 : Int32)) * (16 : Int32)) = (7 : Int32) then (fl_X5_stir a1 FU ν (a1 / (16 : Int32))) else (if (a1 - (a1 / (16 : Int32)) * (16 : Int32)) = (8 : Int32) then (fl_X5_stir a1 FU ν (a1 / (16 : Int32))) else (if (a1 - (a1 / (16 : Int32)) * (16 : Int32)) = (9 : Int32) then (fl_X5_stir a1 FU ν (a1 / (16 : Int32))) else (if (a1 - (a1 / (16 : Int32)) * (16 : Int32)) = (10 : Int32) then (fl_X5_stir a1 FU ν (a1 / (16 : Int32))) else (if (a1 - (a1 / (16 : Int32)) * (16 : Int32)) = (11 : Int32) then (fl_X5_stir a1 FU ν (a1 / (16 : Int32))) else ((f_X5_runDays ν ((a1 / (16 : Int32)) - ((a1 / (16 : Int32)) / (16 : Int32)) * (16 : Int32)) (0 : Int32) ((1 : Int32) + (((a1 / (16 : Int32)) / (16 : Int32)) - (((a1 / (16 : Int32)) / (16 : Int32)) / (4 : Int32)) * (4 : Int32)))).bind fun r30 => some r30.2)))))))))))))
def rmX5_stir : Room := { frames := 7, cells := 0, slots := 0, locals := 162 }
theorem hd_X5_stir : yX5_stir.cls ≠ "java/lang/invoke/MethodHandle" ∧ yX5_stir.cls ≠ "java/lang/invoke/VarHandle" ∧ (parseMethodDescriptor yX5_stir.desc).map (fun d => d.parameters.length) = some 1 := by decide +kernel
set_option maxHeartbeats 8000000 in
set_option maxRecDepth 100000 in
theorem c_X5_stir {l : Launch} {D : va_G} {y : Nat} {ν : Mem} (a1 : Int32) {r : Mem} (hf : f_X5_stir ν a1 = some r) : CM l yX5_stir wsX5_stir rmX5_stir [.ref (y), .int a1] D y ν (none) r := by
  refine CM.of (cc := cX5_stir) (maxL := 4) (ret := none) pn_X5 rfl (Nat.le_of_ble_eq_true rfl) ?_
  intro p e s m args below meth c F hr hlk hK
  have KEY : ∀ n : Nat, (∀ (ν : Mem) (v2 : Int32) (ls : Array Slot) (H : Heap) (locs : List Loc), lv_has ls 4 [(0, .ref (y)), (2, .int v2)] → va_P D vwCl (WM D y ν) H → va_S (rngM y) s.heap H locs → fl_X5_stir a1 n ν v2 = some r → W p l e rmX5_stir s m args below meth c H locs 0 0 (MQ below (QM D y r (none)) args s 0 0 (rngM y)) (F0 m 203 ls [])) := by
    intro n
    induction n with
    | zero => exact (fun _ _ _ _ _ _ _ _ h => nomatch h)
    | succ n ih =>
      skip
      intro ν v2  ls H locs hl hP hS hf
      have hf : fb_X5_stir_1 a1 (fl_X5_stir a1 n) ν v2 = some r := hf
      unfold fb_X5_stir_1 at hf
      refine lv_aload_n F.1 F.2.1 dX5_stir_203 rfl (lv_at hl 0 rfl) ?_
      refine lv_iload_n F.1 F.2.1 dX5_stir_204 rfl (lv_at hl 1 rfl) ?_
      refine lv_bipush (v := (31 : Int32)) F.1 F.2.1 dX5_stir_205 (by decide) ?_
      refine lv_irem F.1 F.2.1 dX5_stir_207 (by decide) ?_
      refine lv_ineg F.1 F.2.1 dX5_stir_208 ?_
      refine lv_iload_n F.1 F.2.1 dX5_stir_209 rfl (lv_at hl 1 rfl) ?_
      refine lv_bipush (v := (32 : Int32)) F.1 F.2.1 dX5_stir_210 (by decide) ?_
      refine lv_idiv F.1 F.2.1 dX5_stir_212 (by decide) ?_
      refine lv_iconst (v := (4 : Int32)) F.1 F.2.1 dX5_stir_213 (by decide) ?_
      refine lv_irem F.1 F.2.1 dX5_stir_214 (by decide) ?_
      refine lv_iconst (v := (1 : Int32)) F.1 F.2.1 dX5_stir_215 (by decide) ?_
      refine lv_iload_n F.1 F.2.1 dX5_stir_216 rfl (lv_at hl 1 rfl) ?_
      refine lv_sipush (v := (128 : Int32)) F.1 F.2.1 dX5_stir_217 (by decide) ?_
      refine lv_idiv F.1 F.2.1 dX5_stir_220 (by decide) ?_
      refine lv_bipush (v := (6 : Int32)) F.1 F.2.1 dX5_stir_221 (by decide) ?_
      refine lv_irem F.1 F.2.1 dX5_stir_223 (by decide) ?_
      refine lv_iadd F.1 F.2.1 dX5_stir_224 ?_
      obtain ⟨r32, hr33, hf⟩ := bnd hf
      refine m_callV F hK hP hS (c_X5_runDays (-(v2 - (v2 / (31 : Int32)) * (31 : Int32))) ((v2 / (32 : Int32)) - ((v2 / (32 : Int32)) / (4 : Int32)) * (4 : Int32)) ((1 : Int32) + ((v2 / (128 : Int32)) - ((v2 / (128 : Int32)) / (6 : Int32)) * (6 : Int32))) hr33) (cwV 3 F.2.2.2.2 gX5_stir_X5_runDays rfl rfl rfl ⟨rfl, hd_X5_runDays⟩ ⟨(Nat.le_of_ble_eq_true rfl), (Nat.le_of_ble_eq_true rfl)⟩) rfl rfl hl.1 (Nat.le_of_ble_eq_true rfl) dX5_stir_225 ⟨(Nat.le_of_ble_eq_true rfl), (Nat.le_of_ble_eq_true rfl)⟩ (rest := []) (fun H locs hP hS => ?_)
      refine W.eq (g2 := F0 m 228 ls [.int r32.1]) rfl ?_
      refine lv_istore_n F.1 F.2.1 dX5_stir_228 rfl hl (Nat.le_of_ble_eq_true rfl) rfl (fun ls hl => ?_)
      have hl : lv_has ls 4 [(3, .int r32.1), (0, .ref (y)), (2, .int v2)] := hl
      refine lv_goto (tgt := 250) F.1 F.2.1 dX5_stir_229 rfl ?_
      obtain rfl := Option.some.inj hf
      exact m_vret F hr hlk hP hS rfl dX5_stir_250
  intro ls H locs hl hP hS
  have hl : lv_has ls 4 [(0, .ref (y)), (1, .int a1)] := hl
  unfold f_X5_stir at hf
  refine lv_iload_n F.1 F.2.1 dX5_stir_0 rfl (lv_at hl 1 rfl) ?_
  refine lv_bipush (v := (16 : Int32)) F.1 F.2.1 dX5_stir_1 (by decide) ?_
  refine lv_idiv F.1 F.2.1 dX5_stir_3 (by decide) ?_
  refine lv_istore_n F.1 F.2.1 dX5_stir_4 rfl hl (Nat.le_of_ble_eq_true rfl) rfl (fun ls hl => ?_)
  have hl : lv_has ls 4 [(2, .int (a1 / (16 : Int32))), (0, .ref (y)), (1, .int a1)] := hl
  refine lv_iload_n F.1 F.2.1 dX5_stir_5 rfl (lv_at hl 2 rfl) ?_
  refine lv_bipush (v := (16 : Int32)) F.1 F.2.1 dX5_stir_6 (by decide) ?_
  refine lv_irem F.1 F.2.1 dX5_stir_8 (by decide) ?_
  by_cases hc1 : (a1 - (a1 / (16 : Int32)) * (16 : Int32)) = (0 : Int32)
  · have hf := ifp hc1 hf
    refine lv_tableIn (off := 63) (tgt := 72) F.1 F.2.1 dX5_stir_9 (by rw [hc1]; decide) (by rw [hc1]; decide) (by rw [hc1]; rfl) rfl ?_
    refine lv_aload_n F.1 F.2.1 dX5_stir_72 rfl (lv_at hl 1 rfl) ?_
    refine m_getR F hK hP (fun _ h => List.mem_cons_of_mem _ (List.mem_append_right _ h)) 2 (Nat.le_of_ble_eq_true rfl) (List.mem_of_getElem? (i := 1) rfl) rfl (v := .ref (y + 2)) (fun _ => rfl) dX5_stir_73 ?_
    refine lv_sipush (v := (196 : Int32)) F.1 F.2.1 dX5_stir_76 (by decide) ?_
    refine m_iald F hK hP (o := 2) (by decide) rfl (fun _ => rfl) rfl (by decide) dX5_stir_79 ?_
    refine lv_iconst (v := (4 : Int32)) F.1 F.2.1 dX5_stir_80 (by decide) ?_
    refine lv_icmp_ge (tgt := 98) F.1 F.2.1 dX5_stir_81 rfl (fun hc2 => ?_) (fun hc2 => ?_)
    · have hf := ifp hc2 hf
      refine lv_iconst (v := (0 : Int32)) F.1 F.2.1 dX5_stir_98 (by decide) ?_
      refine lv_istore_n F.1 F.2.1 dX5_stir_99 rfl hl (Nat.le_of_ble_eq_true rfl) rfl (fun ls hl => ?_)
      have hl : lv_has ls 4 [(3, .int (0 : Int32)), (2, .int (a1 / (16 : Int32))), (0, .ref (y)), (1, .int a1)] := hl
      refine lv_goto (tgt := 250) F.1 F.2.1 dX5_stir_100 rfl ?_
      obtain rfl := Option.some.inj hf
      exact m_vret F hr hlk hP hS rfl dX5_stir_250
    · have hf := ifn hc2 hf
      refine lv_aload_n F.1 F.2.1 dX5_stir_84 rfl (lv_at hl 1 rfl) ?_
      refine m_getR F hK hP (fun _ h => List.mem_cons_of_mem _ (List.mem_append_right _ h)) 2 (Nat.le_of_ble_eq_true rfl) (List.mem_of_getElem? (i := 1) rfl) rfl (v := .ref (y + 2)) (fun _ => rfl) dX5_stir_85 ?_
      obtain ⟨r3, hr4, hf⟩ := bnd hf
      have hP := m_up 2 hP
      refine m_callS F hK hP hS (c_X5_addSite (by decide) (by decide) hr4) (va_cwS 1 F.2.2.2.2 gX5_stir_X5_addSite rfl rfl rfl hd_X5_addSite ⟨(Nat.le_of_ble_eq_true rfl), (Nat.le_of_ble_eq_true rfl)⟩) rfl rfl hl.1 (Nat.le_of_ble_eq_true rfl) dX5_stir_88 ⟨(Nat.le_of_ble_eq_true rfl), (Nat.le_of_ble_eq_true rfl)⟩ (rest := []) (fun H locs hP hS => ?_)
      refine W.eq (g2 := F0 m 91 ls [.int r3.1]) rfl ?_
      refine lv_if_lt (tgt := 98) F.1 F.2.1 dX5_stir_91 rfl (fun hc5 => ?_) (fun hc5 => ?_)
      · have hf := ifp hc5 hf
        refine lv_iconst (v := (0 : Int32)) F.1 F.2.1 dX5_stir_98 (by decide) ?_
        refine lv_istore_n F.1 F.2.1 dX5_stir_99 rfl hl (Nat.le_of_ble_eq_true rfl) rfl (fun ls hl => ?_)
        have hl : lv_has ls 4 [(3, .int (0 : Int32)), (2, .int (a1 / (16 : Int32))), (0, .ref (y)), (1, .int a1)] := hl
        refine lv_goto (tgt := 250) F.1 F.2.1 dX5_stir_100 rfl ?_
        obtain rfl := Option.some.inj hf
        exact m_vret F hr hlk hP hS rfl dX5_stir_250
      · have hf := ifn hc5 hf
        refine lv_iconst (v := (1 : Int32)) F.1 F.2.1 dX5_stir_94 (by decide) ?_
        refine lv_goto (tgt := 99) F.1 F.2.1 dX5_stir_95 rfl ?_
        refine lv_istore_n F.1 F.2.1 dX5_stir_99 rfl hl (Nat.le_of_ble_eq_true rfl) rfl (fun ls hl => ?_)
        have hl : lv_has ls 4 [(3, .int (1 : Int32)), (2, .int (a1 / (16 : Int32))), (0, .ref (y)), (1, .int a1)] := hl
        refine lv_goto (tgt := 250) F.1 F.2.1 dX5_stir_100 rfl ?_
        obtain rfl := Option.some.inj hf
        exact m_vret F hr hlk hP hS rfl dX5_stir_250
  have hf := ifn hc1 hf
  by_cases hc6 : (a1 - (a1 / (16 : Int32)) * (16 : Int32)) = (1 : Int32)
  · have hf := ifp hc6 hf
    refine lv_tableIn (off := 94) (tgt := 103) F.1 F.2.1 dX5_stir_9 (by rw [hc6]; decide) (by rw [hc6]; decide) (by rw [hc6]; rfl) rfl ?_
    refine lv_aload_n F.1 F.2.1 dX5_stir_103 rfl (lv_at hl 1 rfl) ?_
    refine lv_iload_n F.1 F.2.1 dX5_stir_104 rfl (lv_at hl 0 rfl) ?_
    refine lv_iconst (v := (4 : Int32)) F.1 F.2.1 dX5_stir_105 (by decide) ?_
    refine lv_irem F.1 F.2.1 dX5_stir_106 (by decide) ?_
    refine lv_iconst (v := (1 : Int32)) F.1 F.2.1 dX5_stir_107 (by decide) ?_
    refine lv_iload_n F.1 F.2.1 dX5_stir_108 rfl (lv_at hl 0 rfl) ?_
    refine lv_iconst (v := (4 : Int32)) F.1 F.2.1 dX5_stir_109 (by decide) ?_
    refine lv_idiv F.1 F.2.1 dX5_stir_110 (by decide) ?_
    refine lv_bipush (v := (30 : Int32)) F.1 F.2.1 dX5_stir_111 (by decide) ?_
    refine lv_irem F.1 F.2.1 dX5_stir_113 (by decide) ?_
    refine lv_iadd F.1 F.2.1 dX5_stir_114 ?_
    obtain ⟨r7, hr8, hf⟩ := bnd hf
    refine m_callV F hK hP hS (c_X5_runTube ((a1 / (16 : Int32)) - ((a1 / (16 : Int32)) / (4 : Int32)) * (4 : Int32)) ((1 : Int32) + (((a1 / (16 : Int32)) / (4 : Int32)) - (((a1 / (16 : Int32)) / (4 : Int32)) / (30 : Int32)) * (30 : Int32))) hr8) (cwV 2 F.2.2.2.2 gX5_stir_X5_runTube rfl rfl rfl ⟨rfl, hd_X5_runTube⟩ ⟨(Nat.le_of_ble_eq_true rfl), (Nat.le_of_ble_eq_true rfl)⟩) rfl rfl hl.1 (Nat.le_of_ble_eq_true rfl) dX5_stir_115 ⟨(Nat.le_of_ble_eq_true rfl), (Nat.le_of_ble_eq_true rfl)⟩ (rest := []) (fun H locs hP hS => ?_)
    refine W.eq (g2 := F0 m 118 ls [.int r7.1]) rfl ?_
    refine lv_istore_n F.1 F.2.1 dX5_stir_118 rfl hl (Nat.le_of_ble_eq_true rfl) rfl (fun ls hl => ?_)
    have hl : lv_has ls 4 [(3, .int r7.1), (2, .int (a1 / (16 : Int32))), (0, .ref (y)), (1, .int a1)] := hl
    refine lv_goto (tgt := 250) F.1 F.2.1 dX5_stir_119 rfl ?_
    obtain rfl := Option.some.inj hf
    exact m_vret F hr hlk hP hS rfl dX5_stir_250
  have hf := ifn hc6 hf
  by_cases hc9 : (a1 - (a1 / (16 : Int32)) * (16 : Int32)) = (2 : Int32)
  · have hf := ifp hc9 hf
    refine lv_tableIn (off := 113) (tgt := 122) F.1 F.2.1 dX5_stir_9 (by rw [hc9]; decide) (by rw [hc9]; decide) (by rw [hc9]; rfl) rfl ?_
    refine lv_aload_n F.1 F.2.1 dX5_stir_122 rfl (lv_at hl 1 rfl) ?_
    refine lv_iload_n F.1 F.2.1 dX5_stir_123 rfl (lv_at hl 0 rfl) ?_
    refine lv_iconst (v := (4 : Int32)) F.1 F.2.1 dX5_stir_124 (by decide) ?_
    refine lv_irem F.1 F.2.1 dX5_stir_125 (by decide) ?_
    refine lv_iload_n F.1 F.2.1 dX5_stir_126 rfl (lv_at hl 0 rfl) ?_
    refine lv_iconst (v := (4 : Int32)) F.1 F.2.1 dX5_stir_127 (by decide) ?_
    refine lv_idiv F.1 F.2.1 dX5_stir_128 (by decide) ?_
    refine lv_bipush (v := (30 : Int32)) F.1 F.2.1 dX5_stir_129 (by decide) ?_
    refine lv_irem F.1 F.2.1 dX5_stir_131 (by decide) ?_
    obtain ⟨r10, hr11, hf⟩ := bnd hf
    refine m_callV F hK hP hS (c_X5_runPipe ((a1 / (16 : Int32)) - ((a1 / (16 : Int32)) / (4 : Int32)) * (4 : Int32)) (((a1 / (16 : Int32)) / (4 : Int32)) - (((a1 / (16 : Int32)) / (4 : Int32)) / (30 : Int32)) * (30 : Int32)) hr11) (cwV 2 F.2.2.2.2 gX5_stir_X5_runPipe rfl rfl rfl ⟨rfl, hd_X5_runPipe⟩ ⟨(Nat.le_of_ble_eq_true rfl), (Nat.le_of_ble_eq_true rfl)⟩) rfl rfl hl.1 (Nat.le_of_ble_eq_true rfl) dX5_stir_132 ⟨(Nat.le_of_ble_eq_true rfl), (Nat.le_of_ble_eq_true rfl)⟩ (rest := []) (fun H locs hP hS => ?_)
    refine W.eq (g2 := F0 m 135 ls [.int r10.1]) rfl ?_
    refine lv_istore_n F.1 F.2.1 dX5_stir_135 rfl hl (Nat.le_of_ble_eq_true rfl) rfl (fun ls hl => ?_)
    have hl : lv_has ls 4 [(3, .int r10.1), (2, .int (a1 / (16 : Int32))), (0, .ref (y)), (1, .int a1)] := hl
    refine lv_goto (tgt := 250) F.1 F.2.1 dX5_stir_136 rfl ?_
    obtain rfl := Option.some.inj hf
    exact m_vret F hr hlk hP hS rfl dX5_stir_250
  have hf := ifn hc9 hf
  by_cases hc12 : (a1 - (a1 / (16 : Int32)) * (16 : Int32)) = (3 : Int32)
  · have hf := ifp hc12 hf
    refine lv_tableIn (off := 130) (tgt := 139) F.1 F.2.1 dX5_stir_9 (by rw [hc12]; decide) (by rw [hc12]; decide) (by rw [hc12]; rfl) rfl ?_
    refine lv_aload_n F.1 F.2.1 dX5_stir_139 rfl (lv_at hl 1 rfl) ?_
    refine lv_iload_n F.1 F.2.1 dX5_stir_140 rfl (lv_at hl 0 rfl) ?_
    refine lv_iconst (v := (4 : Int32)) F.1 F.2.1 dX5_stir_141 (by decide) ?_
    refine lv_irem F.1 F.2.1 dX5_stir_142 (by decide) ?_
    refine lv_iload_n F.1 F.2.1 dX5_stir_143 rfl (lv_at hl 0 rfl) ?_
    refine lv_iconst (v := (4 : Int32)) F.1 F.2.1 dX5_stir_144 (by decide) ?_
    refine lv_idiv F.1 F.2.1 dX5_stir_145 (by decide) ?_
    refine lv_bipush (v := (21 : Int32)) F.1 F.2.1 dX5_stir_146 (by decide) ?_
    refine lv_irem F.1 F.2.1 dX5_stir_148 (by decide) ?_
    obtain ⟨r13, hr14, hf⟩ := bnd hf
    refine m_callV F hK hP hS (c_X5_runFence ((a1 / (16 : Int32)) - ((a1 / (16 : Int32)) / (4 : Int32)) * (4 : Int32)) (((a1 / (16 : Int32)) / (4 : Int32)) - (((a1 / (16 : Int32)) / (4 : Int32)) / (21 : Int32)) * (21 : Int32)) hr14) (cwV 2 F.2.2.2.2 gX5_stir_X5_runFence rfl rfl rfl ⟨rfl, hd_X5_runFence⟩ ⟨(Nat.le_of_ble_eq_true rfl), (Nat.le_of_ble_eq_true rfl)⟩) rfl rfl hl.1 (Nat.le_of_ble_eq_true rfl) dX5_stir_149 ⟨(Nat.le_of_ble_eq_true rfl), (Nat.le_of_ble_eq_true rfl)⟩ (rest := []) (fun H locs hP hS => ?_)
    refine W.eq (g2 := F0 m 152 ls [.int r13.1]) rfl ?_
    refine lv_istore_n F.1 F.2.1 dX5_stir_152 rfl hl (Nat.le_of_ble_eq_true rfl) rfl (fun ls hl => ?_)
    have hl : lv_has ls 4 [(3, .int r13.1), (2, .int (a1 / (16 : Int32))), (0, .ref (y)), (1, .int a1)] := hl
    refine lv_goto (tgt := 250) F.1 F.2.1 dX5_stir_153 rfl ?_
    obtain rfl := Option.some.inj hf
    exact m_vret F hr hlk hP hS rfl dX5_stir_250
  have hf := ifn hc12 hf
  by_cases hc15 : (a1 - (a1 / (16 : Int32)) * (16 : Int32)) = (4 : Int32)
  · have hf := ifp hc15 hf
    refine lv_tableIn (off := 147) (tgt := 156) F.1 F.2.1 dX5_stir_9 (by rw [hc15]; decide) (by rw [hc15]; decide) (by rw [hc15]; rfl) rfl ?_
    refine lv_aload_n F.1 F.2.1 dX5_stir_156 rfl (lv_at hl 1 rfl) ?_
    refine lv_iload_n F.1 F.2.1 dX5_stir_157 rfl (lv_at hl 0 rfl) ?_
    refine lv_iconst (v := (4 : Int32)) F.1 F.2.1 dX5_stir_158 (by decide) ?_
    refine lv_irem F.1 F.2.1 dX5_stir_159 (by decide) ?_
    obtain ⟨r16, hr17, hf⟩ := bnd hf
    refine m_callV F hK hP hS (c_X5_runShovel ((a1 / (16 : Int32)) - ((a1 / (16 : Int32)) / (4 : Int32)) * (4 : Int32)) hr17) (cwV 1 F.2.2.2.2 gX5_stir_X5_runShovel rfl rfl rfl ⟨rfl, hd_X5_runShovel⟩ ⟨(Nat.le_of_ble_eq_true rfl), (Nat.le_of_ble_eq_true rfl)⟩) rfl rfl hl.1 (Nat.le_of_ble_eq_true rfl) dX5_stir_160 ⟨(Nat.le_of_ble_eq_true rfl), (Nat.le_of_ble_eq_true rfl)⟩ (rest := []) (fun H locs hP hS => ?_)
    refine W.eq (g2 := F0 m 163 ls [.int r16.1]) rfl ?_
    refine lv_istore_n F.1 F.2.1 dX5_stir_163 rfl hl (Nat.le_of_ble_eq_true rfl) rfl (fun ls hl => ?_)
    have hl : lv_has ls 4 [(3, .int r16.1), (2, .int (a1 / (16 : Int32))), (0, .ref (y)), (1, .int a1)] := hl
    refine lv_goto (tgt := 250) F.1 F.2.1 dX5_stir_164 rfl ?_
    obtain rfl := Option.some.inj hf
    exact m_vret F hr hlk hP hS rfl dX5_stir_250
  have hf := ifn hc15 hf
  by_cases hc18 : (a1 - (a1 / (16 : Int32)) * (16 : Int32)) = (5 : Int32)
  · have hf := ifp hc18 hf
    refine lv_tableIn (off := 158) (tgt := 167) F.1 F.2.1 dX5_stir_9 (by rw [hc18]; decide) (by rw [hc18]; decide) (by rw [hc18]; rfl) rfl ?_
    refine lv_aload_n F.1 F.2.1 dX5_stir_167 rfl (lv_at hl 1 rfl) ?_
    refine lv_iload_n F.1 F.2.1 dX5_stir_168 rfl (lv_at hl 0 rfl) ?_
    refine lv_iconst (v := (3 : Int32)) F.1 F.2.1 dX5_stir_169 (by decide) ?_
    refine lv_irem F.1 F.2.1 dX5_stir_170 (by decide) ?_
    refine lv_iload_n F.1 F.2.1 dX5_stir_171 rfl (lv_at hl 0 rfl) ?_
    refine lv_iconst (v := (4 : Int32)) F.1 F.2.1 dX5_stir_172 (by decide) ?_
    refine lv_idiv F.1 F.2.1 dX5_stir_173 (by decide) ?_
    refine lv_bipush (v := (31 : Int32)) F.1 F.2.1 dX5_stir_174 (by decide) ?_
    refine lv_irem F.1 F.2.1 dX5_stir_176 (by decide) ?_
    obtain ⟨r19, hr20, hf⟩ := bnd hf
    refine m_callV F hK hP hS (c_X5_runSet ((a1 / (16 : Int32)) - ((a1 / (16 : Int32)) / (3 : Int32)) * (3 : Int32)) (((a1 / (16 : Int32)) / (4 : Int32)) - (((a1 / (16 : Int32)) / (4 : Int32)) / (31 : Int32)) * (31 : Int32)) hr20) (cwV 2 F.2.2.2.2 gX5_stir_X5_runSet rfl rfl rfl ⟨rfl, hd_X5_runSet⟩ ⟨(Nat.le_of_ble_eq_true rfl), (Nat.le_of_ble_eq_true rfl)⟩) rfl rfl hl.1 (Nat.le_of_ble_eq_true rfl) dX5_stir_177 ⟨(Nat.le_of_ble_eq_true rfl), (Nat.le_of_ble_eq_true rfl)⟩ (rest := []) (fun H locs hP hS => ?_)
    refine W.eq (g2 := F0 m 180 ls [.int r19.1]) rfl ?_
    refine lv_istore_n F.1 F.2.1 dX5_stir_180 rfl hl (Nat.le_of_ble_eq_true rfl) rfl (fun ls hl => ?_)
    have hl : lv_has ls 4 [(3, .int r19.1), (2, .int (a1 / (16 : Int32))), (0, .ref (y)), (1, .int a1)] := hl
    refine lv_goto (tgt := 250) F.1 F.2.1 dX5_stir_181 rfl ?_
    obtain rfl := Option.some.inj hf
    exact m_vret F hr hlk hP hS rfl dX5_stir_250
  have hf := ifn hc18 hf
  by_cases hc21 : (a1 - (a1 / (16 : Int32)) * (16 : Int32)) = (6 : Int32)
  · have hf := ifp hc21 hf
    refine lv_tableIn (off := 175) (tgt := 184) F.1 F.2.1 dX5_stir_9 (by rw [hc21]; decide) (by rw [hc21]; decide) (by rw [hc21]; rfl) rfl ?_
    refine lv_aload_n F.1 F.2.1 dX5_stir_184 rfl (lv_at hl 1 rfl) ?_
    refine m_getR F hK hP (fun _ h => List.mem_cons_of_mem _ (List.mem_append_right _ h)) 2 (Nat.le_of_ble_eq_true rfl) (List.mem_of_getElem? (i := 1) rfl) rfl (v := .ref (y + 2)) (fun _ => rfl) dX5_stir_185 ?_
    obtain ⟨r22, hr23, hf⟩ := bnd hf
    have hP := m_up 2 hP
    refine m_callS F hK hP hS (c_X5_beginWinter (by decide) (by decide) hr23) (va_cwS 1 F.2.2.2.2 gX5_stir_X5_beginWinter rfl rfl rfl hd_X5_beginWinter ⟨(Nat.le_of_ble_eq_true rfl), (Nat.le_of_ble_eq_true rfl)⟩) rfl rfl hl.1 (Nat.le_of_ble_eq_true rfl) dX5_stir_188 ⟨(Nat.le_of_ble_eq_true rfl), (Nat.le_of_ble_eq_true rfl)⟩ (rest := []) (fun H locs hP hS => ?_)
    refine W.eq (g2 := F0 m 191 ls [.int r22.1]) rfl ?_
    refine lv_if_lt (tgt := 198) F.1 F.2.1 dX5_stir_191 rfl (fun hc24 => ?_) (fun hc24 => ?_)
    · have hf := ifp hc24 hf
      refine lv_iconst (v := (0 : Int32)) F.1 F.2.1 dX5_stir_198 (by decide) ?_
      refine lv_istore_n F.1 F.2.1 dX5_stir_199 rfl hl (Nat.le_of_ble_eq_true rfl) rfl (fun ls hl => ?_)
      have hl : lv_has ls 4 [(3, .int (0 : Int32)), (2, .int (a1 / (16 : Int32))), (0, .ref (y)), (1, .int a1)] := hl
      refine lv_goto (tgt := 250) F.1 F.2.1 dX5_stir_200 rfl ?_
      obtain rfl := Option.some.inj hf
      exact m_vret F hr hlk hP hS rfl dX5_stir_250
    · have hf := ifn hc24 hf
      refine lv_iconst (v := (1 : Int32)) F.1 F.2.1 dX5_stir_194 (by decide) ?_
      refine lv_goto (tgt := 199) F.1 F.2.1 dX5_stir_195 rfl ?_
      refine lv_istore_n F.1 F.2.1 dX5_stir_199 rfl hl (Nat.le_of_ble_eq_true rfl) rfl (fun ls hl => ?_)
      have hl : lv_has ls 4 [(3, .int (1 : Int32)), (2, .int (a1 / (16 : Int32))), (0, .ref (y)), (1, .int a1)] := hl
      refine lv_goto (tgt := 250) F.1 F.2.1 dX5_stir_200 rfl ?_
      obtain rfl := Option.some.inj hf
      exact m_vret F hr hlk hP hS rfl dX5_stir_250
  have hf := ifn hc21 hf
  by_cases hc25 : (a1 - (a1 / (16 : Int32)) * (16 : Int32)) = (7 : Int32)
  · have hf := ifp hc25 hf
    refine lv_tableIn (off := 194) (tgt := 203) F.1 F.2.1 dX5_stir_9 (by rw [hc25]; decide) (by rw [hc25]; decide) (by rw [hc25]; rfl) rfl ?_
    exact (KEY FU) ν (a1 / (16 : Int32)) _ _ _ (lv_sub hl [1, 0] rfl) hP hS hf
  have hf := ifn hc25 hf
  by_cases hc26 : (a1 - (a1 / (16 : Int32)) * (16 : Int32)) = (8 : Int32)
  · have hf := ifp hc26 hf
    refine lv_tableIn (off := 194) (tgt := 203) F.1 F.2.1 dX5_stir_9 (by rw [hc26]; decide) (by rw [hc26]; decide) (by rw [hc26]; rfl) rfl ?_
    exact (KEY FU) ν (a1 / (16 : Int32)) _ _ _ (lv_sub hl [1, 0] rfl) hP hS hf
  have hf := ifn hc26 hf
  by_cases hc27 : (a1 - (a1 / (16 : Int32)) * (16 : Int32)) = (9 : Int32)
  · have hf := ifp hc27 hf
    refine lv_tableIn (off := 194) (tgt := 203) F.1 F.2.1 dX5_stir_9 (by rw [hc27]; decide) (by rw [hc27]; decide) (by rw [hc27]; rfl) rfl ?_
    exact (KEY FU) ν (a1 / (16 : Int32)) _ _ _ (lv_sub hl [1, 0] rfl) hP hS hf
  have hf := ifn hc27 hf
  by_cases hc28 : (a1 - (a1 / (16 : Int32)) * (16 : Int32)) = (10 : Int32)
  · have hf := ifp hc28 hf
    refine lv_tableIn (off := 194) (tgt := 203) F.1 F.2.1 dX5_stir_9 (by rw [hc28]; decide) (by rw [hc28]; decide) (by rw [hc28]; rfl) rfl ?_
    exact (KEY FU) ν (a1 / (16 : Int32)) _ _ _ (lv_sub hl [1, 0] rfl) hP hS hf
  have hf := ifn hc28 hf
  by_cases hc29 : (a1 - (a1 / (16 : Int32)) * (16 : Int32)) = (11 : Int32)
  · have hf := ifp hc29 hf
    refine lv_tableIn (off := 194) (tgt := 203) F.1 F.2.1 dX5_stir_9 (by rw [hc29]; decide) (by rw [hc29]; decide) (by rw [hc29]; rfl) rfl ?_
    exact (KEY FU) ν (a1 / (16 : Int32)) _ _ _ (lv_sub hl [1, 0] rfl) hP hS hf
  have hf := ifn hc29 hf
  have hc1i := i32_ne hc1
  have hc6i := i32_ne hc6
  have hc9i := i32_ne hc9
  have hc12i := i32_ne hc12
  have hc15i := i32_ne hc15
  have hc18i := i32_ne hc18
  have hc21i := i32_ne hc21
  have hc25i := i32_ne hc25
  have hc26i := i32_ne hc26
  have hc27i := i32_ne hc27
  have hc28i := i32_ne hc28
  have hc29i := i32_ne hc29
  refine lv_tableOut (tgt := 232) F.1 F.2.1 dX5_stir_9 (by have : ((0 : Int32)).toInt = 0 := rfl; have : ((1 : Int32)).toInt = 1 := rfl; have : ((2 : Int32)).toInt = 2 := rfl; have : ((3 : Int32)).toInt = 3 := rfl; have : ((4 : Int32)).toInt = 4 := rfl; have : ((5 : Int32)).toInt = 5 := rfl; have : ((6 : Int32)).toInt = 6 := rfl; have : ((7 : Int32)).toInt = 7 := rfl; have : ((8 : Int32)).toInt = 8 := rfl; have : ((9 : Int32)).toInt = 9 := rfl; have : ((10 : Int32)).toInt = 10 := rfl; have : ((11 : Int32)).toInt = 11 := rfl; omega) rfl ?_
  refine lv_aload_n F.1 F.2.1 dX5_stir_232 rfl (lv_at hl 1 rfl) ?_
  refine lv_iload_n F.1 F.2.1 dX5_stir_233 rfl (lv_at hl 0 rfl) ?_
  refine lv_bipush (v := (16 : Int32)) F.1 F.2.1 dX5_stir_234 (by decide) ?_
  refine lv_irem F.1 F.2.1 dX5_stir_236 (by decide) ?_
  refine lv_iconst (v := (0 : Int32)) F.1 F.2.1 dX5_stir_237 (by decide) ?_
  refine lv_iconst (v := (1 : Int32)) F.1 F.2.1 dX5_stir_238 (by decide) ?_
  refine lv_iload_n F.1 F.2.1 dX5_stir_239 rfl (lv_at hl 0 rfl) ?_
  refine lv_bipush (v := (16 : Int32)) F.1 F.2.1 dX5_stir_240 (by decide) ?_
  refine lv_idiv F.1 F.2.1 dX5_stir_242 (by decide) ?_
  refine lv_iconst (v := (4 : Int32)) F.1 F.2.1 dX5_stir_243 (by decide) ?_
  refine lv_irem F.1 F.2.1 dX5_stir_244 (by decide) ?_
  refine lv_iadd F.1 F.2.1 dX5_stir_245 ?_
  obtain ⟨r30, hr31, hf⟩ := bnd hf
  refine m_callV F hK hP hS (c_X5_runDays ((a1 / (16 : Int32)) - ((a1 / (16 : Int32)) / (16 : Int32)) * (16 : Int32)) (0 : Int32) ((1 : Int32) + (((a1 / (16 : Int32)) / (16 : Int32)) - (((a1 / (16 : Int32)) / (16 : Int32)) / (4 : Int32)) * (4 : Int32))) hr31) (cwV 3 F.2.2.2.2 gX5_stir_X5_runDays rfl rfl rfl ⟨rfl, hd_X5_runDays⟩ ⟨(Nat.le_of_ble_eq_true rfl), (Nat.le_of_ble_eq_true rfl)⟩) rfl rfl hl.1 (Nat.le_of_ble_eq_true rfl) dX5_stir_246 ⟨(Nat.le_of_ble_eq_true rfl), (Nat.le_of_ble_eq_true rfl)⟩ (rest := []) (fun H locs hP hS => ?_)
  refine W.eq (g2 := F0 m 249 ls [.int r30.1]) rfl ?_
  refine lv_istore_n F.1 F.2.1 dX5_stir_249 rfl hl (Nat.le_of_ble_eq_true rfl) rfl (fun ls hl => ?_)
  have hl : lv_has ls 4 [(3, .int r30.1), (2, .int (a1 / (16 : Int32))), (0, .ref (y)), (1, .int a1)] := hl
  obtain rfl := Option.some.inj hf
  exact m_vret F hr hlk hP hS rfl dX5_stir_250

-- FrostTubesModel.simulate(JI)I
def fb_X5_simulate_1 (a1 : Int64) (a3 : Int32) (K : Nat → Mem → Int32 → Int64 → Int32 → Option (Int32 × Mem)) (ν : Mem) (t0 : Int32) (v4 : Int64) (v6 : Int32) : Option (Int32 × Mem) := ((f_X5_refused ν t0).bind fun r4 => (if r4.1 = 0 then ((f_X5_copy (r4.2 2) (r4.2 1)).bind fun r7 => (K 2 (va_up r4.2 2 r7) 0 a1 (0 : Int32))) else some ((0 : Int32), r4.2)))
def fb_X5_simulate_2 (a1 : Int64) (a3 : Int32) (K : Nat → Mem → Int32 → Int64 → Int32 → Option (Int32 × Mem)) (ν : Mem) (t0 : Int32) (v4 : Int64) (v6 : Int32) : Option (Int32 × Mem) := (if a3 ≤ v6 then ((f_X5_allLayers (ν 2)).bind fun r10 => ((f_X5_allCells (ν 2)).bind fun r12 => some (((((10000 : Int32) * r10) + ((10 : Int32) * r12)) + ((ν 2) (196 : Int32).toNatClampNeg)), ν))) else ((f_X5_stir ν (((((v4 * (6364136223846793005 : Int64)) + (1442695040888963407 : Int64)).toUInt64 >>> ((33 : Int32).toInt64.toUInt64 &&& Int64.toUInt64 63)).toInt64).toInt32)).bind fun r14 => (K 2 r14 0 ((v4 * (6364136223846793005 : Int64)) + (1442695040888963407 : Int64)) (v6 + (1 : Int32)))))
def fl_X5_simulate (a1 : Int64) (a3 : Int32) : Nat → Nat → Mem → Int32 → Int64 → Int32 → Option (Int32 × Mem)
  | 0, _, _, _, _, _ => none
  | n + 1, lab, ν, t0, v4, v6 => match lab with
    | 1 => fb_X5_simulate_1 a1 a3 (fl_X5_simulate a1 a3 n) ν t0 v4 v6
    | _ => fb_X5_simulate_2 a1 a3 (fl_X5_simulate a1 a3 n) ν t0 v4 v6
def f_X5_simulate (ν : Mem) (a1 : Int64) (a3 : Int32) : Option (Int32 × Mem) := ((f_X5_in a3.toInt64 (1 : Int64) (60 : Int64)).bind fun r1 => (if r1 = 0 then (fl_X5_simulate a1 a3 FU 1 ν (1 : Int32) 0 0) else (fl_X5_simulate a1 a3 FU 1 ν (0 : Int32) 0 0)))
def rmX5_simulate : Room := { frames := 8, cells := 0, slots := 0, locals := 185 }
theorem hd_X5_simulate : yX5_simulate.cls ≠ "java/lang/invoke/MethodHandle" ∧ yX5_simulate.cls ≠ "java/lang/invoke/VarHandle" ∧ (parseMethodDescriptor yX5_simulate.desc).map (fun d => d.parameters.length) = some 2 := by decide +kernel
set_option maxHeartbeats 8000000 in
set_option maxRecDepth 100000 in
theorem c_X5_simulate {l : Launch} {D : va_G} {y : Nat} {ν : Mem} (a1 : Int64) (a3 : Int32) {r : Int32 × Mem} (hf : f_X5_simulate ν a1 a3 = some r) : CM l yX5_simulate wsX5_simulate rmX5_simulate [.ref (y), .long a1, .int a3] D y ν (some (.int r.1)) r.2 := by
  refine CM.of (cc := cX5_simulate) (maxL := 7) (ret := (some .int)) pn_X5 rfl (Nat.le_of_ble_eq_true rfl) ?_
  intro p e s m args below meth c F hr hlk hK
  have KEY : ∀ n : Nat, (∀ (ν : Mem) (t0 : Int32) (ls : Array Slot) (H : Heap) (locs : List Loc), lv_has ls 7 [(0, .ref (y)), (1, .long a1), (3, .int a3)] → va_P D vwCl (WM D y ν) H → va_S (rngM y) s.heap H locs → fl_X5_simulate a1 a3 n 1 ν t0 0 0 = some r → W p l e rmX5_simulate s m args below meth c H locs 0 0 (MQ below (QM D y r.2 (some (.int r.1))) args s 0 0 (rngM y)) (F0 m 18 ls [.int t0, .ref (y)])) ∧ (∀ (ν : Mem) (v4 : Int64) (v6 : Int32) (ls : Array Slot) (H : Heap) (locs : List Loc), lv_has ls 7 [(0, .ref (y)), (3, .int a3), (4, .long v4), (6, .int v6)] → va_P D vwCl (WM D y ν) H → va_S (rngM y) s.heap H locs → fl_X5_simulate a1 a3 n 2 ν 0 v4 v6 = some r → W p l e rmX5_simulate s m args below meth c H locs 0 0 (MQ below (QM D y r.2 (some (.int r.1))) args s 0 0 (rngM y)) (F0 m 43 ls [])) := by
    intro n
    induction n with
    | zero => exact ⟨(fun _ _ _ _ _ _ _ _ h => nomatch h), (fun _ _ _ _ _ _ _ _ _ h => nomatch h)⟩
    | succ n ih =>
      refine ⟨?_, ?_⟩
      · intro ν t0  ls H locs hl hP hS hf
        have hf : fb_X5_simulate_1 a1 a3 (fl_X5_simulate a1 a3 n) ν t0 0 0 = some r := hf
        unfold fb_X5_simulate_1 at hf
        obtain ⟨r4, hr5, hf⟩ := bnd hf
        refine m_callV F hK hP hS (c_X5_refused t0 hr5) (cwV 1 F.2.2.2.2 gX5_simulate_X5_refused rfl rfl rfl ⟨rfl, hd_X5_refused⟩ ⟨(Nat.le_of_ble_eq_true rfl), (Nat.le_of_ble_eq_true rfl)⟩) rfl rfl hl.1 (Nat.le_of_ble_eq_true rfl) dX5_simulate_18 ⟨(Nat.le_of_ble_eq_true rfl), (Nat.le_of_ble_eq_true rfl)⟩ (rest := []) (fun H locs hP hS => ?_)
        refine W.eq (g2 := F0 m 21 ls [.int r4.1]) rfl ?_
        refine lv_if_eq (tgt := 26) F.1 F.2.1 dX5_simulate_21 rfl (fun hc6 => ?_) (fun hc6 => ?_)
        · have hf := ifp hc6 hf
          refine lv_aload_n F.1 F.2.1 dX5_simulate_26 rfl (lv_at hl 0 rfl) ?_
          refine m_getR F hK hP (fun _ h => List.mem_cons_of_mem _ (List.mem_append_right _ h)) 1 (Nat.le_of_ble_eq_true rfl) (List.mem_of_getElem? (i := 2) rfl) rfl (v := .ref (y + 1)) (fun _ => rfl) dX5_simulate_27 ?_
          refine lv_aload_n F.1 F.2.1 dX5_simulate_30 rfl (lv_at hl 0 rfl) ?_
          refine m_getR F hK hP (fun _ h => List.mem_cons_of_mem _ (List.mem_append_right _ h)) 2 (Nat.le_of_ble_eq_true rfl) (List.mem_of_getElem? (i := 3) rfl) rfl (v := .ref (y + 2)) (fun _ => rfl) dX5_simulate_31 ?_
          obtain ⟨r7, hr8, hf⟩ := bnd hf
          have hP := m_up 2 hP
          refine m_callS F hK hP hS (c_X5_copy (by decide) (by decide) (by decide) (by decide) (by decide) rfl hr8) (va_cwS 2 F.2.2.2.2 gX5_simulate_X5_copy rfl rfl rfl hd_X5_copy ⟨(Nat.le_of_ble_eq_true rfl), (Nat.le_of_ble_eq_true rfl)⟩) rfl rfl hl.1 (Nat.le_of_ble_eq_true rfl) dX5_simulate_34 ⟨(Nat.le_of_ble_eq_true rfl), (Nat.le_of_ble_eq_true rfl)⟩ (rest := []) (fun H locs hP hS => ?_)
          refine W.eq (g2 := F0 m 37 ls []) rfl ?_
          refine lv_lload_n F.1 F.2.1 dX5_simulate_37 rfl (lv_at hl 1 rfl) ?_
          refine lv_lstore F.1 F.2.1 dX5_simulate_38 hl (Nat.le_of_ble_eq_true rfl) rfl (fun ls hl => ?_)
          have hl : lv_has ls 7 [(4, .long a1), (0, .ref (y)), (1, .long a1), (3, .int a3)] := hl
          refine lv_iconst (v := (0 : Int32)) F.1 F.2.1 dX5_simulate_40 (by decide) ?_
          refine lv_istore F.1 F.2.1 dX5_simulate_41 hl (Nat.le_of_ble_eq_true rfl) rfl (fun ls hl => ?_)
          have hl : lv_has ls 7 [(6, .int (0 : Int32)), (4, .long a1), (0, .ref (y)), (1, .long a1), (3, .int a3)] := hl
          exact ih.2 (va_up r4.2 2 r7) a1 (0 : Int32) _ _ _ (lv_sub hl [2, 4, 1, 0] rfl) hP hS hf
        · have hf := ifn hc6 hf
          refine lv_iconst (v := (0 : Int32)) F.1 F.2.1 dX5_simulate_24 (by decide) ?_
          obtain rfl := Option.some.inj hf
          exact m_iret F hr hlk hP hS rfl dX5_simulate_25
      · intro ν v4 v6  ls H locs hl hP hS hf
        have hf : fb_X5_simulate_2 a1 a3 (fl_X5_simulate a1 a3 n) ν 0 v4 v6 = some r := hf
        unfold fb_X5_simulate_2 at hf
        refine lv_iload F.1 F.2.1 dX5_simulate_43 (lv_at hl 3 rfl) ?_
        refine lv_iload_n F.1 F.2.1 dX5_simulate_45 rfl (lv_at hl 1 rfl) ?_
        refine lv_icmp_ge (tgt := 77) F.1 F.2.1 dX5_simulate_46 rfl (fun hc9 => ?_) (fun hc9 => ?_)
        · have hf := ifp hc9 hf
          refine lv_sipush (v := (10000 : Int32)) F.1 F.2.1 dX5_simulate_77 (by decide) ?_
          refine lv_aload_n F.1 F.2.1 dX5_simulate_80 rfl (lv_at hl 0 rfl) ?_
          refine m_getR F hK hP (fun _ h => List.mem_cons_of_mem _ (List.mem_append_right _ h)) 2 (Nat.le_of_ble_eq_true rfl) (List.mem_of_getElem? (i := 3) rfl) rfl (v := .ref (y + 2)) (fun _ => rfl) dX5_simulate_81 ?_
          obtain ⟨r10, hr11, hf⟩ := bnd hf
          refine m_callS F hK hP hS (c_X5_allLayers (by decide) (by decide) rfl hr11) (va_cwS 1 F.2.2.2.2 gX5_simulate_X5_allLayers rfl rfl rfl hd_X5_allLayers ⟨(Nat.le_of_ble_eq_true rfl), (Nat.le_of_ble_eq_true rfl)⟩) rfl rfl hl.1 (Nat.le_of_ble_eq_true rfl) dX5_simulate_84 ⟨(Nat.le_of_ble_eq_true rfl), (Nat.le_of_ble_eq_true rfl)⟩ (rest := [.int (10000 : Int32)]) (fun H locs hP hS => ?_)
          refine W.eq (g2 := F0 m 87 ls [.int r10, .int (10000 : Int32)]) rfl ?_
          refine lv_imul F.1 F.2.1 dX5_simulate_87 ?_
          refine lv_bipush (v := (10 : Int32)) F.1 F.2.1 dX5_simulate_88 (by decide) ?_
          refine lv_aload_n F.1 F.2.1 dX5_simulate_90 rfl (lv_at hl 0 rfl) ?_
          refine m_getR F hK hP (fun _ h => List.mem_cons_of_mem _ (List.mem_append_right _ h)) 2 (Nat.le_of_ble_eq_true rfl) (List.mem_of_getElem? (i := 3) rfl) rfl (v := .ref (y + 2)) (fun _ => rfl) dX5_simulate_91 ?_
          obtain ⟨r12, hr13, hf⟩ := bnd hf
          refine m_callS F hK hP hS (c_X5_allCells (by decide) (by decide) rfl hr13) (va_cwS 1 F.2.2.2.2 gX5_simulate_X5_allCells rfl rfl rfl hd_X5_allCells ⟨(Nat.le_of_ble_eq_true rfl), (Nat.le_of_ble_eq_true rfl)⟩) rfl rfl hl.1 (Nat.le_of_ble_eq_true rfl) dX5_simulate_94 ⟨(Nat.le_of_ble_eq_true rfl), (Nat.le_of_ble_eq_true rfl)⟩ (rest := [.int (10 : Int32), .int ((10000 : Int32) * r10)]) (fun H locs hP hS => ?_)
          refine W.eq (g2 := F0 m 97 ls [.int r12, .int (10 : Int32), .int ((10000 : Int32) * r10)]) rfl ?_
          refine lv_imul F.1 F.2.1 dX5_simulate_97 ?_
          refine lv_iadd F.1 F.2.1 dX5_simulate_98 ?_
          refine lv_aload_n F.1 F.2.1 dX5_simulate_99 rfl (lv_at hl 0 rfl) ?_
          refine m_getR F hK hP (fun _ h => List.mem_cons_of_mem _ (List.mem_append_right _ h)) 2 (Nat.le_of_ble_eq_true rfl) (List.mem_of_getElem? (i := 3) rfl) rfl (v := .ref (y + 2)) (fun _ => rfl) dX5_simulate_100 ?_
          refine lv_sipush (v := (196 : Int32)) F.1 F.2.1 dX5_simulate_103 (by decide) ?_
          refine m_iald F hK hP (o := 2) (by decide) rfl (fun _ => rfl) rfl (by decide) dX5_simulate_106 ?_
          refine lv_iadd F.1 F.2.1 dX5_simulate_107 ?_
          obtain rfl := Option.some.inj hf
          exact m_iret F hr hlk hP hS rfl dX5_simulate_108
        · have hf := ifn hc9 hf
          refine lv_lload F.1 F.2.1 dX5_simulate_49 (lv_at hl 2 rfl) ?_
          refine lv_ldc2 (v := (6364136223846793005 : Int64)) F.1 F.2.1 F.2.2.2.1 (F.2.2.2.2 _ (List.mem_of_getElem? (i := 4) rfl)) dX5_simulate_51 ?_
          refine lv_lmul F.1 F.2.1 dX5_simulate_54 ?_
          refine lv_ldc2 (v := (1442695040888963407 : Int64)) F.1 F.2.1 F.2.2.2.1 (F.2.2.2.2 _ (List.mem_of_getElem? (i := 5) rfl)) dX5_simulate_55 ?_
          refine lv_ladd F.1 F.2.1 dX5_simulate_58 ?_
          refine lv_lstore F.1 F.2.1 dX5_simulate_59 hl (Nat.le_of_ble_eq_true rfl) rfl (fun ls hl => ?_)
          have hl : lv_has ls 7 [(4, .long ((v4 * (6364136223846793005 : Int64)) + (1442695040888963407 : Int64))), (0, .ref (y)), (3, .int a3), (6, .int v6)] := hl
          refine lv_aload_n F.1 F.2.1 dX5_simulate_61 rfl (lv_at hl 1 rfl) ?_
          refine lv_lload F.1 F.2.1 dX5_simulate_62 (lv_at hl 0 rfl) ?_
          refine lv_bipush (v := (33 : Int32)) F.1 F.2.1 dX5_simulate_64 (by decide) ?_
          refine lv_lushr (v := (((v4 * (6364136223846793005 : Int64)) + (1442695040888963407 : Int64)).toUInt64 >>> ((33 : Int32).toInt64.toUInt64 &&& Int64.toUInt64 63)).toInt64) F.1 F.2.1 dX5_simulate_66 rfl ?_
          refine lv_l2i (v := ((((v4 * (6364136223846793005 : Int64)) + (1442695040888963407 : Int64)).toUInt64 >>> ((33 : Int32).toInt64.toUInt64 &&& Int64.toUInt64 63)).toInt64).toInt32) F.1 F.2.1 dX5_simulate_67 rfl ?_
          obtain ⟨r14, hr15, hf⟩ := bnd hf
          refine m_callV F hK hP hS (c_X5_stir (((((v4 * (6364136223846793005 : Int64)) + (1442695040888963407 : Int64)).toUInt64 >>> ((33 : Int32).toInt64.toUInt64 &&& Int64.toUInt64 63)).toInt64).toInt32) hr15) (cwV 1 F.2.2.2.2 gX5_simulate_X5_stir rfl rfl rfl ⟨rfl, hd_X5_stir⟩ ⟨(Nat.le_of_ble_eq_true rfl), (Nat.le_of_ble_eq_true rfl)⟩) rfl rfl hl.1 (Nat.le_of_ble_eq_true rfl) dX5_simulate_68 ⟨(Nat.le_of_ble_eq_true rfl), (Nat.le_of_ble_eq_true rfl)⟩ (rest := []) (fun H locs hP hS => ?_)
          refine W.eq (g2 := F0 m 71 ls []) rfl ?_
          refine lv_iinc (v := (v6 + (1 : Int32))) F.1 F.2.1 dX5_simulate_71 hl (k := 3) rfl rfl (Nat.le_of_ble_eq_true rfl) rfl (fun ls hl => ?_)
          have hl : lv_has ls 7 [(6, .int (v6 + (1 : Int32))), (4, .long ((v4 * (6364136223846793005 : Int64)) + (1442695040888963407 : Int64))), (0, .ref (y)), (3, .int a3)] := hl
          refine lv_goto (tgt := 43) F.1 F.2.1 dX5_simulate_74 rfl ?_
          exact ih.2 r14 ((v4 * (6364136223846793005 : Int64)) + (1442695040888963407 : Int64)) (v6 + (1 : Int32)) _ _ _ (lv_sub hl [2, 3, 1, 0] rfl) hP hS hf
  intro ls H locs hl hP hS
  have hl : lv_has ls 7 [(0, .ref (y)), (1, .long a1), (3, .int a3)] := hl
  unfold f_X5_simulate at hf
  refine lv_aload_n F.1 F.2.1 dX5_simulate_0 rfl (lv_at hl 0 rfl) ?_
  refine lv_iload_n F.1 F.2.1 dX5_simulate_1 rfl (lv_at hl 2 rfl) ?_
  refine lv_i2l (v := a3.toInt64) F.1 F.2.1 dX5_simulate_2 rfl ?_
  refine lv_lconst (v := (1 : Int64)) F.1 F.2.1 dX5_simulate_3 rfl ?_
  refine lv_ldc2 (v := (60 : Int64)) F.1 F.2.1 F.2.2.2.1 (F.2.2.2.2 _ (List.mem_of_getElem? (i := 1) rfl)) dX5_simulate_4 ?_
  obtain ⟨r1, hr2, hf⟩ := bnd hf
  refine m_callS F hK hP hS (c_X5_in a3.toInt64 (1 : Int64) (60 : Int64) hr2) (va_cwS 3 F.2.2.2.2 gX5_simulate_X5_in rfl rfl rfl hd_X5_in ⟨(Nat.le_of_ble_eq_true rfl), (Nat.le_of_ble_eq_true rfl)⟩) rfl rfl hl.1 (Nat.le_of_ble_eq_true rfl) dX5_simulate_7 ⟨(Nat.le_of_ble_eq_true rfl), (Nat.le_of_ble_eq_true rfl)⟩ (rest := [.ref (y)]) (fun H locs hP hS => ?_)
  refine W.eq (g2 := F0 m 10 ls [.int r1, .ref (y)]) rfl ?_
  refine lv_if_eq (tgt := 17) F.1 F.2.1 dX5_simulate_10 rfl (fun hc3 => ?_) (fun hc3 => ?_)
  · have hf := ifp hc3 hf
    refine lv_iconst (v := (1 : Int32)) F.1 F.2.1 dX5_simulate_17 (by decide) ?_
    exact (KEY FU).1 ν (1 : Int32) _ _ _ (lv_sub hl [0, 1, 2] rfl) hP hS hf
  · have hf := ifn hc3 hf
    refine lv_iconst (v := (0 : Int32)) F.1 F.2.1 dX5_simulate_13 (by decide) ?_
    refine lv_goto (tgt := 18) F.1 F.2.1 dX5_simulate_14 rfl ?_
    exact (KEY FU).1 ν (0 : Int32) _ _ _ (lv_sub hl [0, 1, 2] rfl) hP hS hf

-- FrostTubesModel.save(I)I
def fb_X5_save_1 (a1 : Int32) (K : Nat → Mem → Int32 → Int32 → Option (Int32 × Mem)) (ν : Mem) (t0 : Int32) (v2 : Int32) : Option (Int32 × Mem) := ((f_X5_refused ν t0).bind fun r4 => (if r4.1 = 0 then (K 2 r4.2 0 (0 : Int32)) else some ((0 : Int32), r4.2)))
def fb_X5_save_2 (a1 : Int32) (K : Nat → Mem → Int32 → Int32 → Option (Int32 × Mem)) (ν : Mem) (t0 : Int32) (v2 : Int32) : Option (Int32 × Mem) := (if (205 : Int32) ≤ v2 then (if oob a1 2 then none else some ((((va_up ν 6 (upd (ν 6) a1.toNatClampNeg (1 : Int32))) 1) (199 : Int32).toNatClampNeg), (va_up ν 6 (upd (ν 6) a1.toNatClampNeg (1 : Int32))))) else (if oob v2 205 then none else (if oob (((205 : Int32) * a1) + v2) 410 then none else (K 2 (va_up ν 5 (upd (ν 5) ((((205 : Int32) * a1) + v2).toNatClampNeg) ((ν 1) v2.toNatClampNeg))) 0 (v2 + (1 : Int32))))))
def fl_X5_save (a1 : Int32) : Nat → Nat → Mem → Int32 → Int32 → Option (Int32 × Mem)
  | 0, _, _, _, _ => none
  | n + 1, lab, ν, t0, v2 => match lab with
    | 1 => fb_X5_save_1 a1 (fl_X5_save a1 n) ν t0 v2
    | _ => fb_X5_save_2 a1 (fl_X5_save a1 n) ν t0 v2
def f_X5_save (ν : Mem) (a1 : Int32) : Option (Int32 × Mem) := ((f_X5_in a1.toInt64 (0 : Int64) (1 : Int64)).bind fun r1 => (if r1 = 0 then (fl_X5_save a1 FU 1 ν (1 : Int32) 0) else (fl_X5_save a1 FU 1 ν (0 : Int32) 0)))
def rmX5_save : Room := { frames := 1, cells := 0, slots := 0, locals := 25 }
theorem hd_X5_save : yX5_save.cls ≠ "java/lang/invoke/MethodHandle" ∧ yX5_save.cls ≠ "java/lang/invoke/VarHandle" ∧ (parseMethodDescriptor yX5_save.desc).map (fun d => d.parameters.length) = some 1 := by decide +kernel
set_option maxHeartbeats 8000000 in
set_option maxRecDepth 100000 in
theorem c_X5_save {l : Launch} {D : va_G} {y : Nat} {ν : Mem} (a1 : Int32) {r : Int32 × Mem} (hf : f_X5_save ν a1 = some r) : CM l yX5_save wsX5_save rmX5_save [.ref (y), .int a1] D y ν (some (.int r.1)) r.2 := by
  refine CM.of (cc := cX5_save) (maxL := 3) (ret := (some .int)) pn_X5 rfl (Nat.le_of_ble_eq_true rfl) ?_
  intro p e s m args below meth c F hr hlk hK
  have KEY : ∀ n : Nat, (∀ (ν : Mem) (t0 : Int32) (ls : Array Slot) (H : Heap) (locs : List Loc), lv_has ls 3 [(0, .ref (y)), (1, .int a1)] → va_P D vwCl (WM D y ν) H → va_S (rngM y) s.heap H locs → fl_X5_save a1 n 1 ν t0 0 = some r → W p l e rmX5_save s m args below meth c H locs 0 0 (MQ below (QM D y r.2 (some (.int r.1))) args s 0 0 (rngM y)) (F0 m 16 ls [.int t0, .ref (y)])) ∧ (∀ (ν : Mem) (v2 : Int32) (ls : Array Slot) (H : Heap) (locs : List Loc), lv_has ls 3 [(0, .ref (y)), (1, .int a1), (2, .int v2)] → va_P D vwCl (WM D y ν) H → va_S (rngM y) s.heap H locs → fl_X5_save a1 n 2 ν 0 v2 = some r → W p l e rmX5_save s m args below meth c H locs 0 0 (MQ below (QM D y r.2 (some (.int r.1))) args s 0 0 (rngM y)) (F0 m 26 ls [])) := by
    intro n
    induction n with
    | zero => exact ⟨(fun _ _ _ _ _ _ _ _ h => nomatch h), (fun _ _ _ _ _ _ _ _ h => nomatch h)⟩
    | succ n ih =>
      refine ⟨?_, ?_⟩
      · intro ν t0  ls H locs hl hP hS hf
        have hf : fb_X5_save_1 a1 (fl_X5_save a1 n) ν t0 0 = some r := hf
        unfold fb_X5_save_1 at hf
        obtain ⟨r4, hr5, hf⟩ := bnd hf
        refine m_callV F hK hP hS (c_X5_refused t0 hr5) (cwV 1 F.2.2.2.2 gX5_save_X5_refused rfl rfl rfl ⟨rfl, hd_X5_refused⟩ ⟨(Nat.le_of_ble_eq_true rfl), (Nat.le_of_ble_eq_true rfl)⟩) rfl rfl hl.1 (Nat.le_of_ble_eq_true rfl) dX5_save_16 ⟨(Nat.le_of_ble_eq_true rfl), (Nat.le_of_ble_eq_true rfl)⟩ (rest := []) (fun H locs hP hS => ?_)
        refine W.eq (g2 := F0 m 19 ls [.int r4.1]) rfl ?_
        refine lv_if_eq (tgt := 24) F.1 F.2.1 dX5_save_19 rfl (fun hc6 => ?_) (fun hc6 => ?_)
        · have hf := ifp hc6 hf
          refine lv_iconst (v := (0 : Int32)) F.1 F.2.1 dX5_save_24 (by decide) ?_
          refine lv_istore_n F.1 F.2.1 dX5_save_25 rfl hl (Nat.le_of_ble_eq_true rfl) rfl (fun ls hl => ?_)
          have hl : lv_has ls 3 [(2, .int (0 : Int32)), (0, .ref (y)), (1, .int a1)] := hl
          exact ih.2 r4.2 (0 : Int32) _ _ _ (lv_sub hl [1, 2, 0] rfl) hP hS hf
        · have hf := ifn hc6 hf
          refine lv_iconst (v := (0 : Int32)) F.1 F.2.1 dX5_save_22 (by decide) ?_
          obtain rfl := Option.some.inj hf
          exact m_iret F hr hlk hP hS rfl dX5_save_23
      · intro ν v2  ls H locs hl hP hS hf
        have hf : fb_X5_save_2 a1 (fl_X5_save a1 n) ν 0 v2 = some r := hf
        unfold fb_X5_save_2 at hf
        refine lv_iload_n F.1 F.2.1 dX5_save_26 rfl (lv_at hl 2 rfl) ?_
        refine lv_sipush (v := (205 : Int32)) F.1 F.2.1 dX5_save_27 (by decide) ?_
        refine lv_icmp_ge (tgt := 57) F.1 F.2.1 dX5_save_30 rfl (fun hc7 => ?_) (fun hc7 => ?_)
        · have hf := ifp hc7 hf
          refine lv_aload_n F.1 F.2.1 dX5_save_57 rfl (lv_at hl 0 rfl) ?_
          refine m_getR F hK hP (fun _ h => List.mem_cons_of_mem _ (List.mem_append_right _ h)) 7 (Nat.le_of_ble_eq_true rfl) (List.mem_of_getElem? (i := 3) rfl) rfl (v := .ref (y + 6)) (fun _ => rfl) dX5_save_58 ?_
          refine lv_iload_n F.1 F.2.1 dX5_save_61 rfl (lv_at hl 1 rfl) ?_
          refine lv_iconst (v := (1 : Int32)) F.1 F.2.1 dX5_save_62 (by decide) ?_
          obtain ⟨hb8, hf⟩ := ifg hf
          have hP := m_up 6 hP
          refine m_zast F hK hP hS (by decide) (fun _ => rfl) rfl hb8 rfl dX5_save_63 (fun H locs hP hS => ?_)
          refine lv_aload_n F.1 F.2.1 dX5_save_64 rfl (lv_at hl 0 rfl) ?_
          refine m_getR F hK hP (fun _ h => List.mem_cons_of_mem _ (List.mem_append_right _ h)) 1 (Nat.le_of_ble_eq_true rfl) (List.mem_of_getElem? (i := 2) rfl) rfl (v := .ref (y + 1)) (fun _ => rfl) dX5_save_65 ?_
          refine lv_sipush (v := (199 : Int32)) F.1 F.2.1 dX5_save_68 (by decide) ?_
          refine m_iald F hK hP (o := 1) (by decide) rfl (fun _ => rfl) rfl (by decide) dX5_save_71 ?_
          obtain rfl := Option.some.inj hf
          exact m_iret F hr hlk hP hS rfl dX5_save_72
        · have hf := ifn hc7 hf
          refine lv_aload_n F.1 F.2.1 dX5_save_33 rfl (lv_at hl 0 rfl) ?_
          refine m_getR F hK hP (fun _ h => List.mem_cons_of_mem _ (List.mem_append_right _ h)) 6 (Nat.le_of_ble_eq_true rfl) (List.mem_of_getElem? (i := 1) rfl) rfl (v := .ref (y + 5)) (fun _ => rfl) dX5_save_34 ?_
          refine lv_sipush (v := (205 : Int32)) F.1 F.2.1 dX5_save_37 (by decide) ?_
          refine lv_iload_n F.1 F.2.1 dX5_save_40 rfl (lv_at hl 1 rfl) ?_
          refine lv_imul F.1 F.2.1 dX5_save_41 ?_
          refine lv_iload_n F.1 F.2.1 dX5_save_42 rfl (lv_at hl 2 rfl) ?_
          refine lv_iadd F.1 F.2.1 dX5_save_43 ?_
          refine lv_aload_n F.1 F.2.1 dX5_save_44 rfl (lv_at hl 0 rfl) ?_
          refine m_getR F hK hP (fun _ h => List.mem_cons_of_mem _ (List.mem_append_right _ h)) 1 (Nat.le_of_ble_eq_true rfl) (List.mem_of_getElem? (i := 2) rfl) rfl (v := .ref (y + 1)) (fun _ => rfl) dX5_save_45 ?_
          refine lv_iload_n F.1 F.2.1 dX5_save_48 rfl (lv_at hl 2 rfl) ?_
          obtain ⟨hb9, hf⟩ := ifg hf
          refine m_iald F hK hP (o := 1) (by decide) rfl (fun _ => rfl) rfl hb9 dX5_save_49 ?_
          obtain ⟨hb10, hf⟩ := ifg hf
          have hP := m_up 5 hP
          refine m_iast F hK hP hS (by decide) (fun _ => rfl) rfl hb10 dX5_save_50 (fun H locs hP hS => ?_)
          refine lv_iinc (v := (v2 + (1 : Int32))) F.1 F.2.1 dX5_save_51 hl (k := 2) rfl rfl (Nat.le_of_ble_eq_true rfl) rfl (fun ls hl => ?_)
          have hl : lv_has ls 3 [(2, .int (v2 + (1 : Int32))), (0, .ref (y)), (1, .int a1)] := hl
          refine lv_goto (tgt := 26) F.1 F.2.1 dX5_save_54 rfl ?_
          exact ih.2 (va_up ν 5 (upd (ν 5) ((((205 : Int32) * a1) + v2).toNatClampNeg) ((ν 1) v2.toNatClampNeg))) (v2 + (1 : Int32)) _ _ _ (lv_sub hl [1, 2, 0] rfl) hP hS hf
  intro ls H locs hl hP hS
  have hl : lv_has ls 3 [(0, .ref (y)), (1, .int a1)] := hl
  unfold f_X5_save at hf
  refine lv_aload_n F.1 F.2.1 dX5_save_0 rfl (lv_at hl 0 rfl) ?_
  refine lv_iload_n F.1 F.2.1 dX5_save_1 rfl (lv_at hl 1 rfl) ?_
  refine lv_i2l (v := a1.toInt64) F.1 F.2.1 dX5_save_2 rfl ?_
  refine lv_lconst (v := (0 : Int64)) F.1 F.2.1 dX5_save_3 rfl ?_
  refine lv_lconst (v := (1 : Int64)) F.1 F.2.1 dX5_save_4 rfl ?_
  obtain ⟨r1, hr2, hf⟩ := bnd hf
  refine m_callS F hK hP hS (c_X5_in a1.toInt64 (0 : Int64) (1 : Int64) hr2) (va_cwS 3 F.2.2.2.2 gX5_save_X5_in rfl rfl rfl hd_X5_in ⟨(Nat.le_of_ble_eq_true rfl), (Nat.le_of_ble_eq_true rfl)⟩) rfl rfl hl.1 (Nat.le_of_ble_eq_true rfl) dX5_save_5 ⟨(Nat.le_of_ble_eq_true rfl), (Nat.le_of_ble_eq_true rfl)⟩ (rest := [.ref (y)]) (fun H locs hP hS => ?_)
  refine W.eq (g2 := F0 m 8 ls [.int r1, .ref (y)]) rfl ?_
  refine lv_if_eq (tgt := 15) F.1 F.2.1 dX5_save_8 rfl (fun hc3 => ?_) (fun hc3 => ?_)
  · have hf := ifp hc3 hf
    refine lv_iconst (v := (1 : Int32)) F.1 F.2.1 dX5_save_15 (by decide) ?_
    exact (KEY FU).1 ν (1 : Int32) _ _ _ (lv_sub hl [0, 1] rfl) hP hS hf
  · have hf := ifn hc3 hf
    refine lv_iconst (v := (0 : Int32)) F.1 F.2.1 dX5_save_11 (by decide) ?_
    refine lv_goto (tgt := 16) F.1 F.2.1 dX5_save_12 rfl ?_
    exact (KEY FU).1 ν (0 : Int32) _ _ _ (lv_sub hl [0, 1] rfl) hP hS hf

-- FrostTubesModel.restore(I)I
def fb_X5_restore_1 (a1 : Int32) (K : Nat → Mem → Int32 → Int32 → Option (Int32 × Mem)) (ν : Mem) (t0 : Int32) (v2 : Int32) : Option (Int32 × Mem) := ((f_X5_refused ν t0).bind fun r6 => (if r6.1 = 0 then (K 2 r6.2 0 (0 : Int32)) else some ((0 : Int32), r6.2)))
def fb_X5_restore_2 (a1 : Int32) (K : Nat → Mem → Int32 → Int32 → Option (Int32 × Mem)) (ν : Mem) (t0 : Int32) (v2 : Int32) : Option (Int32 × Mem) := (if (205 : Int32) ≤ v2 then some ((((va_up ν 0 (upd (ν 0) 5 (0 : Int32))) 1) (199 : Int32).toNatClampNeg), (va_up ν 0 (upd (ν 0) 5 (0 : Int32)))) else (if oob (((205 : Int32) * a1) + v2) 410 then none else (if oob v2 205 then none else (K 2 (va_up ν 1 (upd (ν 1) v2.toNatClampNeg ((ν 5) (((205 : Int32) * a1) + v2).toNatClampNeg))) 0 (v2 + (1 : Int32))))))
def fl_X5_restore (a1 : Int32) : Nat → Nat → Mem → Int32 → Int32 → Option (Int32 × Mem)
  | 0, _, _, _, _ => none
  | n + 1, lab, ν, t0, v2 => match lab with
    | 1 => fb_X5_restore_1 a1 (fl_X5_restore a1 n) ν t0 v2
    | _ => fb_X5_restore_2 a1 (fl_X5_restore a1 n) ν t0 v2
def f_X5_restore (ν : Mem) (a1 : Int32) : Option (Int32 × Mem) := ((f_X5_in a1.toInt64 (0 : Int64) (1 : Int64)).bind fun r1 => (if r1 = 0 then (fl_X5_restore a1 FU 1 ν (1 : Int32) 0) else (if oob a1 2 then none else (if ((ν 6) a1.toNatClampNeg) = 0 then (fl_X5_restore a1 FU 1 ν (2 : Int32) 0) else (fl_X5_restore a1 FU 1 ν (0 : Int32) 0)))))
def rmX5_restore : Room := { frames := 1, cells := 0, slots := 0, locals := 25 }
theorem hd_X5_restore : yX5_restore.cls ≠ "java/lang/invoke/MethodHandle" ∧ yX5_restore.cls ≠ "java/lang/invoke/VarHandle" ∧ (parseMethodDescriptor yX5_restore.desc).map (fun d => d.parameters.length) = some 1 := by decide +kernel
set_option maxHeartbeats 8000000 in
set_option maxRecDepth 100000 in
theorem c_X5_restore {l : Launch} {D : va_G} {y : Nat} {ν : Mem} (a1 : Int32) {r : Int32 × Mem} (hf : f_X5_restore ν a1 = some r) : CM l yX5_restore wsX5_restore rmX5_restore [.ref (y), .int a1] D y ν (some (.int r.1)) r.2 := by
  refine CM.of (cc := cX5_restore) (maxL := 3) (ret := (some .int)) pn_X5 rfl (Nat.le_of_ble_eq_true rfl) ?_
  intro p e s m args below meth c F hr hlk hK
  have KEY : ∀ n : Nat, (∀ (ν : Mem) (t0 : Int32) (ls : Array Slot) (H : Heap) (locs : List Loc), lv_has ls 3 [(0, .ref (y)), (1, .int a1)] → va_P D vwCl (WM D y ν) H → va_S (rngM y) s.heap H locs → fl_X5_restore a1 n 1 ν t0 0 = some r → W p l e rmX5_restore s m args below meth c H locs 0 0 (MQ below (QM D y r.2 (some (.int r.1))) args s 0 0 (rngM y)) (F0 m 29 ls [.int t0, .ref (y)])) ∧ (∀ (ν : Mem) (v2 : Int32) (ls : Array Slot) (H : Heap) (locs : List Loc), lv_has ls 3 [(0, .ref (y)), (1, .int a1), (2, .int v2)] → va_P D vwCl (WM D y ν) H → va_S (rngM y) s.heap H locs → fl_X5_restore a1 n 2 ν 0 v2 = some r → W p l e rmX5_restore s m args below meth c H locs 0 0 (MQ below (QM D y r.2 (some (.int r.1))) args s 0 0 (rngM y)) (F0 m 39 ls [])) := by
    intro n
    induction n with
    | zero => exact ⟨(fun _ _ _ _ _ _ _ _ h => nomatch h), (fun _ _ _ _ _ _ _ _ h => nomatch h)⟩
    | succ n ih =>
      refine ⟨?_, ?_⟩
      · intro ν t0  ls H locs hl hP hS hf
        have hf : fb_X5_restore_1 a1 (fl_X5_restore a1 n) ν t0 0 = some r := hf
        unfold fb_X5_restore_1 at hf
        obtain ⟨r6, hr7, hf⟩ := bnd hf
        refine m_callV F hK hP hS (c_X5_refused t0 hr7) (cwV 1 F.2.2.2.2 gX5_restore_X5_refused rfl rfl rfl ⟨rfl, hd_X5_refused⟩ ⟨(Nat.le_of_ble_eq_true rfl), (Nat.le_of_ble_eq_true rfl)⟩) rfl rfl hl.1 (Nat.le_of_ble_eq_true rfl) dX5_restore_29 ⟨(Nat.le_of_ble_eq_true rfl), (Nat.le_of_ble_eq_true rfl)⟩ (rest := []) (fun H locs hP hS => ?_)
        refine W.eq (g2 := F0 m 32 ls [.int r6.1]) rfl ?_
        refine lv_if_eq (tgt := 37) F.1 F.2.1 dX5_restore_32 rfl (fun hc8 => ?_) (fun hc8 => ?_)
        · have hf := ifp hc8 hf
          refine lv_iconst (v := (0 : Int32)) F.1 F.2.1 dX5_restore_37 (by decide) ?_
          refine lv_istore_n F.1 F.2.1 dX5_restore_38 rfl hl (Nat.le_of_ble_eq_true rfl) rfl (fun ls hl => ?_)
          have hl : lv_has ls 3 [(2, .int (0 : Int32)), (0, .ref (y)), (1, .int a1)] := hl
          exact ih.2 r6.2 (0 : Int32) _ _ _ (lv_sub hl [1, 2, 0] rfl) hP hS hf
        · have hf := ifn hc8 hf
          refine lv_iconst (v := (0 : Int32)) F.1 F.2.1 dX5_restore_35 (by decide) ?_
          obtain rfl := Option.some.inj hf
          exact m_iret F hr hlk hP hS rfl dX5_restore_36
      · intro ν v2  ls H locs hl hP hS hf
        have hf : fb_X5_restore_2 a1 (fl_X5_restore a1 n) ν 0 v2 = some r := hf
        unfold fb_X5_restore_2 at hf
        refine lv_iload_n F.1 F.2.1 dX5_restore_39 rfl (lv_at hl 2 rfl) ?_
        refine lv_sipush (v := (205 : Int32)) F.1 F.2.1 dX5_restore_40 (by decide) ?_
        refine lv_icmp_ge (tgt := 70) F.1 F.2.1 dX5_restore_43 rfl (fun hc9 => ?_) (fun hc9 => ?_)
        · have hf := ifp hc9 hf
          refine lv_aload_n F.1 F.2.1 dX5_restore_70 rfl (lv_at hl 0 rfl) ?_
          refine lv_iconst (v := (0 : Int32)) F.1 F.2.1 dX5_restore_71 (by decide) ?_
          have hP := m_up 0 hP
          refine m_putI F hK hP hS (fun _ h => List.mem_cons_of_mem _ (List.mem_append_right _ h)) 5 (Nat.le_of_ble_eq_true rfl) (List.mem_of_getElem? (i := 4) rfl) rfl rfl (ty := .int) rfl rfl rfl (fun _ _ => rfl) dX5_restore_72 (fun H locs hP hS => ?_)
          refine lv_aload_n F.1 F.2.1 dX5_restore_75 rfl (lv_at hl 0 rfl) ?_
          refine m_getR F hK hP (fun _ h => List.mem_cons_of_mem _ (List.mem_append_right _ h)) 1 (Nat.le_of_ble_eq_true rfl) (List.mem_of_getElem? (i := 2) rfl) rfl (v := .ref (y + 1)) (fun _ => rfl) dX5_restore_76 ?_
          refine lv_sipush (v := (199 : Int32)) F.1 F.2.1 dX5_restore_79 (by decide) ?_
          refine m_iald F hK hP (o := 1) (by decide) rfl (fun _ => rfl) rfl (by decide) dX5_restore_82 ?_
          obtain rfl := Option.some.inj hf
          exact m_iret F hr hlk hP hS rfl dX5_restore_83
        · have hf := ifn hc9 hf
          refine lv_aload_n F.1 F.2.1 dX5_restore_46 rfl (lv_at hl 0 rfl) ?_
          refine m_getR F hK hP (fun _ h => List.mem_cons_of_mem _ (List.mem_append_right _ h)) 1 (Nat.le_of_ble_eq_true rfl) (List.mem_of_getElem? (i := 2) rfl) rfl (v := .ref (y + 1)) (fun _ => rfl) dX5_restore_47 ?_
          refine lv_iload_n F.1 F.2.1 dX5_restore_50 rfl (lv_at hl 2 rfl) ?_
          refine lv_aload_n F.1 F.2.1 dX5_restore_51 rfl (lv_at hl 0 rfl) ?_
          refine m_getR F hK hP (fun _ h => List.mem_cons_of_mem _ (List.mem_append_right _ h)) 6 (Nat.le_of_ble_eq_true rfl) (List.mem_of_getElem? (i := 3) rfl) rfl (v := .ref (y + 5)) (fun _ => rfl) dX5_restore_52 ?_
          refine lv_sipush (v := (205 : Int32)) F.1 F.2.1 dX5_restore_55 (by decide) ?_
          refine lv_iload_n F.1 F.2.1 dX5_restore_58 rfl (lv_at hl 1 rfl) ?_
          refine lv_imul F.1 F.2.1 dX5_restore_59 ?_
          refine lv_iload_n F.1 F.2.1 dX5_restore_60 rfl (lv_at hl 2 rfl) ?_
          refine lv_iadd F.1 F.2.1 dX5_restore_61 ?_
          obtain ⟨hb10, hf⟩ := ifg hf
          refine m_iald F hK hP (o := 5) (by decide) rfl (fun _ => rfl) rfl hb10 dX5_restore_62 ?_
          obtain ⟨hb11, hf⟩ := ifg hf
          have hP := m_up 1 hP
          refine m_iast F hK hP hS (by decide) (fun _ => rfl) rfl hb11 dX5_restore_63 (fun H locs hP hS => ?_)
          refine lv_iinc (v := (v2 + (1 : Int32))) F.1 F.2.1 dX5_restore_64 hl (k := 2) rfl rfl (Nat.le_of_ble_eq_true rfl) rfl (fun ls hl => ?_)
          have hl : lv_has ls 3 [(2, .int (v2 + (1 : Int32))), (0, .ref (y)), (1, .int a1)] := hl
          refine lv_goto (tgt := 39) F.1 F.2.1 dX5_restore_67 rfl ?_
          exact ih.2 (va_up ν 1 (upd (ν 1) v2.toNatClampNeg ((ν 5) (((205 : Int32) * a1) + v2).toNatClampNeg))) (v2 + (1 : Int32)) _ _ _ (lv_sub hl [1, 2, 0] rfl) hP hS hf
  intro ls H locs hl hP hS
  have hl : lv_has ls 3 [(0, .ref (y)), (1, .int a1)] := hl
  unfold f_X5_restore at hf
  refine lv_aload_n F.1 F.2.1 dX5_restore_0 rfl (lv_at hl 0 rfl) ?_
  refine lv_iload_n F.1 F.2.1 dX5_restore_1 rfl (lv_at hl 1 rfl) ?_
  refine lv_i2l (v := a1.toInt64) F.1 F.2.1 dX5_restore_2 rfl ?_
  refine lv_lconst (v := (0 : Int64)) F.1 F.2.1 dX5_restore_3 rfl ?_
  refine lv_lconst (v := (1 : Int64)) F.1 F.2.1 dX5_restore_4 rfl ?_
  obtain ⟨r1, hr2, hf⟩ := bnd hf
  refine m_callS F hK hP hS (c_X5_in a1.toInt64 (0 : Int64) (1 : Int64) hr2) (va_cwS 3 F.2.2.2.2 gX5_restore_X5_in rfl rfl rfl hd_X5_in ⟨(Nat.le_of_ble_eq_true rfl), (Nat.le_of_ble_eq_true rfl)⟩) rfl rfl hl.1 (Nat.le_of_ble_eq_true rfl) dX5_restore_5 ⟨(Nat.le_of_ble_eq_true rfl), (Nat.le_of_ble_eq_true rfl)⟩ (rest := [.ref (y)]) (fun H locs hP hS => ?_)
  refine W.eq (g2 := F0 m 8 ls [.int r1, .ref (y)]) rfl ?_
  refine lv_if_ne (tgt := 15) F.1 F.2.1 dX5_restore_8 rfl (fun hc3 => ?_) (fun hc3 => ?_)
  · have hf := ifn hc3 hf
    refine lv_aload_n F.1 F.2.1 dX5_restore_15 rfl (lv_at hl 0 rfl) ?_
    refine m_getR F hK hP (fun _ h => List.mem_cons_of_mem _ (List.mem_append_right _ h)) 7 (Nat.le_of_ble_eq_true rfl) (List.mem_of_getElem? (i := 1) rfl) rfl (v := .ref (y + 6)) (fun _ => rfl) dX5_restore_16 ?_
    refine lv_iload_n F.1 F.2.1 dX5_restore_19 rfl (lv_at hl 1 rfl) ?_
    obtain ⟨hb4, hf⟩ := ifg hf
    refine m_zald F hK hP (o := 6) (by decide) rfl (fun _ => rfl) rfl hb4 dX5_restore_20 ?_
    refine lv_if_ne (tgt := 28) F.1 F.2.1 dX5_restore_21 rfl (fun hc5 => ?_) (fun hc5 => ?_)
    · have hf := ifn hc5 hf
      refine lv_iconst (v := (0 : Int32)) F.1 F.2.1 dX5_restore_28 (by decide) ?_
      exact (KEY FU).1 ν (0 : Int32) _ _ _ (lv_sub hl [0, 1] rfl) hP hS hf
    · have hf := ifp hc5 hf
      refine lv_iconst (v := (2 : Int32)) F.1 F.2.1 dX5_restore_24 (by decide) ?_
      refine lv_goto (tgt := 29) F.1 F.2.1 dX5_restore_25 rfl ?_
      exact (KEY FU).1 ν (2 : Int32) _ _ _ (lv_sub hl [0, 1] rfl) hP hS hf
  · have hf := ifp hc3 hf
    refine lv_iconst (v := (1 : Int32)) F.1 F.2.1 dX5_restore_11 (by decide) ?_
    refine lv_goto (tgt := 29) F.1 F.2.1 dX5_restore_12 rfl ?_
    exact (KEY FU).1 ν (1 : Int32) _ _ _ (lv_sub hl [0, 1] rfl) hP hS hf
