-- FrostTubesLaw.now(LFrostTubes;)J
def rmL_now : Room := { frames := 9, cells := 1203, slots := 7218, locals := 151 }
theorem hd_L_now : yL_now.cls ≠ "java/lang/invoke/MethodHandle" ∧ yL_now.cls ≠ "java/lang/invoke/VarHandle" ∧ (parseMethodDescriptor yL_now.desc).map (fun d => d.parameters.length) = some 1 := by decide +kernel
set_option maxHeartbeats 8000000 in
set_option maxRecDepth 100000 in
theorem c_L_now {l : Launch} (hlt : l.stackTraces = false) {D : va_G} {x : Nat} {μ : Mem} {r : Int64} (hf : f_L_now μ = some r) : LC l yL_now wsB_now rmL_now 1203 7218 [.ref (x + 0)] D x μ (some (.long r)) μ := by
  refine LC.of (cc := cL_now) (maxL := 5) (ret := (some .long)) (by decide +kernel) rfl (Nat.le_of_ble_eq_true rfl) ?_
  intro p e s m args below meth c F hr hlk hK hG
  have KEY : ∀ n : Nat, n ≤ 400 → (∀ (w1 : Int64) (v3 : Int32) (ls : Array Slot) (H : Heap) (locs : List Loc), lv_has ls 5 [(0, .ref (x + 0)), (1, .long w1), (3, .int v3)] → va_P D vwCl (WL D x μ) H → va_S (rng x) s.heap H locs → fl_L_now μ n 1 v3 0 w1 = some r → W p l e rmL_now s m args below meth c H locs (3 * (400 + 1 - n)) (18 * (400 + 1 - n)) (vx_MQ below (QX D x μ (some (.long r))) XF args s 1203 7218 (rng x)) (F0 m 6 ls [])) ∧ (∀ (w1 : Int64) (v3 : Int32) (ls : Array Slot) (H : Heap) (locs : List Loc), lv_has ls 5 [(0, .ref (x + 0)), (1, .long w1), (3, .int v3)] → va_P D vwCl (WL D x μ) H → va_S (rng x) s.heap H locs → fl_L_now μ n 2 v3 0 w1 = some r → W p l e rmL_now s m args below meth c H locs (3 * (400 + 1 - n)) (18 * (400 + 1 - n)) (vx_MQ below (QX D x μ (some (.long r))) XF args s 1203 7218 (rng x)) (F0 m 32 ls [])) ∧ (∀ (w1 : Int64) (v3 : Int32) (ls : Array Slot) (H : Heap) (locs : List Loc), lv_has ls 5 [(0, .ref (x + 0)), (1, .long w1), (3, .int v3)] → va_P D vwCl (WL D x μ) H → va_S (rng x) s.heap H locs → fl_L_now μ n 3 v3 0 w1 = some r → W p l e rmL_now s m args below meth c H locs (3 * (400 + 1 - n)) (18 * (400 + 1 - n)) (vx_MQ below (QX D x μ (some (.long r))) XF args s 1203 7218 (rng x)) (F0 m 111 ls [])) ∧ (∀ (w1 : Int64) (v3 : Int32) (v4 : Int32) (ls : Array Slot) (H : Heap) (locs : List Loc), lv_has ls 5 [(0, .ref (x + 0)), (1, .long w1), (3, .int v3), (4, .int v4)] → va_P D vwCl (WL D x μ) H → va_S (rng x) s.heap H locs → fl_L_now μ n 4 v3 v4 w1 = some r → W p l e rmL_now s m args below meth c H locs (3 * (400 + 1 - n)) (18 * (400 + 1 - n)) (vx_MQ below (QX D x μ (some (.long r))) XF args s 1203 7218 (rng x)) (F0 m 46 ls [])) ∧ (∀ (w1 : Int64) (v3 : Int32) (ls : Array Slot) (H : Heap) (locs : List Loc), lv_has ls 5 [(0, .ref (x + 0)), (1, .long w1), (3, .int v3)] → va_P D vwCl (WL D x μ) H → va_S (rng x) s.heap H locs → fl_L_now μ n 5 v3 0 w1 = some r → W p l e rmL_now s m args below meth c H locs (3 * (400 + 1 - n)) (18 * (400 + 1 - n)) (vx_MQ below (QX D x μ (some (.long r))) XF args s 1203 7218 (rng x)) (F0 m 154 ls [])) ∧ (∀ (w1 : Int64) (v3 : Int32) (v4 : Int32) (ls : Array Slot) (H : Heap) (locs : List Loc), lv_has ls 5 [(0, .ref (x + 0)), (1, .long w1), (3, .int v3), (4, .int v4)] → va_P D vwCl (WL D x μ) H → va_S (rng x) s.heap H locs → fl_L_now μ n 6 v3 v4 w1 = some r → W p l e rmL_now s m args below meth c H locs (3 * (400 + 1 - n)) (18 * (400 + 1 - n)) (vx_MQ below (QX D x μ (some (.long r))) XF args s 1203 7218 (rng x)) (F0 m 76 ls [])) ∧ (∀ (w1 : Int64) (v3 : Int32) (v4 : Int32) (ls : Array Slot) (H : Heap) (locs : List Loc), lv_has ls 5 [(0, .ref (x + 0)), (1, .long w1), (3, .int v3), (4, .int v4)] → va_P D vwCl (WL D x μ) H → va_S (rng x) s.heap H locs → fl_L_now μ n 7 v3 v4 w1 = some r → W p l e rmL_now s m args below meth c H locs (3 * (400 + 1 - n)) (18 * (400 + 1 - n)) (vx_MQ below (QX D x μ (some (.long r))) XF args s 1203 7218 (rng x)) (F0 m 168 ls [])) := by
    intro n
    induction n with
    | zero => intro _; exact ⟨(fun _ _ _ _ _ _ _ _ h => nomatch h), (fun _ _ _ _ _ _ _ _ h => nomatch h), (fun _ _ _ _ _ _ _ _ h => nomatch h), (fun _ _ _ _ _ _ _ _ _ h => nomatch h), (fun _ _ _ _ _ _ _ _ h => nomatch h), (fun _ _ _ _ _ _ _ _ _ h => nomatch h), (fun _ _ _ _ _ _ _ _ _ h => nomatch h)⟩
    | succ n ih =>
      intro hn
      have ih := ih (by omega)
      refine ⟨?_, ?_, ?_, ?_, ?_, ?_, ?_⟩
      · intro w1 v3  ls H locs hl hP hS hf
        have hf : fb_L_now_1 μ (fl_L_now μ n) v3 0 w1 = some r := hf
        unfold fb_L_now_1 at hf
        refine lv_iload_n F.1 F.2.1 dL_now_6 rfl (lv_at hl 2 rfl) ?_
        refine lv_bipush (v := (12 : Int32)) F.1 F.2.1 dL_now_7 (by decide) ?_
        refine lv_icmp_ge (tgt := 30) F.1 F.2.1 dL_now_9 rfl (fun hc1 => ?_) (fun hc1 => ?_)
        · have hf := ifp hc1 hf
          refine lv_iconst (v := (0 : Int32)) F.1 F.2.1 dL_now_30 (by decide) ?_
          refine lv_istore_n F.1 F.2.1 dL_now_31 rfl hl (Nat.le_of_ble_eq_true rfl) rfl (fun ls hl => ?_)
          have hl : lv_has ls 5 [(3, .int (0 : Int32)), (0, .ref (x + 0)), (1, .long w1)] := hl
          refine W.widen (k := 3 * (400 + 1 - n)) (n := 18 * (400 + 1 - n)) (by omega) (by omega) ?_
          exact ih.2.1 w1 (0 : Int32) _ _ _ (lv_sub hl [1, 2, 0] rfl) hP hS hf
        · have hf := ifn hc1 hf
          refine lv_ldc2 (v := (31 : Int64)) F.1 F.2.1 F.2.2.2.1 (F.2.2.2.2 _ (List.mem_of_getElem? (i := 78) rfl)) dL_now_12 ?_
          refine lv_lload_n F.1 F.2.1 dL_now_15 rfl (lv_at hl 1 rfl) ?_
          refine lv_lmul F.1 F.2.1 dL_now_16 ?_
          refine lv_aload_n F.1 F.2.1 dL_now_17 rfl (lv_at hl 0 rfl) ?_
          refine lv_iload_n F.1 F.2.1 dL_now_18 rfl (lv_at hl 2 rfl) ?_
          obtain ⟨r2, hr3, hf⟩ := bnd hf
          refine a_H F hK (fun _ hU hW => sl_U hG hS hU hW) (fun _ h => h) hP hS (c_L_about hlt v3 hr3) (vx_cwSW 2 F.2.2.2.2 gB_now_L_about rfl rfl rfl hd_L_about ⟨(Nat.le_of_ble_eq_true rfl), (Nat.le_of_ble_eq_true rfl)⟩) rfl rfl hl.1 (Nat.le_of_ble_eq_true rfl) dL_now_19 ⟨(by show _ ≤ 1203; omega), (by show _ ≤ 7218; omega)⟩ (rest := [.long ((31 : Int64) * w1)]) (fun H locs hP hS _ => ?_)
          refine W.eq (g2 := F0 m 22 ls [.long r2, .long ((31 : Int64) * w1)]) rfl ?_
          refine lv_ladd F.1 F.2.1 dL_now_22 ?_
          refine lv_lstore_n F.1 F.2.1 dL_now_23 rfl hl (Nat.le_of_ble_eq_true rfl) rfl (fun ls hl => ?_)
          have hl : lv_has ls 5 [(1, .long (((31 : Int64) * w1) + r2)), (0, .ref (x + 0)), (3, .int v3)] := hl
          refine lv_iinc (v := (v3 + (1 : Int32))) F.1 F.2.1 dL_now_24 hl (k := 2) rfl rfl (Nat.le_of_ble_eq_true rfl) rfl (fun ls hl => ?_)
          have hl : lv_has ls 5 [(3, .int (v3 + (1 : Int32))), (1, .long (((31 : Int64) * w1) + r2)), (0, .ref (x + 0))] := hl
          refine lv_goto (tgt := 6) F.1 F.2.1 dL_now_27 rfl ?_
          refine W.widen (k := 3 * (400 + 1 - n)) (n := 18 * (400 + 1 - n)) (by omega) (by omega) ?_
          exact ih.1 (((31 : Int64) * w1) + r2) (v3 + (1 : Int32)) _ _ _ (lv_sub hl [2, 1, 0] rfl) hP hS hf
      · intro w1 v3  ls H locs hl hP hS hf
        have hf : fb_L_now_2 μ (fl_L_now μ n) v3 0 w1 = some r := hf
        unfold fb_L_now_2 at hf
        refine lv_iload_n F.1 F.2.1 dL_now_32 rfl (lv_at hl 2 rfl) ?_
        refine lv_i2l (v := v3.toInt64) F.1 F.2.1 dL_now_33 rfl ?_
        refine lv_aload_n F.1 F.2.1 dL_now_34 rfl (lv_at hl 0 rfl) ?_
        refine lv_iconst (v := (0 : Int32)) F.1 F.2.1 dL_now_35 (by decide) ?_
        obtain ⟨r4, hr5, hf⟩ := bnd hf
        refine a_H F hK (fun _ hU hW => sl_U hG hS hU hW) (fun _ h => h) hP hS (c_L_about hlt (0 : Int32) hr5) (vx_cwSW 2 F.2.2.2.2 gB_now_L_about rfl rfl rfl hd_L_about ⟨(Nat.le_of_ble_eq_true rfl), (Nat.le_of_ble_eq_true rfl)⟩) rfl rfl hl.1 (Nat.le_of_ble_eq_true rfl) dL_now_36 ⟨(by show _ ≤ 1203; omega), (by show _ ≤ 7218; omega)⟩ (rest := [.long v3.toInt64]) (fun H locs hP hS _ => ?_)
        refine W.eq (g2 := F0 m 39 ls [.long r4, .long v3.toInt64]) rfl ?_
        refine W.lcmp F.1 F.2.1 dL_now_39 ?_
        refine lv_if_ge (tgt := 109) F.1 F.2.1 dL_now_40 rfl (fun hc6 => ?_) (fun hc6 => ?_)
        · have hf := ifp hc6 hf
          refine lv_iconst (v := (0 : Int32)) F.1 F.2.1 dL_now_109 (by decide) ?_
          refine lv_istore_n F.1 F.2.1 dL_now_110 rfl hl (Nat.le_of_ble_eq_true rfl) rfl (fun ls hl => ?_)
          have hl : lv_has ls 5 [(3, .int (0 : Int32)), (0, .ref (x + 0)), (1, .long w1)] := hl
          refine W.widen (k := 3 * (400 + 1 - n)) (n := 18 * (400 + 1 - n)) (by omega) (by omega) ?_
          exact ih.2.2.1 w1 (0 : Int32) _ _ _ (lv_sub hl [1, 2, 0] rfl) hP hS hf
        · have hf := ifn hc6 hf
          refine lv_iconst (v := (0 : Int32)) F.1 F.2.1 dL_now_43 (by decide) ?_
          refine lv_istore F.1 F.2.1 dL_now_44 hl (Nat.le_of_ble_eq_true rfl) rfl (fun ls hl => ?_)
          have hl : lv_has ls 5 [(4, .int (0 : Int32)), (0, .ref (x + 0)), (1, .long w1), (3, .int v3)] := hl
          refine W.widen (k := 3 * (400 + 1 - n)) (n := 18 * (400 + 1 - n)) (by omega) (by omega) ?_
          exact ih.2.2.2.1 w1 v3 (0 : Int32) _ _ _ (lv_sub hl [1, 2, 3, 0] rfl) hP hS hf
      · intro w1 v3  ls H locs hl hP hS hf
        have hf : fb_L_now_3 μ (fl_L_now μ n) v3 0 w1 = some r := hf
        unfold fb_L_now_3 at hf
        refine lv_iload_n F.1 F.2.1 dL_now_111 rfl (lv_at hl 2 rfl) ?_
        refine lv_i2l (v := v3.toInt64) F.1 F.2.1 dL_now_112 rfl ?_
        refine lv_aload_n F.1 F.2.1 dL_now_113 rfl (lv_at hl 0 rfl) ?_
        refine lv_iconst (v := (1 : Int32)) F.1 F.2.1 dL_now_114 (by decide) ?_
        obtain ⟨r7, hr8, hf⟩ := bnd hf
        refine a_H F hK (fun _ hU hW => sl_U hG hS hU hW) (fun _ h => h) hP hS (c_L_about hlt (1 : Int32) hr8) (vx_cwSW 2 F.2.2.2.2 gB_now_L_about rfl rfl rfl hd_L_about ⟨(Nat.le_of_ble_eq_true rfl), (Nat.le_of_ble_eq_true rfl)⟩) rfl rfl hl.1 (Nat.le_of_ble_eq_true rfl) dL_now_115 ⟨(by show _ ≤ 1203; omega), (by show _ ≤ 7218; omega)⟩ (rest := [.long v3.toInt64]) (fun H locs hP hS _ => ?_)
        refine W.eq (g2 := F0 m 118 ls [.long r7, .long v3.toInt64]) rfl ?_
        refine W.lcmp F.1 F.2.1 dL_now_118 ?_
        refine lv_if_ge (tgt := 152) F.1 F.2.1 dL_now_119 rfl (fun hc9 => ?_) (fun hc9 => ?_)
        · have hf := ifp hc9 hf
          refine lv_iconst (v := (0 : Int32)) F.1 F.2.1 dL_now_152 (by decide) ?_
          refine lv_istore_n F.1 F.2.1 dL_now_153 rfl hl (Nat.le_of_ble_eq_true rfl) rfl (fun ls hl => ?_)
          have hl : lv_has ls 5 [(3, .int (0 : Int32)), (0, .ref (x + 0)), (1, .long w1)] := hl
          refine W.widen (k := 3 * (400 + 1 - n)) (n := 18 * (400 + 1 - n)) (by omega) (by omega) ?_
          exact ih.2.2.2.2.1 w1 (0 : Int32) _ _ _ (lv_sub hl [1, 2, 0] rfl) hP hS hf
        · have hf := ifn hc9 hf
          refine lv_ldc2 (v := (31 : Int64)) F.1 F.2.1 F.2.2.2.1 (F.2.2.2.2 _ (List.mem_of_getElem? (i := 78) rfl)) dL_now_122 ?_
          refine lv_lload_n F.1 F.2.1 dL_now_125 rfl (lv_at hl 1 rfl) ?_
          refine lv_lmul F.1 F.2.1 dL_now_126 ?_
          refine lv_aload_n F.1 F.2.1 dL_now_127 rfl (lv_at hl 0 rfl) ?_
          refine lv_iload_n F.1 F.2.1 dL_now_128 rfl (lv_at hl 2 rfl) ?_
          refine lv_iconst (v := (1 : Int32)) F.1 F.2.1 dL_now_129 (by decide) ?_
          obtain ⟨r10, hr11, hf⟩ := bnd hf
          refine a_H F hK (fun _ hU hW => sl_U hG hS hU hW) (fun _ h => h) hP hS (c_L_tubeOf hlt v3 (1 : Int32) hr11) (vx_cwSW 3 F.2.2.2.2 gB_now_L_tubeOf rfl rfl rfl hd_L_tubeOf ⟨(Nat.le_of_ble_eq_true rfl), (Nat.le_of_ble_eq_true rfl)⟩) rfl rfl hl.1 (Nat.le_of_ble_eq_true rfl) dL_now_130 ⟨(by show _ ≤ 1203; omega), (by show _ ≤ 7218; omega)⟩ (rest := [.long ((31 : Int64) * w1)]) (fun H locs hP hS _ => ?_)
          refine W.eq (g2 := F0 m 133 ls [.long r10, .long ((31 : Int64) * w1)]) rfl ?_
          refine lv_ladd F.1 F.2.1 dL_now_133 ?_
          refine lv_ldc2 (v := (97 : Int64)) F.1 F.2.1 F.2.2.2.1 (F.2.2.2.2 _ (List.mem_of_getElem? (i := 79) rfl)) dL_now_134 ?_
          refine lv_aload_n F.1 F.2.1 dL_now_137 rfl (lv_at hl 0 rfl) ?_
          refine lv_iload_n F.1 F.2.1 dL_now_138 rfl (lv_at hl 2 rfl) ?_
          refine lv_iconst (v := (2 : Int32)) F.1 F.2.1 dL_now_139 (by decide) ?_
          obtain ⟨r12, hr13, hf⟩ := bnd hf
          refine a_H F hK (fun _ hU hW => sl_U hG hS hU hW) (fun _ h => h) hP hS (c_L_tubeOf hlt v3 (2 : Int32) hr13) (vx_cwSW 3 F.2.2.2.2 gB_now_L_tubeOf rfl rfl rfl hd_L_tubeOf ⟨(Nat.le_of_ble_eq_true rfl), (Nat.le_of_ble_eq_true rfl)⟩) rfl rfl hl.1 (Nat.le_of_ble_eq_true rfl) dL_now_140 ⟨(by show _ ≤ 1203; omega), (by show _ ≤ 7218; omega)⟩ (rest := [.long (97 : Int64), .long (((31 : Int64) * w1) + r10)]) (fun H locs hP hS _ => ?_)
          refine W.eq (g2 := F0 m 143 ls [.long r12, .long (97 : Int64), .long (((31 : Int64) * w1) + r10)]) rfl ?_
          refine lv_lmul F.1 F.2.1 dL_now_143 ?_
          refine lv_ladd F.1 F.2.1 dL_now_144 ?_
          refine lv_lstore_n F.1 F.2.1 dL_now_145 rfl hl (Nat.le_of_ble_eq_true rfl) rfl (fun ls hl => ?_)
          have hl : lv_has ls 5 [(1, .long ((((31 : Int64) * w1) + r10) + ((97 : Int64) * r12))), (0, .ref (x + 0)), (3, .int v3)] := hl
          refine lv_iinc (v := (v3 + (1 : Int32))) F.1 F.2.1 dL_now_146 hl (k := 2) rfl rfl (Nat.le_of_ble_eq_true rfl) rfl (fun ls hl => ?_)
          have hl : lv_has ls 5 [(3, .int (v3 + (1 : Int32))), (1, .long ((((31 : Int64) * w1) + r10) + ((97 : Int64) * r12))), (0, .ref (x + 0))] := hl
          refine lv_goto (tgt := 111) F.1 F.2.1 dL_now_149 rfl ?_
          refine W.widen (k := 3 * (400 + 1 - n)) (n := 18 * (400 + 1 - n)) (by omega) (by omega) ?_
          exact ih.2.2.1 ((((31 : Int64) * w1) + r10) + ((97 : Int64) * r12)) (v3 + (1 : Int32)) _ _ _ (lv_sub hl [2, 1, 0] rfl) hP hS hf
      · intro w1 v3 v4  ls H locs hl hP hS hf
        have hf : fb_L_now_4 μ (fl_L_now μ n) v3 v4 w1 = some r := hf
        unfold fb_L_now_4 at hf
        refine lv_iload F.1 F.2.1 dL_now_46 (lv_at hl 3 rfl) ?_
        refine lv_bipush (v := (9 : Int32)) F.1 F.2.1 dL_now_48 (by decide) ?_
        refine lv_icmp_ge (tgt := 73) F.1 F.2.1 dL_now_50 rfl (fun hc14 => ?_) (fun hc14 => ?_)
        · have hf := ifp hc14 hf
          refine lv_iconst (v := (0 : Int32)) F.1 F.2.1 dL_now_73 (by decide) ?_
          refine lv_istore F.1 F.2.1 dL_now_74 hl (Nat.le_of_ble_eq_true rfl) rfl (fun ls hl => ?_)
          have hl : lv_has ls 5 [(4, .int (0 : Int32)), (0, .ref (x + 0)), (1, .long w1), (3, .int v3)] := hl
          refine W.widen (k := 3 * (400 + 1 - n)) (n := 18 * (400 + 1 - n)) (by omega) (by omega) ?_
          exact ih.2.2.2.2.2.1 w1 v3 (0 : Int32) _ _ _ (lv_sub hl [1, 2, 3, 0] rfl) hP hS hf
        · have hf := ifn hc14 hf
          refine lv_ldc2 (v := (31 : Int64)) F.1 F.2.1 F.2.2.2.1 (F.2.2.2.2 _ (List.mem_of_getElem? (i := 78) rfl)) dL_now_53 ?_
          refine lv_lload_n F.1 F.2.1 dL_now_56 rfl (lv_at hl 1 rfl) ?_
          refine lv_lmul F.1 F.2.1 dL_now_57 ?_
          refine lv_aload_n F.1 F.2.1 dL_now_58 rfl (lv_at hl 0 rfl) ?_
          refine lv_iload_n F.1 F.2.1 dL_now_59 rfl (lv_at hl 2 rfl) ?_
          refine lv_iload F.1 F.2.1 dL_now_60 (lv_at hl 3 rfl) ?_
          obtain ⟨r15, hr16, hf⟩ := bnd hf
          refine a_H F hK (fun _ hU hW => sl_U hG hS hU hW) (fun _ h => h) hP hS (c_L_siteOf hlt v3 v4 hr16) (vx_cwSW 3 F.2.2.2.2 gB_now_L_siteOf rfl rfl rfl hd_L_siteOf ⟨(Nat.le_of_ble_eq_true rfl), (Nat.le_of_ble_eq_true rfl)⟩) rfl rfl hl.1 (Nat.le_of_ble_eq_true rfl) dL_now_62 ⟨(by show _ ≤ 1203; omega), (by show _ ≤ 7218; omega)⟩ (rest := [.long ((31 : Int64) * w1)]) (fun H locs hP hS _ => ?_)
          refine W.eq (g2 := F0 m 65 ls [.long r15, .long ((31 : Int64) * w1)]) rfl ?_
          refine lv_ladd F.1 F.2.1 dL_now_65 ?_
          refine lv_lstore_n F.1 F.2.1 dL_now_66 rfl hl (Nat.le_of_ble_eq_true rfl) rfl (fun ls hl => ?_)
          have hl : lv_has ls 5 [(1, .long (((31 : Int64) * w1) + r15)), (0, .ref (x + 0)), (3, .int v3), (4, .int v4)] := hl
          refine lv_iinc (v := (v4 + (1 : Int32))) F.1 F.2.1 dL_now_67 hl (k := 3) rfl rfl (Nat.le_of_ble_eq_true rfl) rfl (fun ls hl => ?_)
          have hl : lv_has ls 5 [(4, .int (v4 + (1 : Int32))), (1, .long (((31 : Int64) * w1) + r15)), (0, .ref (x + 0)), (3, .int v3)] := hl
          refine lv_goto (tgt := 46) F.1 F.2.1 dL_now_70 rfl ?_
          refine W.widen (k := 3 * (400 + 1 - n)) (n := 18 * (400 + 1 - n)) (by omega) (by omega) ?_
          exact ih.2.2.2.1 (((31 : Int64) * w1) + r15) v3 (v4 + (1 : Int32)) _ _ _ (lv_sub hl [2, 1, 3, 0] rfl) hP hS hf
      · intro w1 v3  ls H locs hl hP hS hf
        have hf : fb_L_now_5 μ (fl_L_now μ n) v3 0 w1 = some r := hf
        unfold fb_L_now_5 at hf
        refine lv_iload_n F.1 F.2.1 dL_now_154 rfl (lv_at hl 2 rfl) ?_
        refine lv_i2l (v := v3.toInt64) F.1 F.2.1 dL_now_155 rfl ?_
        refine lv_aload_n F.1 F.2.1 dL_now_156 rfl (lv_at hl 0 rfl) ?_
        refine lv_iconst (v := (2 : Int32)) F.1 F.2.1 dL_now_157 (by decide) ?_
        obtain ⟨r17, hr18, hf⟩ := bnd hf
        refine a_H F hK (fun _ hU hW => sl_U hG hS hU hW) (fun _ h => h) hP hS (c_L_about hlt (2 : Int32) hr18) (vx_cwSW 2 F.2.2.2.2 gB_now_L_about rfl rfl rfl hd_L_about ⟨(Nat.le_of_ble_eq_true rfl), (Nat.le_of_ble_eq_true rfl)⟩) rfl rfl hl.1 (Nat.le_of_ble_eq_true rfl) dL_now_158 ⟨(by show _ ≤ 1203; omega), (by show _ ≤ 7218; omega)⟩ (rest := [.long v3.toInt64]) (fun H locs hP hS _ => ?_)
        refine W.eq (g2 := F0 m 161 ls [.long r17, .long v3.toInt64]) rfl ?_
        refine W.lcmp F.1 F.2.1 dL_now_161 ?_
        refine lv_if_ge (tgt := 200) F.1 F.2.1 dL_now_162 rfl (fun hc19 => ?_) (fun hc19 => ?_)
        · have hf := ifp hc19 hf
          refine lv_lload_n F.1 F.2.1 dL_now_200 rfl (lv_at hl 1 rfl) ?_
          obtain rfl := Option.some.inj hf
          exact s_lret F hr hlk hP hS rfl (by show _ ≤ 1203; omega) (by show _ ≤ 7218; omega) dL_now_201
        · have hf := ifn hc19 hf
          refine lv_iconst (v := (0 : Int32)) F.1 F.2.1 dL_now_165 (by decide) ?_
          refine lv_istore F.1 F.2.1 dL_now_166 hl (Nat.le_of_ble_eq_true rfl) rfl (fun ls hl => ?_)
          have hl : lv_has ls 5 [(4, .int (0 : Int32)), (0, .ref (x + 0)), (1, .long w1), (3, .int v3)] := hl
          refine W.widen (k := 3 * (400 + 1 - n)) (n := 18 * (400 + 1 - n)) (by omega) (by omega) ?_
          exact ih.2.2.2.2.2.2 w1 v3 (0 : Int32) _ _ _ (lv_sub hl [1, 2, 3, 0] rfl) hP hS hf
      · intro w1 v3 v4  ls H locs hl hP hS hf
        have hf : fb_L_now_6 μ (fl_L_now μ n) v3 v4 w1 = some r := hf
        unfold fb_L_now_6 at hf
        refine lv_iload F.1 F.2.1 dL_now_76 (lv_at hl 3 rfl) ?_
        refine lv_bipush (v := (30 : Int32)) F.1 F.2.1 dL_now_78 (by decide) ?_
        refine lv_icmp_ge (tgt := 103) F.1 F.2.1 dL_now_80 rfl (fun hc20 => ?_) (fun hc20 => ?_)
        · have hf := ifp hc20 hf
          refine lv_iinc (v := (v3 + (1 : Int32))) F.1 F.2.1 dL_now_103 hl (k := 2) rfl rfl (Nat.le_of_ble_eq_true rfl) rfl (fun ls hl => ?_)
          have hl : lv_has ls 5 [(3, .int (v3 + (1 : Int32))), (0, .ref (x + 0)), (1, .long w1), (4, .int v4)] := hl
          refine lv_goto (tgt := 32) F.1 F.2.1 dL_now_106 rfl ?_
          refine W.widen (k := 3 * (400 + 1 - n)) (n := 18 * (400 + 1 - n)) (by omega) (by omega) ?_
          exact ih.2.1 w1 (v3 + (1 : Int32)) _ _ _ (lv_sub hl [1, 2, 0] rfl) hP hS hf
        · have hf := ifn hc20 hf
          refine lv_ldc2 (v := (31 : Int64)) F.1 F.2.1 F.2.2.2.1 (F.2.2.2.2 _ (List.mem_of_getElem? (i := 78) rfl)) dL_now_83 ?_
          refine lv_lload_n F.1 F.2.1 dL_now_86 rfl (lv_at hl 1 rfl) ?_
          refine lv_lmul F.1 F.2.1 dL_now_87 ?_
          refine lv_aload_n F.1 F.2.1 dL_now_88 rfl (lv_at hl 0 rfl) ?_
          refine lv_iload_n F.1 F.2.1 dL_now_89 rfl (lv_at hl 2 rfl) ?_
          refine lv_iload F.1 F.2.1 dL_now_90 (lv_at hl 3 rfl) ?_
          obtain ⟨r21, hr22, hf⟩ := bnd hf
          refine a_H F hK (fun _ hU hW => sl_U hG hS hU hW) (fun _ h => h) hP hS (c_L_since hlt v3 v4 hr22) (vx_cwSW 3 F.2.2.2.2 gB_now_L_since rfl rfl rfl hd_L_since ⟨(Nat.le_of_ble_eq_true rfl), (Nat.le_of_ble_eq_true rfl)⟩) rfl rfl hl.1 (Nat.le_of_ble_eq_true rfl) dL_now_92 ⟨(by show _ ≤ 1203; omega), (by show _ ≤ 7218; omega)⟩ (rest := [.long ((31 : Int64) * w1)]) (fun H locs hP hS _ => ?_)
          refine W.eq (g2 := F0 m 95 ls [.long r21, .long ((31 : Int64) * w1)]) rfl ?_
          refine lv_ladd F.1 F.2.1 dL_now_95 ?_
          refine lv_lstore_n F.1 F.2.1 dL_now_96 rfl hl (Nat.le_of_ble_eq_true rfl) rfl (fun ls hl => ?_)
          have hl : lv_has ls 5 [(1, .long (((31 : Int64) * w1) + r21)), (0, .ref (x + 0)), (3, .int v3), (4, .int v4)] := hl
          refine lv_iinc (v := (v4 + (1 : Int32))) F.1 F.2.1 dL_now_97 hl (k := 3) rfl rfl (Nat.le_of_ble_eq_true rfl) rfl (fun ls hl => ?_)
          have hl : lv_has ls 5 [(4, .int (v4 + (1 : Int32))), (1, .long (((31 : Int64) * w1) + r21)), (0, .ref (x + 0)), (3, .int v3)] := hl
          refine lv_goto (tgt := 76) F.1 F.2.1 dL_now_100 rfl ?_
          refine W.widen (k := 3 * (400 + 1 - n)) (n := 18 * (400 + 1 - n)) (by omega) (by omega) ?_
          exact ih.2.2.2.2.2.1 (((31 : Int64) * w1) + r21) v3 (v4 + (1 : Int32)) _ _ _ (lv_sub hl [2, 1, 3, 0] rfl) hP hS hf
      · intro w1 v3 v4  ls H locs hl hP hS hf
        have hf : fb_L_now_7 μ (fl_L_now μ n) v3 v4 w1 = some r := hf
        unfold fb_L_now_7 at hf
        refine lv_iload F.1 F.2.1 dL_now_168 (lv_at hl 3 rfl) ?_
        refine lv_iconst (v := (5 : Int32)) F.1 F.2.1 dL_now_170 (by decide) ?_
        refine lv_icmp_ge (tgt := 194) F.1 F.2.1 dL_now_171 rfl (fun hc23 => ?_) (fun hc23 => ?_)
        · have hf := ifp hc23 hf
          refine lv_iinc (v := (v3 + (1 : Int32))) F.1 F.2.1 dL_now_194 hl (k := 2) rfl rfl (Nat.le_of_ble_eq_true rfl) rfl (fun ls hl => ?_)
          have hl : lv_has ls 5 [(3, .int (v3 + (1 : Int32))), (0, .ref (x + 0)), (1, .long w1), (4, .int v4)] := hl
          refine lv_goto (tgt := 154) F.1 F.2.1 dL_now_197 rfl ?_
          refine W.widen (k := 3 * (400 + 1 - n)) (n := 18 * (400 + 1 - n)) (by omega) (by omega) ?_
          exact ih.2.2.2.2.1 w1 (v3 + (1 : Int32)) _ _ _ (lv_sub hl [1, 2, 0] rfl) hP hS hf
        · have hf := ifn hc23 hf
          refine lv_ldc2 (v := (31 : Int64)) F.1 F.2.1 F.2.2.2.1 (F.2.2.2.2 _ (List.mem_of_getElem? (i := 78) rfl)) dL_now_174 ?_
          refine lv_lload_n F.1 F.2.1 dL_now_177 rfl (lv_at hl 1 rfl) ?_
          refine lv_lmul F.1 F.2.1 dL_now_178 ?_
          refine lv_aload_n F.1 F.2.1 dL_now_179 rfl (lv_at hl 0 rfl) ?_
          refine lv_iload_n F.1 F.2.1 dL_now_180 rfl (lv_at hl 2 rfl) ?_
          refine lv_iload F.1 F.2.1 dL_now_181 (lv_at hl 3 rfl) ?_
          obtain ⟨r24, hr25, hf⟩ := bnd hf
          refine a_H F hK (fun _ hU hW => sl_U hG hS hU hW) (fun _ h => h) hP hS (c_L_pipeOf hlt v3 v4 hr25) (vx_cwSW 3 F.2.2.2.2 gB_now_L_pipeOf rfl rfl rfl hd_L_pipeOf ⟨(Nat.le_of_ble_eq_true rfl), (Nat.le_of_ble_eq_true rfl)⟩) rfl rfl hl.1 (Nat.le_of_ble_eq_true rfl) dL_now_183 ⟨(by show _ ≤ 1203; omega), (by show _ ≤ 7218; omega)⟩ (rest := [.long ((31 : Int64) * w1)]) (fun H locs hP hS _ => ?_)
          refine W.eq (g2 := F0 m 186 ls [.long r24, .long ((31 : Int64) * w1)]) rfl ?_
          refine lv_ladd F.1 F.2.1 dL_now_186 ?_
          refine lv_lstore_n F.1 F.2.1 dL_now_187 rfl hl (Nat.le_of_ble_eq_true rfl) rfl (fun ls hl => ?_)
          have hl : lv_has ls 5 [(1, .long (((31 : Int64) * w1) + r24)), (0, .ref (x + 0)), (3, .int v3), (4, .int v4)] := hl
          refine lv_iinc (v := (v4 + (1 : Int32))) F.1 F.2.1 dL_now_188 hl (k := 3) rfl rfl (Nat.le_of_ble_eq_true rfl) rfl (fun ls hl => ?_)
          have hl : lv_has ls 5 [(4, .int (v4 + (1 : Int32))), (1, .long (((31 : Int64) * w1) + r24)), (0, .ref (x + 0)), (3, .int v3)] := hl
          refine lv_goto (tgt := 168) F.1 F.2.1 dL_now_191 rfl ?_
          refine W.widen (k := 3 * (400 + 1 - n)) (n := 18 * (400 + 1 - n)) (by omega) (by omega) ?_
          exact ih.2.2.2.2.2.2 (((31 : Int64) * w1) + r24) v3 (v4 + (1 : Int32)) _ _ _ (lv_sub hl [2, 1, 3, 0] rfl) hP hS hf
  intro ls H locs hl hP hS
  have hl : lv_has ls 5 [(0, .ref (x + 0))] := hl
  unfold f_L_now at hf
  refine lv_ldc2 (v := (139 : Int64)) F.1 F.2.1 F.2.2.2.1 (F.2.2.2.2 _ (List.mem_of_getElem? (i := 77) rfl)) dL_now_0 ?_
  refine lv_lstore_n F.1 F.2.1 dL_now_3 rfl hl (Nat.le_of_ble_eq_true rfl) rfl (fun ls hl => ?_)
  have hl : lv_has ls 5 [(1, .long (139 : Int64)), (0, .ref (x + 0))] := hl
  refine lv_iconst (v := (0 : Int32)) F.1 F.2.1 dL_now_4 (by decide) ?_
  refine lv_istore_n F.1 F.2.1 dL_now_5 rfl hl (Nat.le_of_ble_eq_true rfl) rfl (fun ls hl => ?_)
  have hl : lv_has ls 5 [(3, .int (0 : Int32)), (1, .long (139 : Int64)), (0, .ref (x + 0))] := hl
  refine W.widen (k := 3 * (400 + 1 - 400)) (n := 18 * (400 + 1 - 400)) (by omega) (by omega) ?_
  exact (KEY 400 (Nat.le_refl _)).1 (139 : Int64) (0 : Int32) _ _ _ (lv_sub hl [2, 1, 0] rfl) hP hS hf
