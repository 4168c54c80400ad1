-- FrostTubesLaw.kept(LFrostTubes;)Z
def rmL_kept : Room := { frames := 9, cells := 30012, slots := 180072, locals := 152 }
theorem hd_L_kept : yL_kept.cls ≠ "java/lang/invoke/MethodHandle" ∧ yL_kept.cls ≠ "java/lang/invoke/VarHandle" ∧ (parseMethodDescriptor yL_kept.desc).map (fun d => d.parameters.length) = some 1 := by decide +kernel
set_option maxHeartbeats 8000000 in
set_option maxRecDepth 100000 in
theorem c_L_kept {l : Launch} (hlt : l.stackTraces = false) {D : va_G} {x : Nat} {μ : Mem} {r : Int32} (hf : f_L_kept μ = some r) : LC l yL_kept wsB_kept rmL_kept 30012 180072 [.ref (x + 0)] D x μ (some (.int r)) μ := by
  refine LC.of (cc := cL_kept) (maxL := 19) (ret := (some .boolean)) (by decide +kernel) rfl (Nat.le_of_ble_eq_true rfl) ?_
  intro p e s m args below meth c F hr hlk hK hG
  have KEY : ∀ n : Nat, n ≤ 2500 → (∀ (v1 : Int32) (v2 : Int32) (w3 : Int64) (v5 : Int32) (v6 : Int32) (ls : Array Slot) (H : Heap) (locs : List Loc), lv_has ls 19 [(0, .ref (x + 0)), (1, .int v1), (2, .int v2), (3, .long w3), (5, .int v5), (6, .int v6)] → va_P D vwCl (WL D x μ) H → va_S (rng x) s.heap H locs → fl_L_kept μ n 1 0 0 v1 0 0 0 0 v2 v5 v6 0 0 0 0 0 w3 0 0 = some r → W p l e rmL_kept s m args below meth c H locs (12 * (2500 + 1 - n)) (72 * (2500 + 1 - n)) (vx_MQ below (QX D x μ (some (.int r))) XF args s 30012 180072 (rng x)) (F0 m 12 ls [])) ∧ (∀ (v1 : Int32) (v2 : Int32) (w3 : Int64) (v5 : Int32) (v6 : Int32) (ls : Array Slot) (H : Heap) (locs : List Loc), lv_has ls 19 [(0, .ref (x + 0)), (1, .int v1), (2, .int v2), (3, .long w3), (5, .int v5), (6, .int v6)] → va_P D vwCl (WL D x μ) H → va_S (rng x) s.heap H locs → fl_L_kept μ n 2 0 0 v1 0 0 0 0 v2 v5 v6 0 0 0 0 0 w3 0 0 = some r → W p l e rmL_kept s m args below meth c H locs (12 * (2500 + 1 - n)) (72 * (2500 + 1 - n)) (vx_MQ below (QX D x μ (some (.int r))) XF args s 30012 180072 (rng x)) (F0 m 559 ls [])) ∧ (∀ (v1 : Int32) (v2 : Int32) (w3 : Int64) (v5 : Int32) (v6 : Int32) (v7 : Int32) (w8 : Int64) (v10 : Int32) (v11 : Int32) (ls : Array Slot) (H : Heap) (locs : List Loc), lv_has ls 19 [(0, .ref (x + 0)), (1, .int v1), (2, .int v2), (3, .long w3), (5, .int v5), (6, .int v6), (7, .int v7), (8, .long w8), (10, .int v10), (11, .int v11)] → va_P D vwCl (WL D x μ) H → va_S (rng x) s.heap H locs → fl_L_kept μ n 3 0 0 v1 v10 v11 0 0 v2 v5 v6 v7 0 0 0 0 w3 0 w8 = some r → W p l e rmL_kept s m args below meth c H locs (12 * (2500 + 1 - n)) (72 * (2500 + 1 - n)) (vx_MQ below (QX D x μ (some (.int r))) XF args s 30012 180072 (rng x)) (F0 m 48 ls [])) ∧ (∀ (v1 : Int32) (v2 : Int32) (w3 : Int64) (v5 : Int32) (v6 : Int32) (ls : Array Slot) (H : Heap) (locs : List Loc), lv_has ls 19 [(0, .ref (x + 0)), (1, .int v1), (2, .int v2), (3, .long w3), (5, .int v5), (6, .int v6)] → va_P D vwCl (WL D x μ) H → va_S (rng x) s.heap H locs → fl_L_kept μ n 4 0 0 v1 0 0 0 0 v2 v5 v6 0 0 0 0 0 w3 0 0 = some r → W p l e rmL_kept s m args below meth c H locs (12 * (2500 + 1 - n)) (72 * (2500 + 1 - n)) (vx_MQ below (QX D x μ (some (.int r))) XF args s 30012 180072 (rng x)) (F0 m 719 ls [])) ∧ (∀ (v1 : Int32) (v2 : Int32) (w3 : Int64) (v6 : Int32) (v7 : Int32) (t0 : Int32) (ls : Array Slot) (H : Heap) (locs : List Loc), lv_has ls 19 [(0, .ref (x + 0)), (1, .int v1), (2, .int v2), (3, .long w3), (6, .int v6), (7, .int v7)] → va_P D vwCl (WL D x μ) H → va_S (rng x) s.heap H locs → fl_L_kept μ n 5 t0 0 v1 0 0 0 0 v2 0 v6 v7 0 0 0 0 w3 0 0 = some r → W p l e rmL_kept s m args below meth c H locs (12 * (2500 + 1 - n)) (72 * (2500 + 1 - n)) (vx_MQ below (QX D x μ (some (.int r))) XF args s 30012 180072 (rng x)) (F0 m 658 ls [.int t0])) ∧ (∀ (v1 : Int32) (v2 : Int32) (w3 : Int64) (v5 : Int32) (v6 : Int32) (v7 : Int32) (v10 : Int32) (v11 : Int32) (v12 : Int32) (ls : Array Slot) (H : Heap) (locs : List Loc), lv_has ls 19 [(0, .ref (x + 0)), (1, .int v1), (2, .int v2), (3, .long w3), (5, .int v5), (6, .int v6), (7, .int v7), (10, .int v10), (11, .int v11), (12, .int v12)] → va_P D vwCl (WL D x μ) H → va_S (rng x) s.heap H locs → fl_L_kept μ n 6 0 0 v1 v10 v11 v12 0 v2 v5 v6 v7 0 0 0 0 w3 0 0 = some r → W p l e rmL_kept s m args below meth c H locs (12 * (2500 + 1 - n)) (72 * (2500 + 1 - n)) (vx_MQ below (QX D x μ (some (.int r))) XF args s 30012 180072 (rng x)) (F0 m 313 ls [])) ∧ (∀ (v1 : Int32) (v2 : Int32) (w3 : Int64) (v5 : Int32) (v6 : Int32) (v7 : Int32) (v10 : Int32) (v11 : Int32) (w12 : Int64) (w14 : Int64) (w16 : Int64) (v18 : Int32) (ls : Array Slot) (H : Heap) (locs : List Loc), lv_has ls 19 [(0, .ref (x + 0)), (1, .int v1), (2, .int v2), (3, .long w3), (5, .int v5), (6, .int v6), (7, .int v7), (10, .int v10), (11, .int v11), (12, .long w12), (14, .long w14), (16, .long w16), (18, .int v18)] → va_P D vwCl (WL D x μ) H → va_S (rng x) s.heap H locs → fl_L_kept μ n 7 0 0 v1 v10 v11 0 v18 v2 v5 v6 v7 0 w12 w14 w16 w3 0 0 = some r → W p l e rmL_kept s m args below meth c H locs (12 * (2500 + 1 - n)) (72 * (2500 + 1 - n)) (vx_MQ below (QX D x μ (some (.int r))) XF args s 30012 180072 (rng x)) (F0 m 164 ls [])) ∧ (∀ (v1 : Int32) (v2 : Int32) (w3 : Int64) (v6 : Int32) (v7 : Int32) (v10 : Int32) (v11 : Int32) (w12 : Int64) (w14 : Int64) (w16 : Int64) (ls : Array Slot) (H : Heap) (locs : List Loc), lv_has ls 19 [(0, .ref (x + 0)), (1, .int v1), (2, .int v2), (3, .long w3), (6, .int v6), (7, .int v7), (10, .int v10), (11, .int v11), (12, .long w12), (14, .long w14), (16, .long w16)] → va_P D vwCl (WL D x μ) H → va_S (rng x) s.heap H locs → fl_L_kept μ n 8 0 0 v1 v10 v11 0 0 v2 0 v6 v7 0 w12 w14 w16 w3 0 0 = some r → W p l e rmL_kept s m args below meth c H locs (12 * (2500 + 1 - n)) (72 * (2500 + 1 - n)) (vx_MQ below (QX D x μ (some (.int r))) XF args s 30012 180072 (rng x)) (F0 m 116 ls [])) ∧ (∀ (v1 : Int32) (v2 : Int32) (w3 : Int64) (v5 : Int32) (w6 : Int64) (v8 : Int32) (ls : Array Slot) (H : Heap) (locs : List Loc), lv_has ls 19 [(0, .ref (x + 0)), (1, .int v1), (2, .int v2), (3, .long w3), (5, .int v5), (6, .long w6), (8, .int v8)] → va_P D vwCl (WL D x μ) H → va_S (rng x) s.heap H locs → fl_L_kept μ n 9 0 0 v1 0 0 0 0 v2 v5 0 0 v8 0 0 0 w3 w6 0 = some r → W p l e rmL_kept s m args below meth c H locs (12 * (2500 + 1 - n)) (72 * (2500 + 1 - n)) (vx_MQ below (QX D x μ (some (.int r))) XF args s 30012 180072 (rng x)) (F0 m 810 ls [])) ∧ (∀ (v1 : Int32) (v2 : Int32) (w3 : Int64) (v6 : Int32) (t0 : Int32) (t1 : Int32) (ls : Array Slot) (H : Heap) (locs : List Loc), lv_has ls 19 [(0, .ref (x + 0)), (1, .int v1), (2, .int v2), (3, .long w3), (6, .int v6)] → va_P D vwCl (WL D x μ) H → va_S (rng x) s.heap H locs → fl_L_kept μ n 10 t0 t1 v1 0 0 0 0 v2 0 v6 0 0 0 0 0 w3 0 0 = some r → W p l e rmL_kept s m args below meth c H locs (12 * (2500 + 1 - n)) (72 * (2500 + 1 - n)) (vx_MQ below (QX D x μ (some (.int r))) XF args s 30012 180072 (rng x)) (F0 m 682 ls [.int t0, .int t1])) ∧ (∀ (v1 : Int32) (v2 : Int32) (w3 : Int64) (v6 : Int32) (v7 : Int32) (v10 : Int32) (ls : Array Slot) (H : Heap) (locs : List Loc), lv_has ls 19 [(0, .ref (x + 0)), (1, .int v1), (2, .int v2), (3, .long w3), (6, .int v6), (7, .int v7), (10, .int v10)] → va_P D vwCl (WL D x μ) H → va_S (rng x) s.heap H locs → fl_L_kept μ n 11 0 0 v1 v10 0 0 0 v2 0 v6 v7 0 0 0 0 w3 0 0 = some r → W p l e rmL_kept s m args below meth c H locs (12 * (2500 + 1 - n)) (72 * (2500 + 1 - n)) (vx_MQ below (QX D x μ (some (.int r))) XF args s 30012 180072 (rng x)) (F0 m 476 ls [])) ∧ (∀ (v1 : Int32) (v2 : Int32) (w3 : Int64) (v5 : Int32) (v6 : Int32) (v7 : Int32) (v10 : Int32) (v12 : Int32) (t0 : Int32) (t1 : Int32) (ls : Array Slot) (H : Heap) (locs : List Loc), lv_has ls 19 [(0, .ref (x + 0)), (1, .int v1), (2, .int v2), (3, .long w3), (5, .int v5), (6, .int v6), (7, .int v7), (10, .int v10), (12, .int v12)] → va_P D vwCl (WL D x μ) H → va_S (rng x) s.heap H locs → fl_L_kept μ n 12 t0 t1 v1 v10 0 v12 0 v2 v5 v6 v7 0 0 0 0 w3 0 0 = some r → W p l e rmL_kept s m args below meth c H locs (12 * (2500 + 1 - n)) (72 * (2500 + 1 - n)) (vx_MQ below (QX D x μ (some (.int r))) XF args s 30012 180072 (rng x)) (F0 m 342 ls [.int t0, .int t1])) ∧ (∀ (v1 : Int32) (v2 : Int32) (w3 : Int64) (v6 : Int32) (v7 : Int32) (v10 : Int32) (v11 : Int32) (w12 : Int64) (w14 : Int64) (w16 : Int64) (ls : Array Slot) (H : Heap) (locs : List Loc), lv_has ls 19 [(0, .ref (x + 0)), (1, .int v1), (2, .int v2), (3, .long w3), (6, .int v6), (7, .int v7), (10, .int v10), (11, .int v11), (12, .long w12), (14, .long w14), (16, .long w16)] → va_P D vwCl (WL D x μ) H → va_S (rng x) s.heap H locs → fl_L_kept μ n 13 0 0 v1 v10 v11 0 0 v2 0 v6 v7 0 w12 w14 w16 w3 0 0 = some r → W p l e rmL_kept s m args below meth c H locs (12 * (2500 + 1 - n)) (72 * (2500 + 1 - n)) (vx_MQ below (QX D x μ (some (.int r))) XF args s 30012 180072 (rng x)) (F0 m 280 ls [])) ∧ (∀ (v1 : Int32) (v2 : Int32) (w3 : Int64) (v6 : Int32) (v7 : Int32) (v10 : Int32) (v11 : Int32) (w12 : Int64) (w14 : Int64) (w16 : Int64) (ls : Array Slot) (H : Heap) (locs : List Loc), lv_has ls 19 [(0, .ref (x + 0)), (1, .int v1), (2, .int v2), (3, .long w3), (6, .int v6), (7, .int v7), (10, .int v10), (11, .int v11), (12, .long w12), (14, .long w14), (16, .long w16)] → va_P D vwCl (WL D x μ) H → va_S (rng x) s.heap H locs → fl_L_kept μ n 14 0 0 v1 v10 v11 0 0 v2 0 v6 v7 0 w12 w14 w16 w3 0 0 = some r → W p l e rmL_kept s m args below meth c H locs (12 * (2500 + 1 - n)) (72 * (2500 + 1 - n)) (vx_MQ below (QX D x μ (some (.int r))) XF args s 30012 180072 (rng x)) (F0 m 245 ls [])) ∧ (∀ (v1 : Int32) (v2 : Int32) (w3 : Int64) (v6 : Int32) (v7 : Int32) (v10 : Int32) (v11 : Int32) (w12 : Int64) (w14 : Int64) (w16 : Int64) (t0 : Int32) (ls : Array Slot) (H : Heap) (locs : List Loc), lv_has ls 19 [(0, .ref (x + 0)), (1, .int v1), (2, .int v2), (3, .long w3), (6, .int v6), (7, .int v7), (10, .int v10), (11, .int v11), (12, .long w12), (14, .long w14), (16, .long w16)] → va_P D vwCl (WL D x μ) H → va_S (rng x) s.heap H locs → fl_L_kept μ n 15 t0 0 v1 v10 v11 0 0 v2 0 v6 v7 0 w12 w14 w16 w3 0 0 = some r → W p l e rmL_kept s m args below meth c H locs (12 * (2500 + 1 - n)) (72 * (2500 + 1 - n)) (vx_MQ below (QX D x μ (some (.int r))) XF args s 30012 180072 (rng x)) (F0 m 135 ls [.int t0])) ∧ (∀ (v1 : Int32) (v2 : Int32) (w3 : Int64) (v5 : Int32) (ls : Array Slot) (H : Heap) (locs : List Loc), lv_has ls 19 [(0, .ref (x + 0)), (1, .int v1), (2, .int v2), (3, .long w3), (5, .int v5)] → va_P D vwCl (WL D x μ) H → va_S (rng x) s.heap H locs → fl_L_kept μ n 16 0 0 v1 0 0 0 0 v2 v5 0 0 0 0 0 0 w3 0 0 = some r → W p l e rmL_kept s m args below meth c H locs (12 * (2500 + 1 - n)) (72 * (2500 + 1 - n)) (vx_MQ below (QX D x μ (some (.int r))) XF args s 30012 180072 (rng x)) (F0 m 878 ls [])) ∧ (∀ (v1 : Int32) (v2 : Int32) (w3 : Int64) (v6 : Int32) (v7 : Int32) (v10 : Int32) (t0 : Int32) (ls : Array Slot) (H : Heap) (locs : List Loc), lv_has ls 19 [(0, .ref (x + 0)), (1, .int v1), (2, .int v2), (3, .long w3), (6, .int v6), (7, .int v7), (10, .int v10)] → va_P D vwCl (WL D x μ) H → va_S (rng x) s.heap H locs → fl_L_kept μ n 17 t0 0 v1 v10 0 0 0 v2 0 v6 v7 0 0 0 0 w3 0 0 = some r → W p l e rmL_kept s m args below meth c H locs (12 * (2500 + 1 - n)) (72 * (2500 + 1 - n)) (vx_MQ below (QX D x μ (some (.int r))) XF args s 30012 180072 (rng x)) (F0 m 520 ls [.int t0])) ∧ (∀ (v1 : Int32) (v2 : Int32) (w3 : Int64) (v6 : Int32) (v7 : Int32) (v10 : Int32) (v11 : Int32) (w12 : Int64) (w14 : Int64) (w16 : Int64) (ls : Array Slot) (H : Heap) (locs : List Loc), lv_has ls 19 [(0, .ref (x + 0)), (1, .int v1), (2, .int v2), (3, .long w3), (6, .int v6), (7, .int v7), (10, .int v10), (11, .int v11), (12, .long w12), (14, .long w14), (16, .long w16)] → va_P D vwCl (WL D x μ) H → va_S (rng x) s.heap H locs → fl_L_kept μ n 18 0 0 v1 v10 v11 0 0 v2 0 v6 v7 0 w12 w14 w16 w3 0 0 = some r → W p l e rmL_kept s m args below meth c H locs (12 * (2500 + 1 - n)) (72 * (2500 + 1 - n)) (vx_MQ below (QX D x μ (some (.int r))) XF args s 30012 180072 (rng x)) (F0 m 276 ls [])) ∧ (∀ (v1 : Int32) (v2 : Int32) (w3 : Int64) (v6 : Int32) (v7 : Int32) (v10 : Int32) (v11 : Int32) (w12 : Int64) (w14 : Int64) (w16 : Int64) (t0 : Int32) (t1 : Int32) (ls : Array Slot) (H : Heap) (locs : List Loc), lv_has ls 19 [(0, .ref (x + 0)), (1, .int v1), (2, .int v2), (3, .long w3), (6, .int v6), (7, .int v7), (10, .int v10), (11, .int v11), (12, .long w12), (14, .long w14), (16, .long w16)] → va_P D vwCl (WL D x μ) H → va_S (rng x) s.heap H locs → fl_L_kept μ n 19 t0 t1 v1 v10 v11 0 0 v2 0 v6 v7 0 w12 w14 w16 w3 0 0 = some r → W p l e rmL_kept s m args below meth c H locs (12 * (2500 + 1 - n)) (72 * (2500 + 1 - n)) (vx_MQ below (QX D x μ (some (.int r))) XF args s 30012 180072 (rng x)) (F0 m 149 ls [.int t0, .int t1])) ∧ (∀ (v1 : Int32) (v2 : Int32) (w3 : Int64) (v6 : Int32) (v7 : Int32) (v10 : Int32) (t0 : Int32) (t1 : Int32) (ls : Array Slot) (H : Heap) (locs : List Loc), lv_has ls 19 [(0, .ref (x + 0)), (1, .int v1), (2, .int v2), (3, .long w3), (6, .int v6), (7, .int v7), (10, .int v10)] → va_P D vwCl (WL D x μ) H → va_S (rng x) s.heap H locs → fl_L_kept μ n 20 t0 t1 v1 v10 0 0 0 v2 0 v6 v7 0 0 0 0 w3 0 0 = some r → W p l e rmL_kept s m args below meth c H locs (12 * (2500 + 1 - n)) (72 * (2500 + 1 - n)) (vx_MQ below (QX D x μ (some (.int r))) XF args s 30012 180072 (rng x)) (F0 m 530 ls [.int t0, .int t1])) := by
    intro n
    induction n with
    | zero => intro _; exact ⟨(fun _ _ _ _ _ _ _ _ _ _ _ h => nomatch h), (fun _ _ _ _ _ _ _ _ _ _ _ h => nomatch h), (fun _ _ _ _ _ _ _ _ _ _ _ _ _ _ _ h => nomatch h), (fun _ _ _ _ _ _ _ _ _ _ _ h => nomatch h), (fun _ _ _ _ _ _ _ _ _ _ _ _ h => nomatch h), (fun _ _ _ _ _ _ _ _ _ _ _ _ _ _ _ h => nomatch h), (fun _ _ _ _ _ _ _ _ _ _ _ _ _ _ _ _ _ _ h => nomatch h), (fun _ _ _ _ _ _ _ _ _ _ _ _ _ _ _ _ h => nomatch h), (fun _ _ _ _ _ _ _ _ _ _ _ _ h => nomatch h), (fun _ _ _ _ _ _ _ _ _ _ _ _ h => nomatch h), (fun _ _ _ _ _ _ _ _ _ _ _ _ h => nomatch h), (fun _ _ _ _ _ _ _ _ _ _ _ _ _ _ _ _ h => nomatch h), (fun _ _ _ _ _ _ _ _ _ _ _ _ _ _ _ _ h => nomatch h), (fun _ _ _ _ _ _ _ _ _ _ _ _ _ _ _ _ h => nomatch h), (fun _ _ _ _ _ _ _ _ _ _ _ _ _ _ _ _ _ h => nomatch h), (fun _ _ _ _ _ _ _ _ _ _ h => nomatch h), (fun _ _ _ _ _ _ _ _ _ _ _ _ _ h => nomatch h), (fun _ _ _ _ _ _ _ _ _ _ _ _ _ _ _ _ h => nomatch h), (fun _ _ _ _ _ _ _ _ _ _ _ _ _ _ _ _ _ _ h => nomatch h), (fun _ _ _ _ _ _ _ _ _ _ _ _ _ _ h => nomatch h)⟩
    | succ n ih =>
      intro hn
      have ih := ih (by omega)
      refine ⟨?_, ?_, ?_, ?_, ?_, ?_, ?_, ?_, ?_, ?_, ?_, ?_, ?_, ?_, ?_, ?_, ?_, ?_, ?_, ?_⟩
      · intro v1 v2 w3 v5 v6  ls H locs hl hP hS hf
        have hf : fb_L_kept_1 μ (fl_L_kept μ n) 0 0 v1 0 0 0 0 v2 v5 v6 0 0 0 0 0 w3 0 0 = some r := hf
        unfold fb_L_kept_1 at hf
        refine lv_iload F.1 F.2.1 dL_kept_12 (lv_at hl 5 rfl) ?_
        refine lv_i2l (v := v6.toInt64) F.1 F.2.1 dL_kept_14 rfl ?_
        refine lv_aload_n F.1 F.2.1 dL_kept_15 rfl (lv_at hl 0 rfl) ?_
        refine lv_iconst (v := (0 : Int32)) F.1 F.2.1 dL_kept_16 (by decide) ?_
        obtain ⟨r1, hr2, hf⟩ := bnd hf
        refine a_H F hK (fun _ hU hW => sl_U hG hS hU hW) (fun _ h => h) hP hS (c_L_about hlt (0 : Int32) hr2) (vx_cwSW 2 F.2.2.2.2 gB_kept_L_about rfl rfl rfl hd_L_about ⟨(Nat.le_of_ble_eq_true rfl), (Nat.le_of_ble_eq_true rfl)⟩) rfl rfl hl.1 (Nat.le_of_ble_eq_true rfl) dL_kept_17 ⟨(by show _ ≤ 30012; omega), (by show _ ≤ 180072; omega)⟩ (rest := [.long v6.toInt64]) (fun H locs hP hS _ => ?_)
        refine W.eq (g2 := F0 m 20 ls [.long r1, .long v6.toInt64]) rfl ?_
        refine W.lcmp F.1 F.2.1 dL_kept_20 ?_
        refine lv_if_ge (tgt := 556) F.1 F.2.1 dL_kept_21 rfl (fun hc3 => ?_) (fun hc3 => ?_)
        · have hf := ifp hc3 hf
          refine lv_iconst (v := (0 : Int32)) F.1 F.2.1 dL_kept_556 (by decide) ?_
          refine lv_istore F.1 F.2.1 dL_kept_557 hl (Nat.le_of_ble_eq_true rfl) rfl (fun ls hl => ?_)
          have hl : lv_has ls 19 [(6, .int (0 : Int32)), (0, .ref (x + 0)), (1, .int v1), (2, .int v2), (3, .long w3), (5, .int v5)] := hl
          refine W.widen (k := 12 * (2500 + 1 - n)) (n := 72 * (2500 + 1 - n)) (by omega) (by omega) ?_
          exact ih.2.1 v1 v2 w3 v5 (0 : Int32) _ _ _ (lv_sub hl [1, 2, 3, 4, 5, 0] rfl) hP hS hf
        · have hf := ifn hc3 hf
          refine lv_iload F.1 F.2.1 dL_kept_24 (lv_at hl 4 rfl) ?_
          refine lv_if_eq (tgt := 556) F.1 F.2.1 dL_kept_26 rfl (fun hc4 => ?_) (fun hc4 => ?_)
          · have hf := ifp hc4 hf
            refine lv_iconst (v := (0 : Int32)) F.1 F.2.1 dL_kept_556 (by decide) ?_
            refine lv_istore F.1 F.2.1 dL_kept_557 hl (Nat.le_of_ble_eq_true rfl) rfl (fun ls hl => ?_)
            have hl : lv_has ls 19 [(6, .int (0 : Int32)), (0, .ref (x + 0)), (1, .int v1), (2, .int v2), (3, .long w3), (5, .int v5)] := hl
            refine W.widen (k := 12 * (2500 + 1 - n)) (n := 72 * (2500 + 1 - n)) (by omega) (by omega) ?_
            exact ih.2.1 v1 v2 w3 v5 (0 : Int32) _ _ _ (lv_sub hl [1, 2, 3, 4, 5, 0] rfl) hP hS hf
          · have hf := ifn hc4 hf
            refine lv_aload_n F.1 F.2.1 dL_kept_29 rfl (lv_at hl 0 rfl) ?_
            refine lv_iload F.1 F.2.1 dL_kept_30 (lv_at hl 5 rfl) ?_
            refine lv_iconst (v := (0 : Int32)) F.1 F.2.1 dL_kept_32 (by decide) ?_
            obtain ⟨r5, hr6, hf⟩ := bnd hf
            refine a_H F hK (fun _ hU hW => sl_U hG hS hU hW) (fun _ h => h) hP hS (c_L_layers hlt v6 (0 : Int32) hr6) (vx_cwSW 3 F.2.2.2.2 gB_kept_L_layers rfl rfl rfl hd_L_layers ⟨(Nat.le_of_ble_eq_true rfl), (Nat.le_of_ble_eq_true rfl)⟩) rfl rfl hl.1 (Nat.le_of_ble_eq_true rfl) dL_kept_33 ⟨(by show _ ≤ 30012; omega), (by show _ ≤ 180072; omega)⟩ (rest := []) (fun H locs hP hS _ => ?_)
            refine W.eq (g2 := F0 m 36 ls [.long r5]) rfl ?_
            refine lv_l2i (v := r5.toInt32) F.1 F.2.1 dL_kept_36 rfl ?_
            refine lv_istore F.1 F.2.1 dL_kept_37 hl (Nat.le_of_ble_eq_true rfl) rfl (fun ls hl => ?_)
            have hl : lv_has ls 19 [(7, .int r5.toInt32), (0, .ref (x + 0)), (1, .int v1), (2, .int v2), (3, .long w3), (5, .int v5), (6, .int v6)] := hl
            refine lv_lconst (v := (0 : Int64)) F.1 F.2.1 dL_kept_39 rfl ?_
            refine lv_lstore F.1 F.2.1 dL_kept_40 hl (Nat.le_of_ble_eq_true rfl) rfl (fun ls hl => ?_)
            have hl : lv_has ls 19 [(8, .long (0 : Int64)), (7, .int r5.toInt32), (0, .ref (x + 0)), (1, .int v1), (2, .int v2), (3, .long w3), (5, .int v5), (6, .int v6)] := hl
            refine lv_iconst (v := (0 : Int32)) F.1 F.2.1 dL_kept_42 (by decide) ?_
            refine lv_istore F.1 F.2.1 dL_kept_43 hl (Nat.le_of_ble_eq_true rfl) rfl (fun ls hl => ?_)
            have hl : lv_has ls 19 [(10, .int (0 : Int32)), (8, .long (0 : Int64)), (7, .int r5.toInt32), (0, .ref (x + 0)), (1, .int v1), (2, .int v2), (3, .long w3), (5, .int v5), (6, .int v6)] := hl
            refine lv_iconst (v := (0 : Int32)) F.1 F.2.1 dL_kept_45 (by decide) ?_
            refine lv_istore F.1 F.2.1 dL_kept_46 hl (Nat.le_of_ble_eq_true rfl) rfl (fun ls hl => ?_)
            have hl : lv_has ls 19 [(11, .int (0 : Int32)), (10, .int (0 : Int32)), (8, .long (0 : Int64)), (7, .int r5.toInt32), (0, .ref (x + 0)), (1, .int v1), (2, .int v2), (3, .long w3), (5, .int v5), (6, .int v6)] := hl
            refine W.widen (k := 12 * (2500 + 1 - n)) (n := 72 * (2500 + 1 - n)) (by omega) (by omega) ?_
            exact ih.2.2.1 v1 v2 w3 v5 v6 r5.toInt32 (0 : Int64) (0 : Int32) (0 : Int32) _ _ _ (lv_sub hl [4, 5, 6, 7, 8, 9, 3, 2, 1, 0] rfl) hP hS hf
      · intro v1 v2 w3 v5 v6  ls H locs hl hP hS hf
        have hf : fb_L_kept_2 μ (fl_L_kept μ n) 0 0 v1 0 0 0 0 v2 v5 v6 0 0 0 0 0 w3 0 0 = some r := hf
        unfold fb_L_kept_2 at hf
        refine lv_iload F.1 F.2.1 dL_kept_559 (lv_at hl 5 rfl) ?_
        refine lv_i2l (v := v6.toInt64) F.1 F.2.1 dL_kept_561 rfl ?_
        refine lv_aload_n F.1 F.2.1 dL_kept_562 rfl (lv_at hl 0 rfl) ?_
        refine lv_iconst (v := (1 : Int32)) F.1 F.2.1 dL_kept_563 (by decide) ?_
        obtain ⟨r7, hr8, hf⟩ := bnd hf
        refine a_H F hK (fun _ hU hW => sl_U hG hS hU hW) (fun _ h => h) hP hS (c_L_about hlt (1 : Int32) hr8) (vx_cwSW 2 F.2.2.2.2 gB_kept_L_about rfl rfl rfl hd_L_about ⟨(Nat.le_of_ble_eq_true rfl), (Nat.le_of_ble_eq_true rfl)⟩) rfl rfl hl.1 (Nat.le_of_ble_eq_true rfl) dL_kept_564 ⟨(by show _ ≤ 30012; omega), (by show _ ≤ 180072; omega)⟩ (rest := [.long v6.toInt64]) (fun H locs hP hS _ => ?_)
        refine W.eq (g2 := F0 m 567 ls [.long r7, .long v6.toInt64]) rfl ?_
        refine W.lcmp F.1 F.2.1 dL_kept_567 ?_
        refine lv_if_ge (tgt := 716) F.1 F.2.1 dL_kept_568 rfl (fun hc9 => ?_) (fun hc9 => ?_)
        · have hf := ifp hc9 hf
          refine lv_iconst (v := (0 : Int32)) F.1 F.2.1 dL_kept_716 (by decide) ?_
          refine lv_istore F.1 F.2.1 dL_kept_717 hl (Nat.le_of_ble_eq_true rfl) rfl (fun ls hl => ?_)
          have hl : lv_has ls 19 [(6, .int (0 : Int32)), (0, .ref (x + 0)), (1, .int v1), (2, .int v2), (3, .long w3), (5, .int v5)] := hl
          refine W.widen (k := 12 * (2500 + 1 - n)) (n := 72 * (2500 + 1 - n)) (by omega) (by omega) ?_
          exact ih.2.2.2.1 v1 v2 w3 v5 (0 : Int32) _ _ _ (lv_sub hl [1, 2, 3, 4, 5, 0] rfl) hP hS hf
        · have hf := ifn hc9 hf
          refine lv_iload F.1 F.2.1 dL_kept_571 (lv_at hl 4 rfl) ?_
          refine lv_if_eq (tgt := 716) F.1 F.2.1 dL_kept_573 rfl (fun hc10 => ?_) (fun hc10 => ?_)
          · have hf := ifp hc10 hf
            refine lv_iconst (v := (0 : Int32)) F.1 F.2.1 dL_kept_716 (by decide) ?_
            refine lv_istore F.1 F.2.1 dL_kept_717 hl (Nat.le_of_ble_eq_true rfl) rfl (fun ls hl => ?_)
            have hl : lv_has ls 19 [(6, .int (0 : Int32)), (0, .ref (x + 0)), (1, .int v1), (2, .int v2), (3, .long w3), (5, .int v5)] := hl
            refine W.widen (k := 12 * (2500 + 1 - n)) (n := 72 * (2500 + 1 - n)) (by omega) (by omega) ?_
            exact ih.2.2.2.1 v1 v2 w3 v5 (0 : Int32) _ _ _ (lv_sub hl [1, 2, 3, 4, 5, 0] rfl) hP hS hf
          · have hf := ifn hc10 hf
            refine lv_aload_n F.1 F.2.1 dL_kept_576 rfl (lv_at hl 0 rfl) ?_
            refine lv_iload F.1 F.2.1 dL_kept_577 (lv_at hl 5 rfl) ?_
            refine lv_iconst (v := (0 : Int32)) F.1 F.2.1 dL_kept_579 (by decide) ?_
            obtain ⟨r11, hr12, hf⟩ := bnd hf
            refine a_H F hK (fun _ hU hW => sl_U hG hS hU hW) (fun _ h => h) hP hS (c_L_tubeOf hlt v6 (0 : Int32) hr12) (vx_cwSW 3 F.2.2.2.2 gB_kept_L_tubeOf rfl rfl rfl hd_L_tubeOf ⟨(Nat.le_of_ble_eq_true rfl), (Nat.le_of_ble_eq_true rfl)⟩) rfl rfl hl.1 (Nat.le_of_ble_eq_true rfl) dL_kept_580 ⟨(by show _ ≤ 30012; omega), (by show _ ≤ 180072; omega)⟩ (rest := []) (fun H locs hP hS _ => ?_)
            refine W.eq (g2 := F0 m 583 ls [.long r11]) rfl ?_
            refine lv_l2i (v := r11.toInt32) F.1 F.2.1 dL_kept_583 rfl ?_
            refine lv_istore F.1 F.2.1 dL_kept_584 hl (Nat.le_of_ble_eq_true rfl) rfl (fun ls hl => ?_)
            have hl : lv_has ls 19 [(7, .int r11.toInt32), (0, .ref (x + 0)), (1, .int v1), (2, .int v2), (3, .long w3), (5, .int v5), (6, .int v6)] := hl
            refine lv_aload_n F.1 F.2.1 dL_kept_586 rfl (lv_at hl 1 rfl) ?_
            refine lv_iload F.1 F.2.1 dL_kept_587 (lv_at hl 6 rfl) ?_
            refine lv_iconst (v := (2 : Int32)) F.1 F.2.1 dL_kept_589 (by decide) ?_
            obtain ⟨r13, hr14, hf⟩ := bnd hf
            refine a_H F hK (fun _ hU hW => sl_U hG hS hU hW) (fun _ h => h) hP hS (c_L_tubeOf hlt v6 (2 : Int32) hr14) (vx_cwSW 3 F.2.2.2.2 gB_kept_L_tubeOf rfl rfl rfl hd_L_tubeOf ⟨(Nat.le_of_ble_eq_true rfl), (Nat.le_of_ble_eq_true rfl)⟩) rfl rfl hl.1 (Nat.le_of_ble_eq_true rfl) dL_kept_590 ⟨(by show _ ≤ 30012; omega), (by show _ ≤ 180072; omega)⟩ (rest := []) (fun H locs hP hS _ => ?_)
            refine W.eq (g2 := F0 m 593 ls [.long r13]) rfl ?_
            refine lv_aload_n F.1 F.2.1 dL_kept_593 rfl (lv_at hl 1 rfl) ?_
            refine lv_iload F.1 F.2.1 dL_kept_594 (lv_at hl 6 rfl) ?_
            refine lv_iconst (v := (1 : Int32)) F.1 F.2.1 dL_kept_596 (by decide) ?_
            obtain ⟨r15, hr16, hf⟩ := bnd hf
            refine a_H F hK (fun _ hU hW => sl_U hG hS hU hW) (fun _ h => h) hP hS (c_L_tubeOf hlt v6 (1 : Int32) hr16) (vx_cwSW 3 F.2.2.2.2 gB_kept_L_tubeOf rfl rfl rfl hd_L_tubeOf ⟨(Nat.le_of_ble_eq_true rfl), (Nat.le_of_ble_eq_true rfl)⟩) rfl rfl hl.1 (Nat.le_of_ble_eq_true rfl) dL_kept_597 ⟨(by show _ ≤ 30012; omega), (by show _ ≤ 180072; omega)⟩ (rest := [.long r13]) (fun H locs hP hS _ => ?_)
            refine W.eq (g2 := F0 m 600 ls [.long r15, .long r13]) rfl ?_
            refine W.lcmp F.1 F.2.1 dL_kept_600 ?_
            refine lv_if_gt (tgt := 707) F.1 F.2.1 dL_kept_601 rfl (fun hc17 => ?_) (fun hc17 => ?_)
            · have hf := ifp hc17 hf
              refine lv_iconst (v := (0 : Int32)) F.1 F.2.1 dL_kept_707 (by decide) ?_
              refine lv_istore F.1 F.2.1 dL_kept_708 hl (Nat.le_of_ble_eq_true rfl) rfl (fun ls hl => ?_)
              have hl : lv_has ls 19 [(5, .int (0 : Int32)), (7, .int r11.toInt32), (0, .ref (x + 0)), (1, .int v1), (2, .int v2), (3, .long w3), (6, .int v6)] := hl
              refine lv_iinc (v := (v6 + (1 : Int32))) F.1 F.2.1 dL_kept_710 hl (k := 6) rfl rfl (Nat.le_of_ble_eq_true rfl) rfl (fun ls hl => ?_)
              have hl : lv_has ls 19 [(6, .int (v6 + (1 : Int32))), (5, .int (0 : Int32)), (7, .int r11.toInt32), (0, .ref (x + 0)), (1, .int v1), (2, .int v2), (3, .long w3)] := hl
              refine lv_goto (tgt := 559) F.1 F.2.1 dL_kept_713 rfl ?_
              refine W.widen (k := 12 * (2500 + 1 - n)) (n := 72 * (2500 + 1 - n)) (by omega) (by omega) ?_
              exact ih.2.1 v1 v2 w3 (0 : Int32) (v6 + (1 : Int32)) _ _ _ (lv_sub hl [3, 4, 5, 6, 1, 0] rfl) hP hS hf
            · have hf := ifn hc17 hf
              refine lv_aload_n F.1 F.2.1 dL_kept_604 rfl (lv_at hl 1 rfl) ?_
              refine lv_iload F.1 F.2.1 dL_kept_605 (lv_at hl 6 rfl) ?_
              refine lv_iconst (v := (2 : Int32)) F.1 F.2.1 dL_kept_607 (by decide) ?_
              obtain ⟨r18, hr19, hf⟩ := bnd hf
              refine a_H F hK (fun _ hU hW => sl_U hG hS hU hW) (fun _ h => h) hP hS (c_L_tubeOf hlt v6 (2 : Int32) hr19) (vx_cwSW 3 F.2.2.2.2 gB_kept_L_tubeOf rfl rfl rfl hd_L_tubeOf ⟨(Nat.le_of_ble_eq_true rfl), (Nat.le_of_ble_eq_true rfl)⟩) rfl rfl hl.1 (Nat.le_of_ble_eq_true rfl) dL_kept_608 ⟨(by show _ ≤ 30012; omega), (by show _ ≤ 180072; omega)⟩ (rest := []) (fun H locs hP hS _ => ?_)
              refine W.eq (g2 := F0 m 611 ls [.long r18]) rfl ?_
              refine lv_aload_n F.1 F.2.1 dL_kept_611 rfl (lv_at hl 1 rfl) ?_
              refine lv_iload F.1 F.2.1 dL_kept_612 (lv_at hl 0 rfl) ?_
              refine lv_iconst (v := (5 : Int32)) F.1 F.2.1 dL_kept_614 (by decide) ?_
              obtain ⟨r20, hr21, hf⟩ := bnd hf
              refine a_H F hK (fun _ hU hW => sl_U hG hS hU hW) (fun _ h => h) hP hS (c_L_siteOf hlt r11.toInt32 (5 : Int32) hr21) (vx_cwSW 3 F.2.2.2.2 gB_kept_L_siteOf rfl rfl rfl hd_L_siteOf ⟨(Nat.le_of_ble_eq_true rfl), (Nat.le_of_ble_eq_true rfl)⟩) rfl rfl hl.1 (Nat.le_of_ble_eq_true rfl) dL_kept_615 ⟨(by show _ ≤ 30012; omega), (by show _ ≤ 180072; omega)⟩ (rest := [.long r18]) (fun H locs hP hS _ => ?_)
              refine W.eq (g2 := F0 m 618 ls [.long r20, .long r18]) rfl ?_
              refine W.lcmp F.1 F.2.1 dL_kept_618 ?_
              refine lv_if_gt (tgt := 707) F.1 F.2.1 dL_kept_619 rfl (fun hc22 => ?_) (fun hc22 => ?_)
              · have hf := ifp hc22 hf
                refine lv_iconst (v := (0 : Int32)) F.1 F.2.1 dL_kept_707 (by decide) ?_
                refine lv_istore F.1 F.2.1 dL_kept_708 hl (Nat.le_of_ble_eq_true rfl) rfl (fun ls hl => ?_)
                have hl : lv_has ls 19 [(5, .int (0 : Int32)), (7, .int r11.toInt32), (0, .ref (x + 0)), (1, .int v1), (2, .int v2), (3, .long w3), (6, .int v6)] := hl
                refine lv_iinc (v := (v6 + (1 : Int32))) F.1 F.2.1 dL_kept_710 hl (k := 6) rfl rfl (Nat.le_of_ble_eq_true rfl) rfl (fun ls hl => ?_)
                have hl : lv_has ls 19 [(6, .int (v6 + (1 : Int32))), (5, .int (0 : Int32)), (7, .int r11.toInt32), (0, .ref (x + 0)), (1, .int v1), (2, .int v2), (3, .long w3)] := hl
                refine lv_goto (tgt := 559) F.1 F.2.1 dL_kept_713 rfl ?_
                refine W.widen (k := 12 * (2500 + 1 - n)) (n := 72 * (2500 + 1 - n)) (by omega) (by omega) ?_
                exact ih.2.1 v1 v2 w3 (0 : Int32) (v6 + (1 : Int32)) _ _ _ (lv_sub hl [3, 4, 5, 6, 1, 0] rfl) hP hS hf
              · have hf := ifn hc22 hf
                refine lv_aload_n F.1 F.2.1 dL_kept_622 rfl (lv_at hl 1 rfl) ?_
                refine lv_iload F.1 F.2.1 dL_kept_623 (lv_at hl 6 rfl) ?_
                refine lv_iconst (v := (3 : Int32)) F.1 F.2.1 dL_kept_625 (by decide) ?_
                obtain ⟨r23, hr24, hf⟩ := bnd hf
                refine a_H F hK (fun _ hU hW => sl_U hG hS hU hW) (fun _ h => h) hP hS (c_L_tubeOf hlt v6 (3 : Int32) hr24) (vx_cwSW 3 F.2.2.2.2 gB_kept_L_tubeOf rfl rfl rfl hd_L_tubeOf ⟨(Nat.le_of_ble_eq_true rfl), (Nat.le_of_ble_eq_true rfl)⟩) rfl rfl hl.1 (Nat.le_of_ble_eq_true rfl) dL_kept_626 ⟨(by show _ ≤ 30012; omega), (by show _ ≤ 180072; omega)⟩ (rest := []) (fun H locs hP hS _ => ?_)
                refine W.eq (g2 := F0 m 629 ls [.long r23]) rfl ?_
                refine lv_aload_n F.1 F.2.1 dL_kept_629 rfl (lv_at hl 1 rfl) ?_
                refine lv_iload F.1 F.2.1 dL_kept_630 (lv_at hl 0 rfl) ?_
                refine lv_bipush (v := (6 : Int32)) F.1 F.2.1 dL_kept_632 (by decide) ?_
                obtain ⟨r25, hr26, hf⟩ := bnd hf
                refine a_H F hK (fun _ hU hW => sl_U hG hS hU hW) (fun _ h => h) hP hS (c_L_siteOf hlt r11.toInt32 (6 : Int32) hr26) (vx_cwSW 3 F.2.2.2.2 gB_kept_L_siteOf rfl rfl rfl hd_L_siteOf ⟨(Nat.le_of_ble_eq_true rfl), (Nat.le_of_ble_eq_true rfl)⟩) rfl rfl hl.1 (Nat.le_of_ble_eq_true rfl) dL_kept_634 ⟨(by show _ ≤ 30012; omega), (by show _ ≤ 180072; omega)⟩ (rest := [.long r23]) (fun H locs hP hS _ => ?_)
                refine W.eq (g2 := F0 m 637 ls [.long r25, .long r23]) rfl ?_
                refine W.lcmp F.1 F.2.1 dL_kept_637 ?_
                refine lv_if_gt (tgt := 707) F.1 F.2.1 dL_kept_638 rfl (fun hc27 => ?_) (fun hc27 => ?_)
                · have hf := ifp hc27 hf
                  refine lv_iconst (v := (0 : Int32)) F.1 F.2.1 dL_kept_707 (by decide) ?_
                  refine lv_istore F.1 F.2.1 dL_kept_708 hl (Nat.le_of_ble_eq_true rfl) rfl (fun ls hl => ?_)
                  have hl : lv_has ls 19 [(5, .int (0 : Int32)), (7, .int r11.toInt32), (0, .ref (x + 0)), (1, .int v1), (2, .int v2), (3, .long w3), (6, .int v6)] := hl
                  refine lv_iinc (v := (v6 + (1 : Int32))) F.1 F.2.1 dL_kept_710 hl (k := 6) rfl rfl (Nat.le_of_ble_eq_true rfl) rfl (fun ls hl => ?_)
                  have hl : lv_has ls 19 [(6, .int (v6 + (1 : Int32))), (5, .int (0 : Int32)), (7, .int r11.toInt32), (0, .ref (x + 0)), (1, .int v1), (2, .int v2), (3, .long w3)] := hl
                  refine lv_goto (tgt := 559) F.1 F.2.1 dL_kept_713 rfl ?_
                  refine W.widen (k := 12 * (2500 + 1 - n)) (n := 72 * (2500 + 1 - n)) (by omega) (by omega) ?_
                  exact ih.2.1 v1 v2 w3 (0 : Int32) (v6 + (1 : Int32)) _ _ _ (lv_sub hl [3, 4, 5, 6, 1, 0] rfl) hP hS hf
                · have hf := ifn hc27 hf
                  refine lv_aload_n F.1 F.2.1 dL_kept_641 rfl (lv_at hl 1 rfl) ?_
                  refine lv_iload F.1 F.2.1 dL_kept_642 (lv_at hl 6 rfl) ?_
                  refine lv_iconst (v := (5 : Int32)) F.1 F.2.1 dL_kept_644 (by decide) ?_
                  obtain ⟨r28, hr29, hf⟩ := bnd hf
                  refine a_H F hK (fun _ hU hW => sl_U hG hS hU hW) (fun _ h => h) hP hS (c_L_tubeOf hlt v6 (5 : Int32) hr29) (vx_cwSW 3 F.2.2.2.2 gB_kept_L_tubeOf rfl rfl rfl hd_L_tubeOf ⟨(Nat.le_of_ble_eq_true rfl), (Nat.le_of_ble_eq_true rfl)⟩) rfl rfl hl.1 (Nat.le_of_ble_eq_true rfl) dL_kept_645 ⟨(by show _ ≤ 30012; omega), (by show _ ≤ 180072; omega)⟩ (rest := []) (fun H locs hP hS _ => ?_)
                  refine W.eq (g2 := F0 m 648 ls [.long r28]) rfl ?_
                  refine lv_lconst (v := (1 : Int64)) F.1 F.2.1 dL_kept_648 rfl ?_
                  refine W.lcmp F.1 F.2.1 dL_kept_649 ?_
                  refine lv_if_ne (tgt := 657) F.1 F.2.1 dL_kept_650 rfl (fun hc30 => ?_) (fun hc30 => ?_)
                  · have hf := ifn hc30 hf
                    refine lv_iconst (v := (0 : Int32)) F.1 F.2.1 dL_kept_657 (by decide) ?_
                    refine W.widen (k := 12 * (2500 + 1 - n)) (n := 72 * (2500 + 1 - n)) (by omega) (by omega) ?_
                    exact ih.2.2.2.2.1 v1 v2 w3 v6 r11.toInt32 (0 : Int32) _ _ _ (lv_sub hl [1, 2, 3, 4, 6, 0] rfl) hP hS hf
                  · have hf := ifp hc30 hf
                    refine lv_iconst (v := (1 : Int32)) F.1 F.2.1 dL_kept_653 (by decide) ?_
                    refine lv_goto (tgt := 658) F.1 F.2.1 dL_kept_654 rfl ?_
                    refine W.widen (k := 12 * (2500 + 1 - n)) (n := 72 * (2500 + 1 - n)) (by omega) (by omega) ?_
                    exact ih.2.2.2.2.1 v1 v2 w3 v6 r11.toInt32 (1 : Int32) _ _ _ (lv_sub hl [1, 2, 3, 4, 6, 0] rfl) hP hS hf
      · intro v1 v2 w3 v5 v6 v7 w8 v10 v11  ls H locs hl hP hS hf
        have hf : fb_L_kept_3 μ (fl_L_kept μ n) 0 0 v1 v10 v11 0 0 v2 v5 v6 v7 0 0 0 0 w3 0 w8 = some r := hf
        unfold fb_L_kept_3 at hf
        refine lv_iload F.1 F.2.1 dL_kept_48 (lv_at hl 9 rfl) ?_
        refine lv_iload F.1 F.2.1 dL_kept_50 (lv_at hl 6 rfl) ?_
        refine lv_icmp_ge (tgt := 307) F.1 F.2.1 dL_kept_52 rfl (fun hc31 => ?_) (fun hc31 => ?_)
        · have hf := ifp hc31 hf
          refine lv_iconst (v := (0 : Int32)) F.1 F.2.1 dL_kept_307 (by decide) ?_
          refine lv_istore F.1 F.2.1 dL_kept_308 hl (Nat.le_of_ble_eq_true rfl) rfl (fun ls hl => ?_)
          have hl : lv_has ls 19 [(11, .int (0 : Int32)), (0, .ref (x + 0)), (1, .int v1), (2, .int v2), (3, .long w3), (5, .int v5), (6, .int v6), (7, .int v7), (8, .long w8), (10, .int v10)] := hl
          refine lv_iconst (v := (0 : Int32)) F.1 F.2.1 dL_kept_310 (by decide) ?_
          refine lv_istore F.1 F.2.1 dL_kept_311 hl (Nat.le_of_ble_eq_true rfl) rfl (fun ls hl => ?_)
          have hl : lv_has ls 19 [(12, .int (0 : Int32)), (11, .int (0 : Int32)), (0, .ref (x + 0)), (1, .int v1), (2, .int v2), (3, .long w3), (5, .int v5), (6, .int v6), (7, .int v7), (8, .long w8), (10, .int v10)] := hl
          refine W.widen (k := 12 * (2500 + 1 - n)) (n := 72 * (2500 + 1 - n)) (by omega) (by omega) ?_
          exact ih.2.2.2.2.2.1 v1 v2 w3 v5 v6 v7 v10 (0 : Int32) (0 : Int32) _ _ _ (lv_sub hl [2, 3, 4, 5, 6, 7, 8, 10, 1, 0] rfl) hP hS hf
        · have hf := ifn hc31 hf
          refine lv_iload F.1 F.2.1 dL_kept_55 (lv_at hl 4 rfl) ?_
          refine lv_if_eq (tgt := 307) F.1 F.2.1 dL_kept_57 rfl (fun hc32 => ?_) (fun hc32 => ?_)
          · have hf := ifp hc32 hf
            refine lv_iconst (v := (0 : Int32)) F.1 F.2.1 dL_kept_307 (by decide) ?_
            refine lv_istore F.1 F.2.1 dL_kept_308 hl (Nat.le_of_ble_eq_true rfl) rfl (fun ls hl => ?_)
            have hl : lv_has ls 19 [(11, .int (0 : Int32)), (0, .ref (x + 0)), (1, .int v1), (2, .int v2), (3, .long w3), (5, .int v5), (6, .int v6), (7, .int v7), (8, .long w8), (10, .int v10)] := hl
            refine lv_iconst (v := (0 : Int32)) F.1 F.2.1 dL_kept_310 (by decide) ?_
            refine lv_istore F.1 F.2.1 dL_kept_311 hl (Nat.le_of_ble_eq_true rfl) rfl (fun ls hl => ?_)
            have hl : lv_has ls 19 [(12, .int (0 : Int32)), (11, .int (0 : Int32)), (0, .ref (x + 0)), (1, .int v1), (2, .int v2), (3, .long w3), (5, .int v5), (6, .int v6), (7, .int v7), (8, .long w8), (10, .int v10)] := hl
            refine W.widen (k := 12 * (2500 + 1 - n)) (n := 72 * (2500 + 1 - n)) (by omega) (by omega) ?_
            exact ih.2.2.2.2.2.1 v1 v2 w3 v5 v6 v7 v10 (0 : Int32) (0 : Int32) _ _ _ (lv_sub hl [2, 3, 4, 5, 6, 7, 8, 10, 1, 0] rfl) hP hS hf
          · have hf := ifn hc32 hf
            refine lv_aload_n F.1 F.2.1 dL_kept_60 rfl (lv_at hl 0 rfl) ?_
            refine lv_iload F.1 F.2.1 dL_kept_61 (lv_at hl 5 rfl) ?_
            refine lv_iload F.1 F.2.1 dL_kept_63 (lv_at hl 9 rfl) ?_
            refine lv_iconst (v := (0 : Int32)) F.1 F.2.1 dL_kept_65 (by decide) ?_
            obtain ⟨r33, hr34, hf⟩ := bnd hf
            refine a_H F hK (fun _ hU hW => sl_U hG hS hU hW) (fun _ h => h) hP hS (c_L_layerOf hlt v6 v11 (0 : Int32) hr34) (vx_cwSW 4 F.2.2.2.2 gB_kept_L_layerOf rfl rfl rfl hd_L_layerOf ⟨(Nat.le_of_ble_eq_true rfl), (Nat.le_of_ble_eq_true rfl)⟩) rfl rfl hl.1 (Nat.le_of_ble_eq_true rfl) dL_kept_66 ⟨(by show _ ≤ 30012; omega), (by show _ ≤ 180072; omega)⟩ (rest := []) (fun H locs hP hS _ => ?_)
            refine W.eq (g2 := F0 m 69 ls [.long r33]) rfl ?_
            refine lv_lstore F.1 F.2.1 dL_kept_69 hl (Nat.le_of_ble_eq_true rfl) rfl (fun ls hl => ?_)
            have hl : lv_has ls 19 [(12, .long r33), (0, .ref (x + 0)), (1, .int v1), (2, .int v2), (3, .long w3), (5, .int v5), (6, .int v6), (7, .int v7), (8, .long w8), (10, .int v10), (11, .int v11)] := hl
            refine lv_aload_n F.1 F.2.1 dL_kept_71 rfl (lv_at hl 1 rfl) ?_
            refine lv_iload F.1 F.2.1 dL_kept_72 (lv_at hl 6 rfl) ?_
            refine lv_iload F.1 F.2.1 dL_kept_74 (lv_at hl 10 rfl) ?_
            refine lv_iconst (v := (1 : Int32)) F.1 F.2.1 dL_kept_76 (by decide) ?_
            obtain ⟨r35, hr36, hf⟩ := bnd hf
            refine a_H F hK (fun _ hU hW => sl_U hG hS hU hW) (fun _ h => h) hP hS (c_L_layerOf hlt v6 v11 (1 : Int32) hr36) (vx_cwSW 4 F.2.2.2.2 gB_kept_L_layerOf rfl rfl rfl hd_L_layerOf ⟨(Nat.le_of_ble_eq_true rfl), (Nat.le_of_ble_eq_true rfl)⟩) rfl rfl hl.1 (Nat.le_of_ble_eq_true rfl) dL_kept_77 ⟨(by show _ ≤ 30012; omega), (by show _ ≤ 180072; omega)⟩ (rest := []) (fun H locs hP hS _ => ?_)
            refine W.eq (g2 := F0 m 80 ls [.long r35]) rfl ?_
            refine lv_lstore F.1 F.2.1 dL_kept_80 hl (Nat.le_of_ble_eq_true rfl) rfl (fun ls hl => ?_)
            have hl : lv_has ls 19 [(14, .long r35), (12, .long r33), (0, .ref (x + 0)), (1, .int v1), (2, .int v2), (3, .long w3), (5, .int v5), (6, .int v6), (7, .int v7), (8, .long w8), (10, .int v10), (11, .int v11)] := hl
            refine lv_aload_n F.1 F.2.1 dL_kept_82 rfl (lv_at hl 2 rfl) ?_
            refine lv_iload F.1 F.2.1 dL_kept_83 (lv_at hl 7 rfl) ?_
            refine lv_iload F.1 F.2.1 dL_kept_85 (lv_at hl 11 rfl) ?_
            refine lv_iconst (v := (2 : Int32)) F.1 F.2.1 dL_kept_87 (by decide) ?_
            obtain ⟨r37, hr38, hf⟩ := bnd hf
            refine a_H F hK (fun _ hU hW => sl_U hG hS hU hW) (fun _ h => h) hP hS (c_L_layerOf hlt v6 v11 (2 : Int32) hr38) (vx_cwSW 4 F.2.2.2.2 gB_kept_L_layerOf rfl rfl rfl hd_L_layerOf ⟨(Nat.le_of_ble_eq_true rfl), (Nat.le_of_ble_eq_true rfl)⟩) rfl rfl hl.1 (Nat.le_of_ble_eq_true rfl) dL_kept_88 ⟨(by show _ ≤ 30012; omega), (by show _ ≤ 180072; omega)⟩ (rest := []) (fun H locs hP hS _ => ?_)
            refine W.eq (g2 := F0 m 91 ls [.long r37]) rfl ?_
            refine lv_lstore F.1 F.2.1 dL_kept_91 hl (Nat.le_of_ble_eq_true rfl) rfl (fun ls hl => ?_)
            have hl : lv_has ls 19 [(16, .long r37), (14, .long r35), (12, .long r33), (0, .ref (x + 0)), (1, .int v1), (2, .int v2), (3, .long w3), (5, .int v5), (6, .int v6), (7, .int v7), (8, .long w8), (10, .int v10), (11, .int v11)] := hl
            refine lv_iload F.1 F.2.1 dL_kept_93 (lv_at hl 12 rfl) ?_
            refine lv_if_ne (tgt := 108) F.1 F.2.1 dL_kept_95 rfl (fun hc39 => ?_) (fun hc39 => ?_)
            · have hf := ifn hc39 hf
              refine lv_lload F.1 F.2.1 dL_kept_108 (lv_at hl 2 rfl) ?_
              refine lv_lload F.1 F.2.1 dL_kept_110 (lv_at hl 10 rfl) ?_
              refine W.lcmp F.1 F.2.1 dL_kept_112 ?_
              refine lv_if_ne (tgt := 156) F.1 F.2.1 dL_kept_113 rfl (fun hc40 => ?_) (fun hc40 => ?_)
              · have hf := ifn hc40 hf
                refine lv_iconst (v := (0 : Int32)) F.1 F.2.1 dL_kept_156 (by decide) ?_
                refine lv_istore F.1 F.2.1 dL_kept_157 hl (Nat.le_of_ble_eq_true rfl) rfl (fun ls hl => ?_)
                have hl : lv_has ls 19 [(5, .int (0 : Int32)), (16, .long r37), (14, .long r35), (12, .long r33), (0, .ref (x + 0)), (1, .int v1), (2, .int v2), (3, .long w3), (6, .int v6), (7, .int v7), (8, .long w8), (10, .int v10), (11, .int v11)] := hl
                refine lv_lload F.1 F.2.1 dL_kept_159 (lv_at hl 3 rfl) ?_
                refine lv_l2i (v := r33.toInt32) F.1 F.2.1 dL_kept_161 rfl ?_
                refine lv_istore F.1 F.2.1 dL_kept_162 hl (Nat.le_of_ble_eq_true rfl) rfl (fun ls hl => ?_)
                have hl : lv_has ls 19 [(18, .int r33.toInt32), (5, .int (0 : Int32)), (16, .long r37), (14, .long r35), (12, .long r33), (0, .ref (x + 0)), (1, .int v1), (2, .int v2), (3, .long w3), (6, .int v6), (7, .int v7), (8, .long w8), (10, .int v10), (11, .int v11)] := hl
                refine W.widen (k := 12 * (2500 + 1 - n)) (n := 72 * (2500 + 1 - n)) (by omega) (by omega) ?_
                exact ih.2.2.2.2.2.2.1 v1 v2 w3 (0 : Int32) v6 v7 v10 v11 r33 r35 r37 r33.toInt32 _ _ _ (lv_sub hl [5, 6, 7, 8, 1, 9, 10, 12, 13, 4, 3, 2, 0] rfl) hP hS hf
              · have hf := ifp hc40 hf
                refine W.widen (k := 12 * (2500 + 1 - n)) (n := 72 * (2500 + 1 - n)) (by omega) (by omega) ?_
                exact ih.2.2.2.2.2.2.2.1 v1 v2 w3 v6 v7 v10 v11 r33 r35 r37 _ _ _ (lv_sub hl [3, 4, 5, 6, 8, 9, 11, 12, 2, 1, 0] rfl) hP hS hf
            · have hf := ifp hc39 hf
              refine lv_lload F.1 F.2.1 dL_kept_98 (lv_at hl 2 rfl) ?_
              refine lv_lconst (v := (0 : Int64)) F.1 F.2.1 dL_kept_100 rfl ?_
              refine W.lcmp F.1 F.2.1 dL_kept_101 ?_
              refine lv_if_lt (tgt := 156) F.1 F.2.1 dL_kept_102 rfl (fun hc41 => ?_) (fun hc41 => ?_)
              · have hf := ifp hc41 hf
                refine lv_iconst (v := (0 : Int32)) F.1 F.2.1 dL_kept_156 (by decide) ?_
                refine lv_istore F.1 F.2.1 dL_kept_157 hl (Nat.le_of_ble_eq_true rfl) rfl (fun ls hl => ?_)
                have hl : lv_has ls 19 [(5, .int (0 : Int32)), (16, .long r37), (14, .long r35), (12, .long r33), (0, .ref (x + 0)), (1, .int v1), (2, .int v2), (3, .long w3), (6, .int v6), (7, .int v7), (8, .long w8), (10, .int v10), (11, .int v11)] := hl
                refine lv_lload F.1 F.2.1 dL_kept_159 (lv_at hl 3 rfl) ?_
                refine lv_l2i (v := r33.toInt32) F.1 F.2.1 dL_kept_161 rfl ?_
                refine lv_istore F.1 F.2.1 dL_kept_162 hl (Nat.le_of_ble_eq_true rfl) rfl (fun ls hl => ?_)
                have hl : lv_has ls 19 [(18, .int r33.toInt32), (5, .int (0 : Int32)), (16, .long r37), (14, .long r35), (12, .long r33), (0, .ref (x + 0)), (1, .int v1), (2, .int v2), (3, .long w3), (6, .int v6), (7, .int v7), (8, .long w8), (10, .int v10), (11, .int v11)] := hl
                refine W.widen (k := 12 * (2500 + 1 - n)) (n := 72 * (2500 + 1 - n)) (by omega) (by omega) ?_
                exact ih.2.2.2.2.2.2.1 v1 v2 w3 (0 : Int32) v6 v7 v10 v11 r33 r35 r37 r33.toInt32 _ _ _ (lv_sub hl [5, 6, 7, 8, 1, 9, 10, 12, 13, 4, 3, 2, 0] rfl) hP hS hf
              · have hf := ifn hc41 hf
                refine lv_goto (tgt := 116) F.1 F.2.1 dL_kept_105 rfl ?_
                refine W.widen (k := 12 * (2500 + 1 - n)) (n := 72 * (2500 + 1 - n)) (by omega) (by omega) ?_
                exact ih.2.2.2.2.2.2.2.1 v1 v2 w3 v6 v7 v10 v11 r33 r35 r37 _ _ _ (lv_sub hl [3, 4, 5, 6, 8, 9, 11, 12, 2, 1, 0] rfl) hP hS hf
      · intro v1 v2 w3 v5 v6  ls H locs hl hP hS hf
        have hf : fb_L_kept_4 μ (fl_L_kept μ n) 0 0 v1 0 0 0 0 v2 v5 v6 0 0 0 0 0 w3 0 0 = some r := hf
        unfold fb_L_kept_4 at hf
        refine lv_iload F.1 F.2.1 dL_kept_719 (lv_at hl 5 rfl) ?_
        refine lv_i2l (v := v6.toInt64) F.1 F.2.1 dL_kept_721 rfl ?_
        refine lv_aload_n F.1 F.2.1 dL_kept_722 rfl (lv_at hl 0 rfl) ?_
        refine lv_iconst (v := (2 : Int32)) F.1 F.2.1 dL_kept_723 (by decide) ?_
        obtain ⟨r42, hr43, hf⟩ := bnd hf
        refine a_H F hK (fun _ hU hW => sl_U hG hS hU hW) (fun _ h => h) hP hS (c_L_about hlt (2 : Int32) hr43) (vx_cwSW 2 F.2.2.2.2 gB_kept_L_about rfl rfl rfl hd_L_about ⟨(Nat.le_of_ble_eq_true rfl), (Nat.le_of_ble_eq_true rfl)⟩) rfl rfl hl.1 (Nat.le_of_ble_eq_true rfl) dL_kept_724 ⟨(by show _ ≤ 30012; omega), (by show _ ≤ 180072; omega)⟩ (rest := [.long v6.toInt64]) (fun H locs hP hS _ => ?_)
        refine W.eq (g2 := F0 m 727 ls [.long r42, .long v6.toInt64]) rfl ?_
        refine W.lcmp F.1 F.2.1 dL_kept_727 ?_
        refine lv_if_ge (tgt := 804) F.1 F.2.1 dL_kept_728 rfl (fun hc44 => ?_) (fun hc44 => ?_)
        · have hf := ifp hc44 hf
          refine lv_lconst (v := (0 : Int64)) F.1 F.2.1 dL_kept_804 rfl ?_
          refine lv_lstore F.1 F.2.1 dL_kept_805 hl (Nat.le_of_ble_eq_true rfl) rfl (fun ls hl => ?_)
          have hl : lv_has ls 19 [(6, .long (0 : Int64)), (0, .ref (x + 0)), (1, .int v1), (2, .int v2), (3, .long w3), (5, .int v5)] := hl
          refine lv_iconst (v := (0 : Int32)) F.1 F.2.1 dL_kept_807 (by decide) ?_
          refine lv_istore F.1 F.2.1 dL_kept_808 hl (Nat.le_of_ble_eq_true rfl) rfl (fun ls hl => ?_)
          have hl : lv_has ls 19 [(8, .int (0 : Int32)), (6, .long (0 : Int64)), (0, .ref (x + 0)), (1, .int v1), (2, .int v2), (3, .long w3), (5, .int v5)] := hl
          refine W.widen (k := 12 * (2500 + 1 - n)) (n := 72 * (2500 + 1 - n)) (by omega) (by omega) ?_
          exact ih.2.2.2.2.2.2.2.2.1 v1 v2 w3 v5 (0 : Int64) (0 : Int32) _ _ _ (lv_sub hl [2, 3, 4, 5, 6, 1, 0] rfl) hP hS hf
        · have hf := ifn hc44 hf
          refine lv_iload F.1 F.2.1 dL_kept_731 (lv_at hl 4 rfl) ?_
          refine lv_if_eq (tgt := 804) F.1 F.2.1 dL_kept_733 rfl (fun hc45 => ?_) (fun hc45 => ?_)
          · have hf := ifp hc45 hf
            refine lv_lconst (v := (0 : Int64)) F.1 F.2.1 dL_kept_804 rfl ?_
            refine lv_lstore F.1 F.2.1 dL_kept_805 hl (Nat.le_of_ble_eq_true rfl) rfl (fun ls hl => ?_)
            have hl : lv_has ls 19 [(6, .long (0 : Int64)), (0, .ref (x + 0)), (1, .int v1), (2, .int v2), (3, .long w3), (5, .int v5)] := hl
            refine lv_iconst (v := (0 : Int32)) F.1 F.2.1 dL_kept_807 (by decide) ?_
            refine lv_istore F.1 F.2.1 dL_kept_808 hl (Nat.le_of_ble_eq_true rfl) rfl (fun ls hl => ?_)
            have hl : lv_has ls 19 [(8, .int (0 : Int32)), (6, .long (0 : Int64)), (0, .ref (x + 0)), (1, .int v1), (2, .int v2), (3, .long w3), (5, .int v5)] := hl
            refine W.widen (k := 12 * (2500 + 1 - n)) (n := 72 * (2500 + 1 - n)) (by omega) (by omega) ?_
            exact ih.2.2.2.2.2.2.2.2.1 v1 v2 w3 v5 (0 : Int64) (0 : Int32) _ _ _ (lv_sub hl [2, 3, 4, 5, 6, 1, 0] rfl) hP hS hf
          · have hf := ifn hc45 hf
            refine lv_lload_n F.1 F.2.1 dL_kept_736 rfl (lv_at hl 3 rfl) ?_
            refine lv_aload_n F.1 F.2.1 dL_kept_737 rfl (lv_at hl 0 rfl) ?_
            refine lv_iload F.1 F.2.1 dL_kept_738 (lv_at hl 5 rfl) ?_
            refine lv_iconst (v := (2 : Int32)) F.1 F.2.1 dL_kept_740 (by decide) ?_
            obtain ⟨r46, hr47, hf⟩ := bnd hf
            refine a_H F hK (fun _ hU hW => sl_U hG hS hU hW) (fun _ h => h) hP hS (c_L_pipeOf hlt v6 (2 : Int32) hr47) (vx_cwSW 3 F.2.2.2.2 gB_kept_L_pipeOf rfl rfl rfl hd_L_pipeOf ⟨(Nat.le_of_ble_eq_true rfl), (Nat.le_of_ble_eq_true rfl)⟩) rfl rfl hl.1 (Nat.le_of_ble_eq_true rfl) dL_kept_741 ⟨(by show _ ≤ 30012; omega), (by show _ ≤ 180072; omega)⟩ (rest := [.long w3]) (fun H locs hP hS _ => ?_)
            refine W.eq (g2 := F0 m 744 ls [.long r46, .long w3]) rfl ?_
            refine lv_ladd F.1 F.2.1 dL_kept_744 ?_
            refine lv_lstore_n F.1 F.2.1 dL_kept_745 rfl hl (Nat.le_of_ble_eq_true rfl) rfl (fun ls hl => ?_)
            have hl : lv_has ls 19 [(3, .long (w3 + r46)), (0, .ref (x + 0)), (1, .int v1), (2, .int v2), (5, .int v5), (6, .int v6)] := hl
            refine lv_aload_n F.1 F.2.1 dL_kept_746 rfl (lv_at hl 1 rfl) ?_
            refine lv_iload F.1 F.2.1 dL_kept_747 (lv_at hl 5 rfl) ?_
            refine lv_iconst (v := (2 : Int32)) F.1 F.2.1 dL_kept_749 (by decide) ?_
            obtain ⟨r48, hr49, hf⟩ := bnd hf
            refine a_H F hK (fun _ hU hW => sl_U hG hS hU hW) (fun _ h => h) hP hS (c_L_pipeOf hlt v6 (2 : Int32) hr49) (vx_cwSW 3 F.2.2.2.2 gB_kept_L_pipeOf rfl rfl rfl hd_L_pipeOf ⟨(Nat.le_of_ble_eq_true rfl), (Nat.le_of_ble_eq_true rfl)⟩) rfl rfl hl.1 (Nat.le_of_ble_eq_true rfl) dL_kept_750 ⟨(by show _ ≤ 30012; omega), (by show _ ≤ 180072; omega)⟩ (rest := []) (fun H locs hP hS _ => ?_)
            refine W.eq (g2 := F0 m 753 ls [.long r48]) rfl ?_
            refine lv_lconst (v := (0 : Int64)) F.1 F.2.1 dL_kept_753 rfl ?_
            refine lv_aload_n F.1 F.2.1 dL_kept_754 rfl (lv_at hl 1 rfl) ?_
            refine lv_iload F.1 F.2.1 dL_kept_755 (lv_at hl 5 rfl) ?_
            refine lv_iconst (v := (3 : Int32)) F.1 F.2.1 dL_kept_757 (by decide) ?_
            obtain ⟨r50, hr51, hf⟩ := bnd hf
            refine a_H F hK (fun _ hU hW => sl_U hG hS hU hW) (fun _ h => h) hP hS (c_L_pipeOf hlt v6 (3 : Int32) hr51) (vx_cwSW 3 F.2.2.2.2 gB_kept_L_pipeOf rfl rfl rfl hd_L_pipeOf ⟨(Nat.le_of_ble_eq_true rfl), (Nat.le_of_ble_eq_true rfl)⟩) rfl rfl hl.1 (Nat.le_of_ble_eq_true rfl) dL_kept_758 ⟨(by show _ ≤ 30012; omega), (by show _ ≤ 180072; omega)⟩ (rest := [.long (0 : Int64), .long r48]) (fun H locs hP hS _ => ?_)
            refine W.eq (g2 := F0 m 761 ls [.long r50, .long (0 : Int64), .long r48]) rfl ?_
            obtain ⟨r52, hr53, hf⟩ := bnd hf
            refine a_S F hK (fun _ hU hW => sl_U hG hS hU hW) (fun _ h => h) hP hS (c_L_in hlt r48 (0 : Int64) r50 hr53) (va_cwS 3 F.2.2.2.2 gB_kept_L_in rfl rfl rfl hd_L_in ⟨(Nat.le_of_ble_eq_true rfl), (Nat.le_of_ble_eq_true rfl)⟩) rfl rfl hl.1 (Nat.le_of_ble_eq_true rfl) dL_kept_761 ⟨(by show _ ≤ 30012; omega), (by show _ ≤ 180072; omega)⟩ (rest := []) (fun H locs hP hS _ => ?_)
            refine W.eq (g2 := F0 m 764 ls [.int r52]) rfl ?_
            refine lv_if_eq (tgt := 795) F.1 F.2.1 dL_kept_764 rfl (fun hc54 => ?_) (fun hc54 => ?_)
            · have hf := ifp hc54 hf
              refine lv_iconst (v := (0 : Int32)) F.1 F.2.1 dL_kept_795 (by decide) ?_
              refine lv_istore F.1 F.2.1 dL_kept_796 hl (Nat.le_of_ble_eq_true rfl) rfl (fun ls hl => ?_)
              have hl : lv_has ls 19 [(5, .int (0 : Int32)), (3, .long (w3 + r46)), (0, .ref (x + 0)), (1, .int v1), (2, .int v2), (6, .int v6)] := hl
              refine lv_iinc (v := (v6 + (1 : Int32))) F.1 F.2.1 dL_kept_798 hl (k := 5) rfl rfl (Nat.le_of_ble_eq_true rfl) rfl (fun ls hl => ?_)
              have hl : lv_has ls 19 [(6, .int (v6 + (1 : Int32))), (5, .int (0 : Int32)), (3, .long (w3 + r46)), (0, .ref (x + 0)), (1, .int v1), (2, .int v2)] := hl
              refine lv_goto (tgt := 719) F.1 F.2.1 dL_kept_801 rfl ?_
              refine W.widen (k := 12 * (2500 + 1 - n)) (n := 72 * (2500 + 1 - n)) (by omega) (by omega) ?_
              exact ih.2.2.2.1 v1 v2 (w3 + r46) (0 : Int32) (v6 + (1 : Int32)) _ _ _ (lv_sub hl [3, 4, 5, 2, 1, 0] rfl) hP hS hf
            · have hf := ifn hc54 hf
              refine lv_aload_n F.1 F.2.1 dL_kept_767 rfl (lv_at hl 1 rfl) ?_
              refine lv_iload F.1 F.2.1 dL_kept_768 (lv_at hl 5 rfl) ?_
              refine lv_iconst (v := (4 : Int32)) F.1 F.2.1 dL_kept_770 (by decide) ?_
              obtain ⟨r55, hr56, hf⟩ := bnd hf
              refine a_H F hK (fun _ hU hW => sl_U hG hS hU hW) (fun _ h => h) hP hS (c_L_pipeOf hlt v6 (4 : Int32) hr56) (vx_cwSW 3 F.2.2.2.2 gB_kept_L_pipeOf rfl rfl rfl hd_L_pipeOf ⟨(Nat.le_of_ble_eq_true rfl), (Nat.le_of_ble_eq_true rfl)⟩) rfl rfl hl.1 (Nat.le_of_ble_eq_true rfl) dL_kept_771 ⟨(by show _ ≤ 30012; omega), (by show _ ≤ 180072; omega)⟩ (rest := []) (fun H locs hP hS _ => ?_)
              refine W.eq (g2 := F0 m 774 ls [.long r55]) rfl ?_
              refine lv_lconst (v := (0 : Int64)) F.1 F.2.1 dL_kept_774 rfl ?_
              refine W.lcmp F.1 F.2.1 dL_kept_775 ?_
              refine lv_if_gt (tgt := 791) F.1 F.2.1 dL_kept_776 rfl (fun hc57 => ?_) (fun hc57 => ?_)
              · have hf := ifp hc57 hf
                refine lv_iconst (v := (1 : Int32)) F.1 F.2.1 dL_kept_791 (by decide) ?_
                refine lv_goto (tgt := 796) F.1 F.2.1 dL_kept_792 rfl ?_
                refine lv_istore F.1 F.2.1 dL_kept_796 hl (Nat.le_of_ble_eq_true rfl) rfl (fun ls hl => ?_)
                have hl : lv_has ls 19 [(5, .int (1 : Int32)), (3, .long (w3 + r46)), (0, .ref (x + 0)), (1, .int v1), (2, .int v2), (6, .int v6)] := hl
                refine lv_iinc (v := (v6 + (1 : Int32))) F.1 F.2.1 dL_kept_798 hl (k := 5) rfl rfl (Nat.le_of_ble_eq_true rfl) rfl (fun ls hl => ?_)
                have hl : lv_has ls 19 [(6, .int (v6 + (1 : Int32))), (5, .int (1 : Int32)), (3, .long (w3 + r46)), (0, .ref (x + 0)), (1, .int v1), (2, .int v2)] := hl
                refine lv_goto (tgt := 719) F.1 F.2.1 dL_kept_801 rfl ?_
                refine W.widen (k := 12 * (2500 + 1 - n)) (n := 72 * (2500 + 1 - n)) (by omega) (by omega) ?_
                exact ih.2.2.2.1 v1 v2 (w3 + r46) (1 : Int32) (v6 + (1 : Int32)) _ _ _ (lv_sub hl [3, 4, 5, 2, 1, 0] rfl) hP hS hf
              · have hf := ifn hc57 hf
                refine lv_aload_n F.1 F.2.1 dL_kept_779 rfl (lv_at hl 1 rfl) ?_
                refine lv_iload F.1 F.2.1 dL_kept_780 (lv_at hl 5 rfl) ?_
                refine lv_iconst (v := (3 : Int32)) F.1 F.2.1 dL_kept_782 (by decide) ?_
                obtain ⟨r58, hr59, hf⟩ := bnd hf
                refine a_H F hK (fun _ hU hW => sl_U hG hS hU hW) (fun _ h => h) hP hS (c_L_pipeOf hlt v6 (3 : Int32) hr59) (vx_cwSW 3 F.2.2.2.2 gB_kept_L_pipeOf rfl rfl rfl hd_L_pipeOf ⟨(Nat.le_of_ble_eq_true rfl), (Nat.le_of_ble_eq_true rfl)⟩) rfl rfl hl.1 (Nat.le_of_ble_eq_true rfl) dL_kept_783 ⟨(by show _ ≤ 30012; omega), (by show _ ≤ 180072; omega)⟩ (rest := []) (fun H locs hP hS _ => ?_)
                refine W.eq (g2 := F0 m 786 ls [.long r58]) rfl ?_
                refine lv_lconst (v := (0 : Int64)) F.1 F.2.1 dL_kept_786 rfl ?_
                refine W.lcmp F.1 F.2.1 dL_kept_787 ?_
                refine lv_if_ne (tgt := 795) F.1 F.2.1 dL_kept_788 rfl (fun hc60 => ?_) (fun hc60 => ?_)
                · have hf := ifn hc60 hf
                  refine lv_iconst (v := (0 : Int32)) F.1 F.2.1 dL_kept_795 (by decide) ?_
                  refine lv_istore F.1 F.2.1 dL_kept_796 hl (Nat.le_of_ble_eq_true rfl) rfl (fun ls hl => ?_)
                  have hl : lv_has ls 19 [(5, .int (0 : Int32)), (3, .long (w3 + r46)), (0, .ref (x + 0)), (1, .int v1), (2, .int v2), (6, .int v6)] := hl
                  refine lv_iinc (v := (v6 + (1 : Int32))) F.1 F.2.1 dL_kept_798 hl (k := 5) rfl rfl (Nat.le_of_ble_eq_true rfl) rfl (fun ls hl => ?_)
                  have hl : lv_has ls 19 [(6, .int (v6 + (1 : Int32))), (5, .int (0 : Int32)), (3, .long (w3 + r46)), (0, .ref (x + 0)), (1, .int v1), (2, .int v2)] := hl
                  refine lv_goto (tgt := 719) F.1 F.2.1 dL_kept_801 rfl ?_
                  refine W.widen (k := 12 * (2500 + 1 - n)) (n := 72 * (2500 + 1 - n)) (by omega) (by omega) ?_
                  exact ih.2.2.2.1 v1 v2 (w3 + r46) (0 : Int32) (v6 + (1 : Int32)) _ _ _ (lv_sub hl [3, 4, 5, 2, 1, 0] rfl) hP hS hf
                · have hf := ifp hc60 hf
                  refine lv_iconst (v := (1 : Int32)) F.1 F.2.1 dL_kept_791 (by decide) ?_
                  refine lv_goto (tgt := 796) F.1 F.2.1 dL_kept_792 rfl ?_
                  refine lv_istore F.1 F.2.1 dL_kept_796 hl (Nat.le_of_ble_eq_true rfl) rfl (fun ls hl => ?_)
                  have hl : lv_has ls 19 [(5, .int (1 : Int32)), (3, .long (w3 + r46)), (0, .ref (x + 0)), (1, .int v1), (2, .int v2), (6, .int v6)] := hl
                  refine lv_iinc (v := (v6 + (1 : Int32))) F.1 F.2.1 dL_kept_798 hl (k := 5) rfl rfl (Nat.le_of_ble_eq_true rfl) rfl (fun ls hl => ?_)
                  have hl : lv_has ls 19 [(6, .int (v6 + (1 : Int32))), (5, .int (1 : Int32)), (3, .long (w3 + r46)), (0, .ref (x + 0)), (1, .int v1), (2, .int v2)] := hl
                  refine lv_goto (tgt := 719) F.1 F.2.1 dL_kept_801 rfl ?_
                  refine W.widen (k := 12 * (2500 + 1 - n)) (n := 72 * (2500 + 1 - n)) (by omega) (by omega) ?_
                  exact ih.2.2.2.1 v1 v2 (w3 + r46) (1 : Int32) (v6 + (1 : Int32)) _ _ _ (lv_sub hl [3, 4, 5, 2, 1, 0] rfl) hP hS hf
      · intro v1 v2 w3 v6 v7 t0  ls H locs hl hP hS hf
        have hf : fb_L_kept_5 μ (fl_L_kept μ n) t0 0 v1 0 0 0 0 v2 0 v6 v7 0 0 0 0 w3 0 0 = some r := hf
        unfold fb_L_kept_5 at hf
        refine lv_aload_n F.1 F.2.1 dL_kept_658 rfl (lv_at hl 0 rfl) ?_
        refine lv_iload F.1 F.2.1 dL_kept_659 (lv_at hl 5 rfl) ?_
        refine lv_bipush (v := (7 : Int32)) F.1 F.2.1 dL_kept_661 (by decide) ?_
        obtain ⟨r61, hr62, hf⟩ := bnd hf
        refine a_H F hK (fun _ hU hW => sl_U hG hS hU hW) (fun _ h => h) hP hS (c_L_siteOf hlt v7 (7 : Int32) hr62) (vx_cwSW 3 F.2.2.2.2 gB_kept_L_siteOf rfl rfl rfl hd_L_siteOf ⟨(Nat.le_of_ble_eq_true rfl), (Nat.le_of_ble_eq_true rfl)⟩) rfl rfl hl.1 (Nat.le_of_ble_eq_true rfl) dL_kept_663 ⟨(by show _ ≤ 30012; omega), (by show _ ≤ 180072; omega)⟩ (rest := [.int t0]) (fun H locs hP hS _ => ?_)
        refine W.eq (g2 := F0 m 666 ls [.long r61, .int t0]) rfl ?_
        refine lv_aload_n F.1 F.2.1 dL_kept_666 rfl (lv_at hl 0 rfl) ?_
        refine lv_iload F.1 F.2.1 dL_kept_667 (lv_at hl 4 rfl) ?_
        refine lv_iconst (v := (1 : Int32)) F.1 F.2.1 dL_kept_669 (by decide) ?_
        obtain ⟨r63, hr64, hf⟩ := bnd hf
        refine a_H F hK (fun _ hU hW => sl_U hG hS hU hW) (fun _ h => h) hP hS (c_L_tubeOf hlt v6 (1 : Int32) hr64) (vx_cwSW 3 F.2.2.2.2 gB_kept_L_tubeOf rfl rfl rfl hd_L_tubeOf ⟨(Nat.le_of_ble_eq_true rfl), (Nat.le_of_ble_eq_true rfl)⟩) rfl rfl hl.1 (Nat.le_of_ble_eq_true rfl) dL_kept_670 ⟨(by show _ ≤ 30012; omega), (by show _ ≤ 180072; omega)⟩ (rest := [.long r61, .int t0]) (fun H locs hP hS _ => ?_)
        refine W.eq (g2 := F0 m 673 ls [.long r63, .long r61, .int t0]) rfl ?_
        refine W.lcmp F.1 F.2.1 dL_kept_673 ?_
        refine lv_if_lt (tgt := 681) F.1 F.2.1 dL_kept_674 rfl (fun hc65 => ?_) (fun hc65 => ?_)
        · have hf := ifp hc65 hf
          refine lv_iconst (v := (0 : Int32)) F.1 F.2.1 dL_kept_681 (by decide) ?_
          refine W.widen (k := 12 * (2500 + 1 - n)) (n := 72 * (2500 + 1 - n)) (by omega) (by omega) ?_
          exact ih.2.2.2.2.2.2.2.2.2.1 v1 v2 w3 v6 (0 : Int32) t0 _ _ _ (lv_sub hl [0, 1, 2, 3, 4] rfl) hP hS hf
        · have hf := ifn hc65 hf
          refine lv_iconst (v := (1 : Int32)) F.1 F.2.1 dL_kept_677 (by decide) ?_
          refine lv_goto (tgt := 682) F.1 F.2.1 dL_kept_678 rfl ?_
          refine W.widen (k := 12 * (2500 + 1 - n)) (n := 72 * (2500 + 1 - n)) (by omega) (by omega) ?_
          exact ih.2.2.2.2.2.2.2.2.2.1 v1 v2 w3 v6 (1 : Int32) t0 _ _ _ (lv_sub hl [0, 1, 2, 3, 4] rfl) hP hS hf
      · intro v1 v2 w3 v5 v6 v7 v10 v11 v12  ls H locs hl hP hS hf
        have hf : fb_L_kept_6 μ (fl_L_kept μ n) 0 0 v1 v10 v11 v12 0 v2 v5 v6 v7 0 0 0 0 w3 0 0 = some r := hf
        unfold fb_L_kept_6 at hf
        refine lv_iload F.1 F.2.1 dL_kept_313 (lv_at hl 9 rfl) ?_
        refine lv_bipush (v := (30 : Int32)) F.1 F.2.1 dL_kept_315 (by decide) ?_
        refine lv_icmp_ge (tgt := 380) F.1 F.2.1 dL_kept_317 rfl (fun hc66 => ?_) (fun hc66 => ?_)
        · have hf := ifp hc66 hf
          refine lv_iload F.1 F.2.1 dL_kept_380 (lv_at hl 4 rfl) ?_
          refine lv_if_eq (tgt := 537) F.1 F.2.1 dL_kept_382 rfl (fun hc67 => ?_) (fun hc67 => ?_)
          · have hf := ifp hc67 hf
            refine lv_iconst (v := (0 : Int32)) F.1 F.2.1 dL_kept_537 (by decide) ?_
            refine lv_istore F.1 F.2.1 dL_kept_538 hl (Nat.le_of_ble_eq_true rfl) rfl (fun ls hl => ?_)
            have hl : lv_has ls 19 [(5, .int (0 : Int32)), (0, .ref (x + 0)), (1, .int v1), (2, .int v2), (3, .long w3), (6, .int v6), (7, .int v7), (10, .int v10), (11, .int v11), (12, .int v12)] := hl
            refine lv_iload_n F.1 F.2.1 dL_kept_540 rfl (lv_at hl 2 rfl) ?_
            refine lv_iload F.1 F.2.1 dL_kept_541 (lv_at hl 7 rfl) ?_
            refine lv_iadd F.1 F.2.1 dL_kept_543 ?_
            refine lv_istore_n F.1 F.2.1 dL_kept_544 rfl hl (Nat.le_of_ble_eq_true rfl) rfl (fun ls hl => ?_)
            have hl : lv_has ls 19 [(1, .int (v1 + v10)), (5, .int (0 : Int32)), (0, .ref (x + 0)), (2, .int v2), (3, .long w3), (6, .int v6), (7, .int v7), (10, .int v10), (11, .int v11), (12, .int v12)] := hl
            refine lv_iload_n F.1 F.2.1 dL_kept_545 rfl (lv_at hl 3 rfl) ?_
            refine lv_iload F.1 F.2.1 dL_kept_546 (lv_at hl 6 rfl) ?_
            refine lv_iadd F.1 F.2.1 dL_kept_548 ?_
            refine lv_istore_n F.1 F.2.1 dL_kept_549 rfl hl (Nat.le_of_ble_eq_true rfl) rfl (fun ls hl => ?_)
            have hl : lv_has ls 19 [(2, .int (v2 + v7)), (1, .int (v1 + v10)), (5, .int (0 : Int32)), (0, .ref (x + 0)), (3, .long w3), (6, .int v6), (7, .int v7), (10, .int v10), (11, .int v11), (12, .int v12)] := hl
            refine lv_iinc (v := (v6 + (1 : Int32))) F.1 F.2.1 dL_kept_550 hl (k := 5) rfl rfl (Nat.le_of_ble_eq_true rfl) rfl (fun ls hl => ?_)
            have hl : lv_has ls 19 [(6, .int (v6 + (1 : Int32))), (2, .int (v2 + v7)), (1, .int (v1 + v10)), (5, .int (0 : Int32)), (0, .ref (x + 0)), (3, .long w3), (7, .int v7), (10, .int v10), (11, .int v11), (12, .int v12)] := hl
            refine lv_goto (tgt := 12) F.1 F.2.1 dL_kept_553 rfl ?_
            refine W.widen (k := 12 * (2500 + 1 - n)) (n := 72 * (2500 + 1 - n)) (by omega) (by omega) ?_
            exact ih.1 (v1 + v10) (v2 + v7) w3 (0 : Int32) (v6 + (1 : Int32)) _ _ _ (lv_sub hl [4, 2, 1, 5, 3, 0] rfl) hP hS hf
          · have hf := ifn hc67 hf
            refine lv_iload F.1 F.2.1 dL_kept_385 (lv_at hl 8 rfl) ?_
            refine lv_iload F.1 F.2.1 dL_kept_387 (lv_at hl 7 rfl) ?_
            refine lv_icmp_ne (tgt := 537) F.1 F.2.1 dL_kept_389 rfl (fun hc68 => ?_) (fun hc68 => ?_)
            · have hf := ifn hc68 hf
              refine lv_iconst (v := (0 : Int32)) F.1 F.2.1 dL_kept_537 (by decide) ?_
              refine lv_istore F.1 F.2.1 dL_kept_538 hl (Nat.le_of_ble_eq_true rfl) rfl (fun ls hl => ?_)
              have hl : lv_has ls 19 [(5, .int (0 : Int32)), (0, .ref (x + 0)), (1, .int v1), (2, .int v2), (3, .long w3), (6, .int v6), (7, .int v7), (10, .int v10), (11, .int v11), (12, .int v12)] := hl
              refine lv_iload_n F.1 F.2.1 dL_kept_540 rfl (lv_at hl 2 rfl) ?_
              refine lv_iload F.1 F.2.1 dL_kept_541 (lv_at hl 7 rfl) ?_
              refine lv_iadd F.1 F.2.1 dL_kept_543 ?_
              refine lv_istore_n F.1 F.2.1 dL_kept_544 rfl hl (Nat.le_of_ble_eq_true rfl) rfl (fun ls hl => ?_)
              have hl : lv_has ls 19 [(1, .int (v1 + v10)), (5, .int (0 : Int32)), (0, .ref (x + 0)), (2, .int v2), (3, .long w3), (6, .int v6), (7, .int v7), (10, .int v10), (11, .int v11), (12, .int v12)] := hl
              refine lv_iload_n F.1 F.2.1 dL_kept_545 rfl (lv_at hl 3 rfl) ?_
              refine lv_iload F.1 F.2.1 dL_kept_546 (lv_at hl 6 rfl) ?_
              refine lv_iadd F.1 F.2.1 dL_kept_548 ?_
              refine lv_istore_n F.1 F.2.1 dL_kept_549 rfl hl (Nat.le_of_ble_eq_true rfl) rfl (fun ls hl => ?_)
              have hl : lv_has ls 19 [(2, .int (v2 + v7)), (1, .int (v1 + v10)), (5, .int (0 : Int32)), (0, .ref (x + 0)), (3, .long w3), (6, .int v6), (7, .int v7), (10, .int v10), (11, .int v11), (12, .int v12)] := hl
              refine lv_iinc (v := (v6 + (1 : Int32))) F.1 F.2.1 dL_kept_550 hl (k := 5) rfl rfl (Nat.le_of_ble_eq_true rfl) rfl (fun ls hl => ?_)
              have hl : lv_has ls 19 [(6, .int (v6 + (1 : Int32))), (2, .int (v2 + v7)), (1, .int (v1 + v10)), (5, .int (0 : Int32)), (0, .ref (x + 0)), (3, .long w3), (7, .int v7), (10, .int v10), (11, .int v11), (12, .int v12)] := hl
              refine lv_goto (tgt := 12) F.1 F.2.1 dL_kept_553 rfl ?_
              refine W.widen (k := 12 * (2500 + 1 - n)) (n := 72 * (2500 + 1 - n)) (by omega) (by omega) ?_
              exact ih.1 (v1 + v10) (v2 + v7) w3 (0 : Int32) (v6 + (1 : Int32)) _ _ _ (lv_sub hl [4, 2, 1, 5, 3, 0] rfl) hP hS hf
            · have hf := ifp hc68 hf
              refine lv_aload_n F.1 F.2.1 dL_kept_392 rfl (lv_at hl 0 rfl) ?_
              refine lv_iload F.1 F.2.1 dL_kept_393 (lv_at hl 5 rfl) ?_
              refine lv_iconst (v := (5 : Int32)) F.1 F.2.1 dL_kept_395 (by decide) ?_
              obtain ⟨r69, hr70, hf⟩ := bnd hf
              refine a_H F hK (fun _ hU hW => sl_U hG hS hU hW) (fun _ h => h) hP hS (c_L_siteOf hlt v6 (5 : Int32) hr70) (vx_cwSW 3 F.2.2.2.2 gB_kept_L_siteOf rfl rfl rfl hd_L_siteOf ⟨(Nat.le_of_ble_eq_true rfl), (Nat.le_of_ble_eq_true rfl)⟩) rfl rfl hl.1 (Nat.le_of_ble_eq_true rfl) dL_kept_396 ⟨(by show _ ≤ 30012; omega), (by show _ ≤ 180072; omega)⟩ (rest := []) (fun H locs hP hS _ => ?_)
              refine W.eq (g2 := F0 m 399 ls [.long r69]) rfl ?_
              refine lv_iload F.1 F.2.1 dL_kept_399 (lv_at hl 7 rfl) ?_
              refine lv_i2l (v := v10.toInt64) F.1 F.2.1 dL_kept_401 rfl ?_
              refine W.lcmp F.1 F.2.1 dL_kept_402 ?_
              refine lv_if_ne (tgt := 537) F.1 F.2.1 dL_kept_403 rfl (fun hc71 => ?_) (fun hc71 => ?_)
              · have hf := ifn hc71 hf
                refine lv_iconst (v := (0 : Int32)) F.1 F.2.1 dL_kept_537 (by decide) ?_
                refine lv_istore F.1 F.2.1 dL_kept_538 hl (Nat.le_of_ble_eq_true rfl) rfl (fun ls hl => ?_)
                have hl : lv_has ls 19 [(5, .int (0 : Int32)), (0, .ref (x + 0)), (1, .int v1), (2, .int v2), (3, .long w3), (6, .int v6), (7, .int v7), (10, .int v10), (11, .int v11), (12, .int v12)] := hl
                refine lv_iload_n F.1 F.2.1 dL_kept_540 rfl (lv_at hl 2 rfl) ?_
                refine lv_iload F.1 F.2.1 dL_kept_541 (lv_at hl 7 rfl) ?_
                refine lv_iadd F.1 F.2.1 dL_kept_543 ?_
                refine lv_istore_n F.1 F.2.1 dL_kept_544 rfl hl (Nat.le_of_ble_eq_true rfl) rfl (fun ls hl => ?_)
                have hl : lv_has ls 19 [(1, .int (v1 + v10)), (5, .int (0 : Int32)), (0, .ref (x + 0)), (2, .int v2), (3, .long w3), (6, .int v6), (7, .int v7), (10, .int v10), (11, .int v11), (12, .int v12)] := hl
                refine lv_iload_n F.1 F.2.1 dL_kept_545 rfl (lv_at hl 3 rfl) ?_
                refine lv_iload F.1 F.2.1 dL_kept_546 (lv_at hl 6 rfl) ?_
                refine lv_iadd F.1 F.2.1 dL_kept_548 ?_
                refine lv_istore_n F.1 F.2.1 dL_kept_549 rfl hl (Nat.le_of_ble_eq_true rfl) rfl (fun ls hl => ?_)
                have hl : lv_has ls 19 [(2, .int (v2 + v7)), (1, .int (v1 + v10)), (5, .int (0 : Int32)), (0, .ref (x + 0)), (3, .long w3), (6, .int v6), (7, .int v7), (10, .int v10), (11, .int v11), (12, .int v12)] := hl
                refine lv_iinc (v := (v6 + (1 : Int32))) F.1 F.2.1 dL_kept_550 hl (k := 5) rfl rfl (Nat.le_of_ble_eq_true rfl) rfl (fun ls hl => ?_)
                have hl : lv_has ls 19 [(6, .int (v6 + (1 : Int32))), (2, .int (v2 + v7)), (1, .int (v1 + v10)), (5, .int (0 : Int32)), (0, .ref (x + 0)), (3, .long w3), (7, .int v7), (10, .int v10), (11, .int v11), (12, .int v12)] := hl
                refine lv_goto (tgt := 12) F.1 F.2.1 dL_kept_553 rfl ?_
                refine W.widen (k := 12 * (2500 + 1 - n)) (n := 72 * (2500 + 1 - n)) (by omega) (by omega) ?_
                exact ih.1 (v1 + v10) (v2 + v7) w3 (0 : Int32) (v6 + (1 : Int32)) _ _ _ (lv_sub hl [4, 2, 1, 5, 3, 0] rfl) hP hS hf
              · have hf := ifp hc71 hf
                refine lv_aload_n F.1 F.2.1 dL_kept_406 rfl (lv_at hl 0 rfl) ?_
                refine lv_iload F.1 F.2.1 dL_kept_407 (lv_at hl 5 rfl) ?_
                refine lv_iconst (v := (1 : Int32)) F.1 F.2.1 dL_kept_409 (by decide) ?_
                obtain ⟨r72, hr73, hf⟩ := bnd hf
                refine a_H F hK (fun _ hU hW => sl_U hG hS hU hW) (fun _ h => h) hP hS (c_L_layers hlt v6 (1 : Int32) hr73) (vx_cwSW 3 F.2.2.2.2 gB_kept_L_layers rfl rfl rfl hd_L_layers ⟨(Nat.le_of_ble_eq_true rfl), (Nat.le_of_ble_eq_true rfl)⟩) rfl rfl hl.1 (Nat.le_of_ble_eq_true rfl) dL_kept_410 ⟨(by show _ ≤ 30012; omega), (by show _ ≤ 180072; omega)⟩ (rest := []) (fun H locs hP hS _ => ?_)
                refine W.eq (g2 := F0 m 413 ls [.long r72]) rfl ?_
                refine lv_iload F.1 F.2.1 dL_kept_413 (lv_at hl 6 rfl) ?_
                refine lv_i2l (v := v7.toInt64) F.1 F.2.1 dL_kept_415 rfl ?_
                refine W.lcmp F.1 F.2.1 dL_kept_416 ?_
                refine lv_if_ne (tgt := 537) F.1 F.2.1 dL_kept_417 rfl (fun hc74 => ?_) (fun hc74 => ?_)
                · have hf := ifn hc74 hf
                  refine lv_iconst (v := (0 : Int32)) F.1 F.2.1 dL_kept_537 (by decide) ?_
                  refine lv_istore F.1 F.2.1 dL_kept_538 hl (Nat.le_of_ble_eq_true rfl) rfl (fun ls hl => ?_)
                  have hl : lv_has ls 19 [(5, .int (0 : Int32)), (0, .ref (x + 0)), (1, .int v1), (2, .int v2), (3, .long w3), (6, .int v6), (7, .int v7), (10, .int v10), (11, .int v11), (12, .int v12)] := hl
                  refine lv_iload_n F.1 F.2.1 dL_kept_540 rfl (lv_at hl 2 rfl) ?_
                  refine lv_iload F.1 F.2.1 dL_kept_541 (lv_at hl 7 rfl) ?_
                  refine lv_iadd F.1 F.2.1 dL_kept_543 ?_
                  refine lv_istore_n F.1 F.2.1 dL_kept_544 rfl hl (Nat.le_of_ble_eq_true rfl) rfl (fun ls hl => ?_)
                  have hl : lv_has ls 19 [(1, .int (v1 + v10)), (5, .int (0 : Int32)), (0, .ref (x + 0)), (2, .int v2), (3, .long w3), (6, .int v6), (7, .int v7), (10, .int v10), (11, .int v11), (12, .int v12)] := hl
                  refine lv_iload_n F.1 F.2.1 dL_kept_545 rfl (lv_at hl 3 rfl) ?_
                  refine lv_iload F.1 F.2.1 dL_kept_546 (lv_at hl 6 rfl) ?_
                  refine lv_iadd F.1 F.2.1 dL_kept_548 ?_
                  refine lv_istore_n F.1 F.2.1 dL_kept_549 rfl hl (Nat.le_of_ble_eq_true rfl) rfl (fun ls hl => ?_)
                  have hl : lv_has ls 19 [(2, .int (v2 + v7)), (1, .int (v1 + v10)), (5, .int (0 : Int32)), (0, .ref (x + 0)), (3, .long w3), (6, .int v6), (7, .int v7), (10, .int v10), (11, .int v11), (12, .int v12)] := hl
                  refine lv_iinc (v := (v6 + (1 : Int32))) F.1 F.2.1 dL_kept_550 hl (k := 5) rfl rfl (Nat.le_of_ble_eq_true rfl) rfl (fun ls hl => ?_)
                  have hl : lv_has ls 19 [(6, .int (v6 + (1 : Int32))), (2, .int (v2 + v7)), (1, .int (v1 + v10)), (5, .int (0 : Int32)), (0, .ref (x + 0)), (3, .long w3), (7, .int v7), (10, .int v10), (11, .int v11), (12, .int v12)] := hl
                  refine lv_goto (tgt := 12) F.1 F.2.1 dL_kept_553 rfl ?_
                  refine W.widen (k := 12 * (2500 + 1 - n)) (n := 72 * (2500 + 1 - n)) (by omega) (by omega) ?_
                  exact ih.1 (v1 + v10) (v2 + v7) w3 (0 : Int32) (v6 + (1 : Int32)) _ _ _ (lv_sub hl [4, 2, 1, 5, 3, 0] rfl) hP hS hf
                · have hf := ifp hc74 hf
                  refine lv_aload_n F.1 F.2.1 dL_kept_420 rfl (lv_at hl 0 rfl) ?_
                  refine lv_iload F.1 F.2.1 dL_kept_421 (lv_at hl 5 rfl) ?_
                  refine lv_bipush (v := (6 : Int32)) F.1 F.2.1 dL_kept_423 (by decide) ?_
                  obtain ⟨r75, hr76, hf⟩ := bnd hf
                  refine a_H F hK (fun _ hU hW => sl_U hG hS hU hW) (fun _ h => h) hP hS (c_L_siteOf hlt v6 (6 : Int32) hr76) (vx_cwSW 3 F.2.2.2.2 gB_kept_L_siteOf rfl rfl rfl hd_L_siteOf ⟨(Nat.le_of_ble_eq_true rfl), (Nat.le_of_ble_eq_true rfl)⟩) rfl rfl hl.1 (Nat.le_of_ble_eq_true rfl) dL_kept_425 ⟨(by show _ ≤ 30012; omega), (by show _ ≤ 180072; omega)⟩ (rest := []) (fun H locs hP hS _ => ?_)
                  refine W.eq (g2 := F0 m 428 ls [.long r75]) rfl ?_
                  refine lv_iload F.1 F.2.1 dL_kept_428 (lv_at hl 6 rfl) ?_
                  refine lv_i2l (v := v7.toInt64) F.1 F.2.1 dL_kept_430 rfl ?_
                  refine W.lcmp F.1 F.2.1 dL_kept_431 ?_
                  refine lv_if_ne (tgt := 537) F.1 F.2.1 dL_kept_432 rfl (fun hc77 => ?_) (fun hc77 => ?_)
                  · have hf := ifn hc77 hf
                    refine lv_iconst (v := (0 : Int32)) F.1 F.2.1 dL_kept_537 (by decide) ?_
                    refine lv_istore F.1 F.2.1 dL_kept_538 hl (Nat.le_of_ble_eq_true rfl) rfl (fun ls hl => ?_)
                    have hl : lv_has ls 19 [(5, .int (0 : Int32)), (0, .ref (x + 0)), (1, .int v1), (2, .int v2), (3, .long w3), (6, .int v6), (7, .int v7), (10, .int v10), (11, .int v11), (12, .int v12)] := hl
                    refine lv_iload_n F.1 F.2.1 dL_kept_540 rfl (lv_at hl 2 rfl) ?_
                    refine lv_iload F.1 F.2.1 dL_kept_541 (lv_at hl 7 rfl) ?_
                    refine lv_iadd F.1 F.2.1 dL_kept_543 ?_
                    refine lv_istore_n F.1 F.2.1 dL_kept_544 rfl hl (Nat.le_of_ble_eq_true rfl) rfl (fun ls hl => ?_)
                    have hl : lv_has ls 19 [(1, .int (v1 + v10)), (5, .int (0 : Int32)), (0, .ref (x + 0)), (2, .int v2), (3, .long w3), (6, .int v6), (7, .int v7), (10, .int v10), (11, .int v11), (12, .int v12)] := hl
                    refine lv_iload_n F.1 F.2.1 dL_kept_545 rfl (lv_at hl 3 rfl) ?_
                    refine lv_iload F.1 F.2.1 dL_kept_546 (lv_at hl 6 rfl) ?_
                    refine lv_iadd F.1 F.2.1 dL_kept_548 ?_
                    refine lv_istore_n F.1 F.2.1 dL_kept_549 rfl hl (Nat.le_of_ble_eq_true rfl) rfl (fun ls hl => ?_)
                    have hl : lv_has ls 19 [(2, .int (v2 + v7)), (1, .int (v1 + v10)), (5, .int (0 : Int32)), (0, .ref (x + 0)), (3, .long w3), (6, .int v6), (7, .int v7), (10, .int v10), (11, .int v11), (12, .int v12)] := hl
                    refine lv_iinc (v := (v6 + (1 : Int32))) F.1 F.2.1 dL_kept_550 hl (k := 5) rfl rfl (Nat.le_of_ble_eq_true rfl) rfl (fun ls hl => ?_)
                    have hl : lv_has ls 19 [(6, .int (v6 + (1 : Int32))), (2, .int (v2 + v7)), (1, .int (v1 + v10)), (5, .int (0 : Int32)), (0, .ref (x + 0)), (3, .long w3), (7, .int v7), (10, .int v10), (11, .int v11), (12, .int v12)] := hl
                    refine lv_goto (tgt := 12) F.1 F.2.1 dL_kept_553 rfl ?_
                    refine W.widen (k := 12 * (2500 + 1 - n)) (n := 72 * (2500 + 1 - n)) (by omega) (by omega) ?_
                    exact ih.1 (v1 + v10) (v2 + v7) w3 (0 : Int32) (v6 + (1 : Int32)) _ _ _ (lv_sub hl [4, 2, 1, 5, 3, 0] rfl) hP hS hf
                  · have hf := ifp hc77 hf
                    refine lv_aload_n F.1 F.2.1 dL_kept_435 rfl (lv_at hl 0 rfl) ?_
                    refine lv_iload F.1 F.2.1 dL_kept_436 (lv_at hl 5 rfl) ?_
                    refine lv_iconst (v := (0 : Int32)) F.1 F.2.1 dL_kept_438 (by decide) ?_
                    obtain ⟨r78, hr79, hf⟩ := bnd hf
                    refine a_H F hK (fun _ hU hW => sl_U hG hS hU hW) (fun _ h => h) hP hS (c_L_siteOf hlt v6 (0 : Int32) hr79) (vx_cwSW 3 F.2.2.2.2 gB_kept_L_siteOf rfl rfl rfl hd_L_siteOf ⟨(Nat.le_of_ble_eq_true rfl), (Nat.le_of_ble_eq_true rfl)⟩) rfl rfl hl.1 (Nat.le_of_ble_eq_true rfl) dL_kept_439 ⟨(by show _ ≤ 30012; omega), (by show _ ≤ 180072; omega)⟩ (rest := []) (fun H locs hP hS _ => ?_)
                    refine W.eq (g2 := F0 m 442 ls [.long r78]) rfl ?_
                    refine lv_lconst (v := (0 : Int64)) F.1 F.2.1 dL_kept_442 rfl ?_
                    refine lv_ldc2 (v := (99 : Int64)) F.1 F.2.1 F.2.2.2.1 (F.2.2.2.2 _ (List.mem_of_getElem? (i := 600) rfl)) dL_kept_443 ?_
                    obtain ⟨r80, hr81, hf⟩ := bnd hf
                    refine a_S F hK (fun _ hU hW => sl_U hG hS hU hW) (fun _ h => h) hP hS (c_L_in hlt r78 (0 : Int64) (99 : Int64) hr81) (va_cwS 3 F.2.2.2.2 gB_kept_L_in rfl rfl rfl hd_L_in ⟨(Nat.le_of_ble_eq_true rfl), (Nat.le_of_ble_eq_true rfl)⟩) rfl rfl hl.1 (Nat.le_of_ble_eq_true rfl) dL_kept_446 ⟨(by show _ ≤ 30012; omega), (by show _ ≤ 180072; omega)⟩ (rest := []) (fun H locs hP hS _ => ?_)
                    refine W.eq (g2 := F0 m 449 ls [.int r80]) rfl ?_
                    refine lv_if_eq (tgt := 537) F.1 F.2.1 dL_kept_449 rfl (fun hc82 => ?_) (fun hc82 => ?_)
                    · have hf := ifp hc82 hf
                      refine lv_iconst (v := (0 : Int32)) F.1 F.2.1 dL_kept_537 (by decide) ?_
                      refine lv_istore F.1 F.2.1 dL_kept_538 hl (Nat.le_of_ble_eq_true rfl) rfl (fun ls hl => ?_)
                      have hl : lv_has ls 19 [(5, .int (0 : Int32)), (0, .ref (x + 0)), (1, .int v1), (2, .int v2), (3, .long w3), (6, .int v6), (7, .int v7), (10, .int v10), (11, .int v11), (12, .int v12)] := hl
                      refine lv_iload_n F.1 F.2.1 dL_kept_540 rfl (lv_at hl 2 rfl) ?_
                      refine lv_iload F.1 F.2.1 dL_kept_541 (lv_at hl 7 rfl) ?_
                      refine lv_iadd F.1 F.2.1 dL_kept_543 ?_
                      refine lv_istore_n F.1 F.2.1 dL_kept_544 rfl hl (Nat.le_of_ble_eq_true rfl) rfl (fun ls hl => ?_)
                      have hl : lv_has ls 19 [(1, .int (v1 + v10)), (5, .int (0 : Int32)), (0, .ref (x + 0)), (2, .int v2), (3, .long w3), (6, .int v6), (7, .int v7), (10, .int v10), (11, .int v11), (12, .int v12)] := hl
                      refine lv_iload_n F.1 F.2.1 dL_kept_545 rfl (lv_at hl 3 rfl) ?_
                      refine lv_iload F.1 F.2.1 dL_kept_546 (lv_at hl 6 rfl) ?_
                      refine lv_iadd F.1 F.2.1 dL_kept_548 ?_
                      refine lv_istore_n F.1 F.2.1 dL_kept_549 rfl hl (Nat.le_of_ble_eq_true rfl) rfl (fun ls hl => ?_)
                      have hl : lv_has ls 19 [(2, .int (v2 + v7)), (1, .int (v1 + v10)), (5, .int (0 : Int32)), (0, .ref (x + 0)), (3, .long w3), (6, .int v6), (7, .int v7), (10, .int v10), (11, .int v11), (12, .int v12)] := hl
                      refine lv_iinc (v := (v6 + (1 : Int32))) F.1 F.2.1 dL_kept_550 hl (k := 5) rfl rfl (Nat.le_of_ble_eq_true rfl) rfl (fun ls hl => ?_)
                      have hl : lv_has ls 19 [(6, .int (v6 + (1 : Int32))), (2, .int (v2 + v7)), (1, .int (v1 + v10)), (5, .int (0 : Int32)), (0, .ref (x + 0)), (3, .long w3), (7, .int v7), (10, .int v10), (11, .int v11), (12, .int v12)] := hl
                      refine lv_goto (tgt := 12) F.1 F.2.1 dL_kept_553 rfl ?_
                      refine W.widen (k := 12 * (2500 + 1 - n)) (n := 72 * (2500 + 1 - n)) (by omega) (by omega) ?_
                      exact ih.1 (v1 + v10) (v2 + v7) w3 (0 : Int32) (v6 + (1 : Int32)) _ _ _ (lv_sub hl [4, 2, 1, 5, 3, 0] rfl) hP hS hf
                    · have hf := ifn hc82 hf
                      refine lv_aload_n F.1 F.2.1 dL_kept_452 rfl (lv_at hl 0 rfl) ?_
                      refine lv_iload F.1 F.2.1 dL_kept_453 (lv_at hl 5 rfl) ?_
                      refine lv_iconst (v := (2 : Int32)) F.1 F.2.1 dL_kept_455 (by decide) ?_
                      obtain ⟨r83, hr84, hf⟩ := bnd hf
                      refine a_H F hK (fun _ hU hW => sl_U hG hS hU hW) (fun _ h => h) hP hS (c_L_siteOf hlt v6 (2 : Int32) hr84) (vx_cwSW 3 F.2.2.2.2 gB_kept_L_siteOf rfl rfl rfl hd_L_siteOf ⟨(Nat.le_of_ble_eq_true rfl), (Nat.le_of_ble_eq_true rfl)⟩) rfl rfl hl.1 (Nat.le_of_ble_eq_true rfl) dL_kept_456 ⟨(by show _ ≤ 30012; omega), (by show _ ≤ 180072; omega)⟩ (rest := []) (fun H locs hP hS _ => ?_)
                      refine W.eq (g2 := F0 m 459 ls [.long r83]) rfl ?_
                      refine lv_lconst (v := (0 : Int64)) F.1 F.2.1 dL_kept_459 rfl ?_
                      refine W.lcmp F.1 F.2.1 dL_kept_460 ?_
                      refine lv_if_eq (tgt := 476) F.1 F.2.1 dL_kept_461 rfl (fun hc85 => ?_) (fun hc85 => ?_)
                      · have hf := ifp hc85 hf
                        refine W.widen (k := 12 * (2500 + 1 - n)) (n := 72 * (2500 + 1 - n)) (by omega) (by omega) ?_
                        exact ih.2.2.2.2.2.2.2.2.2.2.1 v1 v2 w3 v6 v7 v10 _ _ _ (lv_sub hl [0, 1, 2, 3, 5, 6, 7] rfl) hP hS hf
                      · have hf := ifn hc85 hf
                        refine lv_aload_n F.1 F.2.1 dL_kept_464 rfl (lv_at hl 0 rfl) ?_
                        refine lv_iload F.1 F.2.1 dL_kept_465 (lv_at hl 5 rfl) ?_
                        refine lv_iconst (v := (3 : Int32)) F.1 F.2.1 dL_kept_467 (by decide) ?_
                        obtain ⟨r86, hr87, hf⟩ := bnd hf
                        refine a_H F hK (fun _ hU hW => sl_U hG hS hU hW) (fun _ h => h) hP hS (c_L_siteOf hlt v6 (3 : Int32) hr87) (vx_cwSW 3 F.2.2.2.2 gB_kept_L_siteOf rfl rfl rfl hd_L_siteOf ⟨(Nat.le_of_ble_eq_true rfl), (Nat.le_of_ble_eq_true rfl)⟩) rfl rfl hl.1 (Nat.le_of_ble_eq_true rfl) dL_kept_468 ⟨(by show _ ≤ 30012; omega), (by show _ ≤ 180072; omega)⟩ (rest := []) (fun H locs hP hS _ => ?_)
                        refine W.eq (g2 := F0 m 471 ls [.long r86]) rfl ?_
                        refine lv_lconst (v := (0 : Int64)) F.1 F.2.1 dL_kept_471 rfl ?_
                        refine W.lcmp F.1 F.2.1 dL_kept_472 ?_
                        refine lv_if_ne (tgt := 537) F.1 F.2.1 dL_kept_473 rfl (fun hc88 => ?_) (fun hc88 => ?_)
                        · have hf := ifn hc88 hf
                          refine lv_iconst (v := (0 : Int32)) F.1 F.2.1 dL_kept_537 (by decide) ?_
                          refine lv_istore F.1 F.2.1 dL_kept_538 hl (Nat.le_of_ble_eq_true rfl) rfl (fun ls hl => ?_)
                          have hl : lv_has ls 19 [(5, .int (0 : Int32)), (0, .ref (x + 0)), (1, .int v1), (2, .int v2), (3, .long w3), (6, .int v6), (7, .int v7), (10, .int v10), (11, .int v11), (12, .int v12)] := hl
                          refine lv_iload_n F.1 F.2.1 dL_kept_540 rfl (lv_at hl 2 rfl) ?_
                          refine lv_iload F.1 F.2.1 dL_kept_541 (lv_at hl 7 rfl) ?_
                          refine lv_iadd F.1 F.2.1 dL_kept_543 ?_
                          refine lv_istore_n F.1 F.2.1 dL_kept_544 rfl hl (Nat.le_of_ble_eq_true rfl) rfl (fun ls hl => ?_)
                          have hl : lv_has ls 19 [(1, .int (v1 + v10)), (5, .int (0 : Int32)), (0, .ref (x + 0)), (2, .int v2), (3, .long w3), (6, .int v6), (7, .int v7), (10, .int v10), (11, .int v11), (12, .int v12)] := hl
                          refine lv_iload_n F.1 F.2.1 dL_kept_545 rfl (lv_at hl 3 rfl) ?_
                          refine lv_iload F.1 F.2.1 dL_kept_546 (lv_at hl 6 rfl) ?_
                          refine lv_iadd F.1 F.2.1 dL_kept_548 ?_
                          refine lv_istore_n F.1 F.2.1 dL_kept_549 rfl hl (Nat.le_of_ble_eq_true rfl) rfl (fun ls hl => ?_)
                          have hl : lv_has ls 19 [(2, .int (v2 + v7)), (1, .int (v1 + v10)), (5, .int (0 : Int32)), (0, .ref (x + 0)), (3, .long w3), (6, .int v6), (7, .int v7), (10, .int v10), (11, .int v11), (12, .int v12)] := hl
                          refine lv_iinc (v := (v6 + (1 : Int32))) F.1 F.2.1 dL_kept_550 hl (k := 5) rfl rfl (Nat.le_of_ble_eq_true rfl) rfl (fun ls hl => ?_)
                          have hl : lv_has ls 19 [(6, .int (v6 + (1 : Int32))), (2, .int (v2 + v7)), (1, .int (v1 + v10)), (5, .int (0 : Int32)), (0, .ref (x + 0)), (3, .long w3), (7, .int v7), (10, .int v10), (11, .int v11), (12, .int v12)] := hl
                          refine lv_goto (tgt := 12) F.1 F.2.1 dL_kept_553 rfl ?_
                          refine W.widen (k := 12 * (2500 + 1 - n)) (n := 72 * (2500 + 1 - n)) (by omega) (by omega) ?_
                          exact ih.1 (v1 + v10) (v2 + v7) w3 (0 : Int32) (v6 + (1 : Int32)) _ _ _ (lv_sub hl [4, 2, 1, 5, 3, 0] rfl) hP hS hf
                        · have hf := ifp hc88 hf
                          refine W.widen (k := 12 * (2500 + 1 - n)) (n := 72 * (2500 + 1 - n)) (by omega) (by omega) ?_
                          exact ih.2.2.2.2.2.2.2.2.2.2.1 v1 v2 w3 v6 v7 v10 _ _ _ (lv_sub hl [0, 1, 2, 3, 5, 6, 7] rfl) hP hS hf
        · have hf := ifn hc66 hf
          refine lv_iload F.1 F.2.1 dL_kept_320 (lv_at hl 8 rfl) ?_
          refine lv_aload_n F.1 F.2.1 dL_kept_322 rfl (lv_at hl 0 rfl) ?_
          refine lv_iload F.1 F.2.1 dL_kept_323 (lv_at hl 5 rfl) ?_
          refine lv_iload F.1 F.2.1 dL_kept_325 (lv_at hl 9 rfl) ?_
          obtain ⟨r89, hr90, hf⟩ := bnd hf
          refine a_H F hK (fun _ hU hW => sl_U hG hS hU hW) (fun _ h => h) hP hS (c_L_since hlt v6 v12 hr90) (vx_cwSW 3 F.2.2.2.2 gB_kept_L_since rfl rfl rfl hd_L_since ⟨(Nat.le_of_ble_eq_true rfl), (Nat.le_of_ble_eq_true rfl)⟩) rfl rfl hl.1 (Nat.le_of_ble_eq_true rfl) dL_kept_327 ⟨(by show _ ≤ 30012; omega), (by show _ ≤ 180072; omega)⟩ (rest := [.int v11]) (fun H locs hP hS _ => ?_)
          refine W.eq (g2 := F0 m 330 ls [.long r89, .int v11]) rfl ?_
          refine lv_ldc2 (v := (-1 : Int64)) F.1 F.2.1 F.2.2.2.1 (F.2.2.2.2 _ (List.mem_of_getElem? (i := 598) rfl)) dL_kept_330 ?_
          refine W.lcmp F.1 F.2.1 dL_kept_333 ?_
          refine lv_if_ne (tgt := 341) F.1 F.2.1 dL_kept_334 rfl (fun hc91 => ?_) (fun hc91 => ?_)
          · have hf := ifn hc91 hf
            refine lv_iconst (v := (1 : Int32)) F.1 F.2.1 dL_kept_341 (by decide) ?_
            refine W.widen (k := 12 * (2500 + 1 - n)) (n := 72 * (2500 + 1 - n)) (by omega) (by omega) ?_
            exact ih.2.2.2.2.2.2.2.2.2.2.2.1 v1 v2 w3 v5 v6 v7 v10 v12 (1 : Int32) v11 _ _ _ (lv_sub hl [0, 1, 2, 3, 4, 5, 6, 7, 9] rfl) hP hS hf
          · have hf := ifp hc91 hf
            refine lv_iconst (v := (0 : Int32)) F.1 F.2.1 dL_kept_337 (by decide) ?_
            refine lv_goto (tgt := 342) F.1 F.2.1 dL_kept_338 rfl ?_
            refine W.widen (k := 12 * (2500 + 1 - n)) (n := 72 * (2500 + 1 - n)) (by omega) (by omega) ?_
            exact ih.2.2.2.2.2.2.2.2.2.2.2.1 v1 v2 w3 v5 v6 v7 v10 v12 (0 : Int32) v11 _ _ _ (lv_sub hl [0, 1, 2, 3, 4, 5, 6, 7, 9] rfl) hP hS hf
      · intro v1 v2 w3 v5 v6 v7 v10 v11 w12 w14 w16 v18  ls H locs hl hP hS hf
        have hf : fb_L_kept_7 μ (fl_L_kept μ n) 0 0 v1 v10 v11 0 v18 v2 v5 v6 v7 0 w12 w14 w16 w3 0 0 = some r := hf
        unfold fb_L_kept_7 at hf
        refine lv_iload F.1 F.2.1 dL_kept_164 (lv_at hl 12 rfl) ?_
        refine lv_i2l (v := v18.toInt64) F.1 F.2.1 dL_kept_166 rfl ?_
        refine lv_lload F.1 F.2.1 dL_kept_167 (lv_at hl 9 rfl) ?_
        refine lv_lload F.1 F.2.1 dL_kept_169 (lv_at hl 10 rfl) ?_
        refine lv_ladd F.1 F.2.1 dL_kept_171 ?_
        refine W.lcmp F.1 F.2.1 dL_kept_172 ?_
        refine lv_if_ge (tgt := 215) F.1 F.2.1 dL_kept_173 rfl (fun hc92 => ?_) (fun hc92 => ?_)
        · have hf := ifp hc92 hf
          refine lv_iload F.1 F.2.1 dL_kept_215 (lv_at hl 4 rfl) ?_
          refine lv_if_eq (tgt := 280) F.1 F.2.1 dL_kept_217 rfl (fun hc93 => ?_) (fun hc93 => ?_)
          · have hf := ifp hc93 hf
            refine W.widen (k := 12 * (2500 + 1 - n)) (n := 72 * (2500 + 1 - n)) (by omega) (by omega) ?_
            exact ih.2.2.2.2.2.2.2.2.2.2.2.2.1 v1 v2 w3 v6 v7 v10 v11 w12 w14 w16 _ _ _ (lv_sub hl [0, 1, 2, 3, 5, 6, 7, 8, 9, 10, 11] rfl) hP hS hf
          · have hf := ifn hc93 hf
            refine lv_lload F.1 F.2.1 dL_kept_220 (lv_at hl 9 rfl) ?_
            refine lv_lconst (v := (0 : Int64)) F.1 F.2.1 dL_kept_222 rfl ?_
            refine W.lcmp F.1 F.2.1 dL_kept_223 ?_
            refine lv_if_eq (tgt := 245) F.1 F.2.1 dL_kept_224 rfl (fun hc94 => ?_) (fun hc94 => ?_)
            · have hf := ifp hc94 hf
              refine W.widen (k := 12 * (2500 + 1 - n)) (n := 72 * (2500 + 1 - n)) (by omega) (by omega) ?_
              exact ih.2.2.2.2.2.2.2.2.2.2.2.2.2.1 v1 v2 w3 v6 v7 v10 v11 w12 w14 w16 _ _ _ (lv_sub hl [0, 1, 2, 3, 5, 6, 7, 8, 9, 10, 11] rfl) hP hS hf
            · have hf := ifn hc94 hf
              refine lv_aload_n F.1 F.2.1 dL_kept_227 rfl (lv_at hl 0 rfl) ?_
              refine lv_iload F.1 F.2.1 dL_kept_228 (lv_at hl 5 rfl) ?_
              refine lv_lload F.1 F.2.1 dL_kept_230 (lv_at hl 9 rfl) ?_
              refine lv_l2i (v := w12.toInt32) F.1 F.2.1 dL_kept_232 rfl ?_
              refine lv_iconst (v := (1 : Int32)) F.1 F.2.1 dL_kept_233 (by decide) ?_
              refine lv_isub F.1 F.2.1 dL_kept_234 ?_
              obtain ⟨r95, hr96, hf⟩ := bnd hf
              refine a_H F hK (fun _ hU hW => sl_U hG hS hU hW) (fun _ h => h) hP hS (c_L_since hlt v6 (w12.toInt32 - (1 : Int32)) hr96) (vx_cwSW 3 F.2.2.2.2 gB_kept_L_since rfl rfl rfl hd_L_since ⟨(Nat.le_of_ble_eq_true rfl), (Nat.le_of_ble_eq_true rfl)⟩) rfl rfl hl.1 (Nat.le_of_ble_eq_true rfl) dL_kept_235 ⟨(by show _ ≤ 30012; omega), (by show _ ≤ 180072; omega)⟩ (rest := []) (fun H locs hP hS _ => ?_)
              refine W.eq (g2 := F0 m 238 ls [.long r95]) rfl ?_
              refine lv_ldc2 (v := (-1 : Int64)) F.1 F.2.1 F.2.2.2.1 (F.2.2.2.2 _ (List.mem_of_getElem? (i := 598) rfl)) dL_kept_238 ?_
              refine W.lcmp F.1 F.2.1 dL_kept_241 ?_
              refine lv_if_ne (tgt := 280) F.1 F.2.1 dL_kept_242 rfl (fun hc97 => ?_) (fun hc97 => ?_)
              · have hf := ifn hc97 hf
                refine W.widen (k := 12 * (2500 + 1 - n)) (n := 72 * (2500 + 1 - n)) (by omega) (by omega) ?_
                exact ih.2.2.2.2.2.2.2.2.2.2.2.2.1 v1 v2 w3 v6 v7 v10 v11 w12 w14 w16 _ _ _ (lv_sub hl [0, 1, 2, 3, 5, 6, 7, 8, 9, 10, 11] rfl) hP hS hf
              · have hf := ifp hc97 hf
                refine W.widen (k := 12 * (2500 + 1 - n)) (n := 72 * (2500 + 1 - n)) (by omega) (by omega) ?_
                exact ih.2.2.2.2.2.2.2.2.2.2.2.2.2.1 v1 v2 w3 v6 v7 v10 v11 w12 w14 w16 _ _ _ (lv_sub hl [0, 1, 2, 3, 5, 6, 7, 8, 9, 10, 11] rfl) hP hS hf
        · have hf := ifn hc92 hf
          refine lv_iload F.1 F.2.1 dL_kept_176 (lv_at hl 4 rfl) ?_
          refine lv_if_eq (tgt := 206) F.1 F.2.1 dL_kept_178 rfl (fun hc98 => ?_) (fun hc98 => ?_)
          · have hf := ifp hc98 hf
            refine lv_iconst (v := (0 : Int32)) F.1 F.2.1 dL_kept_206 (by decide) ?_
            refine lv_istore F.1 F.2.1 dL_kept_207 hl (Nat.le_of_ble_eq_true rfl) rfl (fun ls hl => ?_)
            have hl : lv_has ls 19 [(5, .int (0 : Int32)), (0, .ref (x + 0)), (1, .int v1), (2, .int v2), (3, .long w3), (6, .int v6), (7, .int v7), (10, .int v10), (11, .int v11), (12, .long w12), (14, .long w14), (16, .long w16), (18, .int v18)] := hl
            refine lv_iinc (v := (v18 + (1 : Int32))) F.1 F.2.1 dL_kept_209 hl (k := 12) rfl rfl (Nat.le_of_ble_eq_true rfl) rfl (fun ls hl => ?_)
            have hl : lv_has ls 19 [(18, .int (v18 + (1 : Int32))), (5, .int (0 : Int32)), (0, .ref (x + 0)), (1, .int v1), (2, .int v2), (3, .long w3), (6, .int v6), (7, .int v7), (10, .int v10), (11, .int v11), (12, .long w12), (14, .long w14), (16, .long w16)] := hl
            refine lv_goto (tgt := 164) F.1 F.2.1 dL_kept_212 rfl ?_
            refine W.widen (k := 12 * (2500 + 1 - n)) (n := 72 * (2500 + 1 - n)) (by omega) (by omega) ?_
            exact ih.2.2.2.2.2.2.1 v1 v2 w3 (0 : Int32) v6 v7 v10 v11 w12 w14 w16 (v18 + (1 : Int32)) _ _ _ (lv_sub hl [2, 3, 4, 5, 1, 6, 7, 8, 9, 10, 11, 12, 0] rfl) hP hS hf
          · have hf := ifn hc98 hf
            refine lv_aload_n F.1 F.2.1 dL_kept_181 rfl (lv_at hl 0 rfl) ?_
            refine lv_iload F.1 F.2.1 dL_kept_182 (lv_at hl 5 rfl) ?_
            refine lv_iload F.1 F.2.1 dL_kept_184 (lv_at hl 12 rfl) ?_
            obtain ⟨r99, hr100, hf⟩ := bnd hf
            refine a_H F hK (fun _ hU hW => sl_U hG hS hU hW) (fun _ h => h) hP hS (c_L_since hlt v6 v18 hr100) (vx_cwSW 3 F.2.2.2.2 gB_kept_L_since rfl rfl rfl hd_L_since ⟨(Nat.le_of_ble_eq_true rfl), (Nat.le_of_ble_eq_true rfl)⟩) rfl rfl hl.1 (Nat.le_of_ble_eq_true rfl) dL_kept_186 ⟨(by show _ ≤ 30012; omega), (by show _ ≤ 180072; omega)⟩ (rest := []) (fun H locs hP hS _ => ?_)
            refine W.eq (g2 := F0 m 189 ls [.long r99]) rfl ?_
            refine lv_aload_n F.1 F.2.1 dL_kept_189 rfl (lv_at hl 0 rfl) ?_
            refine lv_iload F.1 F.2.1 dL_kept_190 (lv_at hl 5 rfl) ?_
            refine lv_iload F.1 F.2.1 dL_kept_192 (lv_at hl 8 rfl) ?_
            refine lv_iconst (v := (3 : Int32)) F.1 F.2.1 dL_kept_194 (by decide) ?_
            obtain ⟨r101, hr102, hf⟩ := bnd hf
            refine a_H F hK (fun _ hU hW => sl_U hG hS hU hW) (fun _ h => h) hP hS (c_L_layerOf hlt v6 v11 (3 : Int32) hr102) (vx_cwSW 4 F.2.2.2.2 gB_kept_L_layerOf rfl rfl rfl hd_L_layerOf ⟨(Nat.le_of_ble_eq_true rfl), (Nat.le_of_ble_eq_true rfl)⟩) rfl rfl hl.1 (Nat.le_of_ble_eq_true rfl) dL_kept_195 ⟨(by show _ ≤ 30012; omega), (by show _ ≤ 180072; omega)⟩ (rest := [.long r99]) (fun H locs hP hS _ => ?_)
            refine W.eq (g2 := F0 m 198 ls [.long r101, .long r99]) rfl ?_
            refine W.lcmp F.1 F.2.1 dL_kept_198 ?_
            refine lv_if_lt (tgt := 206) F.1 F.2.1 dL_kept_199 rfl (fun hc103 => ?_) (fun hc103 => ?_)
            · have hf := ifp hc103 hf
              refine lv_iconst (v := (0 : Int32)) F.1 F.2.1 dL_kept_206 (by decide) ?_
              refine lv_istore F.1 F.2.1 dL_kept_207 hl (Nat.le_of_ble_eq_true rfl) rfl (fun ls hl => ?_)
              have hl : lv_has ls 19 [(5, .int (0 : Int32)), (0, .ref (x + 0)), (1, .int v1), (2, .int v2), (3, .long w3), (6, .int v6), (7, .int v7), (10, .int v10), (11, .int v11), (12, .long w12), (14, .long w14), (16, .long w16), (18, .int v18)] := hl
              refine lv_iinc (v := (v18 + (1 : Int32))) F.1 F.2.1 dL_kept_209 hl (k := 12) rfl rfl (Nat.le_of_ble_eq_true rfl) rfl (fun ls hl => ?_)
              have hl : lv_has ls 19 [(18, .int (v18 + (1 : Int32))), (5, .int (0 : Int32)), (0, .ref (x + 0)), (1, .int v1), (2, .int v2), (3, .long w3), (6, .int v6), (7, .int v7), (10, .int v10), (11, .int v11), (12, .long w12), (14, .long w14), (16, .long w16)] := hl
              refine lv_goto (tgt := 164) F.1 F.2.1 dL_kept_212 rfl ?_
              refine W.widen (k := 12 * (2500 + 1 - n)) (n := 72 * (2500 + 1 - n)) (by omega) (by omega) ?_
              exact ih.2.2.2.2.2.2.1 v1 v2 w3 (0 : Int32) v6 v7 v10 v11 w12 w14 w16 (v18 + (1 : Int32)) _ _ _ (lv_sub hl [2, 3, 4, 5, 1, 6, 7, 8, 9, 10, 11, 12, 0] rfl) hP hS hf
            · have hf := ifn hc103 hf
              refine lv_iconst (v := (1 : Int32)) F.1 F.2.1 dL_kept_202 (by decide) ?_
              refine lv_goto (tgt := 207) F.1 F.2.1 dL_kept_203 rfl ?_
              refine lv_istore F.1 F.2.1 dL_kept_207 hl (Nat.le_of_ble_eq_true rfl) rfl (fun ls hl => ?_)
              have hl : lv_has ls 19 [(5, .int (1 : Int32)), (0, .ref (x + 0)), (1, .int v1), (2, .int v2), (3, .long w3), (6, .int v6), (7, .int v7), (10, .int v10), (11, .int v11), (12, .long w12), (14, .long w14), (16, .long w16), (18, .int v18)] := hl
              refine lv_iinc (v := (v18 + (1 : Int32))) F.1 F.2.1 dL_kept_209 hl (k := 12) rfl rfl (Nat.le_of_ble_eq_true rfl) rfl (fun ls hl => ?_)
              have hl : lv_has ls 19 [(18, .int (v18 + (1 : Int32))), (5, .int (1 : Int32)), (0, .ref (x + 0)), (1, .int v1), (2, .int v2), (3, .long w3), (6, .int v6), (7, .int v7), (10, .int v10), (11, .int v11), (12, .long w12), (14, .long w14), (16, .long w16)] := hl
              refine lv_goto (tgt := 164) F.1 F.2.1 dL_kept_212 rfl ?_
              refine W.widen (k := 12 * (2500 + 1 - n)) (n := 72 * (2500 + 1 - n)) (by omega) (by omega) ?_
              exact ih.2.2.2.2.2.2.1 v1 v2 w3 (1 : Int32) v6 v7 v10 v11 w12 w14 w16 (v18 + (1 : Int32)) _ _ _ (lv_sub hl [2, 3, 4, 5, 1, 6, 7, 8, 9, 10, 11, 12, 0] rfl) hP hS hf
      · intro v1 v2 w3 v6 v7 v10 v11 w12 w14 w16  ls H locs hl hP hS hf
        have hf : fb_L_kept_8 μ (fl_L_kept μ n) 0 0 v1 v10 v11 0 0 v2 0 v6 v7 0 w12 w14 w16 w3 0 0 = some r := hf
        unfold fb_L_kept_8 at hf
        refine lv_lload F.1 F.2.1 dL_kept_116 (lv_at hl 9 rfl) ?_
        refine lv_lconst (v := (0 : Int64)) F.1 F.2.1 dL_kept_118 rfl ?_
        refine W.lcmp F.1 F.2.1 dL_kept_119 ?_
        refine lv_if_le (tgt := 156) F.1 F.2.1 dL_kept_120 rfl (fun hc104 => ?_) (fun hc104 => ?_)
        · have hf := ifp hc104 hf
          refine lv_iconst (v := (0 : Int32)) F.1 F.2.1 dL_kept_156 (by decide) ?_
          refine lv_istore F.1 F.2.1 dL_kept_157 hl (Nat.le_of_ble_eq_true rfl) rfl (fun ls hl => ?_)
          have hl : lv_has ls 19 [(5, .int (0 : Int32)), (0, .ref (x + 0)), (1, .int v1), (2, .int v2), (3, .long w3), (6, .int v6), (7, .int v7), (10, .int v10), (11, .int v11), (12, .long w12), (14, .long w14), (16, .long w16)] := hl
          refine lv_lload F.1 F.2.1 dL_kept_159 (lv_at hl 9 rfl) ?_
          refine lv_l2i (v := w12.toInt32) F.1 F.2.1 dL_kept_161 rfl ?_
          refine lv_istore F.1 F.2.1 dL_kept_162 hl (Nat.le_of_ble_eq_true rfl) rfl (fun ls hl => ?_)
          have hl : lv_has ls 19 [(18, .int w12.toInt32), (5, .int (0 : Int32)), (0, .ref (x + 0)), (1, .int v1), (2, .int v2), (3, .long w3), (6, .int v6), (7, .int v7), (10, .int v10), (11, .int v11), (12, .long w12), (14, .long w14), (16, .long w16)] := hl
          refine W.widen (k := 12 * (2500 + 1 - n)) (n := 72 * (2500 + 1 - n)) (by omega) (by omega) ?_
          exact ih.2.2.2.2.2.2.1 v1 v2 w3 (0 : Int32) v6 v7 v10 v11 w12 w14 w16 w12.toInt32 _ _ _ (lv_sub hl [2, 3, 4, 5, 1, 6, 7, 8, 9, 10, 11, 12, 0] rfl) hP hS hf
        · have hf := ifn hc104 hf
          refine lv_lload F.1 F.2.1 dL_kept_123 (lv_at hl 10 rfl) ?_
          refine lv_lconst (v := (0 : Int64)) F.1 F.2.1 dL_kept_125 rfl ?_
          refine W.lcmp F.1 F.2.1 dL_kept_126 ?_
          refine lv_if_le (tgt := 134) F.1 F.2.1 dL_kept_127 rfl (fun hc105 => ?_) (fun hc105 => ?_)
          · have hf := ifp hc105 hf
            refine lv_iconst (v := (0 : Int32)) F.1 F.2.1 dL_kept_134 (by decide) ?_
            refine W.widen (k := 12 * (2500 + 1 - n)) (n := 72 * (2500 + 1 - n)) (by omega) (by omega) ?_
            exact ih.2.2.2.2.2.2.2.2.2.2.2.2.2.2.1 v1 v2 w3 v6 v7 v10 v11 w12 w14 w16 (0 : Int32) _ _ _ (lv_sub hl [0, 1, 2, 3, 4, 5, 6, 7, 8, 9, 10] rfl) hP hS hf
          · have hf := ifn hc105 hf
            refine lv_iconst (v := (1 : Int32)) F.1 F.2.1 dL_kept_130 (by decide) ?_
            refine lv_goto (tgt := 135) F.1 F.2.1 dL_kept_131 rfl ?_
            refine W.widen (k := 12 * (2500 + 1 - n)) (n := 72 * (2500 + 1 - n)) (by omega) (by omega) ?_
            exact ih.2.2.2.2.2.2.2.2.2.2.2.2.2.2.1 v1 v2 w3 v6 v7 v10 v11 w12 w14 w16 (1 : Int32) _ _ _ (lv_sub hl [0, 1, 2, 3, 4, 5, 6, 7, 8, 9, 10] rfl) hP hS hf
      · intro v1 v2 w3 v5 w6 v8  ls H locs hl hP hS hf
        have hf : fb_L_kept_9 μ (fl_L_kept μ n) 0 0 v1 0 0 0 0 v2 v5 0 0 v8 0 0 0 w3 w6 0 = some r := hf
        unfold fb_L_kept_9 at hf
        refine lv_iload F.1 F.2.1 dL_kept_810 (lv_at hl 6 rfl) ?_
        refine lv_iload_n F.1 F.2.1 dL_kept_812 rfl (lv_at hl 1 rfl) ?_
        refine lv_icmp_ge (tgt := 878) F.1 F.2.1 dL_kept_813 rfl (fun hc106 => ?_) (fun hc106 => ?_)
        · have hf := ifp hc106 hf
          refine W.widen (k := 12 * (2500 + 1 - n)) (n := 72 * (2500 + 1 - n)) (by omega) (by omega) ?_
          exact ih.2.2.2.2.2.2.2.2.2.2.2.2.2.2.2.1 v1 v2 w3 v5 _ _ _ (lv_sub hl [0, 1, 2, 3, 4] rfl) hP hS hf
        · have hf := ifn hc106 hf
          refine lv_iload F.1 F.2.1 dL_kept_816 (lv_at hl 4 rfl) ?_
          refine lv_if_eq (tgt := 878) F.1 F.2.1 dL_kept_818 rfl (fun hc107 => ?_) (fun hc107 => ?_)
          · have hf := ifp hc107 hf
            refine W.widen (k := 12 * (2500 + 1 - n)) (n := 72 * (2500 + 1 - n)) (by omega) (by omega) ?_
            exact ih.2.2.2.2.2.2.2.2.2.2.2.2.2.2.2.1 v1 v2 w3 v5 _ _ _ (lv_sub hl [0, 1, 2, 3, 4] rfl) hP hS hf
          · have hf := ifn hc107 hf
            refine lv_aload_n F.1 F.2.1 dL_kept_821 rfl (lv_at hl 0 rfl) ?_
            refine lv_iload F.1 F.2.1 dL_kept_822 (lv_at hl 6 rfl) ?_
            obtain ⟨r108, hr109, hf⟩ := bnd hf
            refine a_H F hK (fun _ hU hW => sl_U hG hS hU hW) (fun _ h => h) hP hS (c_L_oldest hlt v8 hr109) (vx_cwSW 2 F.2.2.2.2 gB_kept_L_oldest rfl rfl rfl hd_L_oldest ⟨(Nat.le_of_ble_eq_true rfl), (Nat.le_of_ble_eq_true rfl)⟩) rfl rfl hl.1 (Nat.le_of_ble_eq_true rfl) dL_kept_824 ⟨(by show _ ≤ 30012; omega), (by show _ ≤ 180072; omega)⟩ (rest := []) (fun H locs hP hS _ => ?_)
            refine W.eq (g2 := F0 m 827 ls [.long r108]) rfl ?_
            refine lv_l2i (v := r108.toInt32) F.1 F.2.1 dL_kept_827 rfl ?_
            refine lv_istore F.1 F.2.1 dL_kept_828 hl (Nat.le_of_ble_eq_true rfl) rfl (fun ls hl => ?_)
            have hl : lv_has ls 19 [(9, .int r108.toInt32), (0, .ref (x + 0)), (1, .int v1), (2, .int v2), (3, .long w3), (5, .int v5), (6, .long w6), (8, .int v8)] := hl
            refine lv_aload_n F.1 F.2.1 dL_kept_830 rfl (lv_at hl 1 rfl) ?_
            refine lv_iload F.1 F.2.1 dL_kept_831 (lv_at hl 0 rfl) ?_
            refine lv_bipush (v := (100 : Int32)) F.1 F.2.1 dL_kept_833 (by decide) ?_
            refine lv_idiv F.1 F.2.1 dL_kept_835 (by decide) ?_
            refine lv_iload F.1 F.2.1 dL_kept_836 (lv_at hl 0 rfl) ?_
            refine lv_bipush (v := (100 : Int32)) F.1 F.2.1 dL_kept_838 (by decide) ?_
            refine lv_irem F.1 F.2.1 dL_kept_840 (by decide) ?_
            obtain ⟨r110, hr111, hf⟩ := bnd hf
            refine a_H F hK (fun _ hU hW => sl_U hG hS hU hW) (fun _ h => h) hP hS (c_L_since hlt (r108.toInt32 / (100 : Int32)) (r108.toInt32 - (r108.toInt32 / (100 : Int32)) * (100 : Int32)) hr111) (vx_cwSW 3 F.2.2.2.2 gB_kept_L_since rfl rfl rfl hd_L_since ⟨(Nat.le_of_ble_eq_true rfl), (Nat.le_of_ble_eq_true rfl)⟩) rfl rfl hl.1 (Nat.le_of_ble_eq_true rfl) dL_kept_841 ⟨(by show _ ≤ 30012; omega), (by show _ ≤ 180072; omega)⟩ (rest := []) (fun H locs hP hS _ => ?_)
            refine W.eq (g2 := F0 m 844 ls [.long r110]) rfl ?_
            refine lv_lstore F.1 F.2.1 dL_kept_844 hl (Nat.le_of_ble_eq_true rfl) rfl (fun ls hl => ?_)
            have hl : lv_has ls 19 [(10, .long r110), (9, .int r108.toInt32), (0, .ref (x + 0)), (1, .int v1), (2, .int v2), (3, .long w3), (5, .int v5), (6, .long w6), (8, .int v8)] := hl
            refine lv_lload F.1 F.2.1 dL_kept_846 (lv_at hl 0 rfl) ?_
            refine lv_lload F.1 F.2.1 dL_kept_848 (lv_at hl 7 rfl) ?_
            refine W.lcmp F.1 F.2.1 dL_kept_850 ?_
            refine lv_if_lt (tgt := 865) F.1 F.2.1 dL_kept_851 rfl (fun hc112 => ?_) (fun hc112 => ?_)
            · have hf := ifp hc112 hf
              refine lv_iconst (v := (0 : Int32)) F.1 F.2.1 dL_kept_865 (by decide) ?_
              refine lv_istore F.1 F.2.1 dL_kept_866 hl (Nat.le_of_ble_eq_true rfl) rfl (fun ls hl => ?_)
              have hl : lv_has ls 19 [(5, .int (0 : Int32)), (10, .long r110), (9, .int r108.toInt32), (0, .ref (x + 0)), (1, .int v1), (2, .int v2), (3, .long w3), (6, .long w6), (8, .int v8)] := hl
              refine lv_lload F.1 F.2.1 dL_kept_868 (lv_at hl 1 rfl) ?_
              refine lv_lstore F.1 F.2.1 dL_kept_870 hl (Nat.le_of_ble_eq_true rfl) rfl (fun ls hl => ?_)
              have hl : lv_has ls 19 [(6, .long r110), (5, .int (0 : Int32)), (10, .long r110), (9, .int r108.toInt32), (0, .ref (x + 0)), (1, .int v1), (2, .int v2), (3, .long w3), (8, .int v8)] := hl
              refine lv_iinc (v := (v8 + (1 : Int32))) F.1 F.2.1 dL_kept_872 hl (k := 8) rfl rfl (Nat.le_of_ble_eq_true rfl) rfl (fun ls hl => ?_)
              have hl : lv_has ls 19 [(8, .int (v8 + (1 : Int32))), (6, .long r110), (5, .int (0 : Int32)), (10, .long r110), (9, .int r108.toInt32), (0, .ref (x + 0)), (1, .int v1), (2, .int v2), (3, .long w3)] := hl
              refine lv_goto (tgt := 810) F.1 F.2.1 dL_kept_875 rfl ?_
              refine W.widen (k := 12 * (2500 + 1 - n)) (n := 72 * (2500 + 1 - n)) (by omega) (by omega) ?_
              exact ih.2.2.2.2.2.2.2.2.1 v1 v2 w3 (0 : Int32) r110 (v8 + (1 : Int32)) _ _ _ (lv_sub hl [5, 6, 7, 8, 2, 1, 0] rfl) hP hS hf
            · have hf := ifn hc112 hf
              refine lv_lload F.1 F.2.1 dL_kept_854 (lv_at hl 0 rfl) ?_
              refine lv_lconst (v := (0 : Int64)) F.1 F.2.1 dL_kept_856 rfl ?_
              refine W.lcmp F.1 F.2.1 dL_kept_857 ?_
              refine lv_if_le (tgt := 865) F.1 F.2.1 dL_kept_858 rfl (fun hc113 => ?_) (fun hc113 => ?_)
              · have hf := ifp hc113 hf
                refine lv_iconst (v := (0 : Int32)) F.1 F.2.1 dL_kept_865 (by decide) ?_
                refine lv_istore F.1 F.2.1 dL_kept_866 hl (Nat.le_of_ble_eq_true rfl) rfl (fun ls hl => ?_)
                have hl : lv_has ls 19 [(5, .int (0 : Int32)), (10, .long r110), (9, .int r108.toInt32), (0, .ref (x + 0)), (1, .int v1), (2, .int v2), (3, .long w3), (6, .long w6), (8, .int v8)] := hl
                refine lv_lload F.1 F.2.1 dL_kept_868 (lv_at hl 1 rfl) ?_
                refine lv_lstore F.1 F.2.1 dL_kept_870 hl (Nat.le_of_ble_eq_true rfl) rfl (fun ls hl => ?_)
                have hl : lv_has ls 19 [(6, .long r110), (5, .int (0 : Int32)), (10, .long r110), (9, .int r108.toInt32), (0, .ref (x + 0)), (1, .int v1), (2, .int v2), (3, .long w3), (8, .int v8)] := hl
                refine lv_iinc (v := (v8 + (1 : Int32))) F.1 F.2.1 dL_kept_872 hl (k := 8) rfl rfl (Nat.le_of_ble_eq_true rfl) rfl (fun ls hl => ?_)
                have hl : lv_has ls 19 [(8, .int (v8 + (1 : Int32))), (6, .long r110), (5, .int (0 : Int32)), (10, .long r110), (9, .int r108.toInt32), (0, .ref (x + 0)), (1, .int v1), (2, .int v2), (3, .long w3)] := hl
                refine lv_goto (tgt := 810) F.1 F.2.1 dL_kept_875 rfl ?_
                refine W.widen (k := 12 * (2500 + 1 - n)) (n := 72 * (2500 + 1 - n)) (by omega) (by omega) ?_
                exact ih.2.2.2.2.2.2.2.2.1 v1 v2 w3 (0 : Int32) r110 (v8 + (1 : Int32)) _ _ _ (lv_sub hl [5, 6, 7, 8, 2, 1, 0] rfl) hP hS hf
              · have hf := ifn hc113 hf
                refine lv_iconst (v := (1 : Int32)) F.1 F.2.1 dL_kept_861 (by decide) ?_
                refine lv_goto (tgt := 866) F.1 F.2.1 dL_kept_862 rfl ?_
                refine lv_istore F.1 F.2.1 dL_kept_866 hl (Nat.le_of_ble_eq_true rfl) rfl (fun ls hl => ?_)
                have hl : lv_has ls 19 [(5, .int (1 : Int32)), (10, .long r110), (9, .int r108.toInt32), (0, .ref (x + 0)), (1, .int v1), (2, .int v2), (3, .long w3), (6, .long w6), (8, .int v8)] := hl
                refine lv_lload F.1 F.2.1 dL_kept_868 (lv_at hl 1 rfl) ?_
                refine lv_lstore F.1 F.2.1 dL_kept_870 hl (Nat.le_of_ble_eq_true rfl) rfl (fun ls hl => ?_)
                have hl : lv_has ls 19 [(6, .long r110), (5, .int (1 : Int32)), (10, .long r110), (9, .int r108.toInt32), (0, .ref (x + 0)), (1, .int v1), (2, .int v2), (3, .long w3), (8, .int v8)] := hl
                refine lv_iinc (v := (v8 + (1 : Int32))) F.1 F.2.1 dL_kept_872 hl (k := 8) rfl rfl (Nat.le_of_ble_eq_true rfl) rfl (fun ls hl => ?_)
                have hl : lv_has ls 19 [(8, .int (v8 + (1 : Int32))), (6, .long r110), (5, .int (1 : Int32)), (10, .long r110), (9, .int r108.toInt32), (0, .ref (x + 0)), (1, .int v1), (2, .int v2), (3, .long w3)] := hl
                refine lv_goto (tgt := 810) F.1 F.2.1 dL_kept_875 rfl ?_
                refine W.widen (k := 12 * (2500 + 1 - n)) (n := 72 * (2500 + 1 - n)) (by omega) (by omega) ?_
                exact ih.2.2.2.2.2.2.2.2.1 v1 v2 w3 (1 : Int32) r110 (v8 + (1 : Int32)) _ _ _ (lv_sub hl [5, 6, 7, 8, 2, 1, 0] rfl) hP hS hf
      · intro v1 v2 w3 v6 t0 t1  ls H locs hl hP hS hf
        have hf : fb_L_kept_10 μ (fl_L_kept μ n) t0 t1 v1 0 0 0 0 v2 0 v6 0 0 0 0 0 w3 0 0 = some r := hf
        unfold fb_L_kept_10 at hf
        refine lv_icmp_ne (tgt := 707) F.1 F.2.1 dL_kept_682 rfl (fun hc114 => ?_) (fun hc114 => ?_)
        · have hf := ifn hc114 hf
          refine lv_iconst (v := (0 : Int32)) F.1 F.2.1 dL_kept_707 (by decide) ?_
          refine lv_istore F.1 F.2.1 dL_kept_708 hl (Nat.le_of_ble_eq_true rfl) rfl (fun ls hl => ?_)
          have hl : lv_has ls 19 [(5, .int (0 : Int32)), (0, .ref (x + 0)), (1, .int v1), (2, .int v2), (3, .long w3), (6, .int v6)] := hl
          refine lv_iinc (v := (v6 + (1 : Int32))) F.1 F.2.1 dL_kept_710 hl (k := 5) rfl rfl (Nat.le_of_ble_eq_true rfl) rfl (fun ls hl => ?_)
          have hl : lv_has ls 19 [(6, .int (v6 + (1 : Int32))), (5, .int (0 : Int32)), (0, .ref (x + 0)), (1, .int v1), (2, .int v2), (3, .long w3)] := hl
          refine lv_goto (tgt := 559) F.1 F.2.1 dL_kept_713 rfl ?_
          refine W.widen (k := 12 * (2500 + 1 - n)) (n := 72 * (2500 + 1 - n)) (by omega) (by omega) ?_
          exact ih.2.1 v1 v2 w3 (0 : Int32) (v6 + (1 : Int32)) _ _ _ (lv_sub hl [2, 3, 4, 5, 1, 0] rfl) hP hS hf
        · have hf := ifp hc114 hf
          refine lv_aload_n F.1 F.2.1 dL_kept_685 rfl (lv_at hl 0 rfl) ?_
          refine lv_iload F.1 F.2.1 dL_kept_686 (lv_at hl 4 rfl) ?_
          refine lv_iconst (v := (4 : Int32)) F.1 F.2.1 dL_kept_688 (by decide) ?_
          obtain ⟨r115, hr116, hf⟩ := bnd hf
          refine a_H F hK (fun _ hU hW => sl_U hG hS hU hW) (fun _ h => h) hP hS (c_L_tubeOf hlt v6 (4 : Int32) hr116) (vx_cwSW 3 F.2.2.2.2 gB_kept_L_tubeOf rfl rfl rfl hd_L_tubeOf ⟨(Nat.le_of_ble_eq_true rfl), (Nat.le_of_ble_eq_true rfl)⟩) rfl rfl hl.1 (Nat.le_of_ble_eq_true rfl) dL_kept_689 ⟨(by show _ ≤ 30012; omega), (by show _ ≤ 180072; omega)⟩ (rest := []) (fun H locs hP hS _ => ?_)
          refine W.eq (g2 := F0 m 692 ls [.long r115]) rfl ?_
          refine lv_aload_n F.1 F.2.1 dL_kept_692 rfl (lv_at hl 0 rfl) ?_
          refine lv_iload F.1 F.2.1 dL_kept_693 (lv_at hl 4 rfl) ?_
          refine lv_iconst (v := (1 : Int32)) F.1 F.2.1 dL_kept_695 (by decide) ?_
          obtain ⟨r117, hr118, hf⟩ := bnd hf
          refine a_H F hK (fun _ hU hW => sl_U hG hS hU hW) (fun _ h => h) hP hS (c_L_tubeOf hlt v6 (1 : Int32) hr118) (vx_cwSW 3 F.2.2.2.2 gB_kept_L_tubeOf rfl rfl rfl hd_L_tubeOf ⟨(Nat.le_of_ble_eq_true rfl), (Nat.le_of_ble_eq_true rfl)⟩) rfl rfl hl.1 (Nat.le_of_ble_eq_true rfl) dL_kept_696 ⟨(by show _ ≤ 30012; omega), (by show _ ≤ 180072; omega)⟩ (rest := [.long r115]) (fun H locs hP hS _ => ?_)
          refine W.eq (g2 := F0 m 699 ls [.long r117, .long r115]) rfl ?_
          refine W.lcmp F.1 F.2.1 dL_kept_699 ?_
          refine lv_if_ge (tgt := 707) F.1 F.2.1 dL_kept_700 rfl (fun hc119 => ?_) (fun hc119 => ?_)
          · have hf := ifp hc119 hf
            refine lv_iconst (v := (0 : Int32)) F.1 F.2.1 dL_kept_707 (by decide) ?_
            refine lv_istore F.1 F.2.1 dL_kept_708 hl (Nat.le_of_ble_eq_true rfl) rfl (fun ls hl => ?_)
            have hl : lv_has ls 19 [(5, .int (0 : Int32)), (0, .ref (x + 0)), (1, .int v1), (2, .int v2), (3, .long w3), (6, .int v6)] := hl
            refine lv_iinc (v := (v6 + (1 : Int32))) F.1 F.2.1 dL_kept_710 hl (k := 5) rfl rfl (Nat.le_of_ble_eq_true rfl) rfl (fun ls hl => ?_)
            have hl : lv_has ls 19 [(6, .int (v6 + (1 : Int32))), (5, .int (0 : Int32)), (0, .ref (x + 0)), (1, .int v1), (2, .int v2), (3, .long w3)] := hl
            refine lv_goto (tgt := 559) F.1 F.2.1 dL_kept_713 rfl ?_
            refine W.widen (k := 12 * (2500 + 1 - n)) (n := 72 * (2500 + 1 - n)) (by omega) (by omega) ?_
            exact ih.2.1 v1 v2 w3 (0 : Int32) (v6 + (1 : Int32)) _ _ _ (lv_sub hl [2, 3, 4, 5, 1, 0] rfl) hP hS hf
          · have hf := ifn hc119 hf
            refine lv_iconst (v := (1 : Int32)) F.1 F.2.1 dL_kept_703 (by decide) ?_
            refine lv_goto (tgt := 708) F.1 F.2.1 dL_kept_704 rfl ?_
            refine lv_istore F.1 F.2.1 dL_kept_708 hl (Nat.le_of_ble_eq_true rfl) rfl (fun ls hl => ?_)
            have hl : lv_has ls 19 [(5, .int (1 : Int32)), (0, .ref (x + 0)), (1, .int v1), (2, .int v2), (3, .long w3), (6, .int v6)] := hl
            refine lv_iinc (v := (v6 + (1 : Int32))) F.1 F.2.1 dL_kept_710 hl (k := 5) rfl rfl (Nat.le_of_ble_eq_true rfl) rfl (fun ls hl => ?_)
            have hl : lv_has ls 19 [(6, .int (v6 + (1 : Int32))), (5, .int (1 : Int32)), (0, .ref (x + 0)), (1, .int v1), (2, .int v2), (3, .long w3)] := hl
            refine lv_goto (tgt := 559) F.1 F.2.1 dL_kept_713 rfl ?_
            refine W.widen (k := 12 * (2500 + 1 - n)) (n := 72 * (2500 + 1 - n)) (by omega) (by omega) ?_
            exact ih.2.1 v1 v2 w3 (1 : Int32) (v6 + (1 : Int32)) _ _ _ (lv_sub hl [2, 3, 4, 5, 1, 0] rfl) hP hS hf
      · intro v1 v2 w3 v6 v7 v10  ls H locs hl hP hS hf
        have hf : fb_L_kept_11 μ (fl_L_kept μ n) 0 0 v1 v10 0 0 0 v2 0 v6 v7 0 0 0 0 w3 0 0 = some r := hf
        unfold fb_L_kept_11 at hf
        refine lv_aload_n F.1 F.2.1 dL_kept_476 rfl (lv_at hl 0 rfl) ?_
        refine lv_iload F.1 F.2.1 dL_kept_477 (lv_at hl 4 rfl) ?_
        refine lv_iconst (v := (2 : Int32)) F.1 F.2.1 dL_kept_479 (by decide) ?_
        obtain ⟨r120, hr121, hf⟩ := bnd hf
        refine a_H F hK (fun _ hU hW => sl_U hG hS hU hW) (fun _ h => h) hP hS (c_L_siteOf hlt v6 (2 : Int32) hr121) (vx_cwSW 3 F.2.2.2.2 gB_kept_L_siteOf rfl rfl rfl hd_L_siteOf ⟨(Nat.le_of_ble_eq_true rfl), (Nat.le_of_ble_eq_true rfl)⟩) rfl rfl hl.1 (Nat.le_of_ble_eq_true rfl) dL_kept_480 ⟨(by show _ ≤ 30012; omega), (by show _ ≤ 180072; omega)⟩ (rest := []) (fun H locs hP hS _ => ?_)
        refine W.eq (g2 := F0 m 483 ls [.long r120]) rfl ?_
        refine lv_lconst (v := (0 : Int64)) F.1 F.2.1 dL_kept_483 rfl ?_
        refine W.lcmp F.1 F.2.1 dL_kept_484 ?_
        refine lv_if_lt (tgt := 537) F.1 F.2.1 dL_kept_485 rfl (fun hc122 => ?_) (fun hc122 => ?_)
        · have hf := ifp hc122 hf
          refine lv_iconst (v := (0 : Int32)) F.1 F.2.1 dL_kept_537 (by decide) ?_
          refine lv_istore F.1 F.2.1 dL_kept_538 hl (Nat.le_of_ble_eq_true rfl) rfl (fun ls hl => ?_)
          have hl : lv_has ls 19 [(5, .int (0 : Int32)), (0, .ref (x + 0)), (1, .int v1), (2, .int v2), (3, .long w3), (6, .int v6), (7, .int v7), (10, .int v10)] := hl
          refine lv_iload_n F.1 F.2.1 dL_kept_540 rfl (lv_at hl 2 rfl) ?_
          refine lv_iload F.1 F.2.1 dL_kept_541 (lv_at hl 7 rfl) ?_
          refine lv_iadd F.1 F.2.1 dL_kept_543 ?_
          refine lv_istore_n F.1 F.2.1 dL_kept_544 rfl hl (Nat.le_of_ble_eq_true rfl) rfl (fun ls hl => ?_)
          have hl : lv_has ls 19 [(1, .int (v1 + v10)), (5, .int (0 : Int32)), (0, .ref (x + 0)), (2, .int v2), (3, .long w3), (6, .int v6), (7, .int v7), (10, .int v10)] := hl
          refine lv_iload_n F.1 F.2.1 dL_kept_545 rfl (lv_at hl 3 rfl) ?_
          refine lv_iload F.1 F.2.1 dL_kept_546 (lv_at hl 6 rfl) ?_
          refine lv_iadd F.1 F.2.1 dL_kept_548 ?_
          refine lv_istore_n F.1 F.2.1 dL_kept_549 rfl hl (Nat.le_of_ble_eq_true rfl) rfl (fun ls hl => ?_)
          have hl : lv_has ls 19 [(2, .int (v2 + v7)), (1, .int (v1 + v10)), (5, .int (0 : Int32)), (0, .ref (x + 0)), (3, .long w3), (6, .int v6), (7, .int v7), (10, .int v10)] := hl
          refine lv_iinc (v := (v6 + (1 : Int32))) F.1 F.2.1 dL_kept_550 hl (k := 5) rfl rfl (Nat.le_of_ble_eq_true rfl) rfl (fun ls hl => ?_)
          have hl : lv_has ls 19 [(6, .int (v6 + (1 : Int32))), (2, .int (v2 + v7)), (1, .int (v1 + v10)), (5, .int (0 : Int32)), (0, .ref (x + 0)), (3, .long w3), (7, .int v7), (10, .int v10)] := hl
          refine lv_goto (tgt := 12) F.1 F.2.1 dL_kept_553 rfl ?_
          refine W.widen (k := 12 * (2500 + 1 - n)) (n := 72 * (2500 + 1 - n)) (by omega) (by omega) ?_
          exact ih.1 (v1 + v10) (v2 + v7) w3 (0 : Int32) (v6 + (1 : Int32)) _ _ _ (lv_sub hl [4, 2, 1, 5, 3, 0] rfl) hP hS hf
        · have hf := ifn hc122 hf
          refine lv_aload_n F.1 F.2.1 dL_kept_488 rfl (lv_at hl 0 rfl) ?_
          refine lv_iload F.1 F.2.1 dL_kept_489 (lv_at hl 4 rfl) ?_
          refine lv_iconst (v := (3 : Int32)) F.1 F.2.1 dL_kept_491 (by decide) ?_
          obtain ⟨r123, hr124, hf⟩ := bnd hf
          refine a_H F hK (fun _ hU hW => sl_U hG hS hU hW) (fun _ h => h) hP hS (c_L_siteOf hlt v6 (3 : Int32) hr124) (vx_cwSW 3 F.2.2.2.2 gB_kept_L_siteOf rfl rfl rfl hd_L_siteOf ⟨(Nat.le_of_ble_eq_true rfl), (Nat.le_of_ble_eq_true rfl)⟩) rfl rfl hl.1 (Nat.le_of_ble_eq_true rfl) dL_kept_492 ⟨(by show _ ≤ 30012; omega), (by show _ ≤ 180072; omega)⟩ (rest := []) (fun H locs hP hS _ => ?_)
          refine W.eq (g2 := F0 m 495 ls [.long r123]) rfl ?_
          refine lv_lconst (v := (0 : Int64)) F.1 F.2.1 dL_kept_495 rfl ?_
          refine W.lcmp F.1 F.2.1 dL_kept_496 ?_
          refine lv_if_lt (tgt := 537) F.1 F.2.1 dL_kept_497 rfl (fun hc125 => ?_) (fun hc125 => ?_)
          · have hf := ifp hc125 hf
            refine lv_iconst (v := (0 : Int32)) F.1 F.2.1 dL_kept_537 (by decide) ?_
            refine lv_istore F.1 F.2.1 dL_kept_538 hl (Nat.le_of_ble_eq_true rfl) rfl (fun ls hl => ?_)
            have hl : lv_has ls 19 [(5, .int (0 : Int32)), (0, .ref (x + 0)), (1, .int v1), (2, .int v2), (3, .long w3), (6, .int v6), (7, .int v7), (10, .int v10)] := hl
            refine lv_iload_n F.1 F.2.1 dL_kept_540 rfl (lv_at hl 2 rfl) ?_
            refine lv_iload F.1 F.2.1 dL_kept_541 (lv_at hl 7 rfl) ?_
            refine lv_iadd F.1 F.2.1 dL_kept_543 ?_
            refine lv_istore_n F.1 F.2.1 dL_kept_544 rfl hl (Nat.le_of_ble_eq_true rfl) rfl (fun ls hl => ?_)
            have hl : lv_has ls 19 [(1, .int (v1 + v10)), (5, .int (0 : Int32)), (0, .ref (x + 0)), (2, .int v2), (3, .long w3), (6, .int v6), (7, .int v7), (10, .int v10)] := hl
            refine lv_iload_n F.1 F.2.1 dL_kept_545 rfl (lv_at hl 3 rfl) ?_
            refine lv_iload F.1 F.2.1 dL_kept_546 (lv_at hl 6 rfl) ?_
            refine lv_iadd F.1 F.2.1 dL_kept_548 ?_
            refine lv_istore_n F.1 F.2.1 dL_kept_549 rfl hl (Nat.le_of_ble_eq_true rfl) rfl (fun ls hl => ?_)
            have hl : lv_has ls 19 [(2, .int (v2 + v7)), (1, .int (v1 + v10)), (5, .int (0 : Int32)), (0, .ref (x + 0)), (3, .long w3), (6, .int v6), (7, .int v7), (10, .int v10)] := hl
            refine lv_iinc (v := (v6 + (1 : Int32))) F.1 F.2.1 dL_kept_550 hl (k := 5) rfl rfl (Nat.le_of_ble_eq_true rfl) rfl (fun ls hl => ?_)
            have hl : lv_has ls 19 [(6, .int (v6 + (1 : Int32))), (2, .int (v2 + v7)), (1, .int (v1 + v10)), (5, .int (0 : Int32)), (0, .ref (x + 0)), (3, .long w3), (7, .int v7), (10, .int v10)] := hl
            refine lv_goto (tgt := 12) F.1 F.2.1 dL_kept_553 rfl ?_
            refine W.widen (k := 12 * (2500 + 1 - n)) (n := 72 * (2500 + 1 - n)) (by omega) (by omega) ?_
            exact ih.1 (v1 + v10) (v2 + v7) w3 (0 : Int32) (v6 + (1 : Int32)) _ _ _ (lv_sub hl [4, 2, 1, 5, 3, 0] rfl) hP hS hf
          · have hf := ifn hc125 hf
            refine lv_aload_n F.1 F.2.1 dL_kept_500 rfl (lv_at hl 0 rfl) ?_
            refine lv_iload F.1 F.2.1 dL_kept_501 (lv_at hl 4 rfl) ?_
            refine lv_bipush (v := (7 : Int32)) F.1 F.2.1 dL_kept_503 (by decide) ?_
            obtain ⟨r126, hr127, hf⟩ := bnd hf
            refine a_H F hK (fun _ hU hW => sl_U hG hS hU hW) (fun _ h => h) hP hS (c_L_siteOf hlt v6 (7 : Int32) hr127) (vx_cwSW 3 F.2.2.2.2 gB_kept_L_siteOf rfl rfl rfl hd_L_siteOf ⟨(Nat.le_of_ble_eq_true rfl), (Nat.le_of_ble_eq_true rfl)⟩) rfl rfl hl.1 (Nat.le_of_ble_eq_true rfl) dL_kept_505 ⟨(by show _ ≤ 30012; omega), (by show _ ≤ 180072; omega)⟩ (rest := []) (fun H locs hP hS _ => ?_)
            refine W.eq (g2 := F0 m 508 ls [.long r126]) rfl ?_
            refine lv_ldc2 (v := (-1 : Int64)) F.1 F.2.1 F.2.2.2.1 (F.2.2.2.2 _ (List.mem_of_getElem? (i := 598) rfl)) dL_kept_508 ?_
            refine W.lcmp F.1 F.2.1 dL_kept_511 ?_
            refine lv_if_ne (tgt := 519) F.1 F.2.1 dL_kept_512 rfl (fun hc128 => ?_) (fun hc128 => ?_)
            · have hf := ifn hc128 hf
              refine lv_iconst (v := (0 : Int32)) F.1 F.2.1 dL_kept_519 (by decide) ?_
              refine W.widen (k := 12 * (2500 + 1 - n)) (n := 72 * (2500 + 1 - n)) (by omega) (by omega) ?_
              exact ih.2.2.2.2.2.2.2.2.2.2.2.2.2.2.2.2.1 v1 v2 w3 v6 v7 v10 (0 : Int32) _ _ _ (lv_sub hl [0, 1, 2, 3, 4, 5, 6] rfl) hP hS hf
            · have hf := ifp hc128 hf
              refine lv_iconst (v := (1 : Int32)) F.1 F.2.1 dL_kept_515 (by decide) ?_
              refine lv_goto (tgt := 520) F.1 F.2.1 dL_kept_516 rfl ?_
              refine W.widen (k := 12 * (2500 + 1 - n)) (n := 72 * (2500 + 1 - n)) (by omega) (by omega) ?_
              exact ih.2.2.2.2.2.2.2.2.2.2.2.2.2.2.2.2.1 v1 v2 w3 v6 v7 v10 (1 : Int32) _ _ _ (lv_sub hl [0, 1, 2, 3, 4, 5, 6] rfl) hP hS hf
      · intro v1 v2 w3 v5 v6 v7 v10 v12 t0 t1  ls H locs hl hP hS hf
        have hf : fb_L_kept_12 μ (fl_L_kept μ n) t0 t1 v1 v10 0 v12 0 v2 v5 v6 v7 0 0 0 0 w3 0 0 = some r := hf
        unfold fb_L_kept_12 at hf
        refine lv_iadd F.1 F.2.1 dL_kept_342 ?_
        refine lv_istore F.1 F.2.1 dL_kept_343 hl (Nat.le_of_ble_eq_true rfl) rfl (fun ls hl => ?_)
        have hl : lv_has ls 19 [(11, .int (t1 + t0)), (0, .ref (x + 0)), (1, .int v1), (2, .int v2), (3, .long w3), (5, .int v5), (6, .int v6), (7, .int v7), (10, .int v10), (12, .int v12)] := hl
        refine lv_iload F.1 F.2.1 dL_kept_345 (lv_at hl 5 rfl) ?_
        refine lv_if_eq (tgt := 371) F.1 F.2.1 dL_kept_347 rfl (fun hc129 => ?_) (fun hc129 => ?_)
        · have hf := ifp hc129 hf
          refine lv_iconst (v := (0 : Int32)) F.1 F.2.1 dL_kept_371 (by decide) ?_
          refine lv_istore F.1 F.2.1 dL_kept_372 hl (Nat.le_of_ble_eq_true rfl) rfl (fun ls hl => ?_)
          have hl : lv_has ls 19 [(5, .int (0 : Int32)), (11, .int (t1 + t0)), (0, .ref (x + 0)), (1, .int v1), (2, .int v2), (3, .long w3), (6, .int v6), (7, .int v7), (10, .int v10), (12, .int v12)] := hl
          refine lv_iinc (v := (v12 + (1 : Int32))) F.1 F.2.1 dL_kept_374 hl (k := 9) rfl rfl (Nat.le_of_ble_eq_true rfl) rfl (fun ls hl => ?_)
          have hl : lv_has ls 19 [(12, .int (v12 + (1 : Int32))), (5, .int (0 : Int32)), (11, .int (t1 + t0)), (0, .ref (x + 0)), (1, .int v1), (2, .int v2), (3, .long w3), (6, .int v6), (7, .int v7), (10, .int v10)] := hl
          refine lv_goto (tgt := 313) F.1 F.2.1 dL_kept_377 rfl ?_
          refine W.widen (k := 12 * (2500 + 1 - n)) (n := 72 * (2500 + 1 - n)) (by omega) (by omega) ?_
          exact ih.2.2.2.2.2.1 v1 v2 w3 (0 : Int32) v6 v7 v10 (t1 + t0) (v12 + (1 : Int32)) _ _ _ (lv_sub hl [3, 4, 5, 6, 1, 7, 8, 9, 2, 0] rfl) hP hS hf
        · have hf := ifn hc129 hf
          refine lv_aload_n F.1 F.2.1 dL_kept_350 rfl (lv_at hl 1 rfl) ?_
          refine lv_iload F.1 F.2.1 dL_kept_351 (lv_at hl 6 rfl) ?_
          refine lv_iload F.1 F.2.1 dL_kept_353 (lv_at hl 9 rfl) ?_
          obtain ⟨r130, hr131, hf⟩ := bnd hf
          refine a_H F hK (fun _ hU hW => sl_U hG hS hU hW) (fun _ h => h) hP hS (c_L_since hlt v6 v12 hr131) (vx_cwSW 3 F.2.2.2.2 gB_kept_L_since rfl rfl rfl hd_L_since ⟨(Nat.le_of_ble_eq_true rfl), (Nat.le_of_ble_eq_true rfl)⟩) rfl rfl hl.1 (Nat.le_of_ble_eq_true rfl) dL_kept_355 ⟨(by show _ ≤ 30012; omega), (by show _ ≤ 180072; omega)⟩ (rest := []) (fun H locs hP hS _ => ?_)
          refine W.eq (g2 := F0 m 358 ls [.long r130]) rfl ?_
          refine lv_aload_n F.1 F.2.1 dL_kept_358 rfl (lv_at hl 1 rfl) ?_
          refine lv_iconst (v := (3 : Int32)) F.1 F.2.1 dL_kept_359 (by decide) ?_
          obtain ⟨r132, hr133, hf⟩ := bnd hf
          refine a_H F hK (fun _ hU hW => sl_U hG hS hU hW) (fun _ h => h) hP hS (c_L_about hlt (3 : Int32) hr133) (vx_cwSW 2 F.2.2.2.2 gB_kept_L_about rfl rfl rfl hd_L_about ⟨(Nat.le_of_ble_eq_true rfl), (Nat.le_of_ble_eq_true rfl)⟩) rfl rfl hl.1 (Nat.le_of_ble_eq_true rfl) dL_kept_360 ⟨(by show _ ≤ 30012; omega), (by show _ ≤ 180072; omega)⟩ (rest := [.long r130]) (fun H locs hP hS _ => ?_)
          refine W.eq (g2 := F0 m 363 ls [.long r132, .long r130]) rfl ?_
          refine W.lcmp F.1 F.2.1 dL_kept_363 ?_
          refine lv_if_gt (tgt := 371) F.1 F.2.1 dL_kept_364 rfl (fun hc134 => ?_) (fun hc134 => ?_)
          · have hf := ifp hc134 hf
            refine lv_iconst (v := (0 : Int32)) F.1 F.2.1 dL_kept_371 (by decide) ?_
            refine lv_istore F.1 F.2.1 dL_kept_372 hl (Nat.le_of_ble_eq_true rfl) rfl (fun ls hl => ?_)
            have hl : lv_has ls 19 [(5, .int (0 : Int32)), (11, .int (t1 + t0)), (0, .ref (x + 0)), (1, .int v1), (2, .int v2), (3, .long w3), (6, .int v6), (7, .int v7), (10, .int v10), (12, .int v12)] := hl
            refine lv_iinc (v := (v12 + (1 : Int32))) F.1 F.2.1 dL_kept_374 hl (k := 9) rfl rfl (Nat.le_of_ble_eq_true rfl) rfl (fun ls hl => ?_)
            have hl : lv_has ls 19 [(12, .int (v12 + (1 : Int32))), (5, .int (0 : Int32)), (11, .int (t1 + t0)), (0, .ref (x + 0)), (1, .int v1), (2, .int v2), (3, .long w3), (6, .int v6), (7, .int v7), (10, .int v10)] := hl
            refine lv_goto (tgt := 313) F.1 F.2.1 dL_kept_377 rfl ?_
            refine W.widen (k := 12 * (2500 + 1 - n)) (n := 72 * (2500 + 1 - n)) (by omega) (by omega) ?_
            exact ih.2.2.2.2.2.1 v1 v2 w3 (0 : Int32) v6 v7 v10 (t1 + t0) (v12 + (1 : Int32)) _ _ _ (lv_sub hl [3, 4, 5, 6, 1, 7, 8, 9, 2, 0] rfl) hP hS hf
          · have hf := ifn hc134 hf
            refine lv_iconst (v := (1 : Int32)) F.1 F.2.1 dL_kept_367 (by decide) ?_
            refine lv_goto (tgt := 372) F.1 F.2.1 dL_kept_368 rfl ?_
            refine lv_istore F.1 F.2.1 dL_kept_372 hl (Nat.le_of_ble_eq_true rfl) rfl (fun ls hl => ?_)
            have hl : lv_has ls 19 [(5, .int (1 : Int32)), (11, .int (t1 + t0)), (0, .ref (x + 0)), (1, .int v1), (2, .int v2), (3, .long w3), (6, .int v6), (7, .int v7), (10, .int v10), (12, .int v12)] := hl
            refine lv_iinc (v := (v12 + (1 : Int32))) F.1 F.2.1 dL_kept_374 hl (k := 9) rfl rfl (Nat.le_of_ble_eq_true rfl) rfl (fun ls hl => ?_)
            have hl : lv_has ls 19 [(12, .int (v12 + (1 : Int32))), (5, .int (1 : Int32)), (11, .int (t1 + t0)), (0, .ref (x + 0)), (1, .int v1), (2, .int v2), (3, .long w3), (6, .int v6), (7, .int v7), (10, .int v10)] := hl
            refine lv_goto (tgt := 313) F.1 F.2.1 dL_kept_377 rfl ?_
            refine W.widen (k := 12 * (2500 + 1 - n)) (n := 72 * (2500 + 1 - n)) (by omega) (by omega) ?_
            exact ih.2.2.2.2.2.1 v1 v2 w3 (1 : Int32) v6 v7 v10 (t1 + t0) (v12 + (1 : Int32)) _ _ _ (lv_sub hl [3, 4, 5, 6, 1, 7, 8, 9, 2, 0] rfl) hP hS hf
      · intro v1 v2 w3 v6 v7 v10 v11 w12 w14 w16  ls H locs hl hP hS hf
        have hf : fb_L_kept_13 μ (fl_L_kept μ n) 0 0 v1 v10 v11 0 0 v2 0 v6 v7 0 w12 w14 w16 w3 0 0 = some r := hf
        unfold fb_L_kept_13 at hf
        refine lv_iconst (v := (0 : Int32)) F.1 F.2.1 dL_kept_280 (by decide) ?_
        refine lv_istore F.1 F.2.1 dL_kept_281 hl (Nat.le_of_ble_eq_true rfl) rfl (fun ls hl => ?_)
        have hl : lv_has ls 19 [(5, .int (0 : Int32)), (0, .ref (x + 0)), (1, .int v1), (2, .int v2), (3, .long w3), (6, .int v6), (7, .int v7), (10, .int v10), (11, .int v11), (12, .long w12), (14, .long w14), (16, .long w16)] := hl
        refine lv_iload F.1 F.2.1 dL_kept_283 (lv_at hl 7 rfl) ?_
        refine lv_lload F.1 F.2.1 dL_kept_285 (lv_at hl 10 rfl) ?_
        refine lv_l2i (v := w14.toInt32) F.1 F.2.1 dL_kept_287 rfl ?_
        refine lv_iadd F.1 F.2.1 dL_kept_288 ?_
        refine lv_istore F.1 F.2.1 dL_kept_289 hl (Nat.le_of_ble_eq_true rfl) rfl (fun ls hl => ?_)
        have hl : lv_has ls 19 [(10, .int (v10 + w14.toInt32)), (5, .int (0 : Int32)), (0, .ref (x + 0)), (1, .int v1), (2, .int v2), (3, .long w3), (6, .int v6), (7, .int v7), (11, .int v11), (12, .long w12), (14, .long w14), (16, .long w16)] := hl
        refine lv_lload F.1 F.2.1 dL_kept_291 (lv_at hl 9 rfl) ?_
        refine lv_lload F.1 F.2.1 dL_kept_293 (lv_at hl 10 rfl) ?_
        refine lv_ladd F.1 F.2.1 dL_kept_295 ?_
        refine lv_lload F.1 F.2.1 dL_kept_296 (lv_at hl 11 rfl) ?_
        refine lv_ladd F.1 F.2.1 dL_kept_298 ?_
        refine lv_lstore F.1 F.2.1 dL_kept_299 hl (Nat.le_of_ble_eq_true rfl) rfl (fun ls hl => ?_)
        have hl : lv_has ls 19 [(8, .long ((w12 + w14) + w16)), (10, .int (v10 + w14.toInt32)), (5, .int (0 : Int32)), (0, .ref (x + 0)), (1, .int v1), (2, .int v2), (3, .long w3), (6, .int v6), (7, .int v7), (11, .int v11), (12, .long w12), (14, .long w14), (16, .long w16)] := hl
        refine lv_iinc (v := (v11 + (1 : Int32))) F.1 F.2.1 dL_kept_301 hl (k := 9) rfl rfl (Nat.le_of_ble_eq_true rfl) rfl (fun ls hl => ?_)
        have hl : lv_has ls 19 [(11, .int (v11 + (1 : Int32))), (8, .long ((w12 + w14) + w16)), (10, .int (v10 + w14.toInt32)), (5, .int (0 : Int32)), (0, .ref (x + 0)), (1, .int v1), (2, .int v2), (3, .long w3), (6, .int v6), (7, .int v7), (12, .long w12), (14, .long w14), (16, .long w16)] := hl
        refine lv_goto (tgt := 48) F.1 F.2.1 dL_kept_304 rfl ?_
        refine W.widen (k := 12 * (2500 + 1 - n)) (n := 72 * (2500 + 1 - n)) (by omega) (by omega) ?_
        exact ih.2.2.1 v1 v2 w3 (0 : Int32) v6 v7 ((w12 + w14) + w16) (v10 + w14.toInt32) (v11 + (1 : Int32)) _ _ _ (lv_sub hl [4, 5, 6, 7, 3, 8, 9, 1, 2, 0] rfl) hP hS hf
      · intro v1 v2 w3 v6 v7 v10 v11 w12 w14 w16  ls H locs hl hP hS hf
        have hf : fb_L_kept_14 μ (fl_L_kept μ n) 0 0 v1 v10 v11 0 0 v2 0 v6 v7 0 w12 w14 w16 w3 0 0 = some r := hf
        unfold fb_L_kept_14 at hf
        refine lv_lload F.1 F.2.1 dL_kept_245 (lv_at hl 8 rfl) ?_
        refine lv_lload F.1 F.2.1 dL_kept_247 (lv_at hl 9 rfl) ?_
        refine lv_ladd F.1 F.2.1 dL_kept_249 ?_
        refine lv_ldc2 (v := (30 : Int64)) F.1 F.2.1 F.2.2.2.1 (F.2.2.2.2 _ (List.mem_of_getElem? (i := 599) rfl)) dL_kept_250 ?_
        refine W.lcmp F.1 F.2.1 dL_kept_253 ?_
        refine lv_if_eq (tgt := 276) F.1 F.2.1 dL_kept_254 rfl (fun hc135 => ?_) (fun hc135 => ?_)
        · have hf := ifp hc135 hf
          refine W.widen (k := 12 * (2500 + 1 - n)) (n := 72 * (2500 + 1 - n)) (by omega) (by omega) ?_
          exact ih.2.2.2.2.2.2.2.2.2.2.2.2.2.2.2.2.2.1 v1 v2 w3 v6 v7 v10 v11 w12 w14 w16 _ _ _ (lv_sub hl [0, 1, 2, 3, 4, 5, 6, 7, 8, 9, 10] rfl) hP hS hf
        · have hf := ifn hc135 hf
          refine lv_aload_n F.1 F.2.1 dL_kept_257 rfl (lv_at hl 0 rfl) ?_
          refine lv_iload F.1 F.2.1 dL_kept_258 (lv_at hl 4 rfl) ?_
          refine lv_lload F.1 F.2.1 dL_kept_260 (lv_at hl 8 rfl) ?_
          refine lv_lload F.1 F.2.1 dL_kept_262 (lv_at hl 9 rfl) ?_
          refine lv_ladd F.1 F.2.1 dL_kept_264 ?_
          refine lv_l2i (v := (w12 + w14).toInt32) F.1 F.2.1 dL_kept_265 rfl ?_
          obtain ⟨r136, hr137, hf⟩ := bnd hf
          refine a_H F hK (fun _ hU hW => sl_U hG hS hU hW) (fun _ h => h) hP hS (c_L_since hlt v6 ((w12 + w14).toInt32) hr137) (vx_cwSW 3 F.2.2.2.2 gB_kept_L_since rfl rfl rfl hd_L_since ⟨(Nat.le_of_ble_eq_true rfl), (Nat.le_of_ble_eq_true rfl)⟩) rfl rfl hl.1 (Nat.le_of_ble_eq_true rfl) dL_kept_266 ⟨(by show _ ≤ 30012; omega), (by show _ ≤ 180072; omega)⟩ (rest := []) (fun H locs hP hS _ => ?_)
          refine W.eq (g2 := F0 m 269 ls [.long r136]) rfl ?_
          refine lv_ldc2 (v := (-1 : Int64)) F.1 F.2.1 F.2.2.2.1 (F.2.2.2.2 _ (List.mem_of_getElem? (i := 598) rfl)) dL_kept_269 ?_
          refine W.lcmp F.1 F.2.1 dL_kept_272 ?_
          refine lv_if_ne (tgt := 280) F.1 F.2.1 dL_kept_273 rfl (fun hc138 => ?_) (fun hc138 => ?_)
          · have hf := ifn hc138 hf
            refine W.widen (k := 12 * (2500 + 1 - n)) (n := 72 * (2500 + 1 - n)) (by omega) (by omega) ?_
            exact ih.2.2.2.2.2.2.2.2.2.2.2.2.1 v1 v2 w3 v6 v7 v10 v11 w12 w14 w16 _ _ _ (lv_sub hl [0, 1, 2, 3, 4, 5, 6, 7, 8, 9, 10] rfl) hP hS hf
          · have hf := ifp hc138 hf
            refine W.widen (k := 12 * (2500 + 1 - n)) (n := 72 * (2500 + 1 - n)) (by omega) (by omega) ?_
            exact ih.2.2.2.2.2.2.2.2.2.2.2.2.2.2.2.2.2.1 v1 v2 w3 v6 v7 v10 v11 w12 w14 w16 _ _ _ (lv_sub hl [0, 1, 2, 3, 4, 5, 6, 7, 8, 9, 10] rfl) hP hS hf
      · intro v1 v2 w3 v6 v7 v10 v11 w12 w14 w16 t0  ls H locs hl hP hS hf
        have hf : fb_L_kept_15 μ (fl_L_kept μ n) t0 0 v1 v10 v11 0 0 v2 0 v6 v7 0 w12 w14 w16 w3 0 0 = some r := hf
        unfold fb_L_kept_15 at hf
        refine lv_iload F.1 F.2.1 dL_kept_135 (lv_at hl 7 rfl) ?_
        refine lv_iconst (v := (1 : Int32)) F.1 F.2.1 dL_kept_137 (by decide) ?_
        refine lv_iadd F.1 F.2.1 dL_kept_138 ?_
        refine lv_iload F.1 F.2.1 dL_kept_139 (lv_at hl 5 rfl) ?_
        refine lv_icmp_ge (tgt := 148) F.1 F.2.1 dL_kept_141 rfl (fun hc139 => ?_) (fun hc139 => ?_)
        · have hf := ifp hc139 hf
          refine lv_iconst (v := (0 : Int32)) F.1 F.2.1 dL_kept_148 (by decide) ?_
          refine W.widen (k := 12 * (2500 + 1 - n)) (n := 72 * (2500 + 1 - n)) (by omega) (by omega) ?_
          exact ih.2.2.2.2.2.2.2.2.2.2.2.2.2.2.2.2.2.2.1 v1 v2 w3 v6 v7 v10 v11 w12 w14 w16 (0 : Int32) t0 _ _ _ (lv_sub hl [0, 1, 2, 3, 4, 5, 6, 7, 8, 9, 10] rfl) hP hS hf
        · have hf := ifn hc139 hf
          refine lv_iconst (v := (1 : Int32)) F.1 F.2.1 dL_kept_144 (by decide) ?_
          refine lv_goto (tgt := 149) F.1 F.2.1 dL_kept_145 rfl ?_
          refine W.widen (k := 12 * (2500 + 1 - n)) (n := 72 * (2500 + 1 - n)) (by omega) (by omega) ?_
          exact ih.2.2.2.2.2.2.2.2.2.2.2.2.2.2.2.2.2.2.1 v1 v2 w3 v6 v7 v10 v11 w12 w14 w16 (1 : Int32) t0 _ _ _ (lv_sub hl [0, 1, 2, 3, 4, 5, 6, 7, 8, 9, 10] rfl) hP hS hf
      · intro v1 v2 w3 v5  ls H locs hl hP hS hf
        have hf : fb_L_kept_16 μ (fl_L_kept μ n) 0 0 v1 0 0 0 0 v2 v5 0 0 0 0 0 0 w3 0 0 = some r := hf
        unfold fb_L_kept_16 at hf
        refine lv_aload_n F.1 F.2.1 dL_kept_878 rfl (lv_at hl 0 rfl) ?_
        obtain ⟨r140, hr141, hf⟩ := bnd hf
        refine a_V F hK (fun _ hU hW => sl_U hG hS hU hW) (fun _ h => h) hP hS (c_X4_deepest hr141) (cwV 0 F.2.2.2.2 gB_kept_X4_deepest rfl rfl rfl ⟨rfl, hd_X4_deepest⟩ ⟨(Nat.le_of_ble_eq_true rfl), (Nat.le_of_ble_eq_true rfl)⟩) rfl rfl hl.1 (Nat.le_of_ble_eq_true rfl) dL_kept_879 ⟨(by show _ ≤ 30012; omega), (by show _ ≤ 180072; omega)⟩ (rest := []) (fun H locs hP hS _ => ?_)
        refine W.eq (g2 := F0 m 882 ls [.int r140]) rfl ?_
        refine lv_istore F.1 F.2.1 dL_kept_882 hl (Nat.le_of_ble_eq_true rfl) rfl (fun ls hl => ?_)
        have hl : lv_has ls 19 [(8, .int r140), (0, .ref (x + 0)), (1, .int v1), (2, .int v2), (3, .long w3), (5, .int v5)] := hl
        refine lv_iload F.1 F.2.1 dL_kept_884 (lv_at hl 5 rfl) ?_
        refine lv_if_eq (tgt := 951) F.1 F.2.1 dL_kept_886 rfl (fun hc142 => ?_) (fun hc142 => ?_)
        · have hf := ifp hc142 hf
          refine lv_iconst (v := (0 : Int32)) F.1 F.2.1 dL_kept_951 (by decide) ?_
          obtain rfl := Option.some.inj hf
          exact s_zret F hr hlk hP hS rfl (b01_v (v := (0 : Int32)) (Or.inl rfl)) (by show _ ≤ 30012; omega) (by show _ ≤ 180072; omega) dL_kept_952
        · have hf := ifn hc142 hf
          refine lv_aload_n F.1 F.2.1 dL_kept_889 rfl (lv_at hl 1 rfl) ?_
          refine lv_iconst (v := (4 : Int32)) F.1 F.2.1 dL_kept_890 (by decide) ?_
          obtain ⟨r143, hr144, hf⟩ := bnd hf
          refine a_H F hK (fun _ hU hW => sl_U hG hS hU hW) (fun _ h => h) hP hS (c_L_about hlt (4 : Int32) hr144) (vx_cwSW 2 F.2.2.2.2 gB_kept_L_about rfl rfl rfl hd_L_about ⟨(Nat.le_of_ble_eq_true rfl), (Nat.le_of_ble_eq_true rfl)⟩) rfl rfl hl.1 (Nat.le_of_ble_eq_true rfl) dL_kept_891 ⟨(by show _ ≤ 30012; omega), (by show _ ≤ 180072; omega)⟩ (rest := []) (fun H locs hP hS _ => ?_)
          refine W.eq (g2 := F0 m 894 ls [.long r143]) rfl ?_
          refine lv_iload_n F.1 F.2.1 dL_kept_894 rfl (lv_at hl 2 rfl) ?_
          refine lv_i2l (v := v1.toInt64) F.1 F.2.1 dL_kept_895 rfl ?_
          refine W.lcmp F.1 F.2.1 dL_kept_896 ?_
          refine lv_if_ne (tgt := 951) F.1 F.2.1 dL_kept_897 rfl (fun hc145 => ?_) (fun hc145 => ?_)
          · have hf := ifn hc145 hf
            refine lv_iconst (v := (0 : Int32)) F.1 F.2.1 dL_kept_951 (by decide) ?_
            obtain rfl := Option.some.inj hf
            exact s_zret F hr hlk hP hS rfl (b01_v (v := (0 : Int32)) (Or.inl rfl)) (by show _ ≤ 30012; omega) (by show _ ≤ 180072; omega) dL_kept_952
          · have hf := ifp hc145 hf
            refine lv_aload_n F.1 F.2.1 dL_kept_900 rfl (lv_at hl 1 rfl) ?_
            refine lv_iconst (v := (5 : Int32)) F.1 F.2.1 dL_kept_901 (by decide) ?_
            obtain ⟨r146, hr147, hf⟩ := bnd hf
            refine a_H F hK (fun _ hU hW => sl_U hG hS hU hW) (fun _ h => h) hP hS (c_L_about hlt (5 : Int32) hr147) (vx_cwSW 2 F.2.2.2.2 gB_kept_L_about rfl rfl rfl hd_L_about ⟨(Nat.le_of_ble_eq_true rfl), (Nat.le_of_ble_eq_true rfl)⟩) rfl rfl hl.1 (Nat.le_of_ble_eq_true rfl) dL_kept_902 ⟨(by show _ ≤ 30012; omega), (by show _ ≤ 180072; omega)⟩ (rest := []) (fun H locs hP hS _ => ?_)
            refine W.eq (g2 := F0 m 905 ls [.long r146]) rfl ?_
            refine lv_iload_n F.1 F.2.1 dL_kept_905 rfl (lv_at hl 3 rfl) ?_
            refine lv_i2l (v := v2.toInt64) F.1 F.2.1 dL_kept_906 rfl ?_
            refine W.lcmp F.1 F.2.1 dL_kept_907 ?_
            refine lv_if_ne (tgt := 951) F.1 F.2.1 dL_kept_908 rfl (fun hc148 => ?_) (fun hc148 => ?_)
            · have hf := ifn hc148 hf
              refine lv_iconst (v := (0 : Int32)) F.1 F.2.1 dL_kept_951 (by decide) ?_
              obtain rfl := Option.some.inj hf
              exact s_zret F hr hlk hP hS rfl (b01_v (v := (0 : Int32)) (Or.inl rfl)) (by show _ ≤ 30012; omega) (by show _ ≤ 180072; omega) dL_kept_952
            · have hf := ifp hc148 hf
              refine lv_aload_n F.1 F.2.1 dL_kept_911 rfl (lv_at hl 1 rfl) ?_
              refine lv_bipush (v := (8 : Int32)) F.1 F.2.1 dL_kept_912 (by decide) ?_
              obtain ⟨r149, hr150, hf⟩ := bnd hf
              refine a_H F hK (fun _ hU hW => sl_U hG hS hU hW) (fun _ h => h) hP hS (c_L_about hlt (8 : Int32) hr150) (vx_cwSW 2 F.2.2.2.2 gB_kept_L_about rfl rfl rfl hd_L_about ⟨(Nat.le_of_ble_eq_true rfl), (Nat.le_of_ble_eq_true rfl)⟩) rfl rfl hl.1 (Nat.le_of_ble_eq_true rfl) dL_kept_914 ⟨(by show _ ≤ 30012; omega), (by show _ ≤ 180072; omega)⟩ (rest := []) (fun H locs hP hS _ => ?_)
              refine W.eq (g2 := F0 m 917 ls [.long r149]) rfl ?_
              refine lv_lload_n F.1 F.2.1 dL_kept_917 rfl (lv_at hl 4 rfl) ?_
              refine W.lcmp F.1 F.2.1 dL_kept_918 ?_
              refine lv_if_ne (tgt := 951) F.1 F.2.1 dL_kept_919 rfl (fun hc151 => ?_) (fun hc151 => ?_)
              · have hf := ifn hc151 hf
                refine lv_iconst (v := (0 : Int32)) F.1 F.2.1 dL_kept_951 (by decide) ?_
                obtain rfl := Option.some.inj hf
                exact s_zret F hr hlk hP hS rfl (b01_v (v := (0 : Int32)) (Or.inl rfl)) (by show _ ≤ 30012; omega) (by show _ ≤ 180072; omega) dL_kept_952
              · have hf := ifp hc151 hf
                refine lv_iload_n F.1 F.2.1 dL_kept_922 rfl (lv_at hl 2 rfl) ?_
                refine lv_if_ne (tgt := 935) F.1 F.2.1 dL_kept_923 rfl (fun hc152 => ?_) (fun hc152 => ?_)
                · have hf := ifn hc152 hf
                  refine lv_aload_n F.1 F.2.1 dL_kept_935 rfl (lv_at hl 1 rfl) ?_
                  refine lv_iload F.1 F.2.1 dL_kept_936 (lv_at hl 0 rfl) ?_
                  refine lv_iconst (v := (5 : Int32)) F.1 F.2.1 dL_kept_938 (by decide) ?_
                  obtain ⟨r153, hr154, hf⟩ := bnd hf
                  refine a_H F hK (fun _ hU hW => sl_U hG hS hU hW) (fun _ h => h) hP hS (c_L_siteOf hlt r140 (5 : Int32) hr154) (vx_cwSW 3 F.2.2.2.2 gB_kept_L_siteOf rfl rfl rfl hd_L_siteOf ⟨(Nat.le_of_ble_eq_true rfl), (Nat.le_of_ble_eq_true rfl)⟩) rfl rfl hl.1 (Nat.le_of_ble_eq_true rfl) dL_kept_939 ⟨(by show _ ≤ 30012; omega), (by show _ ≤ 180072; omega)⟩ (rest := []) (fun H locs hP hS _ => ?_)
                  refine W.eq (g2 := F0 m 942 ls [.long r153]) rfl ?_
                  refine lv_lconst (v := (0 : Int64)) F.1 F.2.1 dL_kept_942 rfl ?_
                  refine W.lcmp F.1 F.2.1 dL_kept_943 ?_
                  refine lv_if_le (tgt := 951) F.1 F.2.1 dL_kept_944 rfl (fun hc155 => ?_) (fun hc155 => ?_)
                  · have hf := ifp hc155 hf
                    refine lv_iconst (v := (0 : Int32)) F.1 F.2.1 dL_kept_951 (by decide) ?_
                    obtain rfl := Option.some.inj hf
                    exact s_zret F hr hlk hP hS rfl (b01_v (v := (0 : Int32)) (Or.inl rfl)) (by show _ ≤ 30012; omega) (by show _ ≤ 180072; omega) dL_kept_952
                  · have hf := ifn hc155 hf
                    refine lv_iconst (v := (1 : Int32)) F.1 F.2.1 dL_kept_947 (by decide) ?_
                    refine lv_goto (tgt := 952) F.1 F.2.1 dL_kept_948 rfl ?_
                    obtain rfl := Option.some.inj hf
                    exact s_zret F hr hlk hP hS rfl (b01_v (v := (1 : Int32)) (Or.inr rfl)) (by show _ ≤ 30012; omega) (by show _ ≤ 180072; omega) dL_kept_952
                · have hf := ifp hc152 hf
                  refine lv_iload F.1 F.2.1 dL_kept_926 (lv_at hl 0 rfl) ?_
                  refine lv_iconst (v := (-1 : Int32)) F.1 F.2.1 dL_kept_928 (by decide) ?_
                  refine lv_icmp_ne (tgt := 951) F.1 F.2.1 dL_kept_929 rfl (fun hc156 => ?_) (fun hc156 => ?_)
                  · have hf := ifn hc156 hf
                    refine lv_iconst (v := (0 : Int32)) F.1 F.2.1 dL_kept_951 (by decide) ?_
                    obtain rfl := Option.some.inj hf
                    exact s_zret F hr hlk hP hS rfl (b01_v (v := (0 : Int32)) (Or.inl rfl)) (by show _ ≤ 30012; omega) (by show _ ≤ 180072; omega) dL_kept_952
                  · have hf := ifp hc156 hf
                    refine lv_goto (tgt := 947) F.1 F.2.1 dL_kept_932 rfl ?_
                    refine lv_iconst (v := (1 : Int32)) F.1 F.2.1 dL_kept_947 (by decide) ?_
                    refine lv_goto (tgt := 952) F.1 F.2.1 dL_kept_948 rfl ?_
                    obtain rfl := Option.some.inj hf
                    exact s_zret F hr hlk hP hS rfl (b01_v (v := (1 : Int32)) (Or.inr rfl)) (by show _ ≤ 30012; omega) (by show _ ≤ 180072; omega) dL_kept_952
      · intro v1 v2 w3 v6 v7 v10 t0  ls H locs hl hP hS hf
        have hf : fb_L_kept_17 μ (fl_L_kept μ n) t0 0 v1 v10 0 0 0 v2 0 v6 v7 0 0 0 0 w3 0 0 = some r := hf
        unfold fb_L_kept_17 at hf
        refine lv_iload F.1 F.2.1 dL_kept_520 (lv_at hl 6 rfl) ?_
        refine lv_if_ne (tgt := 529) F.1 F.2.1 dL_kept_522 rfl (fun hc157 => ?_) (fun hc157 => ?_)
        · have hf := ifn hc157 hf
          refine lv_iconst (v := (0 : Int32)) F.1 F.2.1 dL_kept_529 (by decide) ?_
          refine W.widen (k := 12 * (2500 + 1 - n)) (n := 72 * (2500 + 1 - n)) (by omega) (by omega) ?_
          exact ih.2.2.2.2.2.2.2.2.2.2.2.2.2.2.2.2.2.2.2 v1 v2 w3 v6 v7 v10 (0 : Int32) t0 _ _ _ (lv_sub hl [0, 1, 2, 3, 4, 5, 6] rfl) hP hS hf
        · have hf := ifp hc157 hf
          refine lv_iconst (v := (1 : Int32)) F.1 F.2.1 dL_kept_525 (by decide) ?_
          refine lv_goto (tgt := 530) F.1 F.2.1 dL_kept_526 rfl ?_
          refine W.widen (k := 12 * (2500 + 1 - n)) (n := 72 * (2500 + 1 - n)) (by omega) (by omega) ?_
          exact ih.2.2.2.2.2.2.2.2.2.2.2.2.2.2.2.2.2.2.2 v1 v2 w3 v6 v7 v10 (1 : Int32) t0 _ _ _ (lv_sub hl [0, 1, 2, 3, 4, 5, 6] rfl) hP hS hf
      · intro v1 v2 w3 v6 v7 v10 v11 w12 w14 w16  ls H locs hl hP hS hf
        have hf : fb_L_kept_18 μ (fl_L_kept μ n) 0 0 v1 v10 v11 0 0 v2 0 v6 v7 0 w12 w14 w16 w3 0 0 = some r := hf
        unfold fb_L_kept_18 at hf
        refine lv_iconst (v := (1 : Int32)) F.1 F.2.1 dL_kept_276 (by decide) ?_
        refine lv_goto (tgt := 281) F.1 F.2.1 dL_kept_277 rfl ?_
        refine lv_istore F.1 F.2.1 dL_kept_281 hl (Nat.le_of_ble_eq_true rfl) rfl (fun ls hl => ?_)
        have hl : lv_has ls 19 [(5, .int (1 : Int32)), (0, .ref (x + 0)), (1, .int v1), (2, .int v2), (3, .long w3), (6, .int v6), (7, .int v7), (10, .int v10), (11, .int v11), (12, .long w12), (14, .long w14), (16, .long w16)] := hl
        refine lv_iload F.1 F.2.1 dL_kept_283 (lv_at hl 7 rfl) ?_
        refine lv_lload F.1 F.2.1 dL_kept_285 (lv_at hl 10 rfl) ?_
        refine lv_l2i (v := w14.toInt32) F.1 F.2.1 dL_kept_287 rfl ?_
        refine lv_iadd F.1 F.2.1 dL_kept_288 ?_
        refine lv_istore F.1 F.2.1 dL_kept_289 hl (Nat.le_of_ble_eq_true rfl) rfl (fun ls hl => ?_)
        have hl : lv_has ls 19 [(10, .int (v10 + w14.toInt32)), (5, .int (1 : Int32)), (0, .ref (x + 0)), (1, .int v1), (2, .int v2), (3, .long w3), (6, .int v6), (7, .int v7), (11, .int v11), (12, .long w12), (14, .long w14), (16, .long w16)] := hl
        refine lv_lload F.1 F.2.1 dL_kept_291 (lv_at hl 9 rfl) ?_
        refine lv_lload F.1 F.2.1 dL_kept_293 (lv_at hl 10 rfl) ?_
        refine lv_ladd F.1 F.2.1 dL_kept_295 ?_
        refine lv_lload F.1 F.2.1 dL_kept_296 (lv_at hl 11 rfl) ?_
        refine lv_ladd F.1 F.2.1 dL_kept_298 ?_
        refine lv_lstore F.1 F.2.1 dL_kept_299 hl (Nat.le_of_ble_eq_true rfl) rfl (fun ls hl => ?_)
        have hl : lv_has ls 19 [(8, .long ((w12 + w14) + w16)), (10, .int (v10 + w14.toInt32)), (5, .int (1 : Int32)), (0, .ref (x + 0)), (1, .int v1), (2, .int v2), (3, .long w3), (6, .int v6), (7, .int v7), (11, .int v11), (12, .long w12), (14, .long w14), (16, .long w16)] := hl
        refine lv_iinc (v := (v11 + (1 : Int32))) F.1 F.2.1 dL_kept_301 hl (k := 9) rfl rfl (Nat.le_of_ble_eq_true rfl) rfl (fun ls hl => ?_)
        have hl : lv_has ls 19 [(11, .int (v11 + (1 : Int32))), (8, .long ((w12 + w14) + w16)), (10, .int (v10 + w14.toInt32)), (5, .int (1 : Int32)), (0, .ref (x + 0)), (1, .int v1), (2, .int v2), (3, .long w3), (6, .int v6), (7, .int v7), (12, .long w12), (14, .long w14), (16, .long w16)] := hl
        refine lv_goto (tgt := 48) F.1 F.2.1 dL_kept_304 rfl ?_
        refine W.widen (k := 12 * (2500 + 1 - n)) (n := 72 * (2500 + 1 - n)) (by omega) (by omega) ?_
        exact ih.2.2.1 v1 v2 w3 (1 : Int32) v6 v7 ((w12 + w14) + w16) (v10 + w14.toInt32) (v11 + (1 : Int32)) _ _ _ (lv_sub hl [4, 5, 6, 7, 3, 8, 9, 1, 2, 0] rfl) hP hS hf
      · intro v1 v2 w3 v6 v7 v10 v11 w12 w14 w16 t0 t1  ls H locs hl hP hS hf
        have hf : fb_L_kept_19 μ (fl_L_kept μ n) t0 t1 v1 v10 v11 0 0 v2 0 v6 v7 0 w12 w14 w16 w3 0 0 = some r := hf
        unfold fb_L_kept_19 at hf
        refine lv_icmp_ne (tgt := 156) F.1 F.2.1 dL_kept_149 rfl (fun hc158 => ?_) (fun hc158 => ?_)
        · have hf := ifn hc158 hf
          refine lv_iconst (v := (0 : Int32)) F.1 F.2.1 dL_kept_156 (by decide) ?_
          refine lv_istore F.1 F.2.1 dL_kept_157 hl (Nat.le_of_ble_eq_true rfl) rfl (fun ls hl => ?_)
          have hl : lv_has ls 19 [(5, .int (0 : Int32)), (0, .ref (x + 0)), (1, .int v1), (2, .int v2), (3, .long w3), (6, .int v6), (7, .int v7), (10, .int v10), (11, .int v11), (12, .long w12), (14, .long w14), (16, .long w16)] := hl
          refine lv_lload F.1 F.2.1 dL_kept_159 (lv_at hl 9 rfl) ?_
          refine lv_l2i (v := w12.toInt32) F.1 F.2.1 dL_kept_161 rfl ?_
          refine lv_istore F.1 F.2.1 dL_kept_162 hl (Nat.le_of_ble_eq_true rfl) rfl (fun ls hl => ?_)
          have hl : lv_has ls 19 [(18, .int w12.toInt32), (5, .int (0 : Int32)), (0, .ref (x + 0)), (1, .int v1), (2, .int v2), (3, .long w3), (6, .int v6), (7, .int v7), (10, .int v10), (11, .int v11), (12, .long w12), (14, .long w14), (16, .long w16)] := hl
          refine W.widen (k := 12 * (2500 + 1 - n)) (n := 72 * (2500 + 1 - n)) (by omega) (by omega) ?_
          exact ih.2.2.2.2.2.2.1 v1 v2 w3 (0 : Int32) v6 v7 v10 v11 w12 w14 w16 w12.toInt32 _ _ _ (lv_sub hl [2, 3, 4, 5, 1, 6, 7, 8, 9, 10, 11, 12, 0] rfl) hP hS hf
        · have hf := ifp hc158 hf
          refine lv_iconst (v := (1 : Int32)) F.1 F.2.1 dL_kept_152 (by decide) ?_
          refine lv_goto (tgt := 157) F.1 F.2.1 dL_kept_153 rfl ?_
          refine lv_istore F.1 F.2.1 dL_kept_157 hl (Nat.le_of_ble_eq_true rfl) rfl (fun ls hl => ?_)
          have hl : lv_has ls 19 [(5, .int (1 : Int32)), (0, .ref (x + 0)), (1, .int v1), (2, .int v2), (3, .long w3), (6, .int v6), (7, .int v7), (10, .int v10), (11, .int v11), (12, .long w12), (14, .long w14), (16, .long w16)] := hl
          refine lv_lload F.1 F.2.1 dL_kept_159 (lv_at hl 9 rfl) ?_
          refine lv_l2i (v := w12.toInt32) F.1 F.2.1 dL_kept_161 rfl ?_
          refine lv_istore F.1 F.2.1 dL_kept_162 hl (Nat.le_of_ble_eq_true rfl) rfl (fun ls hl => ?_)
          have hl : lv_has ls 19 [(18, .int w12.toInt32), (5, .int (1 : Int32)), (0, .ref (x + 0)), (1, .int v1), (2, .int v2), (3, .long w3), (6, .int v6), (7, .int v7), (10, .int v10), (11, .int v11), (12, .long w12), (14, .long w14), (16, .long w16)] := hl
          refine W.widen (k := 12 * (2500 + 1 - n)) (n := 72 * (2500 + 1 - n)) (by omega) (by omega) ?_
          exact ih.2.2.2.2.2.2.1 v1 v2 w3 (1 : Int32) v6 v7 v10 v11 w12 w14 w16 w12.toInt32 _ _ _ (lv_sub hl [2, 3, 4, 5, 1, 6, 7, 8, 9, 10, 11, 12, 0] rfl) hP hS hf
      · intro v1 v2 w3 v6 v7 v10 t0 t1  ls H locs hl hP hS hf
        have hf : fb_L_kept_20 μ (fl_L_kept μ n) t0 t1 v1 v10 0 0 0 v2 0 v6 v7 0 0 0 0 w3 0 0 = some r := hf
        unfold fb_L_kept_20 at hf
        refine lv_icmp_ne (tgt := 537) F.1 F.2.1 dL_kept_530 rfl (fun hc159 => ?_) (fun hc159 => ?_)
        · have hf := ifn hc159 hf
          refine lv_iconst (v := (0 : Int32)) F.1 F.2.1 dL_kept_537 (by decide) ?_
          refine lv_istore F.1 F.2.1 dL_kept_538 hl (Nat.le_of_ble_eq_true rfl) rfl (fun ls hl => ?_)
          have hl : lv_has ls 19 [(5, .int (0 : Int32)), (0, .ref (x + 0)), (1, .int v1), (2, .int v2), (3, .long w3), (6, .int v6), (7, .int v7), (10, .int v10)] := hl
          refine lv_iload_n F.1 F.2.1 dL_kept_540 rfl (lv_at hl 2 rfl) ?_
          refine lv_iload F.1 F.2.1 dL_kept_541 (lv_at hl 7 rfl) ?_
          refine lv_iadd F.1 F.2.1 dL_kept_543 ?_
          refine lv_istore_n F.1 F.2.1 dL_kept_544 rfl hl (Nat.le_of_ble_eq_true rfl) rfl (fun ls hl => ?_)
          have hl : lv_has ls 19 [(1, .int (v1 + v10)), (5, .int (0 : Int32)), (0, .ref (x + 0)), (2, .int v2), (3, .long w3), (6, .int v6), (7, .int v7), (10, .int v10)] := hl
          refine lv_iload_n F.1 F.2.1 dL_kept_545 rfl (lv_at hl 3 rfl) ?_
          refine lv_iload F.1 F.2.1 dL_kept_546 (lv_at hl 6 rfl) ?_
          refine lv_iadd F.1 F.2.1 dL_kept_548 ?_
          refine lv_istore_n F.1 F.2.1 dL_kept_549 rfl hl (Nat.le_of_ble_eq_true rfl) rfl (fun ls hl => ?_)
          have hl : lv_has ls 19 [(2, .int (v2 + v7)), (1, .int (v1 + v10)), (5, .int (0 : Int32)), (0, .ref (x + 0)), (3, .long w3), (6, .int v6), (7, .int v7), (10, .int v10)] := hl
          refine lv_iinc (v := (v6 + (1 : Int32))) F.1 F.2.1 dL_kept_550 hl (k := 5) rfl rfl (Nat.le_of_ble_eq_true rfl) rfl (fun ls hl => ?_)
          have hl : lv_has ls 19 [(6, .int (v6 + (1 : Int32))), (2, .int (v2 + v7)), (1, .int (v1 + v10)), (5, .int (0 : Int32)), (0, .ref (x + 0)), (3, .long w3), (7, .int v7), (10, .int v10)] := hl
          refine lv_goto (tgt := 12) F.1 F.2.1 dL_kept_553 rfl ?_
          refine W.widen (k := 12 * (2500 + 1 - n)) (n := 72 * (2500 + 1 - n)) (by omega) (by omega) ?_
          exact ih.1 (v1 + v10) (v2 + v7) w3 (0 : Int32) (v6 + (1 : Int32)) _ _ _ (lv_sub hl [4, 2, 1, 5, 3, 0] rfl) hP hS hf
        · have hf := ifp hc159 hf
          refine lv_iconst (v := (1 : Int32)) F.1 F.2.1 dL_kept_533 (by decide) ?_
          refine lv_goto (tgt := 538) F.1 F.2.1 dL_kept_534 rfl ?_
          refine lv_istore F.1 F.2.1 dL_kept_538 hl (Nat.le_of_ble_eq_true rfl) rfl (fun ls hl => ?_)
          have hl : lv_has ls 19 [(5, .int (1 : Int32)), (0, .ref (x + 0)), (1, .int v1), (2, .int v2), (3, .long w3), (6, .int v6), (7, .int v7), (10, .int v10)] := hl
          refine lv_iload_n F.1 F.2.1 dL_kept_540 rfl (lv_at hl 2 rfl) ?_
          refine lv_iload F.1 F.2.1 dL_kept_541 (lv_at hl 7 rfl) ?_
          refine lv_iadd F.1 F.2.1 dL_kept_543 ?_
          refine lv_istore_n F.1 F.2.1 dL_kept_544 rfl hl (Nat.le_of_ble_eq_true rfl) rfl (fun ls hl => ?_)
          have hl : lv_has ls 19 [(1, .int (v1 + v10)), (5, .int (1 : Int32)), (0, .ref (x + 0)), (2, .int v2), (3, .long w3), (6, .int v6), (7, .int v7), (10, .int v10)] := hl
          refine lv_iload_n F.1 F.2.1 dL_kept_545 rfl (lv_at hl 3 rfl) ?_
          refine lv_iload F.1 F.2.1 dL_kept_546 (lv_at hl 6 rfl) ?_
          refine lv_iadd F.1 F.2.1 dL_kept_548 ?_
          refine lv_istore_n F.1 F.2.1 dL_kept_549 rfl hl (Nat.le_of_ble_eq_true rfl) rfl (fun ls hl => ?_)
          have hl : lv_has ls 19 [(2, .int (v2 + v7)), (1, .int (v1 + v10)), (5, .int (1 : Int32)), (0, .ref (x + 0)), (3, .long w3), (6, .int v6), (7, .int v7), (10, .int v10)] := hl
          refine lv_iinc (v := (v6 + (1 : Int32))) F.1 F.2.1 dL_kept_550 hl (k := 5) rfl rfl (Nat.le_of_ble_eq_true rfl) rfl (fun ls hl => ?_)
          have hl : lv_has ls 19 [(6, .int (v6 + (1 : Int32))), (2, .int (v2 + v7)), (1, .int (v1 + v10)), (5, .int (1 : Int32)), (0, .ref (x + 0)), (3, .long w3), (7, .int v7), (10, .int v10)] := hl
          refine lv_goto (tgt := 12) F.1 F.2.1 dL_kept_553 rfl ?_
          refine W.widen (k := 12 * (2500 + 1 - n)) (n := 72 * (2500 + 1 - n)) (by omega) (by omega) ?_
          exact ih.1 (v1 + v10) (v2 + v7) w3 (1 : Int32) (v6 + (1 : Int32)) _ _ _ (lv_sub hl [4, 2, 1, 5, 3, 0] rfl) hP hS hf
  intro ls H locs hl hP hS
  have hl : lv_has ls 19 [(0, .ref (x + 0))] := hl
  unfold f_L_kept at hf
  refine lv_iconst (v := (0 : Int32)) F.1 F.2.1 dL_kept_0 (by decide) ?_
  refine lv_istore_n F.1 F.2.1 dL_kept_1 rfl hl (Nat.le_of_ble_eq_true rfl) rfl (fun ls hl => ?_)
  have hl : lv_has ls 19 [(1, .int (0 : Int32)), (0, .ref (x + 0))] := hl
  refine lv_iconst (v := (0 : Int32)) F.1 F.2.1 dL_kept_2 (by decide) ?_
  refine lv_istore_n F.1 F.2.1 dL_kept_3 rfl hl (Nat.le_of_ble_eq_true rfl) rfl (fun ls hl => ?_)
  have hl : lv_has ls 19 [(2, .int (0 : Int32)), (1, .int (0 : Int32)), (0, .ref (x + 0))] := hl
  refine lv_lconst (v := (0 : Int64)) F.1 F.2.1 dL_kept_4 rfl ?_
  refine lv_lstore_n F.1 F.2.1 dL_kept_5 rfl hl (Nat.le_of_ble_eq_true rfl) rfl (fun ls hl => ?_)
  have hl : lv_has ls 19 [(3, .long (0 : Int64)), (2, .int (0 : Int32)), (1, .int (0 : Int32)), (0, .ref (x + 0))] := hl
  refine lv_iconst (v := (1 : Int32)) F.1 F.2.1 dL_kept_6 (by decide) ?_
  refine lv_istore F.1 F.2.1 dL_kept_7 hl (Nat.le_of_ble_eq_true rfl) rfl (fun ls hl => ?_)
  have hl : lv_has ls 19 [(5, .int (1 : Int32)), (3, .long (0 : Int64)), (2, .int (0 : Int32)), (1, .int (0 : Int32)), (0, .ref (x + 0))] := hl
  refine lv_iconst (v := (0 : Int32)) F.1 F.2.1 dL_kept_9 (by decide) ?_
  refine lv_istore F.1 F.2.1 dL_kept_10 hl (Nat.le_of_ble_eq_true rfl) rfl (fun ls hl => ?_)
  have hl : lv_has ls 19 [(6, .int (0 : Int32)), (5, .int (1 : Int32)), (3, .long (0 : Int64)), (2, .int (0 : Int32)), (1, .int (0 : Int32)), (0, .ref (x + 0))] := hl
  refine W.widen (k := 12 * (2500 + 1 - 2500)) (n := 72 * (2500 + 1 - 2500)) (by omega) (by omega) ?_
  exact (KEY 2500 (Nat.le_refl _)).1 (0 : Int32) (0 : Int32) (0 : Int64) (1 : Int32) (0 : Int32) _ _ _ (lv_sub hl [5, 4, 3, 2, 1, 0] rfl) hP hS hf
