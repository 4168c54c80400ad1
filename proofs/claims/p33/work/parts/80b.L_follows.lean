-- FrostTubesLaw.follows(LFrostTubes;I)Z
def rmL_follows : Room := { frames := 10, cells := 31330, slots := 187980, locals := 216 }
theorem hd_L_follows : yL_follows.cls ≠ "java/lang/invoke/MethodHandle" ∧ yL_follows.cls ≠ "java/lang/invoke/VarHandle" ∧ (parseMethodDescriptor yL_follows.desc).map (fun d => d.parameters.length) = some 2 := by decide +kernel
set_option maxHeartbeats 8000000 in
set_option maxRecDepth 100000 in
theorem c_L_follows {l : Launch} (hlt : l.stackTraces = false) {D : va_G} {x : Nat} {μ : Mem} (a1 : Int32) {r : Int32 × Mem} (hf : f_L_follows μ a1 = some r) : LC l yL_follows wsB_follows rmL_follows 31330 187980 [.ref (x + 0), .int a1] D x μ (some (.int r.1)) r.2 := by
  refine LC.of (cc := cL_follows) (maxL := 21) (ret := (some .boolean)) (by decide +kernel) rfl (Nat.le_of_ble_eq_true rfl) ?_
  intro p e s m args below meth c F hr hlk hK hG
  have KEY : ∀ n : Nat, n ≤ 12 → (∀ (μ : Mem) (w2 : Int64) (t0 : Int32) (ls : Array Slot) (H : Heap) (locs : List Loc), lv_has ls 21 [(0, .ref (x + 0)), (1, .int a1), (2, .long w2)] → va_P D vwCl (WL D x μ) H → va_S (rng x) s.heap H locs → fl_L_follows a1 n 1 μ t0 0 0 0 0 0 0 0 w2 0 = some r → W p l e rmL_follows s m args below meth c H locs (2410 * (12 + 1 - n)) (14460 * (12 + 1 - n)) (vx_MQ below (QX D x r.2 (some (.int r.1))) XF args s 31330 187980 (rng x)) (F0 m 53 ls [.int t0])) ∧ (∀ (μ : Mem) (w2 : Int64) (v4 : Int32) (ls : Array Slot) (H : Heap) (locs : List Loc), lv_has ls 21 [(0, .ref (x + 0)), (2, .long w2), (4, .int v4)] → va_P D vwCl (WL D x μ) H → va_S (rng x) s.heap H locs → fl_L_follows a1 n 2 μ 0 0 0 v4 0 0 0 0 w2 0 = some r → W p l e rmL_follows s m args below meth c H locs (2410 * (12 + 1 - n)) (14460 * (12 + 1 - n)) (vx_MQ below (QX D x r.2 (some (.int r.1))) XF args s 31330 187980 (rng x)) (F0 m 638 ls [])) ∧ (∀ (μ : Mem) (w2 : Int64) (v4 : Int32) (v5 : Int32) (v6 : Int32) (w7 : Int64) (ls : Array Slot) (H : Heap) (locs : List Loc), lv_has ls 21 [(0, .ref (x + 0)), (1, .int a1), (2, .long w2), (4, .int v4), (5, .int v5), (6, .int v6), (7, .long w7)] → va_P D vwCl (WL D x μ) H → va_S (rng x) s.heap H locs → fl_L_follows a1 n 3 μ 0 0 0 v4 v5 v6 0 0 w2 w7 = some r → W p l e rmL_follows s m args below meth c H locs (2410 * (12 + 1 - n)) (14460 * (12 + 1 - n)) (vx_MQ below (QX D x r.2 (some (.int r.1))) XF args s 31330 187980 (rng x)) (F0 m 214 ls [])) ∧ (∀ (μ : Mem) (w2 : Int64) (v4 : Int32) (v5 : Int32) (v6 : Int32) (w7 : Int64) (v9 : Int32) (w10 : Int64) (ls : Array Slot) (H : Heap) (locs : List Loc), lv_has ls 21 [(0, .ref (x + 0)), (1, .int a1), (2, .long w2), (4, .int v4), (5, .int v5), (6, .int v6), (7, .long w7), (9, .int v9), (10, .long w10)] → va_P D vwCl (WL D x μ) H → va_S (rng x) s.heap H locs → fl_L_follows a1 n 4 μ 0 0 0 v4 v5 v6 v9 w10 w2 w7 = some r → W p l e rmL_follows s m args below meth c H locs (2410 * (12 + 1 - n)) (14460 * (12 + 1 - n)) (vx_MQ below (QX D x r.2 (some (.int r.1))) XF args s 31330 187980 (rng x)) (F0 m 306 ls [])) ∧ (∀ (μ : Mem) (w2 : Int64) (v5 : Int32) (v6 : Int32) (t0 : Int32) (ls : Array Slot) (H : Heap) (locs : List Loc), lv_has ls 21 [(0, .ref (x + 0)), (1, .int a1), (2, .long w2), (5, .int v5), (6, .int v6)] → va_P D vwCl (WL D x μ) H → va_S (rng x) s.heap H locs → fl_L_follows a1 n 5 μ t0 0 0 0 v5 v6 0 0 w2 0 = some r → W p l e rmL_follows s m args below meth c H locs (2410 * (12 + 1 - n)) (14460 * (12 + 1 - n)) (vx_MQ below (QX D x r.2 (some (.int r.1))) XF args s 31330 187980 (rng x)) (F0 m 355 ls [.int t0])) ∧ (∀ (μ : Mem) (w2 : Int64) (v5 : Int32) (v6 : Int32) (w7 : Int64) (ls : Array Slot) (H : Heap) (locs : List Loc), lv_has ls 21 [(0, .ref (x + 0)), (1, .int a1), (2, .long w2), (5, .int v5), (6, .int v6), (7, .long w7)] → va_P D vwCl (WL D x μ) H → va_S (rng x) s.heap H locs → fl_L_follows a1 n 6 μ 0 0 0 0 v5 v6 0 0 w2 w7 = some r → W p l e rmL_follows s m args below meth c H locs (2410 * (12 + 1 - n)) (14460 * (12 + 1 - n)) (vx_MQ below (QX D x r.2 (some (.int r.1))) XF args s 31330 187980 (rng x)) (F0 m 331 ls [])) ∧ (∀ (μ : Mem) (w2 : Int64) (v5 : Int32) (v6 : Int32) (v12 : Int32) (v13 : Int32) (t0 : Int32) (ls : Array Slot) (H : Heap) (locs : List Loc), lv_has ls 21 [(0, .ref (x + 0)), (1, .int a1), (2, .long w2), (5, .int v5), (6, .int v6), (12, .int v12), (13, .int v13)] → va_P D vwCl (WL D x μ) H → va_S (rng x) s.heap H locs → fl_L_follows a1 n 7 μ t0 v12 v13 0 v5 v6 0 0 w2 0 = some r → W p l e rmL_follows s m args below meth c H locs (2410 * (12 + 1 - n)) (14460 * (12 + 1 - n)) (vx_MQ below (QX D x r.2 (some (.int r.1))) XF args s 31330 187980 (rng x)) (F0 m 428 ls [.int t0])) ∧ (∀ (μ : Mem) (w2 : Int64) (v6 : Int32) (v12 : Int32) (t0 : Int32) (ls : Array Slot) (H : Heap) (locs : List Loc), lv_has ls 21 [(0, .ref (x + 0)), (1, .int a1), (2, .long w2), (6, .int v6), (12, .int v12)] → va_P D vwCl (WL D x μ) H → va_S (rng x) s.heap H locs → fl_L_follows a1 n 8 μ t0 v12 0 0 0 v6 0 0 w2 0 = some r → W p l e rmL_follows s m args below meth c H locs (2410 * (12 + 1 - n)) (14460 * (12 + 1 - n)) (vx_MQ below (QX D x r.2 (some (.int r.1))) XF args s 31330 187980 (rng x)) (F0 m 554 ls [.int t0])) ∧ (∀ (μ : Mem) (w2 : Int64) (v6 : Int32) (v12 : Int32) (ls : Array Slot) (H : Heap) (locs : List Loc), lv_has ls 21 [(0, .ref (x + 0)), (1, .int a1), (2, .long w2), (6, .int v6), (12, .int v12)] → va_P D vwCl (WL D x μ) H → va_S (rng x) s.heap H locs → fl_L_follows a1 n 9 μ 0 v12 0 0 0 v6 0 0 w2 0 = some r → W p l e rmL_follows s m args below meth c H locs (2410 * (12 + 1 - n)) (14460 * (12 + 1 - n)) (vx_MQ below (QX D x r.2 (some (.int r.1))) XF args s 31330 187980 (rng x)) (F0 m 513 ls [])) := by
    intro n
    induction n with
    | zero => intro _; exact ⟨(fun _ _ _ _ _ _ _ _ _ h => nomatch h), (fun _ _ _ _ _ _ _ _ _ h => nomatch h), (fun _ _ _ _ _ _ _ _ _ _ _ _ h => nomatch h), (fun _ _ _ _ _ _ _ _ _ _ _ _ _ _ h => nomatch h), (fun _ _ _ _ _ _ _ _ _ _ _ h => nomatch h), (fun _ _ _ _ _ _ _ _ _ _ _ h => nomatch h), (fun _ _ _ _ _ _ _ _ _ _ _ _ _ h => nomatch h), (fun _ _ _ _ _ _ _ _ _ _ _ h => nomatch h), (fun _ _ _ _ _ _ _ _ _ _ h => nomatch h)⟩
    | succ n ih =>
      intro hn
      have ih := ih (by omega)
      refine ⟨?_, ?_, ?_, ?_, ?_, ?_, ?_, ?_, ?_⟩
      · intro μ w2 t0  ls H locs hl hP hS hf
        have hf : fb_L_follows_1 a1 (fl_L_follows a1 n) μ t0 0 0 0 0 0 0 0 w2 0 = some r := hf
        unfold fb_L_follows_1 at hf
        refine lv_istore F.1 F.2.1 dL_follows_53 hl (Nat.le_of_ble_eq_true rfl) rfl (fun ls hl => ?_)
        have hl : lv_has ls 21 [(4, .int t0), (0, .ref (x + 0)), (1, .int a1), (2, .long w2)] := hl
        refine lv_aload_n F.1 F.2.1 dL_follows_55 rfl (lv_at hl 1 rfl) ?_
        refine lv_iconst (v := (0 : Int32)) F.1 F.2.1 dL_follows_56 (by decide) ?_
        obtain ⟨r16, hr17, hf⟩ := bnd hf
        refine a_H F hK (fun _ hU hW => sl_U hG hS hU hW) (fun _ h => h) hP hS (c_L_about hlt (0 : Int32) hr17) (vx_cwSW 2 F.2.2.2.2 gB_follows_L_about rfl rfl rfl hd_L_about ⟨(Nat.le_of_ble_eq_true rfl), (Nat.le_of_ble_eq_true rfl)⟩) rfl rfl hl.1 (Nat.le_of_ble_eq_true rfl) dL_follows_57 ⟨(by show _ ≤ 31330; omega), (by show _ ≤ 187980; omega)⟩ (rest := []) (fun H locs hP hS _ => ?_)
        refine W.eq (g2 := F0 m 60 ls [.long r16]) rfl ?_
        refine lv_lconst (v := (0 : Int64)) F.1 F.2.1 dL_follows_60 rfl ?_
        refine W.lcmp F.1 F.2.1 dL_follows_61 ?_
        refine lv_if_le (tgt := 638) F.1 F.2.1 dL_follows_62 rfl (fun hc18 => ?_) (fun hc18 => ?_)
        · have hf := ifp hc18 hf
          refine W.widen (k := 2410 * (12 + 1 - n)) (n := 14460 * (12 + 1 - n)) (by omega) (by omega) ?_
          exact ih.2.1 μ w2 t0 _ _ _ (lv_sub hl [1, 3, 0] rfl) hP hS hf
        · have hf := ifn hc18 hf
          refine lv_aload_n F.1 F.2.1 dL_follows_65 rfl (lv_at hl 1 rfl) ?_
          refine lv_iconst (v := (3 : Int32)) F.1 F.2.1 dL_follows_66 (by decide) ?_
          obtain ⟨r19, hr20, hf⟩ := bnd hf
          refine a_H F hK (fun _ hU hW => sl_U hG hS hU hW) (fun _ h => h) hP hS (c_L_about hlt (3 : Int32) hr20) (vx_cwSW 2 F.2.2.2.2 gB_follows_L_about rfl rfl rfl hd_L_about ⟨(Nat.le_of_ble_eq_true rfl), (Nat.le_of_ble_eq_true rfl)⟩) rfl rfl hl.1 (Nat.le_of_ble_eq_true rfl) dL_follows_67 ⟨(by show _ ≤ 31330; omega), (by show _ ≤ 187980; omega)⟩ (rest := []) (fun H locs hP hS _ => ?_)
          refine W.eq (g2 := F0 m 70 ls [.long r19]) rfl ?_
          refine lv_ldc2 (v := (9800 : Int64)) F.1 F.2.1 F.2.2.2.1 (F.2.2.2.2 _ (List.mem_of_getElem? (i := 650) rfl)) dL_follows_70 ?_
          refine W.lcmp F.1 F.2.1 dL_follows_73 ?_
          refine lv_if_ge (tgt := 638) F.1 F.2.1 dL_follows_74 rfl (fun hc21 => ?_) (fun hc21 => ?_)
          · have hf := ifp hc21 hf
            refine W.widen (k := 2410 * (12 + 1 - n)) (n := 14460 * (12 + 1 - n)) (by omega) (by omega) ?_
            exact ih.2.1 μ w2 t0 _ _ _ (lv_sub hl [1, 3, 0] rfl) hP hS hf
          · have hf := ifn hc21 hf
            refine lv_iload F.1 F.2.1 dL_follows_77 (lv_at hl 0 rfl) ?_
            refine lv_if_eq (tgt := 638) F.1 F.2.1 dL_follows_79 rfl (fun hc22 => ?_) (fun hc22 => ?_)
            · have hf := ifp hc22 hf
              refine W.widen (k := 2410 * (12 + 1 - n)) (n := 14460 * (12 + 1 - n)) (by omega) (by omega) ?_
              exact ih.2.1 μ w2 t0 _ _ _ (lv_sub hl [1, 3, 0] rfl) hP hS hf
            · have hf := ifn hc22 hf
              refine lv_iload_n F.1 F.2.1 dL_follows_82 rfl (lv_at hl 2 rfl) ?_
              refine lv_aload_n F.1 F.2.1 dL_follows_83 rfl (lv_at hl 1 rfl) ?_
              refine lv_iconst (v := (0 : Int32)) F.1 F.2.1 dL_follows_84 (by decide) ?_
              obtain ⟨r23, hr24, hf⟩ := bnd hf
              refine a_H F hK (fun _ hU hW => sl_U hG hS hU hW) (fun _ h => h) hP hS (c_L_about hlt (0 : Int32) hr24) (vx_cwSW 2 F.2.2.2.2 gB_follows_L_about rfl rfl rfl hd_L_about ⟨(Nat.le_of_ble_eq_true rfl), (Nat.le_of_ble_eq_true rfl)⟩) rfl rfl hl.1 (Nat.le_of_ble_eq_true rfl) dL_follows_85 ⟨(by show _ ≤ 31330; omega), (by show _ ≤ 187980; omega)⟩ (rest := [.int a1]) (fun H locs hP hS _ => ?_)
              refine W.eq (g2 := F0 m 88 ls [.long r23, .int a1]) rfl ?_
              refine lv_l2i (v := r23.toInt32) F.1 F.2.1 dL_follows_88 rfl ?_
              obtain ⟨hz25, hf⟩ := ifg hf
              refine lv_irem F.1 F.2.1 dL_follows_89 hz25 ?_
              refine lv_istore F.1 F.2.1 dL_follows_90 hl (Nat.le_of_ble_eq_true rfl) rfl (fun ls hl => ?_)
              have hl : lv_has ls 21 [(5, .int (a1 - (a1 / r23.toInt32) * r23.toInt32)), (4, .int t0), (0, .ref (x + 0)), (1, .int a1), (2, .long w2)] := hl
              refine lv_iconst (v := (1 : Int32)) F.1 F.2.1 dL_follows_92 (by decide) ?_
              refine lv_iload_n F.1 F.2.1 dL_follows_93 rfl (lv_at hl 3 rfl) ?_
              refine lv_bipush (v := (30 : Int32)) F.1 F.2.1 dL_follows_94 (by decide) ?_
              refine lv_irem F.1 F.2.1 dL_follows_96 (by decide) ?_
              refine lv_iadd F.1 F.2.1 dL_follows_97 ?_
              refine lv_istore F.1 F.2.1 dL_follows_98 hl (Nat.le_of_ble_eq_true rfl) rfl (fun ls hl => ?_)
              have hl : lv_has ls 21 [(6, .int ((1 : Int32) + (a1 - (a1 / (30 : Int32)) * (30 : Int32)))), (5, .int (a1 - (a1 / r23.toInt32) * r23.toInt32)), (4, .int t0), (0, .ref (x + 0)), (1, .int a1), (2, .long w2)] := hl
              refine lv_aload_n F.1 F.2.1 dL_follows_100 rfl (lv_at hl 3 rfl) ?_
              refine lv_iload F.1 F.2.1 dL_follows_101 (lv_at hl 1 rfl) ?_
              refine lv_iload F.1 F.2.1 dL_follows_103 (lv_at hl 0 rfl) ?_
              obtain ⟨r26, hr27, hf⟩ := bnd hf
              refine a_H F hK (fun _ hU hW => sl_U hG hS hU hW) (fun _ h => h) hP hS (c_L_goneIn hlt (a1 - (a1 / r23.toInt32) * r23.toInt32) ((1 : Int32) + (a1 - (a1 / (30 : Int32)) * (30 : Int32))) hr27) (vx_cwSW 3 F.2.2.2.2 gB_follows_L_goneIn rfl rfl rfl hd_L_goneIn ⟨(Nat.le_of_ble_eq_true rfl), (Nat.le_of_ble_eq_true rfl)⟩) rfl rfl hl.1 (Nat.le_of_ble_eq_true rfl) dL_follows_105 ⟨(by show _ ≤ 31330; omega), (by show _ ≤ 187980; omega)⟩ (rest := []) (fun H locs hP hS _ => ?_)
              refine W.eq (g2 := F0 m 108 ls [.long r26.1]) rfl ?_
              refine lv_lstore F.1 F.2.1 dL_follows_108 hl (Nat.le_of_ble_eq_true rfl) rfl (fun ls hl => ?_)
              have hl : lv_has ls 21 [(7, .long r26.1), (6, .int ((1 : Int32) + (a1 - (a1 / (30 : Int32)) * (30 : Int32)))), (5, .int (a1 - (a1 / r23.toInt32) * r23.toInt32)), (4, .int t0), (0, .ref (x + 0)), (1, .int a1), (2, .long w2)] := hl
              refine lv_lload F.1 F.2.1 dL_follows_110 (lv_at hl 0 rfl) ?_
              refine lv_lconst (v := (0 : Int64)) F.1 F.2.1 dL_follows_112 rfl ?_
              refine W.lcmp F.1 F.2.1 dL_follows_113 ?_
              refine lv_if_le (tgt := 214) F.1 F.2.1 dL_follows_114 rfl (fun hc28 => ?_) (fun hc28 => ?_)
              · have hf := ifp hc28 hf
                refine W.widen (k := 2410 * (12 + 1 - n)) (n := 14460 * (12 + 1 - n)) (by omega) (by omega) ?_
                exact ih.2.2.1 r26.2 w2 t0 (a1 - (a1 / r23.toInt32) * r23.toInt32) ((1 : Int32) + (a1 - (a1 / (30 : Int32)) * (30 : Int32))) r26.1 _ _ _ (lv_sub hl [4, 5, 6, 3, 2, 1, 0] rfl) hP hS hf
              · have hf := ifn hc28 hf
                refine lv_lload F.1 F.2.1 dL_follows_117 (lv_at hl 0 rfl) ?_
                refine lv_ldc2 (v := (60 : Int64)) F.1 F.2.1 F.2.2.2.1 (F.2.2.2.2 _ (List.mem_of_getElem? (i := 651) rfl)) dL_follows_119 ?_
                refine W.lcmp F.1 F.2.1 dL_follows_122 ?_
                refine lv_if_gt (tgt := 214) F.1 F.2.1 dL_follows_123 rfl (fun hc29 => ?_) (fun hc29 => ?_)
                · have hf := ifp hc29 hf
                  refine W.widen (k := 2410 * (12 + 1 - n)) (n := 14460 * (12 + 1 - n)) (by omega) (by omega) ?_
                  exact ih.2.2.1 r26.2 w2 t0 (a1 - (a1 / r23.toInt32) * r23.toInt32) ((1 : Int32) + (a1 - (a1 / (30 : Int32)) * (30 : Int32))) r26.1 _ _ _ (lv_sub hl [4, 5, 6, 3, 2, 1, 0] rfl) hP hS hf
                · have hf := ifn hc29 hf
                  refine lv_aload_n F.1 F.2.1 dL_follows_126 rfl (lv_at hl 4 rfl) ?_
                  refine lv_iload F.1 F.2.1 dL_follows_127 (lv_at hl 1 rfl) ?_
                  refine lv_iconst (v := (0 : Int32)) F.1 F.2.1 dL_follows_129 (by decide) ?_
                  refine lv_lload F.1 F.2.1 dL_follows_130 (lv_at hl 0 rfl) ?_
                  refine lv_l2i (v := r26.1.toInt32) F.1 F.2.1 dL_follows_132 rfl ?_
                  obtain ⟨r30, hr31, hf⟩ := bnd hf
                  refine a_H F hK (fun _ hU hW => sl_U hG hS hU hW) (fun _ h => h) hP hS (c_L_days hlt ((1 : Int32) + (a1 - (a1 / (30 : Int32)) * (30 : Int32))) (0 : Int32) r26.1.toInt32 hr31) (vx_cwSW 4 F.2.2.2.2 gB_follows_L_days rfl rfl rfl hd_L_days ⟨(Nat.le_of_ble_eq_true rfl), (Nat.le_of_ble_eq_true rfl)⟩) rfl rfl hl.1 (Nat.le_of_ble_eq_true rfl) dL_follows_133 ⟨(by show _ ≤ 31330; omega), (by show _ ≤ 187980; omega)⟩ (rest := []) (fun H locs hP hS _ => ?_)
                  refine W.eq (g2 := F0 m 136 ls [.long r30.1]) rfl ?_
                  refine lv_lconst (v := (0 : Int64)) F.1 F.2.1 dL_follows_136 rfl ?_
                  refine W.lcmp F.1 F.2.1 dL_follows_137 ?_
                  refine lv_if_lt (tgt := 211) F.1 F.2.1 dL_follows_138 rfl (fun hc32 => ?_) (fun hc32 => ?_)
                  · have hf := ifp hc32 hf
                    refine lv_iconst (v := (0 : Int32)) F.1 F.2.1 dL_follows_211 (by decide) ?_
                    refine lv_istore F.1 F.2.1 dL_follows_212 hl (Nat.le_of_ble_eq_true rfl) rfl (fun ls hl => ?_)
                    have hl : lv_has ls 21 [(4, .int (0 : Int32)), (7, .long r26.1), (6, .int ((1 : Int32) + (a1 - (a1 / (30 : Int32)) * (30 : Int32)))), (5, .int (a1 - (a1 / r23.toInt32) * r23.toInt32)), (0, .ref (x + 0)), (1, .int a1), (2, .long w2)] := hl
                    refine W.widen (k := 2410 * (12 + 1 - n)) (n := 14460 * (12 + 1 - n)) (by omega) (by omega) ?_
                    exact ih.2.2.1 r30.2 w2 (0 : Int32) (a1 - (a1 / r23.toInt32) * r23.toInt32) ((1 : Int32) + (a1 - (a1 / (30 : Int32)) * (30 : Int32))) r26.1 _ _ _ (lv_sub hl [4, 5, 6, 0, 3, 2, 1] rfl) hP hS hf
                  · have hf := ifn hc32 hf
                    refine lv_aload_n F.1 F.2.1 dL_follows_141 rfl (lv_at hl 4 rfl) ?_
                    refine lv_iload F.1 F.2.1 dL_follows_142 (lv_at hl 2 rfl) ?_
                    refine lv_iconst (v := (5 : Int32)) F.1 F.2.1 dL_follows_144 (by decide) ?_
                    obtain ⟨r33, hr34, hf⟩ := bnd hf
                    refine a_H F hK (fun _ hU hW => sl_U hG hS hU hW) (fun _ h => h) hP hS (c_L_siteOf hlt (a1 - (a1 / r23.toInt32) * r23.toInt32) (5 : Int32) hr34) (vx_cwSW 3 F.2.2.2.2 gB_follows_L_siteOf rfl rfl rfl hd_L_siteOf ⟨(Nat.le_of_ble_eq_true rfl), (Nat.le_of_ble_eq_true rfl)⟩) rfl rfl hl.1 (Nat.le_of_ble_eq_true rfl) dL_follows_145 ⟨(by show _ ≤ 31330; omega), (by show _ ≤ 187980; omega)⟩ (rest := []) (fun H locs hP hS _ => ?_)
                    refine W.eq (g2 := F0 m 148 ls [.long r33]) rfl ?_
                    refine lv_lconst (v := (0 : Int64)) F.1 F.2.1 dL_follows_148 rfl ?_
                    refine W.lcmp F.1 F.2.1 dL_follows_149 ?_
                    refine lv_if_ne (tgt := 211) F.1 F.2.1 dL_follows_150 rfl (fun hc35 => ?_) (fun hc35 => ?_)
                    · have hf := ifn hc35 hf
                      refine lv_iconst (v := (0 : Int32)) F.1 F.2.1 dL_follows_211 (by decide) ?_
                      refine lv_istore F.1 F.2.1 dL_follows_212 hl (Nat.le_of_ble_eq_true rfl) rfl (fun ls hl => ?_)
                      have hl : lv_has ls 21 [(4, .int (0 : Int32)), (7, .long r26.1), (6, .int ((1 : Int32) + (a1 - (a1 / (30 : Int32)) * (30 : Int32)))), (5, .int (a1 - (a1 / r23.toInt32) * r23.toInt32)), (0, .ref (x + 0)), (1, .int a1), (2, .long w2)] := hl
                      refine W.widen (k := 2410 * (12 + 1 - n)) (n := 14460 * (12 + 1 - n)) (by omega) (by omega) ?_
                      exact ih.2.2.1 r30.2 w2 (0 : Int32) (a1 - (a1 / r23.toInt32) * r23.toInt32) ((1 : Int32) + (a1 - (a1 / (30 : Int32)) * (30 : Int32))) r26.1 _ _ _ (lv_sub hl [4, 5, 6, 0, 3, 2, 1] rfl) hP hS hf
                    · have hf := ifp hc35 hf
                      refine lv_aload_n F.1 F.2.1 dL_follows_153 rfl (lv_at hl 4 rfl) ?_
                      obtain ⟨r36, hr37, hf⟩ := bnd hf
                      refine a_H F hK (fun _ hU hW => sl_U hG hS hU hW) (fun _ h => h) hP hS (c_L_undo hlt hr37) (vx_cwSW 1 F.2.2.2.2 gB_follows_L_undo rfl rfl rfl hd_L_undo ⟨(Nat.le_of_ble_eq_true rfl), (Nat.le_of_ble_eq_true rfl)⟩) rfl rfl hl.1 (Nat.le_of_ble_eq_true rfl) dL_follows_154 ⟨(by show _ ≤ 31330; omega), (by show _ ≤ 187980; omega)⟩ (rest := []) (fun H locs hP hS _ => ?_)
                      refine W.eq (g2 := F0 m 157 ls [.long r36.1]) rfl ?_
                      refine lv_lconst (v := (0 : Int64)) F.1 F.2.1 dL_follows_157 rfl ?_
                      refine W.lcmp F.1 F.2.1 dL_follows_158 ?_
                      refine lv_if_lt (tgt := 211) F.1 F.2.1 dL_follows_159 rfl (fun hc38 => ?_) (fun hc38 => ?_)
                      · have hf := ifp hc38 hf
                        refine lv_iconst (v := (0 : Int32)) F.1 F.2.1 dL_follows_211 (by decide) ?_
                        refine lv_istore F.1 F.2.1 dL_follows_212 hl (Nat.le_of_ble_eq_true rfl) rfl (fun ls hl => ?_)
                        have hl : lv_has ls 21 [(4, .int (0 : Int32)), (7, .long r26.1), (6, .int ((1 : Int32) + (a1 - (a1 / (30 : Int32)) * (30 : Int32)))), (5, .int (a1 - (a1 / r23.toInt32) * r23.toInt32)), (0, .ref (x + 0)), (1, .int a1), (2, .long w2)] := hl
                        refine W.widen (k := 2410 * (12 + 1 - n)) (n := 14460 * (12 + 1 - n)) (by omega) (by omega) ?_
                        exact ih.2.2.1 r36.2 w2 (0 : Int32) (a1 - (a1 / r23.toInt32) * r23.toInt32) ((1 : Int32) + (a1 - (a1 / (30 : Int32)) * (30 : Int32))) r26.1 _ _ _ (lv_sub hl [4, 5, 6, 0, 3, 2, 1] rfl) hP hS hf
                      · have hf := ifn hc38 hf
                        refine lv_lload F.1 F.2.1 dL_follows_162 (lv_at hl 0 rfl) ?_
                        refine lv_lconst (v := (1 : Int64)) F.1 F.2.1 dL_follows_164 rfl ?_
                        refine W.lcmp F.1 F.2.1 dL_follows_165 ?_
                        refine lv_if_eq (tgt := 207) F.1 F.2.1 dL_follows_166 rfl (fun hc39 => ?_) (fun hc39 => ?_)
                        · have hf := ifp hc39 hf
                          refine lv_iconst (v := (1 : Int32)) F.1 F.2.1 dL_follows_207 (by decide) ?_
                          refine lv_goto (tgt := 212) F.1 F.2.1 dL_follows_208 rfl ?_
                          refine lv_istore F.1 F.2.1 dL_follows_212 hl (Nat.le_of_ble_eq_true rfl) rfl (fun ls hl => ?_)
                          have hl : lv_has ls 21 [(4, .int (1 : Int32)), (7, .long r26.1), (6, .int ((1 : Int32) + (a1 - (a1 / (30 : Int32)) * (30 : Int32)))), (5, .int (a1 - (a1 / r23.toInt32) * r23.toInt32)), (0, .ref (x + 0)), (1, .int a1), (2, .long w2)] := hl
                          refine W.widen (k := 2410 * (12 + 1 - n)) (n := 14460 * (12 + 1 - n)) (by omega) (by omega) ?_
                          exact ih.2.2.1 r36.2 w2 (1 : Int32) (a1 - (a1 / r23.toInt32) * r23.toInt32) ((1 : Int32) + (a1 - (a1 / (30 : Int32)) * (30 : Int32))) r26.1 _ _ _ (lv_sub hl [4, 5, 6, 0, 3, 2, 1] rfl) hP hS hf
                        · have hf := ifn hc39 hf
                          refine lv_aload_n F.1 F.2.1 dL_follows_169 rfl (lv_at hl 4 rfl) ?_
                          refine lv_iload F.1 F.2.1 dL_follows_170 (lv_at hl 1 rfl) ?_
                          refine lv_iconst (v := (0 : Int32)) F.1 F.2.1 dL_follows_172 (by decide) ?_
                          refine lv_lload F.1 F.2.1 dL_follows_173 (lv_at hl 0 rfl) ?_
                          refine lv_l2i (v := r26.1.toInt32) F.1 F.2.1 dL_follows_175 rfl ?_
                          refine lv_iconst (v := (1 : Int32)) F.1 F.2.1 dL_follows_176 (by decide) ?_
                          refine lv_isub F.1 F.2.1 dL_follows_177 ?_
                          obtain ⟨r40, hr41, hf⟩ := bnd hf
                          refine a_H F hK (fun _ hU hW => sl_U hG hS hU hW) (fun _ h => h) hP hS (c_L_days hlt ((1 : Int32) + (a1 - (a1 / (30 : Int32)) * (30 : Int32))) (0 : Int32) (r26.1.toInt32 - (1 : Int32)) hr41) (vx_cwSW 4 F.2.2.2.2 gB_follows_L_days rfl rfl rfl hd_L_days ⟨(Nat.le_of_ble_eq_true rfl), (Nat.le_of_ble_eq_true rfl)⟩) rfl rfl hl.1 (Nat.le_of_ble_eq_true rfl) dL_follows_178 ⟨(by show _ ≤ 31330; omega), (by show _ ≤ 187980; omega)⟩ (rest := []) (fun H locs hP hS _ => ?_)
                          refine W.eq (g2 := F0 m 181 ls [.long r40.1]) rfl ?_
                          refine lv_lconst (v := (0 : Int64)) F.1 F.2.1 dL_follows_181 rfl ?_
                          refine W.lcmp F.1 F.2.1 dL_follows_182 ?_
                          refine lv_if_le (tgt := 211) F.1 F.2.1 dL_follows_183 rfl (fun hc42 => ?_) (fun hc42 => ?_)
                          · have hf := ifp hc42 hf
                            refine lv_iconst (v := (0 : Int32)) F.1 F.2.1 dL_follows_211 (by decide) ?_
                            refine lv_istore F.1 F.2.1 dL_follows_212 hl (Nat.le_of_ble_eq_true rfl) rfl (fun ls hl => ?_)
                            have hl : lv_has ls 21 [(4, .int (0 : Int32)), (7, .long r26.1), (6, .int ((1 : Int32) + (a1 - (a1 / (30 : Int32)) * (30 : Int32)))), (5, .int (a1 - (a1 / r23.toInt32) * r23.toInt32)), (0, .ref (x + 0)), (1, .int a1), (2, .long w2)] := hl
                            refine W.widen (k := 2410 * (12 + 1 - n)) (n := 14460 * (12 + 1 - n)) (by omega) (by omega) ?_
                            exact ih.2.2.1 r40.2 w2 (0 : Int32) (a1 - (a1 / r23.toInt32) * r23.toInt32) ((1 : Int32) + (a1 - (a1 / (30 : Int32)) * (30 : Int32))) r26.1 _ _ _ (lv_sub hl [4, 5, 6, 0, 3, 2, 1] rfl) hP hS hf
                          · have hf := ifn hc42 hf
                            refine lv_aload_n F.1 F.2.1 dL_follows_186 rfl (lv_at hl 4 rfl) ?_
                            refine lv_iload F.1 F.2.1 dL_follows_187 (lv_at hl 2 rfl) ?_
                            refine lv_iconst (v := (5 : Int32)) F.1 F.2.1 dL_follows_189 (by decide) ?_
                            obtain ⟨r43, hr44, hf⟩ := bnd hf
                            refine a_H F hK (fun _ hU hW => sl_U hG hS hU hW) (fun _ h => h) hP hS (c_L_siteOf hlt (a1 - (a1 / r23.toInt32) * r23.toInt32) (5 : Int32) hr44) (vx_cwSW 3 F.2.2.2.2 gB_follows_L_siteOf rfl rfl rfl hd_L_siteOf ⟨(Nat.le_of_ble_eq_true rfl), (Nat.le_of_ble_eq_true rfl)⟩) rfl rfl hl.1 (Nat.le_of_ble_eq_true rfl) dL_follows_190 ⟨(by show _ ≤ 31330; omega), (by show _ ≤ 187980; omega)⟩ (rest := []) (fun H locs hP hS _ => ?_)
                            refine W.eq (g2 := F0 m 193 ls [.long r43]) rfl ?_
                            refine lv_lconst (v := (0 : Int64)) F.1 F.2.1 dL_follows_193 rfl ?_
                            refine W.lcmp F.1 F.2.1 dL_follows_194 ?_
                            refine lv_if_le (tgt := 211) F.1 F.2.1 dL_follows_195 rfl (fun hc45 => ?_) (fun hc45 => ?_)
                            · have hf := ifp hc45 hf
                              refine lv_iconst (v := (0 : Int32)) F.1 F.2.1 dL_follows_211 (by decide) ?_
                              refine lv_istore F.1 F.2.1 dL_follows_212 hl (Nat.le_of_ble_eq_true rfl) rfl (fun ls hl => ?_)
                              have hl : lv_has ls 21 [(4, .int (0 : Int32)), (7, .long r26.1), (6, .int ((1 : Int32) + (a1 - (a1 / (30 : Int32)) * (30 : Int32)))), (5, .int (a1 - (a1 / r23.toInt32) * r23.toInt32)), (0, .ref (x + 0)), (1, .int a1), (2, .long w2)] := hl
                              refine W.widen (k := 2410 * (12 + 1 - n)) (n := 14460 * (12 + 1 - n)) (by omega) (by omega) ?_
                              exact ih.2.2.1 r40.2 w2 (0 : Int32) (a1 - (a1 / r23.toInt32) * r23.toInt32) ((1 : Int32) + (a1 - (a1 / (30 : Int32)) * (30 : Int32))) r26.1 _ _ _ (lv_sub hl [4, 5, 6, 0, 3, 2, 1] rfl) hP hS hf
                            · have hf := ifn hc45 hf
                              refine lv_aload_n F.1 F.2.1 dL_follows_198 rfl (lv_at hl 4 rfl) ?_
                              obtain ⟨r46, hr47, hf⟩ := bnd hf
                              refine a_H F hK (fun _ hU hW => sl_U hG hS hU hW) (fun _ h => h) hP hS (c_L_undo hlt hr47) (vx_cwSW 1 F.2.2.2.2 gB_follows_L_undo rfl rfl rfl hd_L_undo ⟨(Nat.le_of_ble_eq_true rfl), (Nat.le_of_ble_eq_true rfl)⟩) rfl rfl hl.1 (Nat.le_of_ble_eq_true rfl) dL_follows_199 ⟨(by show _ ≤ 31330; omega), (by show _ ≤ 187980; omega)⟩ (rest := []) (fun H locs hP hS _ => ?_)
                              refine W.eq (g2 := F0 m 202 ls [.long r46.1]) rfl ?_
                              refine lv_lconst (v := (0 : Int64)) F.1 F.2.1 dL_follows_202 rfl ?_
                              refine W.lcmp F.1 F.2.1 dL_follows_203 ?_
                              refine lv_if_lt (tgt := 211) F.1 F.2.1 dL_follows_204 rfl (fun hc48 => ?_) (fun hc48 => ?_)
                              · have hf := ifp hc48 hf
                                refine lv_iconst (v := (0 : Int32)) F.1 F.2.1 dL_follows_211 (by decide) ?_
                                refine lv_istore F.1 F.2.1 dL_follows_212 hl (Nat.le_of_ble_eq_true rfl) rfl (fun ls hl => ?_)
                                have hl : lv_has ls 21 [(4, .int (0 : Int32)), (7, .long r26.1), (6, .int ((1 : Int32) + (a1 - (a1 / (30 : Int32)) * (30 : Int32)))), (5, .int (a1 - (a1 / r23.toInt32) * r23.toInt32)), (0, .ref (x + 0)), (1, .int a1), (2, .long w2)] := hl
                                refine W.widen (k := 2410 * (12 + 1 - n)) (n := 14460 * (12 + 1 - n)) (by omega) (by omega) ?_
                                exact ih.2.2.1 r46.2 w2 (0 : Int32) (a1 - (a1 / r23.toInt32) * r23.toInt32) ((1 : Int32) + (a1 - (a1 / (30 : Int32)) * (30 : Int32))) r26.1 _ _ _ (lv_sub hl [4, 5, 6, 0, 3, 2, 1] rfl) hP hS hf
                              · have hf := ifn hc48 hf
                                refine lv_iconst (v := (1 : Int32)) F.1 F.2.1 dL_follows_207 (by decide) ?_
                                refine lv_goto (tgt := 212) F.1 F.2.1 dL_follows_208 rfl ?_
                                refine lv_istore F.1 F.2.1 dL_follows_212 hl (Nat.le_of_ble_eq_true rfl) rfl (fun ls hl => ?_)
                                have hl : lv_has ls 21 [(4, .int (1 : Int32)), (7, .long r26.1), (6, .int ((1 : Int32) + (a1 - (a1 / (30 : Int32)) * (30 : Int32)))), (5, .int (a1 - (a1 / r23.toInt32) * r23.toInt32)), (0, .ref (x + 0)), (1, .int a1), (2, .long w2)] := hl
                                refine W.widen (k := 2410 * (12 + 1 - n)) (n := 14460 * (12 + 1 - n)) (by omega) (by omega) ?_
                                exact ih.2.2.1 r46.2 w2 (1 : Int32) (a1 - (a1 / r23.toInt32) * r23.toInt32) ((1 : Int32) + (a1 - (a1 / (30 : Int32)) * (30 : Int32))) r26.1 _ _ _ (lv_sub hl [4, 5, 6, 0, 3, 2, 1] rfl) hP hS hf
      · intro μ w2 v4  ls H locs hl hP hS hf
        have hf : fb_L_follows_2 a1 (fl_L_follows a1 n) μ 0 0 0 v4 0 0 0 0 w2 0 = some r := hf
        unfold fb_L_follows_2 at hf
        refine lv_iload F.1 F.2.1 dL_follows_638 (lv_at hl 2 rfl) ?_
        refine lv_if_eq (tgt := 686) F.1 F.2.1 dL_follows_640 rfl (fun hc49 => ?_) (fun hc49 => ?_)
        · have hf := ifp hc49 hf
          refine lv_iconst (v := (0 : Int32)) F.1 F.2.1 dL_follows_686 (by decide) ?_
          obtain rfl := Option.some.inj hf
          exact s_zret F hr hlk hP hS rfl (b01_v (v := (0 : Int32)) (Or.inl rfl)) (by show _ ≤ 31330; omega) (by show _ ≤ 187980; omega) dL_follows_687
        · have hf := ifn hc49 hf
          refine lv_aload_n F.1 F.2.1 dL_follows_643 rfl (lv_at hl 0 rfl) ?_
          obtain ⟨r50, hr51, hf⟩ := bnd hf
          refine a_S F hK (fun _ hU hW => sl_U hG hS hU hW) (fun _ h => h) hP hS (c_L_now hlt hr51) (va_cwS 1 F.2.2.2.2 gB_follows_L_now rfl rfl rfl hd_L_now ⟨(Nat.le_of_ble_eq_true rfl), (Nat.le_of_ble_eq_true rfl)⟩) rfl rfl hl.1 (Nat.le_of_ble_eq_true rfl) dL_follows_644 ⟨(by show _ ≤ 31330; omega), (by show _ ≤ 187980; omega)⟩ (rest := []) (fun H locs hP hS _ => ?_)
          refine W.eq (g2 := F0 m 647 ls [.long r50]) rfl ?_
          refine lv_lload_n F.1 F.2.1 dL_follows_647 rfl (lv_at hl 1 rfl) ?_
          refine W.lcmp F.1 F.2.1 dL_follows_648 ?_
          refine lv_if_ne (tgt := 686) F.1 F.2.1 dL_follows_649 rfl (fun hc52 => ?_) (fun hc52 => ?_)
          · have hf := ifn hc52 hf
            refine lv_iconst (v := (0 : Int32)) F.1 F.2.1 dL_follows_686 (by decide) ?_
            obtain rfl := Option.some.inj hf
            exact s_zret F hr hlk hP hS rfl (b01_v (v := (0 : Int32)) (Or.inl rfl)) (by show _ ≤ 31330; omega) (by show _ ≤ 187980; omega) dL_follows_687
          · have hf := ifp hc52 hf
            refine lv_aload_n F.1 F.2.1 dL_follows_652 rfl (lv_at hl 0 rfl) ?_
            refine lv_iconst (v := (1 : Int32)) F.1 F.2.1 dL_follows_653 (by decide) ?_
            obtain ⟨r53, hr54, hf⟩ := bnd hf
            refine a_H F hK (fun _ hU hW => sl_U hG hS hU hW) (fun _ h => h) hP hS (c_L_restore hlt (1 : Int32) hr54) (vx_cwSW 2 F.2.2.2.2 gB_follows_L_restore rfl rfl rfl hd_L_restore ⟨(Nat.le_of_ble_eq_true rfl), (Nat.le_of_ble_eq_true rfl)⟩) rfl rfl hl.1 (Nat.le_of_ble_eq_true rfl) dL_follows_654 ⟨(by show _ ≤ 31330; omega), (by show _ ≤ 187980; omega)⟩ (rest := []) (fun H locs hP hS _ => ?_)
            refine W.eq (g2 := F0 m 657 ls [.long r53.1]) rfl ?_
            refine lv_lconst (v := (0 : Int64)) F.1 F.2.1 dL_follows_657 rfl ?_
            refine W.lcmp F.1 F.2.1 dL_follows_658 ?_
            refine lv_if_lt (tgt := 686) F.1 F.2.1 dL_follows_659 rfl (fun hc55 => ?_) (fun hc55 => ?_)
            · have hf := ifp hc55 hf
              refine lv_iconst (v := (0 : Int32)) F.1 F.2.1 dL_follows_686 (by decide) ?_
              obtain rfl := Option.some.inj hf
              exact s_zret F hr hlk hP hS rfl (b01_v (v := (0 : Int32)) (Or.inl rfl)) (by show _ ≤ 31330; omega) (by show _ ≤ 187980; omega) dL_follows_687
            · have hf := ifn hc55 hf
              refine lv_aload_n F.1 F.2.1 dL_follows_662 rfl (lv_at hl 0 rfl) ?_
              obtain ⟨r56, hr57, hf⟩ := bnd hf
              refine a_S F hK (fun _ hU hW => sl_U hG hS hU hW) (fun _ h => h) hP hS (c_L_now hlt hr57) (va_cwS 1 F.2.2.2.2 gB_follows_L_now rfl rfl rfl hd_L_now ⟨(Nat.le_of_ble_eq_true rfl), (Nat.le_of_ble_eq_true rfl)⟩) rfl rfl hl.1 (Nat.le_of_ble_eq_true rfl) dL_follows_663 ⟨(by show _ ≤ 31330; omega), (by show _ ≤ 187980; omega)⟩ (rest := []) (fun H locs hP hS _ => ?_)
              refine W.eq (g2 := F0 m 666 ls [.long r56]) rfl ?_
              refine lv_lload_n F.1 F.2.1 dL_follows_666 rfl (lv_at hl 1 rfl) ?_
              refine W.lcmp F.1 F.2.1 dL_follows_667 ?_
              refine lv_if_ne (tgt := 686) F.1 F.2.1 dL_follows_668 rfl (fun hc58 => ?_) (fun hc58 => ?_)
              · have hf := ifn hc58 hf
                refine lv_iconst (v := (0 : Int32)) F.1 F.2.1 dL_follows_686 (by decide) ?_
                obtain rfl := Option.some.inj hf
                exact s_zret F hr hlk hP hS rfl (b01_v (v := (0 : Int32)) (Or.inl rfl)) (by show _ ≤ 31330; omega) (by show _ ≤ 187980; omega) dL_follows_687
              · have hf := ifp hc58 hf
                refine lv_aload_n F.1 F.2.1 dL_follows_671 rfl (lv_at hl 0 rfl) ?_
                obtain ⟨r59, hr60, hf⟩ := bnd hf
                refine a_H F hK (fun _ hU hW => sl_U hG hS hU hW) (fun _ h => h) hP hS (c_L_undo hlt hr60) (vx_cwSW 1 F.2.2.2.2 gB_follows_L_undo rfl rfl rfl hd_L_undo ⟨(Nat.le_of_ble_eq_true rfl), (Nat.le_of_ble_eq_true rfl)⟩) rfl rfl hl.1 (Nat.le_of_ble_eq_true rfl) dL_follows_672 ⟨(by show _ ≤ 31330; omega), (by show _ ≤ 187980; omega)⟩ (rest := []) (fun H locs hP hS _ => ?_)
                refine W.eq (g2 := F0 m 675 ls [.long r59.1]) rfl ?_
                refine lv_ldc2 (v := (-9000000000000000003 : Int64)) F.1 F.2.1 F.2.2.2.1 (F.2.2.2.2 _ (List.mem_of_getElem? (i := 418) rfl)) dL_follows_675 ?_
                refine W.lcmp F.1 F.2.1 dL_follows_678 ?_
                refine lv_if_ne (tgt := 686) F.1 F.2.1 dL_follows_679 rfl (fun hc61 => ?_) (fun hc61 => ?_)
                · have hf := ifn hc61 hf
                  refine lv_iconst (v := (0 : Int32)) F.1 F.2.1 dL_follows_686 (by decide) ?_
                  obtain rfl := Option.some.inj hf
                  exact s_zret F hr hlk hP hS rfl (b01_v (v := (0 : Int32)) (Or.inl rfl)) (by show _ ≤ 31330; omega) (by show _ ≤ 187980; omega) dL_follows_687
                · have hf := ifp hc61 hf
                  refine lv_iconst (v := (1 : Int32)) F.1 F.2.1 dL_follows_682 (by decide) ?_
                  refine lv_goto (tgt := 687) F.1 F.2.1 dL_follows_683 rfl ?_
                  obtain rfl := Option.some.inj hf
                  exact s_zret F hr hlk hP hS rfl (b01_v (v := (1 : Int32)) (Or.inr rfl)) (by show _ ≤ 31330; omega) (by show _ ≤ 187980; omega) dL_follows_687
      · intro μ w2 v4 v5 v6 w7  ls H locs hl hP hS hf
        have hf : fb_L_follows_3 a1 (fl_L_follows a1 n) μ 0 0 0 v4 v5 v6 0 0 w2 w7 = some r := hf
        unfold fb_L_follows_3 at hf
        refine lv_iload_n F.1 F.2.1 dL_follows_214 rfl (lv_at hl 1 rfl) ?_
        refine lv_bipush (v := (7 : Int32)) F.1 F.2.1 dL_follows_215 (by decide) ?_
        refine lv_idiv F.1 F.2.1 dL_follows_217 (by decide) ?_
        refine lv_bipush (v := (30 : Int32)) F.1 F.2.1 dL_follows_218 (by decide) ?_
        refine lv_irem F.1 F.2.1 dL_follows_220 (by decide) ?_
        refine lv_istore F.1 F.2.1 dL_follows_221 hl (Nat.le_of_ble_eq_true rfl) rfl (fun ls hl => ?_)
        have hl : lv_has ls 21 [(9, .int ((a1 / (7 : Int32)) - ((a1 / (7 : Int32)) / (30 : Int32)) * (30 : Int32))), (0, .ref (x + 0)), (1, .int a1), (2, .long w2), (4, .int v4), (5, .int v5), (6, .int v6), (7, .long w7)] := hl
        refine lv_aload_n F.1 F.2.1 dL_follows_223 rfl (lv_at hl 1 rfl) ?_
        refine lv_iload F.1 F.2.1 dL_follows_224 (lv_at hl 5 rfl) ?_
        refine lv_iload F.1 F.2.1 dL_follows_226 (lv_at hl 0 rfl) ?_
        refine lv_iload F.1 F.2.1 dL_follows_228 (lv_at hl 6 rfl) ?_
        refine lv_ineg F.1 F.2.1 dL_follows_230 ?_
        obtain ⟨r62, hr63, hf⟩ := bnd hf
        refine a_H F hK (fun _ hU hW => sl_U hG hS hU hW) (fun _ h => h) hP hS (c_L_reachedIn hlt v5 ((a1 / (7 : Int32)) - ((a1 / (7 : Int32)) / (30 : Int32)) * (30 : Int32)) (-v6) hr63) (vx_cwSW 4 F.2.2.2.2 gB_follows_L_reachedIn rfl rfl rfl hd_L_reachedIn ⟨(Nat.le_of_ble_eq_true rfl), (Nat.le_of_ble_eq_true rfl)⟩) rfl rfl hl.1 (Nat.le_of_ble_eq_true rfl) dL_follows_231 ⟨(by show _ ≤ 31330; omega), (by show _ ≤ 187980; omega)⟩ (rest := []) (fun H locs hP hS _ => ?_)
        refine W.eq (g2 := F0 m 234 ls [.long r62.1]) rfl ?_
        refine lv_lstore F.1 F.2.1 dL_follows_234 hl (Nat.le_of_ble_eq_true rfl) rfl (fun ls hl => ?_)
        have hl : lv_has ls 21 [(10, .long r62.1), (9, .int ((a1 / (7 : Int32)) - ((a1 / (7 : Int32)) / (30 : Int32)) * (30 : Int32))), (0, .ref (x + 0)), (1, .int a1), (2, .long w2), (4, .int v4), (5, .int v5), (6, .int v6), (7, .long w7)] := hl
        refine lv_lload F.1 F.2.1 dL_follows_236 (lv_at hl 0 rfl) ?_
        refine lv_lconst (v := (0 : Int64)) F.1 F.2.1 dL_follows_238 rfl ?_
        refine W.lcmp F.1 F.2.1 dL_follows_239 ?_
        refine lv_if_le (tgt := 306) F.1 F.2.1 dL_follows_240 rfl (fun hc64 => ?_) (fun hc64 => ?_)
        · have hf := ifp hc64 hf
          refine W.widen (k := 2410 * (12 + 1 - n)) (n := 14460 * (12 + 1 - n)) (by omega) (by omega) ?_
          exact ih.2.2.2.1 r62.2 w2 v4 v5 v6 w7 ((a1 / (7 : Int32)) - ((a1 / (7 : Int32)) / (30 : Int32)) * (30 : Int32)) r62.1 _ _ _ (lv_sub hl [2, 3, 4, 5, 6, 7, 8, 1, 0] rfl) hP hS hf
        · have hf := ifn hc64 hf
          refine lv_lload F.1 F.2.1 dL_follows_243 (lv_at hl 0 rfl) ?_
          refine lv_ldc2 (v := (60 : Int64)) F.1 F.2.1 F.2.2.2.1 (F.2.2.2.2 _ (List.mem_of_getElem? (i := 651) rfl)) dL_follows_245 ?_
          refine W.lcmp F.1 F.2.1 dL_follows_248 ?_
          refine lv_if_gt (tgt := 306) F.1 F.2.1 dL_follows_249 rfl (fun hc65 => ?_) (fun hc65 => ?_)
          · have hf := ifp hc65 hf
            refine W.widen (k := 2410 * (12 + 1 - n)) (n := 14460 * (12 + 1 - n)) (by omega) (by omega) ?_
            exact ih.2.2.2.1 r62.2 w2 v4 v5 v6 w7 ((a1 / (7 : Int32)) - ((a1 / (7 : Int32)) / (30 : Int32)) * (30 : Int32)) r62.1 _ _ _ (lv_sub hl [2, 3, 4, 5, 6, 7, 8, 1, 0] rfl) hP hS hf
          · have hf := ifn hc65 hf
            refine lv_iload F.1 F.2.1 dL_follows_252 (lv_at hl 5 rfl) ?_
            refine lv_if_eq (tgt := 306) F.1 F.2.1 dL_follows_254 rfl (fun hc66 => ?_) (fun hc66 => ?_)
            · have hf := ifp hc66 hf
              refine W.widen (k := 2410 * (12 + 1 - n)) (n := 14460 * (12 + 1 - n)) (by omega) (by omega) ?_
              exact ih.2.2.2.1 r62.2 w2 v4 v5 v6 w7 ((a1 / (7 : Int32)) - ((a1 / (7 : Int32)) / (30 : Int32)) * (30 : Int32)) r62.1 _ _ _ (lv_sub hl [2, 3, 4, 5, 6, 7, 8, 1, 0] rfl) hP hS hf
            · have hf := ifn hc66 hf
              refine lv_aload_n F.1 F.2.1 dL_follows_257 rfl (lv_at hl 2 rfl) ?_
              refine lv_iload F.1 F.2.1 dL_follows_258 (lv_at hl 7 rfl) ?_
              refine lv_ineg F.1 F.2.1 dL_follows_260 ?_
              refine lv_iconst (v := (0 : Int32)) F.1 F.2.1 dL_follows_261 (by decide) ?_
              refine lv_lload F.1 F.2.1 dL_follows_262 (lv_at hl 0 rfl) ?_
              refine lv_l2i (v := r62.1.toInt32) F.1 F.2.1 dL_follows_264 rfl ?_
              obtain ⟨r67, hr68, hf⟩ := bnd hf
              refine a_H F hK (fun _ hU hW => sl_U hG hS hU hW) (fun _ h => h) hP hS (c_L_days hlt (-v6) (0 : Int32) r62.1.toInt32 hr68) (vx_cwSW 4 F.2.2.2.2 gB_follows_L_days rfl rfl rfl hd_L_days ⟨(Nat.le_of_ble_eq_true rfl), (Nat.le_of_ble_eq_true rfl)⟩) rfl rfl hl.1 (Nat.le_of_ble_eq_true rfl) dL_follows_265 ⟨(by show _ ≤ 31330; omega), (by show _ ≤ 187980; omega)⟩ (rest := []) (fun H locs hP hS _ => ?_)
              refine W.eq (g2 := F0 m 268 ls [.long r67.1]) rfl ?_
              refine lv_lconst (v := (0 : Int64)) F.1 F.2.1 dL_follows_268 rfl ?_
              refine W.lcmp F.1 F.2.1 dL_follows_269 ?_
              refine lv_if_le (tgt := 303) F.1 F.2.1 dL_follows_270 rfl (fun hc69 => ?_) (fun hc69 => ?_)
              · have hf := ifp hc69 hf
                refine lv_iconst (v := (0 : Int32)) F.1 F.2.1 dL_follows_303 (by decide) ?_
                refine lv_istore F.1 F.2.1 dL_follows_304 hl (Nat.le_of_ble_eq_true rfl) rfl (fun ls hl => ?_)
                have hl : lv_has ls 21 [(4, .int (0 : Int32)), (10, .long r62.1), (9, .int ((a1 / (7 : Int32)) - ((a1 / (7 : Int32)) / (30 : Int32)) * (30 : Int32))), (0, .ref (x + 0)), (1, .int a1), (2, .long w2), (5, .int v5), (6, .int v6), (7, .long w7)] := hl
                refine W.widen (k := 2410 * (12 + 1 - n)) (n := 14460 * (12 + 1 - n)) (by omega) (by omega) ?_
                exact ih.2.2.2.1 r67.2 w2 (0 : Int32) v5 v6 w7 ((a1 / (7 : Int32)) - ((a1 / (7 : Int32)) / (30 : Int32)) * (30 : Int32)) r62.1 _ _ _ (lv_sub hl [3, 4, 5, 0, 6, 7, 8, 2, 1] rfl) hP hS hf
              · have hf := ifn hc69 hf
                refine lv_aload_n F.1 F.2.1 dL_follows_273 rfl (lv_at hl 2 rfl) ?_
                refine lv_iload F.1 F.2.1 dL_follows_274 (lv_at hl 6 rfl) ?_
                refine lv_iload F.1 F.2.1 dL_follows_276 (lv_at hl 1 rfl) ?_
                obtain ⟨r70, hr71, hf⟩ := bnd hf
                refine a_H F hK (fun _ hU hW => sl_U hG hS hU hW) (fun _ h => h) hP hS (c_L_since hlt v5 ((a1 / (7 : Int32)) - ((a1 / (7 : Int32)) / (30 : Int32)) * (30 : Int32)) hr71) (vx_cwSW 3 F.2.2.2.2 gB_follows_L_since rfl rfl rfl hd_L_since ⟨(Nat.le_of_ble_eq_true rfl), (Nat.le_of_ble_eq_true rfl)⟩) rfl rfl hl.1 (Nat.le_of_ble_eq_true rfl) dL_follows_278 ⟨(by show _ ≤ 31330; omega), (by show _ ≤ 187980; omega)⟩ (rest := []) (fun H locs hP hS _ => ?_)
                refine W.eq (g2 := F0 m 281 ls [.long r70]) rfl ?_
                refine lv_aload_n F.1 F.2.1 dL_follows_281 rfl (lv_at hl 2 rfl) ?_
                refine lv_iconst (v := (3 : Int32)) F.1 F.2.1 dL_follows_282 (by decide) ?_
                obtain ⟨r72, hr73, hf⟩ := bnd hf
                refine a_H F hK (fun _ hU hW => sl_U hG hS hU hW) (fun _ h => h) hP hS (c_L_about hlt (3 : Int32) hr73) (vx_cwSW 2 F.2.2.2.2 gB_follows_L_about rfl rfl rfl hd_L_about ⟨(Nat.le_of_ble_eq_true rfl), (Nat.le_of_ble_eq_true rfl)⟩) rfl rfl hl.1 (Nat.le_of_ble_eq_true rfl) dL_follows_283 ⟨(by show _ ≤ 31330; omega), (by show _ ≤ 187980; omega)⟩ (rest := [.long r70]) (fun H locs hP hS _ => ?_)
                refine W.eq (g2 := F0 m 286 ls [.long r72, .long r70]) rfl ?_
                refine W.lcmp F.1 F.2.1 dL_follows_286 ?_
                refine lv_if_ne (tgt := 303) F.1 F.2.1 dL_follows_287 rfl (fun hc74 => ?_) (fun hc74 => ?_)
                · have hf := ifn hc74 hf
                  refine lv_iconst (v := (0 : Int32)) F.1 F.2.1 dL_follows_303 (by decide) ?_
                  refine lv_istore F.1 F.2.1 dL_follows_304 hl (Nat.le_of_ble_eq_true rfl) rfl (fun ls hl => ?_)
                  have hl : lv_has ls 21 [(4, .int (0 : Int32)), (10, .long r62.1), (9, .int ((a1 / (7 : Int32)) - ((a1 / (7 : Int32)) / (30 : Int32)) * (30 : Int32))), (0, .ref (x + 0)), (1, .int a1), (2, .long w2), (5, .int v5), (6, .int v6), (7, .long w7)] := hl
                  refine W.widen (k := 2410 * (12 + 1 - n)) (n := 14460 * (12 + 1 - n)) (by omega) (by omega) ?_
                  exact ih.2.2.2.1 r67.2 w2 (0 : Int32) v5 v6 w7 ((a1 / (7 : Int32)) - ((a1 / (7 : Int32)) / (30 : Int32)) * (30 : Int32)) r62.1 _ _ _ (lv_sub hl [3, 4, 5, 0, 6, 7, 8, 2, 1] rfl) hP hS hf
                · have hf := ifp hc74 hf
                  refine lv_aload_n F.1 F.2.1 dL_follows_290 rfl (lv_at hl 2 rfl) ?_
                  obtain ⟨r75, hr76, hf⟩ := bnd hf
                  refine a_H F hK (fun _ hU hW => sl_U hG hS hU hW) (fun _ h => h) hP hS (c_L_undo hlt hr76) (vx_cwSW 1 F.2.2.2.2 gB_follows_L_undo rfl rfl rfl hd_L_undo ⟨(Nat.le_of_ble_eq_true rfl), (Nat.le_of_ble_eq_true rfl)⟩) rfl rfl hl.1 (Nat.le_of_ble_eq_true rfl) dL_follows_291 ⟨(by show _ ≤ 31330; omega), (by show _ ≤ 187980; omega)⟩ (rest := []) (fun H locs hP hS _ => ?_)
                  refine W.eq (g2 := F0 m 294 ls [.long r75.1]) rfl ?_
                  refine lv_lconst (v := (0 : Int64)) F.1 F.2.1 dL_follows_294 rfl ?_
                  refine W.lcmp F.1 F.2.1 dL_follows_295 ?_
                  refine lv_if_lt (tgt := 303) F.1 F.2.1 dL_follows_296 rfl (fun hc77 => ?_) (fun hc77 => ?_)
                  · have hf := ifp hc77 hf
                    refine lv_iconst (v := (0 : Int32)) F.1 F.2.1 dL_follows_303 (by decide) ?_
                    refine lv_istore F.1 F.2.1 dL_follows_304 hl (Nat.le_of_ble_eq_true rfl) rfl (fun ls hl => ?_)
                    have hl : lv_has ls 21 [(4, .int (0 : Int32)), (10, .long r62.1), (9, .int ((a1 / (7 : Int32)) - ((a1 / (7 : Int32)) / (30 : Int32)) * (30 : Int32))), (0, .ref (x + 0)), (1, .int a1), (2, .long w2), (5, .int v5), (6, .int v6), (7, .long w7)] := hl
                    refine W.widen (k := 2410 * (12 + 1 - n)) (n := 14460 * (12 + 1 - n)) (by omega) (by omega) ?_
                    exact ih.2.2.2.1 r75.2 w2 (0 : Int32) v5 v6 w7 ((a1 / (7 : Int32)) - ((a1 / (7 : Int32)) / (30 : Int32)) * (30 : Int32)) r62.1 _ _ _ (lv_sub hl [3, 4, 5, 0, 6, 7, 8, 2, 1] rfl) hP hS hf
                  · have hf := ifn hc77 hf
                    refine lv_iconst (v := (1 : Int32)) F.1 F.2.1 dL_follows_299 (by decide) ?_
                    refine lv_goto (tgt := 304) F.1 F.2.1 dL_follows_300 rfl ?_
                    refine lv_istore F.1 F.2.1 dL_follows_304 hl (Nat.le_of_ble_eq_true rfl) rfl (fun ls hl => ?_)
                    have hl : lv_has ls 21 [(4, .int (1 : Int32)), (10, .long r62.1), (9, .int ((a1 / (7 : Int32)) - ((a1 / (7 : Int32)) / (30 : Int32)) * (30 : Int32))), (0, .ref (x + 0)), (1, .int a1), (2, .long w2), (5, .int v5), (6, .int v6), (7, .long w7)] := hl
                    refine W.widen (k := 2410 * (12 + 1 - n)) (n := 14460 * (12 + 1 - n)) (by omega) (by omega) ?_
                    exact ih.2.2.2.1 r75.2 w2 (1 : Int32) v5 v6 w7 ((a1 / (7 : Int32)) - ((a1 / (7 : Int32)) / (30 : Int32)) * (30 : Int32)) r62.1 _ _ _ (lv_sub hl [3, 4, 5, 0, 6, 7, 8, 2, 1] rfl) hP hS hf
      · intro μ w2 v4 v5 v6 w7 v9 w10  ls H locs hl hP hS hf
        have hf : fb_L_follows_4 a1 (fl_L_follows a1 n) μ 0 0 0 v4 v5 v6 v9 w10 w2 w7 = some r := hf
        unfold fb_L_follows_4 at hf
        refine lv_iload F.1 F.2.1 dL_follows_306 (lv_at hl 3 rfl) ?_
        refine lv_if_eq (tgt := 354) F.1 F.2.1 dL_follows_308 rfl (fun hc78 => ?_) (fun hc78 => ?_)
        · have hf := ifp hc78 hf
          refine lv_iconst (v := (0 : Int32)) F.1 F.2.1 dL_follows_354 (by decide) ?_
          refine W.widen (k := 2410 * (12 + 1 - n)) (n := 14460 * (12 + 1 - n)) (by omega) (by omega) ?_
          exact ih.2.2.2.2.1 μ w2 v5 v6 (0 : Int32) _ _ _ (lv_sub hl [0, 1, 2, 4, 5] rfl) hP hS hf
        · have hf := ifn hc78 hf
          refine lv_lload F.1 F.2.1 dL_follows_311 (lv_at hl 8 rfl) ?_
          refine lv_lconst (v := (0 : Int64)) F.1 F.2.1 dL_follows_313 rfl ?_
          refine W.lcmp F.1 F.2.1 dL_follows_314 ?_
          refine lv_if_ne (tgt := 331) F.1 F.2.1 dL_follows_315 rfl (fun hc79 => ?_) (fun hc79 => ?_)
          · have hf := ifn hc79 hf
            refine W.widen (k := 2410 * (12 + 1 - n)) (n := 14460 * (12 + 1 - n)) (by omega) (by omega) ?_
            exact ih.2.2.2.2.2.1 μ w2 v5 v6 w7 _ _ _ (lv_sub hl [0, 1, 2, 4, 5, 6] rfl) hP hS hf
          · have hf := ifp hc79 hf
            refine lv_aload_n F.1 F.2.1 dL_follows_318 rfl (lv_at hl 0 rfl) ?_
            refine lv_iload F.1 F.2.1 dL_follows_319 (lv_at hl 4 rfl) ?_
            refine lv_iload F.1 F.2.1 dL_follows_321 (lv_at hl 7 rfl) ?_
            obtain ⟨r80, hr81, hf⟩ := bnd hf
            refine a_H F hK (fun _ hU hW => sl_U hG hS hU hW) (fun _ h => h) hP hS (c_L_since hlt v5 v9 hr81) (vx_cwSW 3 F.2.2.2.2 gB_follows_L_since rfl rfl rfl hd_L_since ⟨(Nat.le_of_ble_eq_true rfl), (Nat.le_of_ble_eq_true rfl)⟩) rfl rfl hl.1 (Nat.le_of_ble_eq_true rfl) dL_follows_323 ⟨(by show _ ≤ 31330; omega), (by show _ ≤ 187980; omega)⟩ (rest := []) (fun H locs hP hS _ => ?_)
            refine W.eq (g2 := F0 m 326 ls [.long r80]) rfl ?_
            refine lv_lconst (v := (0 : Int64)) F.1 F.2.1 dL_follows_326 rfl ?_
            refine W.lcmp F.1 F.2.1 dL_follows_327 ?_
            refine lv_if_le (tgt := 354) F.1 F.2.1 dL_follows_328 rfl (fun hc82 => ?_) (fun hc82 => ?_)
            · have hf := ifp hc82 hf
              refine lv_iconst (v := (0 : Int32)) F.1 F.2.1 dL_follows_354 (by decide) ?_
              refine W.widen (k := 2410 * (12 + 1 - n)) (n := 14460 * (12 + 1 - n)) (by omega) (by omega) ?_
              exact ih.2.2.2.2.1 μ w2 v5 v6 (0 : Int32) _ _ _ (lv_sub hl [0, 1, 2, 4, 5] rfl) hP hS hf
            · have hf := ifn hc82 hf
              refine W.widen (k := 2410 * (12 + 1 - n)) (n := 14460 * (12 + 1 - n)) (by omega) (by omega) ?_
              exact ih.2.2.2.2.2.1 μ w2 v5 v6 w7 _ _ _ (lv_sub hl [0, 1, 2, 4, 5, 6] rfl) hP hS hf
      · intro μ w2 v5 v6 t0  ls H locs hl hP hS hf
        have hf : fb_L_follows_5 a1 (fl_L_follows a1 n) μ t0 0 0 0 v5 v6 0 0 w2 0 = some r := hf
        unfold fb_L_follows_5 at hf
        refine lv_istore F.1 F.2.1 dL_follows_355 hl (Nat.le_of_ble_eq_true rfl) rfl (fun ls hl => ?_)
        have hl : lv_has ls 21 [(4, .int t0), (0, .ref (x + 0)), (1, .int a1), (2, .long w2), (5, .int v5), (6, .int v6)] := hl
        refine lv_iconst (v := (1 : Int32)) F.1 F.2.1 dL_follows_357 (by decide) ?_
        refine lv_iload_n F.1 F.2.1 dL_follows_358 rfl (lv_at hl 2 rfl) ?_
        refine lv_bipush (v := (9 : Int32)) F.1 F.2.1 dL_follows_359 (by decide) ?_
        refine lv_irem F.1 F.2.1 dL_follows_361 (by decide) ?_
        refine lv_iadd F.1 F.2.1 dL_follows_362 ?_
        refine lv_istore F.1 F.2.1 dL_follows_363 hl (Nat.le_of_ble_eq_true rfl) rfl (fun ls hl => ?_)
        have hl : lv_has ls 21 [(12, .int ((1 : Int32) + (a1 - (a1 / (9 : Int32)) * (9 : Int32)))), (4, .int t0), (0, .ref (x + 0)), (1, .int a1), (2, .long w2), (5, .int v5), (6, .int v6)] := hl
        refine lv_aload_n F.1 F.2.1 dL_follows_365 rfl (lv_at hl 2 rfl) ?_
        refine lv_iload F.1 F.2.1 dL_follows_366 (lv_at hl 5 rfl) ?_
        refine lv_iload F.1 F.2.1 dL_follows_368 (lv_at hl 6 rfl) ?_
        refine lv_ineg F.1 F.2.1 dL_follows_370 ?_
        refine lv_iconst (v := (3 : Int32)) F.1 F.2.1 dL_follows_371 (by decide) ?_
        refine lv_iload F.1 F.2.1 dL_follows_372 (lv_at hl 0 rfl) ?_
        obtain ⟨r83, hr84, hf⟩ := bnd hf
        refine a_H F hK (fun _ hU hW => sl_U hG hS hU hW) (fun _ h => h) hP hS (c_L_bestFence hlt v5 (-v6) (3 : Int32) ((1 : Int32) + (a1 - (a1 / (9 : Int32)) * (9 : Int32))) hr84) (vx_cwSW 5 F.2.2.2.2 gB_follows_L_bestFence rfl rfl rfl hd_L_bestFence ⟨(Nat.le_of_ble_eq_true rfl), (Nat.le_of_ble_eq_true rfl)⟩) rfl rfl hl.1 (Nat.le_of_ble_eq_true rfl) dL_follows_374 ⟨(by show _ ≤ 31330; omega), (by show _ ≤ 187980; omega)⟩ (rest := []) (fun H locs hP hS _ => ?_)
        refine W.eq (g2 := F0 m 377 ls [.long r83.1]) rfl ?_
        refine lv_l2i (v := r83.1.toInt32) F.1 F.2.1 dL_follows_377 rfl ?_
        refine lv_istore F.1 F.2.1 dL_follows_378 hl (Nat.le_of_ble_eq_true rfl) rfl (fun ls hl => ?_)
        have hl : lv_has ls 21 [(13, .int r83.1.toInt32), (12, .int ((1 : Int32) + (a1 - (a1 / (9 : Int32)) * (9 : Int32)))), (4, .int t0), (0, .ref (x + 0)), (1, .int a1), (2, .long w2), (5, .int v5), (6, .int v6)] := hl
        refine lv_aload_n F.1 F.2.1 dL_follows_380 rfl (lv_at hl 3 rfl) ?_
        refine lv_iload F.1 F.2.1 dL_follows_381 (lv_at hl 6 rfl) ?_
        refine lv_iload F.1 F.2.1 dL_follows_383 (lv_at hl 0 rfl) ?_
        obtain ⟨r85, hr86, hf⟩ := bnd hf
        refine a_H F hK (fun _ hU hW => sl_U hG hS hU hW) (fun _ h => h) hP hS (c_L_fence hlt v5 r83.1.toInt32 hr86) (vx_cwSW 3 F.2.2.2.2 gB_follows_L_fence rfl rfl rfl hd_L_fence ⟨(Nat.le_of_ble_eq_true rfl), (Nat.le_of_ble_eq_true rfl)⟩) rfl rfl hl.1 (Nat.le_of_ble_eq_true rfl) dL_follows_385 ⟨(by show _ ≤ 31330; omega), (by show _ ≤ 187980; omega)⟩ (rest := []) (fun H locs hP hS _ => ?_)
        refine W.eq (g2 := F0 m 388 ls [.long r85.1]) rfl ?_
        refine lv_lstore F.1 F.2.1 dL_follows_388 hl (Nat.le_of_ble_eq_true rfl) rfl (fun ls hl => ?_)
        have hl : lv_has ls 21 [(14, .long r85.1), (13, .int r83.1.toInt32), (12, .int ((1 : Int32) + (a1 - (a1 / (9 : Int32)) * (9 : Int32)))), (4, .int t0), (0, .ref (x + 0)), (1, .int a1), (2, .long w2), (5, .int v5), (6, .int v6)] := hl
        refine lv_iload F.1 F.2.1 dL_follows_390 (lv_at hl 3 rfl) ?_
        refine lv_if_eq (tgt := 427) F.1 F.2.1 dL_follows_392 rfl (fun hc87 => ?_) (fun hc87 => ?_)
        · have hf := ifp hc87 hf
          refine lv_iconst (v := (0 : Int32)) F.1 F.2.1 dL_follows_427 (by decide) ?_
          refine W.widen (k := 2410 * (12 + 1 - n)) (n := 14460 * (12 + 1 - n)) (by omega) (by omega) ?_
          exact ih.2.2.2.2.2.2.1 r85.2 w2 v5 v6 ((1 : Int32) + (a1 - (a1 / (9 : Int32)) * (9 : Int32))) r83.1.toInt32 (0 : Int32) _ _ _ (lv_sub hl [4, 5, 6, 7, 8, 2, 1] rfl) hP hS hf
        · have hf := ifn hc87 hf
          refine lv_iload F.1 F.2.1 dL_follows_395 (lv_at hl 1 rfl) ?_
          refine lv_i2l (v := r83.1.toInt32.toInt64) F.1 F.2.1 dL_follows_397 rfl ?_
          refine lv_lconst (v := (0 : Int64)) F.1 F.2.1 dL_follows_398 rfl ?_
          refine lv_ldc2 (v := (20 : Int64)) F.1 F.2.1 F.2.2.2.1 (F.2.2.2.2 _ (List.mem_of_getElem? (i := 652) rfl)) dL_follows_399 ?_
          obtain ⟨r88, hr89, hf⟩ := bnd hf
          refine a_S F hK (fun _ hU hW => sl_U hG hS hU hW) (fun _ h => h) hP hS (c_L_in hlt r83.1.toInt32.toInt64 (0 : Int64) (20 : Int64) hr89) (va_cwS 3 F.2.2.2.2 gB_follows_L_in rfl rfl rfl hd_L_in ⟨(Nat.le_of_ble_eq_true rfl), (Nat.le_of_ble_eq_true rfl)⟩) rfl rfl hl.1 (Nat.le_of_ble_eq_true rfl) dL_follows_402 ⟨(by show _ ≤ 31330; omega), (by show _ ≤ 187980; omega)⟩ (rest := []) (fun H locs hP hS _ => ?_)
          refine W.eq (g2 := F0 m 405 ls [.int r88]) rfl ?_
          refine lv_if_eq (tgt := 427) F.1 F.2.1 dL_follows_405 rfl (fun hc90 => ?_) (fun hc90 => ?_)
          · have hf := ifp hc90 hf
            refine lv_iconst (v := (0 : Int32)) F.1 F.2.1 dL_follows_427 (by decide) ?_
            refine W.widen (k := 2410 * (12 + 1 - n)) (n := 14460 * (12 + 1 - n)) (by omega) (by omega) ?_
            exact ih.2.2.2.2.2.2.1 r85.2 w2 v5 v6 ((1 : Int32) + (a1 - (a1 / (9 : Int32)) * (9 : Int32))) r83.1.toInt32 (0 : Int32) _ _ _ (lv_sub hl [4, 5, 6, 7, 8, 2, 1] rfl) hP hS hf
          · have hf := ifn hc90 hf
            refine lv_aload_n F.1 F.2.1 dL_follows_408 rfl (lv_at hl 4 rfl) ?_
            refine lv_iload F.1 F.2.1 dL_follows_409 (lv_at hl 8 rfl) ?_
            refine lv_ineg F.1 F.2.1 dL_follows_411 ?_
            refine lv_iconst (v := (3 : Int32)) F.1 F.2.1 dL_follows_412 (by decide) ?_
            refine lv_iload F.1 F.2.1 dL_follows_413 (lv_at hl 2 rfl) ?_
            obtain ⟨r91, hr92, hf⟩ := bnd hf
            refine a_H F hK (fun _ hU hW => sl_U hG hS hU hW) (fun _ h => h) hP hS (c_L_days hlt (-v6) (3 : Int32) ((1 : Int32) + (a1 - (a1 / (9 : Int32)) * (9 : Int32))) hr92) (vx_cwSW 4 F.2.2.2.2 gB_follows_L_days rfl rfl rfl hd_L_days ⟨(Nat.le_of_ble_eq_true rfl), (Nat.le_of_ble_eq_true rfl)⟩) rfl rfl hl.1 (Nat.le_of_ble_eq_true rfl) dL_follows_415 ⟨(by show _ ≤ 31330; omega), (by show _ ≤ 187980; omega)⟩ (rest := []) (fun H locs hP hS _ => ?_)
            refine W.eq (g2 := F0 m 418 ls [.long r91.1]) rfl ?_
            refine lv_lconst (v := (0 : Int64)) F.1 F.2.1 dL_follows_418 rfl ?_
            refine W.lcmp F.1 F.2.1 dL_follows_419 ?_
            refine lv_if_lt (tgt := 427) F.1 F.2.1 dL_follows_420 rfl (fun hc93 => ?_) (fun hc93 => ?_)
            · have hf := ifp hc93 hf
              refine lv_iconst (v := (0 : Int32)) F.1 F.2.1 dL_follows_427 (by decide) ?_
              refine W.widen (k := 2410 * (12 + 1 - n)) (n := 14460 * (12 + 1 - n)) (by omega) (by omega) ?_
              exact ih.2.2.2.2.2.2.1 r91.2 w2 v5 v6 ((1 : Int32) + (a1 - (a1 / (9 : Int32)) * (9 : Int32))) r83.1.toInt32 (0 : Int32) _ _ _ (lv_sub hl [4, 5, 6, 7, 8, 2, 1] rfl) hP hS hf
            · have hf := ifn hc93 hf
              refine lv_iconst (v := (1 : Int32)) F.1 F.2.1 dL_follows_423 (by decide) ?_
              refine lv_goto (tgt := 428) F.1 F.2.1 dL_follows_424 rfl ?_
              refine W.widen (k := 2410 * (12 + 1 - n)) (n := 14460 * (12 + 1 - n)) (by omega) (by omega) ?_
              exact ih.2.2.2.2.2.2.1 r91.2 w2 v5 v6 ((1 : Int32) + (a1 - (a1 / (9 : Int32)) * (9 : Int32))) r83.1.toInt32 (1 : Int32) _ _ _ (lv_sub hl [4, 5, 6, 7, 8, 2, 1] rfl) hP hS hf
      · intro μ w2 v5 v6 w7  ls H locs hl hP hS hf
        have hf : fb_L_follows_6 a1 (fl_L_follows a1 n) μ 0 0 0 0 v5 v6 0 0 w2 w7 = some r := hf
        unfold fb_L_follows_6 at hf
        refine lv_lload F.1 F.2.1 dL_follows_331 (lv_at hl 5 rfl) ?_
        refine lv_lconst (v := (0 : Int64)) F.1 F.2.1 dL_follows_333 rfl ?_
        refine W.lcmp F.1 F.2.1 dL_follows_334 ?_
        refine lv_if_ne (tgt := 350) F.1 F.2.1 dL_follows_335 rfl (fun hc94 => ?_) (fun hc94 => ?_)
        · have hf := ifn hc94 hf
          refine lv_iconst (v := (1 : Int32)) F.1 F.2.1 dL_follows_350 (by decide) ?_
          refine lv_goto (tgt := 355) F.1 F.2.1 dL_follows_351 rfl ?_
          refine W.widen (k := 2410 * (12 + 1 - n)) (n := 14460 * (12 + 1 - n)) (by omega) (by omega) ?_
          exact ih.2.2.2.2.1 μ w2 v5 v6 (1 : Int32) _ _ _ (lv_sub hl [0, 1, 2, 3, 4] rfl) hP hS hf
        · have hf := ifp hc94 hf
          refine lv_aload_n F.1 F.2.1 dL_follows_338 rfl (lv_at hl 0 rfl) ?_
          refine lv_iload F.1 F.2.1 dL_follows_339 (lv_at hl 3 rfl) ?_
          refine lv_iconst (v := (5 : Int32)) F.1 F.2.1 dL_follows_341 (by decide) ?_
          obtain ⟨r95, hr96, hf⟩ := bnd hf
          refine a_H F hK (fun _ hU hW => sl_U hG hS hU hW) (fun _ h => h) hP hS (c_L_siteOf hlt v5 (5 : Int32) hr96) (vx_cwSW 3 F.2.2.2.2 gB_follows_L_siteOf rfl rfl rfl hd_L_siteOf ⟨(Nat.le_of_ble_eq_true rfl), (Nat.le_of_ble_eq_true rfl)⟩) rfl rfl hl.1 (Nat.le_of_ble_eq_true rfl) dL_follows_342 ⟨(by show _ ≤ 31330; omega), (by show _ ≤ 187980; omega)⟩ (rest := []) (fun H locs hP hS _ => ?_)
          refine W.eq (g2 := F0 m 345 ls [.long r95]) rfl ?_
          refine lv_lconst (v := (0 : Int64)) F.1 F.2.1 dL_follows_345 rfl ?_
          refine W.lcmp F.1 F.2.1 dL_follows_346 ?_
          refine lv_if_ne (tgt := 354) F.1 F.2.1 dL_follows_347 rfl (fun hc97 => ?_) (fun hc97 => ?_)
          · have hf := ifn hc97 hf
            refine lv_iconst (v := (0 : Int32)) F.1 F.2.1 dL_follows_354 (by decide) ?_
            refine W.widen (k := 2410 * (12 + 1 - n)) (n := 14460 * (12 + 1 - n)) (by omega) (by omega) ?_
            exact ih.2.2.2.2.1 μ w2 v5 v6 (0 : Int32) _ _ _ (lv_sub hl [0, 1, 2, 3, 4] rfl) hP hS hf
          · have hf := ifp hc97 hf
            refine lv_iconst (v := (1 : Int32)) F.1 F.2.1 dL_follows_350 (by decide) ?_
            refine lv_goto (tgt := 355) F.1 F.2.1 dL_follows_351 rfl ?_
            refine W.widen (k := 2410 * (12 + 1 - n)) (n := 14460 * (12 + 1 - n)) (by omega) (by omega) ?_
            exact ih.2.2.2.2.1 μ w2 v5 v6 (1 : Int32) _ _ _ (lv_sub hl [0, 1, 2, 3, 4] rfl) hP hS hf
      · intro μ w2 v5 v6 v12 v13 t0  ls H locs hl hP hS hf
        have hf : fb_L_follows_7 a1 (fl_L_follows a1 n) μ t0 v12 v13 0 v5 v6 0 0 w2 0 = some r := hf
        unfold fb_L_follows_7 at hf
        refine lv_istore F.1 F.2.1 dL_follows_428 hl (Nat.le_of_ble_eq_true rfl) rfl (fun ls hl => ?_)
        have hl : lv_has ls 21 [(4, .int t0), (0, .ref (x + 0)), (1, .int a1), (2, .long w2), (5, .int v5), (6, .int v6), (12, .int v12), (13, .int v13)] := hl
        refine lv_aload_n F.1 F.2.1 dL_follows_430 rfl (lv_at hl 1 rfl) ?_
        refine lv_iload F.1 F.2.1 dL_follows_431 (lv_at hl 4 rfl) ?_
        refine lv_iconst (v := (5 : Int32)) F.1 F.2.1 dL_follows_433 (by decide) ?_
        obtain ⟨r98, hr99, hf⟩ := bnd hf
        refine a_H F hK (fun _ hU hW => sl_U hG hS hU hW) (fun _ h => h) hP hS (c_L_siteOf hlt v5 (5 : Int32) hr99) (vx_cwSW 3 F.2.2.2.2 gB_follows_L_siteOf rfl rfl rfl hd_L_siteOf ⟨(Nat.le_of_ble_eq_true rfl), (Nat.le_of_ble_eq_true rfl)⟩) rfl rfl hl.1 (Nat.le_of_ble_eq_true rfl) dL_follows_434 ⟨(by show _ ≤ 31330; omega), (by show _ ≤ 187980; omega)⟩ (rest := []) (fun H locs hP hS _ => ?_)
        refine W.eq (g2 := F0 m 437 ls [.long r98]) rfl ?_
        refine lv_lstore F.1 F.2.1 dL_follows_437 hl (Nat.le_of_ble_eq_true rfl) rfl (fun ls hl => ?_)
        have hl : lv_has ls 21 [(16, .long r98), (4, .int t0), (0, .ref (x + 0)), (1, .int a1), (2, .long w2), (5, .int v5), (6, .int v6), (12, .int v12), (13, .int v13)] := hl
        refine lv_iload F.1 F.2.1 dL_follows_439 (lv_at hl 1 rfl) ?_
        refine lv_if_eq (tgt := 553) F.1 F.2.1 dL_follows_441 rfl (fun hc100 => ?_) (fun hc100 => ?_)
        · have hf := ifp hc100 hf
          refine lv_iconst (v := (0 : Int32)) F.1 F.2.1 dL_follows_553 (by decide) ?_
          refine W.widen (k := 2410 * (12 + 1 - n)) (n := 14460 * (12 + 1 - n)) (by omega) (by omega) ?_
          exact ih.2.2.2.2.2.2.2.1 μ w2 v6 v12 (0 : Int32) _ _ _ (lv_sub hl [2, 3, 4, 6, 7] rfl) hP hS hf
        · have hf := ifn hc100 hf
          refine lv_aload_n F.1 F.2.1 dL_follows_444 rfl (lv_at hl 2 rfl) ?_
          obtain ⟨r101, hr102, hf⟩ := bnd hf
          refine a_H F hK (fun _ hU hW => sl_U hG hS hU hW) (fun _ h => h) hP hS (c_L_undo hlt hr102) (vx_cwSW 1 F.2.2.2.2 gB_follows_L_undo rfl rfl rfl hd_L_undo ⟨(Nat.le_of_ble_eq_true rfl), (Nat.le_of_ble_eq_true rfl)⟩) rfl rfl hl.1 (Nat.le_of_ble_eq_true rfl) dL_follows_445 ⟨(by show _ ≤ 31330; omega), (by show _ ≤ 187980; omega)⟩ (rest := []) (fun H locs hP hS _ => ?_)
          refine W.eq (g2 := F0 m 448 ls [.long r101.1]) rfl ?_
          refine lv_lconst (v := (0 : Int64)) F.1 F.2.1 dL_follows_448 rfl ?_
          refine W.lcmp F.1 F.2.1 dL_follows_449 ?_
          refine lv_if_lt (tgt := 553) F.1 F.2.1 dL_follows_450 rfl (fun hc103 => ?_) (fun hc103 => ?_)
          · have hf := ifp hc103 hf
            refine lv_iconst (v := (0 : Int32)) F.1 F.2.1 dL_follows_553 (by decide) ?_
            refine W.widen (k := 2410 * (12 + 1 - n)) (n := 14460 * (12 + 1 - n)) (by omega) (by omega) ?_
            exact ih.2.2.2.2.2.2.2.1 r101.2 w2 v6 v12 (0 : Int32) _ _ _ (lv_sub hl [2, 3, 4, 6, 7] rfl) hP hS hf
          · have hf := ifn hc103 hf
            refine lv_aload_n F.1 F.2.1 dL_follows_453 rfl (lv_at hl 2 rfl) ?_
            refine lv_iload F.1 F.2.1 dL_follows_454 (lv_at hl 5 rfl) ?_
            refine lv_iconst (v := (0 : Int32)) F.1 F.2.1 dL_follows_456 (by decide) ?_
            obtain ⟨r104, hr105, hf⟩ := bnd hf
            refine a_H F hK (fun _ hU hW => sl_U hG hS hU hW) (fun _ h => h) hP hS (c_L_fence hlt v5 (0 : Int32) hr105) (vx_cwSW 3 F.2.2.2.2 gB_follows_L_fence rfl rfl rfl hd_L_fence ⟨(Nat.le_of_ble_eq_true rfl), (Nat.le_of_ble_eq_true rfl)⟩) rfl rfl hl.1 (Nat.le_of_ble_eq_true rfl) dL_follows_457 ⟨(by show _ ≤ 31330; omega), (by show _ ≤ 187980; omega)⟩ (rest := []) (fun H locs hP hS _ => ?_)
            refine W.eq (g2 := F0 m 460 ls [.long r104.1]) rfl ?_
            refine lv_iload F.1 F.2.1 dL_follows_460 (lv_at hl 8 rfl) ?_
            refine lv_i2l (v := v13.toInt64) F.1 F.2.1 dL_follows_462 rfl ?_
            refine W.lcmp F.1 F.2.1 dL_follows_463 ?_
            refine lv_if_ne (tgt := 553) F.1 F.2.1 dL_follows_464 rfl (fun hc106 => ?_) (fun hc106 => ?_)
            · have hf := ifn hc106 hf
              refine lv_iconst (v := (0 : Int32)) F.1 F.2.1 dL_follows_553 (by decide) ?_
              refine W.widen (k := 2410 * (12 + 1 - n)) (n := 14460 * (12 + 1 - n)) (by omega) (by omega) ?_
              exact ih.2.2.2.2.2.2.2.1 r104.2 w2 v6 v12 (0 : Int32) _ _ _ (lv_sub hl [2, 3, 4, 6, 7] rfl) hP hS hf
            · have hf := ifp hc106 hf
              refine lv_aload_n F.1 F.2.1 dL_follows_467 rfl (lv_at hl 2 rfl) ?_
              refine lv_iload F.1 F.2.1 dL_follows_468 (lv_at hl 6 rfl) ?_
              refine lv_ineg F.1 F.2.1 dL_follows_470 ?_
              refine lv_iconst (v := (3 : Int32)) F.1 F.2.1 dL_follows_471 (by decide) ?_
              refine lv_iload F.1 F.2.1 dL_follows_472 (lv_at hl 7 rfl) ?_
              obtain ⟨r107, hr108, hf⟩ := bnd hf
              refine a_H F hK (fun _ hU hW => sl_U hG hS hU hW) (fun _ h => h) hP hS (c_L_days hlt (-v6) (3 : Int32) v12 hr108) (vx_cwSW 4 F.2.2.2.2 gB_follows_L_days rfl rfl rfl hd_L_days ⟨(Nat.le_of_ble_eq_true rfl), (Nat.le_of_ble_eq_true rfl)⟩) rfl rfl hl.1 (Nat.le_of_ble_eq_true rfl) dL_follows_474 ⟨(by show _ ≤ 31330; omega), (by show _ ≤ 187980; omega)⟩ (rest := []) (fun H locs hP hS _ => ?_)
              refine W.eq (g2 := F0 m 477 ls [.long r107.1]) rfl ?_
              refine lv_lconst (v := (0 : Int64)) F.1 F.2.1 dL_follows_477 rfl ?_
              refine W.lcmp F.1 F.2.1 dL_follows_478 ?_
              refine lv_if_lt (tgt := 553) F.1 F.2.1 dL_follows_479 rfl (fun hc109 => ?_) (fun hc109 => ?_)
              · have hf := ifp hc109 hf
                refine lv_iconst (v := (0 : Int32)) F.1 F.2.1 dL_follows_553 (by decide) ?_
                refine W.widen (k := 2410 * (12 + 1 - n)) (n := 14460 * (12 + 1 - n)) (by omega) (by omega) ?_
                exact ih.2.2.2.2.2.2.2.1 r107.2 w2 v6 v12 (0 : Int32) _ _ _ (lv_sub hl [2, 3, 4, 6, 7] rfl) hP hS hf
              · have hf := ifn hc109 hf
                refine lv_aload_n F.1 F.2.1 dL_follows_482 rfl (lv_at hl 2 rfl) ?_
                refine lv_iload F.1 F.2.1 dL_follows_483 (lv_at hl 5 rfl) ?_
                refine lv_iconst (v := (5 : Int32)) F.1 F.2.1 dL_follows_485 (by decide) ?_
                obtain ⟨r110, hr111, hf⟩ := bnd hf
                refine a_H F hK (fun _ hU hW => sl_U hG hS hU hW) (fun _ h => h) hP hS (c_L_siteOf hlt v5 (5 : Int32) hr111) (vx_cwSW 3 F.2.2.2.2 gB_follows_L_siteOf rfl rfl rfl hd_L_siteOf ⟨(Nat.le_of_ble_eq_true rfl), (Nat.le_of_ble_eq_true rfl)⟩) rfl rfl hl.1 (Nat.le_of_ble_eq_true rfl) dL_follows_486 ⟨(by show _ ≤ 31330; omega), (by show _ ≤ 187980; omega)⟩ (rest := []) (fun H locs hP hS _ => ?_)
                refine W.eq (g2 := F0 m 489 ls [.long r110]) rfl ?_
                refine lv_lload F.1 F.2.1 dL_follows_489 (lv_at hl 0 rfl) ?_
                refine W.lcmp F.1 F.2.1 dL_follows_491 ?_
                refine lv_if_lt (tgt := 553) F.1 F.2.1 dL_follows_492 rfl (fun hc112 => ?_) (fun hc112 => ?_)
                · have hf := ifp hc112 hf
                  refine lv_iconst (v := (0 : Int32)) F.1 F.2.1 dL_follows_553 (by decide) ?_
                  refine W.widen (k := 2410 * (12 + 1 - n)) (n := 14460 * (12 + 1 - n)) (by omega) (by omega) ?_
                  exact ih.2.2.2.2.2.2.2.1 r107.2 w2 v6 v12 (0 : Int32) _ _ _ (lv_sub hl [2, 3, 4, 6, 7] rfl) hP hS hf
                · have hf := ifn hc112 hf
                  refine lv_iload F.1 F.2.1 dL_follows_495 (lv_at hl 8 rfl) ?_
                  refine lv_if_eq (tgt := 513) F.1 F.2.1 dL_follows_497 rfl (fun hc113 => ?_) (fun hc113 => ?_)
                  · have hf := ifp hc113 hf
                    refine W.widen (k := 2410 * (12 + 1 - n)) (n := 14460 * (12 + 1 - n)) (by omega) (by omega) ?_
                    exact ih.2.2.2.2.2.2.2.2 r107.2 w2 v6 v12 _ _ _ (lv_sub hl [2, 3, 4, 6, 7] rfl) hP hS hf
                  · have hf := ifn hc113 hf
                    refine lv_aload_n F.1 F.2.1 dL_follows_500 rfl (lv_at hl 2 rfl) ?_
                    refine lv_iload F.1 F.2.1 dL_follows_501 (lv_at hl 5 rfl) ?_
                    refine lv_iconst (v := (5 : Int32)) F.1 F.2.1 dL_follows_503 (by decide) ?_
                    obtain ⟨r114, hr115, hf⟩ := bnd hf
                    refine a_H F hK (fun _ hU hW => sl_U hG hS hU hW) (fun _ h => h) hP hS (c_L_siteOf hlt v5 (5 : Int32) hr115) (vx_cwSW 3 F.2.2.2.2 gB_follows_L_siteOf rfl rfl rfl hd_L_siteOf ⟨(Nat.le_of_ble_eq_true rfl), (Nat.le_of_ble_eq_true rfl)⟩) rfl rfl hl.1 (Nat.le_of_ble_eq_true rfl) dL_follows_504 ⟨(by show _ ≤ 31330; omega), (by show _ ≤ 187980; omega)⟩ (rest := []) (fun H locs hP hS _ => ?_)
                    refine W.eq (g2 := F0 m 507 ls [.long r114]) rfl ?_
                    refine lv_lload F.1 F.2.1 dL_follows_507 (lv_at hl 0 rfl) ?_
                    refine W.lcmp F.1 F.2.1 dL_follows_509 ?_
                    refine lv_if_le (tgt := 553) F.1 F.2.1 dL_follows_510 rfl (fun hc116 => ?_) (fun hc116 => ?_)
                    · have hf := ifp hc116 hf
                      refine lv_iconst (v := (0 : Int32)) F.1 F.2.1 dL_follows_553 (by decide) ?_
                      refine W.widen (k := 2410 * (12 + 1 - n)) (n := 14460 * (12 + 1 - n)) (by omega) (by omega) ?_
                      exact ih.2.2.2.2.2.2.2.1 r107.2 w2 v6 v12 (0 : Int32) _ _ _ (lv_sub hl [2, 3, 4, 6, 7] rfl) hP hS hf
                    · have hf := ifn hc116 hf
                      refine W.widen (k := 2410 * (12 + 1 - n)) (n := 14460 * (12 + 1 - n)) (by omega) (by omega) ?_
                      exact ih.2.2.2.2.2.2.2.2 r107.2 w2 v6 v12 _ _ _ (lv_sub hl [2, 3, 4, 6, 7] rfl) hP hS hf
      · intro μ w2 v6 v12 t0  ls H locs hl hP hS hf
        have hf : fb_L_follows_8 a1 (fl_L_follows a1 n) μ t0 v12 0 0 0 v6 0 0 w2 0 = some r := hf
        unfold fb_L_follows_8 at hf
        refine lv_istore F.1 F.2.1 dL_follows_554 hl (Nat.le_of_ble_eq_true rfl) rfl (fun ls hl => ?_)
        have hl : lv_has ls 21 [(4, .int t0), (0, .ref (x + 0)), (1, .int a1), (2, .long w2), (6, .int v6), (12, .int v12)] := hl
        refine lv_aload_n F.1 F.2.1 dL_follows_556 rfl (lv_at hl 1 rfl) ?_
        refine lv_iconst (v := (2 : Int32)) F.1 F.2.1 dL_follows_557 (by decide) ?_
        obtain ⟨r117, hr118, hf⟩ := bnd hf
        refine a_H F hK (fun _ hU hW => sl_U hG hS hU hW) (fun _ h => h) hP hS (c_L_about hlt (2 : Int32) hr118) (vx_cwSW 2 F.2.2.2.2 gB_follows_L_about rfl rfl rfl hd_L_about ⟨(Nat.le_of_ble_eq_true rfl), (Nat.le_of_ble_eq_true rfl)⟩) rfl rfl hl.1 (Nat.le_of_ble_eq_true rfl) dL_follows_558 ⟨(by show _ ≤ 31330; omega), (by show _ ≤ 187980; omega)⟩ (rest := []) (fun H locs hP hS _ => ?_)
        refine W.eq (g2 := F0 m 561 ls [.long r117]) rfl ?_
        refine lv_lconst (v := (0 : Int64)) F.1 F.2.1 dL_follows_561 rfl ?_
        refine W.lcmp F.1 F.2.1 dL_follows_562 ?_
        refine lv_if_le (tgt := 638) F.1 F.2.1 dL_follows_563 rfl (fun hc119 => ?_) (fun hc119 => ?_)
        · have hf := ifp hc119 hf
          refine W.widen (k := 2410 * (12 + 1 - n)) (n := 14460 * (12 + 1 - n)) (by omega) (by omega) ?_
          exact ih.2.1 μ w2 t0 _ _ _ (lv_sub hl [1, 3, 0] rfl) hP hS hf
        · have hf := ifn hc119 hf
          refine lv_iload F.1 F.2.1 dL_follows_566 (lv_at hl 0 rfl) ?_
          refine lv_if_eq (tgt := 638) F.1 F.2.1 dL_follows_568 rfl (fun hc120 => ?_) (fun hc120 => ?_)
          · have hf := ifp hc120 hf
            refine W.widen (k := 2410 * (12 + 1 - n)) (n := 14460 * (12 + 1 - n)) (by omega) (by omega) ?_
            exact ih.2.1 μ w2 t0 _ _ _ (lv_sub hl [1, 3, 0] rfl) hP hS hf
          · have hf := ifn hc120 hf
            refine lv_iload_n F.1 F.2.1 dL_follows_571 rfl (lv_at hl 2 rfl) ?_
            refine lv_aload_n F.1 F.2.1 dL_follows_572 rfl (lv_at hl 1 rfl) ?_
            refine lv_iconst (v := (2 : Int32)) F.1 F.2.1 dL_follows_573 (by decide) ?_
            obtain ⟨r121, hr122, hf⟩ := bnd hf
            refine a_H F hK (fun _ hU hW => sl_U hG hS hU hW) (fun _ h => h) hP hS (c_L_about hlt (2 : Int32) hr122) (vx_cwSW 2 F.2.2.2.2 gB_follows_L_about rfl rfl rfl hd_L_about ⟨(Nat.le_of_ble_eq_true rfl), (Nat.le_of_ble_eq_true rfl)⟩) rfl rfl hl.1 (Nat.le_of_ble_eq_true rfl) dL_follows_574 ⟨(by show _ ≤ 31330; omega), (by show _ ≤ 187980; omega)⟩ (rest := [.int a1]) (fun H locs hP hS _ => ?_)
            refine W.eq (g2 := F0 m 577 ls [.long r121, .int a1]) rfl ?_
            refine lv_l2i (v := r121.toInt32) F.1 F.2.1 dL_follows_577 rfl ?_
            obtain ⟨hz123, hf⟩ := ifg hf
            refine lv_irem F.1 F.2.1 dL_follows_578 hz123 ?_
            refine lv_istore F.1 F.2.1 dL_follows_579 hl (Nat.le_of_ble_eq_true rfl) rfl (fun ls hl => ?_)
            have hl : lv_has ls 21 [(18, .int (a1 - (a1 / r121.toInt32) * r121.toInt32)), (4, .int t0), (0, .ref (x + 0)), (1, .int a1), (2, .long w2), (6, .int v6), (12, .int v12)] := hl
            refine lv_aload_n F.1 F.2.1 dL_follows_581 rfl (lv_at hl 2 rfl) ?_
            refine lv_iload F.1 F.2.1 dL_follows_582 (lv_at hl 0 rfl) ?_
            refine lv_iload F.1 F.2.1 dL_follows_584 (lv_at hl 5 rfl) ?_
            refine lv_ineg F.1 F.2.1 dL_follows_586 ?_
            refine lv_iload F.1 F.2.1 dL_follows_587 (lv_at hl 6 rfl) ?_
            obtain ⟨r124, hr125, hf⟩ := bnd hf
            refine a_H F hK (fun _ hU hW => sl_U hG hS hU hW) (fun _ h => h) hP hS (c_L_heaveIn hlt (a1 - (a1 / r121.toInt32) * r121.toInt32) (-v6) v12 hr125) (vx_cwSW 4 F.2.2.2.2 gB_follows_L_heaveIn rfl rfl rfl hd_L_heaveIn ⟨(Nat.le_of_ble_eq_true rfl), (Nat.le_of_ble_eq_true rfl)⟩) rfl rfl hl.1 (Nat.le_of_ble_eq_true rfl) dL_follows_589 ⟨(by show _ ≤ 31330; omega), (by show _ ≤ 187980; omega)⟩ (rest := []) (fun H locs hP hS _ => ?_)
            refine W.eq (g2 := F0 m 592 ls [.long r124.1]) rfl ?_
            refine lv_lstore F.1 F.2.1 dL_follows_592 hl (Nat.le_of_ble_eq_true rfl) rfl (fun ls hl => ?_)
            have hl : lv_has ls 21 [(19, .long r124.1), (18, .int (a1 - (a1 / r121.toInt32) * r121.toInt32)), (4, .int t0), (0, .ref (x + 0)), (1, .int a1), (2, .long w2), (6, .int v6), (12, .int v12)] := hl
            refine lv_aload_n F.1 F.2.1 dL_follows_594 rfl (lv_at hl 3 rfl) ?_
            refine lv_iload F.1 F.2.1 dL_follows_595 (lv_at hl 6 rfl) ?_
            refine lv_ineg F.1 F.2.1 dL_follows_597 ?_
            refine lv_iconst (v := (0 : Int32)) F.1 F.2.1 dL_follows_598 (by decide) ?_
            refine lv_iload F.1 F.2.1 dL_follows_599 (lv_at hl 7 rfl) ?_
            obtain ⟨r126, hr127, hf⟩ := bnd hf
            refine a_H F hK (fun _ hU hW => sl_U hG hS hU hW) (fun _ h => h) hP hS (c_L_days hlt (-v6) (0 : Int32) v12 hr127) (vx_cwSW 4 F.2.2.2.2 gB_follows_L_days rfl rfl rfl hd_L_days ⟨(Nat.le_of_ble_eq_true rfl), (Nat.le_of_ble_eq_true rfl)⟩) rfl rfl hl.1 (Nat.le_of_ble_eq_true rfl) dL_follows_601 ⟨(by show _ ≤ 31330; omega), (by show _ ≤ 187980; omega)⟩ (rest := []) (fun H locs hP hS _ => ?_)
            refine W.eq (g2 := F0 m 604 ls [.long r126.1]) rfl ?_
            refine lv_lconst (v := (0 : Int64)) F.1 F.2.1 dL_follows_604 rfl ?_
            refine W.lcmp F.1 F.2.1 dL_follows_605 ?_
            refine lv_if_lt (tgt := 635) F.1 F.2.1 dL_follows_606 rfl (fun hc128 => ?_) (fun hc128 => ?_)
            · have hf := ifp hc128 hf
              refine lv_iconst (v := (0 : Int32)) F.1 F.2.1 dL_follows_635 (by decide) ?_
              refine lv_istore F.1 F.2.1 dL_follows_636 hl (Nat.le_of_ble_eq_true rfl) rfl (fun ls hl => ?_)
              have hl : lv_has ls 21 [(4, .int (0 : Int32)), (19, .long r124.1), (18, .int (a1 - (a1 / r121.toInt32) * r121.toInt32)), (0, .ref (x + 0)), (1, .int a1), (2, .long w2), (6, .int v6), (12, .int v12)] := hl
              refine W.widen (k := 2410 * (12 + 1 - n)) (n := 14460 * (12 + 1 - n)) (by omega) (by omega) ?_
              exact ih.2.1 r126.2 w2 (0 : Int32) _ _ _ (lv_sub hl [3, 5, 0] rfl) hP hS hf
            · have hf := ifn hc128 hf
              refine lv_aload_n F.1 F.2.1 dL_follows_609 rfl (lv_at hl 3 rfl) ?_
              refine lv_iload F.1 F.2.1 dL_follows_610 (lv_at hl 1 rfl) ?_
              refine lv_iconst (v := (2 : Int32)) F.1 F.2.1 dL_follows_612 (by decide) ?_
              obtain ⟨r129, hr130, hf⟩ := bnd hf
              refine a_H F hK (fun _ hU hW => sl_U hG hS hU hW) (fun _ h => h) hP hS (c_L_pipeOf hlt (a1 - (a1 / r121.toInt32) * r121.toInt32) (2 : Int32) hr130) (vx_cwSW 3 F.2.2.2.2 gB_follows_L_pipeOf rfl rfl rfl hd_L_pipeOf ⟨(Nat.le_of_ble_eq_true rfl), (Nat.le_of_ble_eq_true rfl)⟩) rfl rfl hl.1 (Nat.le_of_ble_eq_true rfl) dL_follows_613 ⟨(by show _ ≤ 31330; omega), (by show _ ≤ 187980; omega)⟩ (rest := []) (fun H locs hP hS _ => ?_)
              refine W.eq (g2 := F0 m 616 ls [.long r129]) rfl ?_
              refine lv_lload F.1 F.2.1 dL_follows_616 (lv_at hl 0 rfl) ?_
              refine W.lcmp F.1 F.2.1 dL_follows_618 ?_
              refine lv_if_ne (tgt := 635) F.1 F.2.1 dL_follows_619 rfl (fun hc131 => ?_) (fun hc131 => ?_)
              · have hf := ifn hc131 hf
                refine lv_iconst (v := (0 : Int32)) F.1 F.2.1 dL_follows_635 (by decide) ?_
                refine lv_istore F.1 F.2.1 dL_follows_636 hl (Nat.le_of_ble_eq_true rfl) rfl (fun ls hl => ?_)
                have hl : lv_has ls 21 [(4, .int (0 : Int32)), (19, .long r124.1), (18, .int (a1 - (a1 / r121.toInt32) * r121.toInt32)), (0, .ref (x + 0)), (1, .int a1), (2, .long w2), (6, .int v6), (12, .int v12)] := hl
                refine W.widen (k := 2410 * (12 + 1 - n)) (n := 14460 * (12 + 1 - n)) (by omega) (by omega) ?_
                exact ih.2.1 r126.2 w2 (0 : Int32) _ _ _ (lv_sub hl [3, 5, 0] rfl) hP hS hf
              · have hf := ifp hc131 hf
                refine lv_aload_n F.1 F.2.1 dL_follows_622 rfl (lv_at hl 3 rfl) ?_
                obtain ⟨r132, hr133, hf⟩ := bnd hf
                refine a_H F hK (fun _ hU hW => sl_U hG hS hU hW) (fun _ h => h) hP hS (c_L_undo hlt hr133) (vx_cwSW 1 F.2.2.2.2 gB_follows_L_undo rfl rfl rfl hd_L_undo ⟨(Nat.le_of_ble_eq_true rfl), (Nat.le_of_ble_eq_true rfl)⟩) rfl rfl hl.1 (Nat.le_of_ble_eq_true rfl) dL_follows_623 ⟨(by show _ ≤ 31330; omega), (by show _ ≤ 187980; omega)⟩ (rest := []) (fun H locs hP hS _ => ?_)
                refine W.eq (g2 := F0 m 626 ls [.long r132.1]) rfl ?_
                refine lv_lconst (v := (0 : Int64)) F.1 F.2.1 dL_follows_626 rfl ?_
                refine W.lcmp F.1 F.2.1 dL_follows_627 ?_
                refine lv_if_lt (tgt := 635) F.1 F.2.1 dL_follows_628 rfl (fun hc134 => ?_) (fun hc134 => ?_)
                · have hf := ifp hc134 hf
                  refine lv_iconst (v := (0 : Int32)) F.1 F.2.1 dL_follows_635 (by decide) ?_
                  refine lv_istore F.1 F.2.1 dL_follows_636 hl (Nat.le_of_ble_eq_true rfl) rfl (fun ls hl => ?_)
                  have hl : lv_has ls 21 [(4, .int (0 : Int32)), (19, .long r124.1), (18, .int (a1 - (a1 / r121.toInt32) * r121.toInt32)), (0, .ref (x + 0)), (1, .int a1), (2, .long w2), (6, .int v6), (12, .int v12)] := hl
                  refine W.widen (k := 2410 * (12 + 1 - n)) (n := 14460 * (12 + 1 - n)) (by omega) (by omega) ?_
                  exact ih.2.1 r132.2 w2 (0 : Int32) _ _ _ (lv_sub hl [3, 5, 0] rfl) hP hS hf
                · have hf := ifn hc134 hf
                  refine lv_iconst (v := (1 : Int32)) F.1 F.2.1 dL_follows_631 (by decide) ?_
                  refine lv_goto (tgt := 636) F.1 F.2.1 dL_follows_632 rfl ?_
                  refine lv_istore F.1 F.2.1 dL_follows_636 hl (Nat.le_of_ble_eq_true rfl) rfl (fun ls hl => ?_)
                  have hl : lv_has ls 21 [(4, .int (1 : Int32)), (19, .long r124.1), (18, .int (a1 - (a1 / r121.toInt32) * r121.toInt32)), (0, .ref (x + 0)), (1, .int a1), (2, .long w2), (6, .int v6), (12, .int v12)] := hl
                  refine W.widen (k := 2410 * (12 + 1 - n)) (n := 14460 * (12 + 1 - n)) (by omega) (by omega) ?_
                  exact ih.2.1 r132.2 w2 (1 : Int32) _ _ _ (lv_sub hl [3, 5, 0] rfl) hP hS hf
      · intro μ w2 v6 v12  ls H locs hl hP hS hf
        have hf : fb_L_follows_9 a1 (fl_L_follows a1 n) μ 0 v12 0 0 0 v6 0 0 w2 0 = some r := hf
        unfold fb_L_follows_9 at hf
        refine lv_aload_n F.1 F.2.1 dL_follows_513 rfl (lv_at hl 0 rfl) ?_
        obtain ⟨r135, hr136, hf⟩ := bnd hf
        refine a_H F hK (fun _ hU hW => sl_U hG hS hU hW) (fun _ h => h) hP hS (c_L_undo hlt hr136) (vx_cwSW 1 F.2.2.2.2 gB_follows_L_undo rfl rfl rfl hd_L_undo ⟨(Nat.le_of_ble_eq_true rfl), (Nat.le_of_ble_eq_true rfl)⟩) rfl rfl hl.1 (Nat.le_of_ble_eq_true rfl) dL_follows_514 ⟨(by show _ ≤ 31330; omega), (by show _ ≤ 187980; omega)⟩ (rest := []) (fun H locs hP hS _ => ?_)
        refine W.eq (g2 := F0 m 517 ls [.long r135.1]) rfl ?_
        refine lv_lconst (v := (0 : Int64)) F.1 F.2.1 dL_follows_517 rfl ?_
        refine W.lcmp F.1 F.2.1 dL_follows_518 ?_
        refine lv_if_lt (tgt := 553) F.1 F.2.1 dL_follows_519 rfl (fun hc137 => ?_) (fun hc137 => ?_)
        · have hf := ifp hc137 hf
          refine lv_iconst (v := (0 : Int32)) F.1 F.2.1 dL_follows_553 (by decide) ?_
          refine W.widen (k := 2410 * (12 + 1 - n)) (n := 14460 * (12 + 1 - n)) (by omega) (by omega) ?_
          exact ih.2.2.2.2.2.2.2.1 r135.2 w2 v6 v12 (0 : Int32) _ _ _ (lv_sub hl [0, 1, 2, 3, 4] rfl) hP hS hf
        · have hf := ifn hc137 hf
          refine lv_aload_n F.1 F.2.1 dL_follows_522 rfl (lv_at hl 0 rfl) ?_
          obtain ⟨r138, hr139, hf⟩ := bnd hf
          refine a_H F hK (fun _ hU hW => sl_U hG hS hU hW) (fun _ h => h) hP hS (c_L_undo hlt hr139) (vx_cwSW 1 F.2.2.2.2 gB_follows_L_undo rfl rfl rfl hd_L_undo ⟨(Nat.le_of_ble_eq_true rfl), (Nat.le_of_ble_eq_true rfl)⟩) rfl rfl hl.1 (Nat.le_of_ble_eq_true rfl) dL_follows_523 ⟨(by show _ ≤ 31330; omega), (by show _ ≤ 187980; omega)⟩ (rest := []) (fun H locs hP hS _ => ?_)
          refine W.eq (g2 := F0 m 526 ls [.long r138.1]) rfl ?_
          refine lv_lconst (v := (0 : Int64)) F.1 F.2.1 dL_follows_526 rfl ?_
          refine W.lcmp F.1 F.2.1 dL_follows_527 ?_
          refine lv_if_lt (tgt := 553) F.1 F.2.1 dL_follows_528 rfl (fun hc140 => ?_) (fun hc140 => ?_)
          · have hf := ifp hc140 hf
            refine lv_iconst (v := (0 : Int32)) F.1 F.2.1 dL_follows_553 (by decide) ?_
            refine W.widen (k := 2410 * (12 + 1 - n)) (n := 14460 * (12 + 1 - n)) (by omega) (by omega) ?_
            exact ih.2.2.2.2.2.2.2.1 r138.2 w2 v6 v12 (0 : Int32) _ _ _ (lv_sub hl [0, 1, 2, 3, 4] rfl) hP hS hf
          · have hf := ifn hc140 hf
            refine lv_aload_n F.1 F.2.1 dL_follows_531 rfl (lv_at hl 0 rfl) ?_
            obtain ⟨r141, hr142, hf⟩ := bnd hf
            refine a_H F hK (fun _ hU hW => sl_U hG hS hU hW) (fun _ h => h) hP hS (c_L_undo hlt hr142) (vx_cwSW 1 F.2.2.2.2 gB_follows_L_undo rfl rfl rfl hd_L_undo ⟨(Nat.le_of_ble_eq_true rfl), (Nat.le_of_ble_eq_true rfl)⟩) rfl rfl hl.1 (Nat.le_of_ble_eq_true rfl) dL_follows_532 ⟨(by show _ ≤ 31330; omega), (by show _ ≤ 187980; omega)⟩ (rest := []) (fun H locs hP hS _ => ?_)
            refine W.eq (g2 := F0 m 535 ls [.long r141.1]) rfl ?_
            refine lv_lconst (v := (0 : Int64)) F.1 F.2.1 dL_follows_535 rfl ?_
            refine W.lcmp F.1 F.2.1 dL_follows_536 ?_
            refine lv_if_lt (tgt := 553) F.1 F.2.1 dL_follows_537 rfl (fun hc143 => ?_) (fun hc143 => ?_)
            · have hf := ifp hc143 hf
              refine lv_iconst (v := (0 : Int32)) F.1 F.2.1 dL_follows_553 (by decide) ?_
              refine W.widen (k := 2410 * (12 + 1 - n)) (n := 14460 * (12 + 1 - n)) (by omega) (by omega) ?_
              exact ih.2.2.2.2.2.2.2.1 r141.2 w2 v6 v12 (0 : Int32) _ _ _ (lv_sub hl [0, 1, 2, 3, 4] rfl) hP hS hf
            · have hf := ifn hc143 hf
              refine lv_aload_n F.1 F.2.1 dL_follows_540 rfl (lv_at hl 0 rfl) ?_
              obtain ⟨r144, hr145, hf⟩ := bnd hf
              refine a_S F hK (fun _ hU hW => sl_U hG hS hU hW) (fun _ h => h) hP hS (c_L_now hlt hr145) (va_cwS 1 F.2.2.2.2 gB_follows_L_now rfl rfl rfl hd_L_now ⟨(Nat.le_of_ble_eq_true rfl), (Nat.le_of_ble_eq_true rfl)⟩) rfl rfl hl.1 (Nat.le_of_ble_eq_true rfl) dL_follows_541 ⟨(by show _ ≤ 31330; omega), (by show _ ≤ 187980; omega)⟩ (rest := []) (fun H locs hP hS _ => ?_)
              refine W.eq (g2 := F0 m 544 ls [.long r144]) rfl ?_
              refine lv_lload_n F.1 F.2.1 dL_follows_544 rfl (lv_at hl 2 rfl) ?_
              refine W.lcmp F.1 F.2.1 dL_follows_545 ?_
              refine lv_if_ne (tgt := 553) F.1 F.2.1 dL_follows_546 rfl (fun hc146 => ?_) (fun hc146 => ?_)
              · have hf := ifn hc146 hf
                refine lv_iconst (v := (0 : Int32)) F.1 F.2.1 dL_follows_553 (by decide) ?_
                refine W.widen (k := 2410 * (12 + 1 - n)) (n := 14460 * (12 + 1 - n)) (by omega) (by omega) ?_
                exact ih.2.2.2.2.2.2.2.1 r141.2 w2 v6 v12 (0 : Int32) _ _ _ (lv_sub hl [0, 1, 2, 3, 4] rfl) hP hS hf
              · have hf := ifp hc146 hf
                refine lv_iconst (v := (1 : Int32)) F.1 F.2.1 dL_follows_549 (by decide) ?_
                refine lv_goto (tgt := 554) F.1 F.2.1 dL_follows_550 rfl ?_
                refine W.widen (k := 2410 * (12 + 1 - n)) (n := 14460 * (12 + 1 - n)) (by omega) (by omega) ?_
                exact ih.2.2.2.2.2.2.2.1 r141.2 w2 v6 v12 (1 : Int32) _ _ _ (lv_sub hl [0, 1, 2, 3, 4] rfl) hP hS hf
  intro ls H locs hl hP hS
  have hl : lv_has ls 21 [(0, .ref (x + 0)), (1, .int a1)] := hl
  unfold f_L_follows at hf
  refine lv_aload_n F.1 F.2.1 dL_follows_0 rfl (lv_at hl 0 rfl) ?_
  obtain ⟨r1, hr2, hf⟩ := bnd hf
  refine a_S F hK (fun _ hU hW => sl_U hG hS hU hW) (fun _ h => h) hP hS (c_L_now hlt hr2) (va_cwS 1 F.2.2.2.2 gB_follows_L_now rfl rfl rfl hd_L_now ⟨(Nat.le_of_ble_eq_true rfl), (Nat.le_of_ble_eq_true rfl)⟩) rfl rfl hl.1 (Nat.le_of_ble_eq_true rfl) dL_follows_1 ⟨(by show _ ≤ 31330; omega), (by show _ ≤ 187980; omega)⟩ (rest := []) (fun H locs hP hS _ => ?_)
  refine W.eq (g2 := F0 m 4 ls [.long r1]) rfl ?_
  refine lv_lstore_n F.1 F.2.1 dL_follows_4 rfl hl (Nat.le_of_ble_eq_true rfl) rfl (fun ls hl => ?_)
  have hl : lv_has ls 21 [(2, .long r1), (0, .ref (x + 0)), (1, .int a1)] := hl
  refine lv_aload_n F.1 F.2.1 dL_follows_5 rfl (lv_at hl 1 rfl) ?_
  refine lv_iconst (v := (1 : Int32)) F.1 F.2.1 dL_follows_6 (by decide) ?_
  obtain ⟨r3, hr4, hf⟩ := bnd hf
  refine a_H F hK (fun _ hU hW => sl_U hG hS hU hW) (fun _ h => h) hP hS (c_L_save hlt (1 : Int32) hr4) (vx_cwSW 2 F.2.2.2.2 gB_follows_L_save rfl rfl rfl hd_L_save ⟨(Nat.le_of_ble_eq_true rfl), (Nat.le_of_ble_eq_true rfl)⟩) rfl rfl hl.1 (Nat.le_of_ble_eq_true rfl) dL_follows_7 ⟨(by show _ ≤ 31330; omega), (by show _ ≤ 187980; omega)⟩ (rest := []) (fun H locs hP hS _ => ?_)
  refine W.eq (g2 := F0 m 10 ls [.long r3.1]) rfl ?_
  refine lv_aload_n F.1 F.2.1 dL_follows_10 rfl (lv_at hl 1 rfl) ?_
  refine lv_iconst (v := (3 : Int32)) F.1 F.2.1 dL_follows_11 (by decide) ?_
  obtain ⟨r5, hr6, hf⟩ := bnd hf
  refine a_H F hK (fun _ hU hW => sl_U hG hS hU hW) (fun _ h => h) hP hS (c_L_about hlt (3 : Int32) hr6) (vx_cwSW 2 F.2.2.2.2 gB_follows_L_about rfl rfl rfl hd_L_about ⟨(Nat.le_of_ble_eq_true rfl), (Nat.le_of_ble_eq_true rfl)⟩) rfl rfl hl.1 (Nat.le_of_ble_eq_true rfl) dL_follows_12 ⟨(by show _ ≤ 31330; omega), (by show _ ≤ 187980; omega)⟩ (rest := [.long r3.1]) (fun H locs hP hS _ => ?_)
  refine W.eq (g2 := F0 m 15 ls [.long r5, .long r3.1]) rfl ?_
  refine W.lcmp F.1 F.2.1 dL_follows_15 ?_
  refine lv_if_ne (tgt := 52) F.1 F.2.1 dL_follows_16 rfl (fun hc7 => ?_) (fun hc7 => ?_)
  · have hf := ifn hc7 hf
    refine lv_iconst (v := (0 : Int32)) F.1 F.2.1 dL_follows_52 (by decide) ?_
    refine W.widen (k := 2410 * (12 + 1 - 12)) (n := 14460 * (12 + 1 - 12)) (by omega) (by omega) ?_
    exact (KEY 12 (Nat.le_refl _)).1 r3.2 r1 (0 : Int32) _ _ _ (lv_sub hl [1, 2, 0] rfl) hP hS hf
  · have hf := ifp hc7 hf
    refine lv_aload_n F.1 F.2.1 dL_follows_19 rfl (lv_at hl 1 rfl) ?_
    refine lv_iload_n F.1 F.2.1 dL_follows_20 rfl (lv_at hl 2 rfl) ?_
    refine lv_i2l (v := a1.toInt64) F.1 F.2.1 dL_follows_21 rfl ?_
    refine lv_bipush (v := (6 : Int32)) F.1 F.2.1 dL_follows_22 (by decide) ?_
    obtain ⟨r8, hr9, hf⟩ := bnd hf
    refine a_H F hK (fun _ hU hW => sl_U hG hS hU hW) (fun _ h => h) hP hS (c_L_simulate hlt a1.toInt64 (6 : Int32) hr9) (vx_cwSW 3 F.2.2.2.2 gB_follows_L_simulate rfl rfl rfl hd_L_simulate ⟨(Nat.le_of_ble_eq_true rfl), (Nat.le_of_ble_eq_true rfl)⟩) rfl rfl hl.1 (Nat.le_of_ble_eq_true rfl) dL_follows_24 ⟨(by show _ ≤ 31330; omega), (by show _ ≤ 187980; omega)⟩ (rest := []) (fun H locs hP hS _ => ?_)
    refine W.eq (g2 := F0 m 27 ls [.long r8.1]) rfl ?_
    refine lv_aload_n F.1 F.2.1 dL_follows_27 rfl (lv_at hl 1 rfl) ?_
    refine lv_iload_n F.1 F.2.1 dL_follows_28 rfl (lv_at hl 2 rfl) ?_
    refine lv_i2l (v := a1.toInt64) F.1 F.2.1 dL_follows_29 rfl ?_
    refine lv_bipush (v := (6 : Int32)) F.1 F.2.1 dL_follows_30 (by decide) ?_
    obtain ⟨r10, hr11, hf⟩ := bnd hf
    refine a_H F hK (fun _ hU hW => sl_U hG hS hU hW) (fun _ h => h) hP hS (c_L_simulate hlt a1.toInt64 (6 : Int32) hr11) (vx_cwSW 3 F.2.2.2.2 gB_follows_L_simulate rfl rfl rfl hd_L_simulate ⟨(Nat.le_of_ble_eq_true rfl), (Nat.le_of_ble_eq_true rfl)⟩) rfl rfl hl.1 (Nat.le_of_ble_eq_true rfl) dL_follows_32 ⟨(by show _ ≤ 31330; omega), (by show _ ≤ 187980; omega)⟩ (rest := [.long r8.1]) (fun H locs hP hS _ => ?_)
    refine W.eq (g2 := F0 m 35 ls [.long r10.1, .long r8.1]) rfl ?_
    refine W.lcmp F.1 F.2.1 dL_follows_35 ?_
    refine lv_if_ne (tgt := 52) F.1 F.2.1 dL_follows_36 rfl (fun hc12 => ?_) (fun hc12 => ?_)
    · have hf := ifn hc12 hf
      refine lv_iconst (v := (0 : Int32)) F.1 F.2.1 dL_follows_52 (by decide) ?_
      refine W.widen (k := 2410 * (12 + 1 - 12)) (n := 14460 * (12 + 1 - 12)) (by omega) (by omega) ?_
      exact (KEY 12 (Nat.le_refl _)).1 r10.2 r1 (0 : Int32) _ _ _ (lv_sub hl [1, 2, 0] rfl) hP hS hf
    · have hf := ifp hc12 hf
      refine lv_aload_n F.1 F.2.1 dL_follows_39 rfl (lv_at hl 1 rfl) ?_
      obtain ⟨r13, hr14, hf⟩ := bnd hf
      refine a_S F hK (fun _ hU hW => sl_U hG hS hU hW) (fun _ h => h) hP hS (c_L_now hlt hr14) (va_cwS 1 F.2.2.2.2 gB_follows_L_now rfl rfl rfl hd_L_now ⟨(Nat.le_of_ble_eq_true rfl), (Nat.le_of_ble_eq_true rfl)⟩) rfl rfl hl.1 (Nat.le_of_ble_eq_true rfl) dL_follows_40 ⟨(by show _ ≤ 31330; omega), (by show _ ≤ 187980; omega)⟩ (rest := []) (fun H locs hP hS _ => ?_)
      refine W.eq (g2 := F0 m 43 ls [.long r13]) rfl ?_
      refine lv_lload_n F.1 F.2.1 dL_follows_43 rfl (lv_at hl 0 rfl) ?_
      refine W.lcmp F.1 F.2.1 dL_follows_44 ?_
      refine lv_if_ne (tgt := 52) F.1 F.2.1 dL_follows_45 rfl (fun hc15 => ?_) (fun hc15 => ?_)
      · have hf := ifn hc15 hf
        refine lv_iconst (v := (0 : Int32)) F.1 F.2.1 dL_follows_52 (by decide) ?_
        refine W.widen (k := 2410 * (12 + 1 - 12)) (n := 14460 * (12 + 1 - 12)) (by omega) (by omega) ?_
        exact (KEY 12 (Nat.le_refl _)).1 r10.2 r1 (0 : Int32) _ _ _ (lv_sub hl [1, 2, 0] rfl) hP hS hf
      · have hf := ifp hc15 hf
        refine lv_iconst (v := (1 : Int32)) F.1 F.2.1 dL_follows_48 (by decide) ?_
        refine lv_goto (tgt := 53) F.1 F.2.1 dL_follows_49 rfl ?_
        refine W.widen (k := 2410 * (12 + 1 - 12)) (n := 14460 * (12 + 1 - 12)) (by omega) (by omega) ?_
        exact (KEY 12 (Nat.le_refl _)).1 r10.2 r1 (1 : Int32) _ _ _ (lv_sub hl [1, 2, 0] rfl) hP hS hf
