-- FrostTubesLaw.errors(LFrostTubes;)Z
def rmL_errors : Room := { frames := 10, cells := 8645, slots := 51870, locals := 216 }
theorem hd_L_errors : yL_errors.cls ≠ "java/lang/invoke/MethodHandle" ∧ yL_errors.cls ≠ "java/lang/invoke/VarHandle" ∧ (parseMethodDescriptor yL_errors.desc).map (fun d => d.parameters.length) = some 1 := by decide +kernel
set_option maxHeartbeats 8000000 in
set_option maxRecDepth 100000 in
theorem c_L_errors {l : Launch} (hlt : l.stackTraces = false) {D : va_G} {x : Nat} {μ : Mem} {r : Int32 × Mem} (hf : f_L_errors μ = some r) : LC l yL_errors wsB_errors rmL_errors 8645 51870 [.ref (x + 0)] D x μ (some (.int r.1)) r.2 := by
  refine LC.of (cc := cL_errors) (maxL := 5) (ret := (some .boolean)) (by decide +kernel) rfl (Nat.le_of_ble_eq_true rfl) ?_
  intro p e s m args below meth c F hr hlk hK hG
  have KEY : ∀ n : Nat, n ≤ 6 → (∀ (μ : Mem) (w1 : Int64) (v3 : Int32) (t0 : Int32) (ls : Array Slot) (H : Heap) (locs : List Loc), lv_has ls 5 [(0, .ref (x + 0)), (1, .long w1), (3, .int v3)] → va_P D vwCl (WL D x μ) H → va_S (rng x) s.heap H locs → fl_L_errors  n 1 μ t0 v3 w1 = some r → W p l e rmL_errors s m args below meth c H locs (1235 * (6 + 1 - n)) (7410 * (6 + 1 - n)) (vx_MQ below (QX D x r.2 (some (.int r.1))) XF args s 8645 51870 (rng x)) (F0 m 299 ls [.int t0])) ∧ (∀ (μ : Mem) (w1 : Int64) (v3 : Int32) (ls : Array Slot) (H : Heap) (locs : List Loc), lv_has ls 5 [(0, .ref (x + 0)), (1, .long w1), (3, .int v3)] → va_P D vwCl (WL D x μ) H → va_S (rng x) s.heap H locs → fl_L_errors  n 2 μ 0 v3 w1 = some r → W p l e rmL_errors s m args below meth c H locs (1235 * (6 + 1 - n)) (7410 * (6 + 1 - n)) (vx_MQ below (QX D x r.2 (some (.int r.1))) XF args s 8645 51870 (rng x)) (F0 m 228 ls [])) ∧ (∀ (μ : Mem) (w1 : Int64) (t0 : Int32) (ls : Array Slot) (H : Heap) (locs : List Loc), lv_has ls 5 [(0, .ref (x + 0)), (1, .long w1)] → va_P D vwCl (WL D x μ) H → va_S (rng x) s.heap H locs → fl_L_errors  n 3 μ t0 0 w1 = some r → W p l e rmL_errors s m args below meth c H locs (1235 * (6 + 1 - n)) (7410 * (6 + 1 - n)) (vx_MQ below (QX D x r.2 (some (.int r.1))) XF args s 8645 51870 (rng x)) (F0 m 588 ls [.int t0])) ∧ (∀ (μ : Mem) (w1 : Int64) (ls : Array Slot) (H : Heap) (locs : List Loc), lv_has ls 5 [(0, .ref (x + 0)), (1, .long w1)] → va_P D vwCl (WL D x μ) H → va_S (rng x) s.heap H locs → fl_L_errors  n 4 μ 0 0 w1 = some r → W p l e rmL_errors s m args below meth c H locs (1235 * (6 + 1 - n)) (7410 * (6 + 1 - n)) (vx_MQ below (QX D x r.2 (some (.int r.1))) XF args s 8645 51870 (rng x)) (F0 m 504 ls [])) := by
    intro n
    induction n with
    | zero => intro _; exact ⟨(fun _ _ _ _ _ _ _ _ _ _ h => nomatch h), (fun _ _ _ _ _ _ _ _ _ h => nomatch h), (fun _ _ _ _ _ _ _ _ _ h => nomatch h), (fun _ _ _ _ _ _ _ _ h => nomatch h)⟩
    | succ n ih =>
      intro hn
      have ih := ih (by omega)
      refine ⟨?_, ?_, ?_, ?_⟩
      · intro μ w1 v3 t0  ls H locs hl hP hS hf
        have hf : fb_L_errors_1  (fl_L_errors  n) μ t0 v3 w1 = some r := hf
        unfold fb_L_errors_1 at hf
        refine lv_istore F.1 F.2.1 dL_errors_299 hl (Nat.le_of_ble_eq_true rfl) rfl (fun ls hl => ?_)
        have hl : lv_has ls 5 [(4, .int t0), (0, .ref (x + 0)), (1, .long w1), (3, .int v3)] := hl
        refine lv_iload F.1 F.2.1 dL_errors_301 (lv_at hl 0 rfl) ?_
        refine lv_if_eq (tgt := 587) F.1 F.2.1 dL_errors_303 rfl (fun hc53 => ?_) (fun hc53 => ?_)
        · have hf := ifp hc53 hf
          refine lv_iconst (v := (0 : Int32)) F.1 F.2.1 dL_errors_587 (by decide) ?_
          refine W.widen (k := 1235 * (6 + 1 - n)) (n := 7410 * (6 + 1 - n)) (by omega) (by omega) ?_
          exact ih.2.2.1 μ w1 (0 : Int32) _ _ _ (lv_sub hl [1, 2] rfl) hP hS hf
        · have hf := ifn hc53 hf
          refine lv_aload_n F.1 F.2.1 dL_errors_306 rfl (lv_at hl 1 rfl) ?_
          refine lv_iload_n F.1 F.2.1 dL_errors_307 rfl (lv_at hl 3 rfl) ?_
          refine lv_iconst (v := (0 : Int32)) F.1 F.2.1 dL_errors_308 (by decide) ?_
          obtain ⟨r54, hr55, hf⟩ := bnd hf
          refine a_H F hK (fun _ hU hW => sl_U hG hS hU hW) (fun _ h => h) hP hS (c_L_tube hlt v3 (0 : Int32) hr55) (vx_cwSW 3 F.2.2.2.2 gB_errors_L_tube rfl rfl rfl hd_L_tube ⟨(Nat.le_of_ble_eq_true rfl), (Nat.le_of_ble_eq_true rfl)⟩) rfl rfl hl.1 (Nat.le_of_ble_eq_true rfl) dL_errors_309 ⟨(by show _ ≤ 8645; omega), (by show _ ≤ 51870; omega)⟩ (rest := []) (fun H locs hP hS _ => ?_)
          refine W.eq (g2 := F0 m 312 ls [.long r54.1]) rfl ?_
          refine lv_ldc2 (v := (-9000000000000000001 : Int64)) F.1 F.2.1 F.2.2.2.1 (F.2.2.2.2 _ (List.mem_of_getElem? (i := 136) rfl)) dL_errors_312 ?_
          refine W.lcmp F.1 F.2.1 dL_errors_315 ?_
          refine lv_if_ne (tgt := 587) F.1 F.2.1 dL_errors_316 rfl (fun hc56 => ?_) (fun hc56 => ?_)
          · have hf := ifn hc56 hf
            refine lv_iconst (v := (0 : Int32)) F.1 F.2.1 dL_errors_587 (by decide) ?_
            refine W.widen (k := 1235 * (6 + 1 - n)) (n := 7410 * (6 + 1 - n)) (by omega) (by omega) ?_
            exact ih.2.2.1 r54.2 w1 (0 : Int32) _ _ _ (lv_sub hl [1, 2] rfl) hP hS hf
          · have hf := ifp hc56 hf
            refine lv_aload_n F.1 F.2.1 dL_errors_319 rfl (lv_at hl 1 rfl) ?_
            refine lv_iload_n F.1 F.2.1 dL_errors_320 rfl (lv_at hl 3 rfl) ?_
            refine lv_iconst (v := (0 : Int32)) F.1 F.2.1 dL_errors_321 (by decide) ?_
            obtain ⟨r57, hr58, hf⟩ := bnd hf
            refine a_H F hK (fun _ hU hW => sl_U hG hS hU hW) (fun _ h => h) hP hS (c_L_pipe hlt v3 (0 : Int32) hr58) (vx_cwSW 3 F.2.2.2.2 gB_errors_L_pipe rfl rfl rfl hd_L_pipe ⟨(Nat.le_of_ble_eq_true rfl), (Nat.le_of_ble_eq_true rfl)⟩) rfl rfl hl.1 (Nat.le_of_ble_eq_true rfl) dL_errors_322 ⟨(by show _ ≤ 8645; omega), (by show _ ≤ 51870; omega)⟩ (rest := []) (fun H locs hP hS _ => ?_)
            refine W.eq (g2 := F0 m 325 ls [.long r57.1]) rfl ?_
            refine lv_ldc2 (v := (-9000000000000000001 : Int64)) F.1 F.2.1 F.2.2.2.1 (F.2.2.2.2 _ (List.mem_of_getElem? (i := 136) rfl)) dL_errors_325 ?_
            refine W.lcmp F.1 F.2.1 dL_errors_328 ?_
            refine lv_if_ne (tgt := 587) F.1 F.2.1 dL_errors_329 rfl (fun hc59 => ?_) (fun hc59 => ?_)
            · have hf := ifn hc59 hf
              refine lv_iconst (v := (0 : Int32)) F.1 F.2.1 dL_errors_587 (by decide) ?_
              refine W.widen (k := 1235 * (6 + 1 - n)) (n := 7410 * (6 + 1 - n)) (by omega) (by omega) ?_
              exact ih.2.2.1 r57.2 w1 (0 : Int32) _ _ _ (lv_sub hl [1, 2] rfl) hP hS hf
            · have hf := ifp hc59 hf
              refine lv_aload_n F.1 F.2.1 dL_errors_332 rfl (lv_at hl 1 rfl) ?_
              refine lv_iload_n F.1 F.2.1 dL_errors_333 rfl (lv_at hl 3 rfl) ?_
              refine lv_bipush (v := (21 : Int32)) F.1 F.2.1 dL_errors_334 (by decide) ?_
              obtain ⟨r60, hr61, hf⟩ := bnd hf
              refine a_H F hK (fun _ hU hW => sl_U hG hS hU hW) (fun _ h => h) hP hS (c_L_fence hlt v3 (21 : Int32) hr61) (vx_cwSW 3 F.2.2.2.2 gB_errors_L_fence rfl rfl rfl hd_L_fence ⟨(Nat.le_of_ble_eq_true rfl), (Nat.le_of_ble_eq_true rfl)⟩) rfl rfl hl.1 (Nat.le_of_ble_eq_true rfl) dL_errors_336 ⟨(by show _ ≤ 8645; omega), (by show _ ≤ 51870; omega)⟩ (rest := []) (fun H locs hP hS _ => ?_)
              refine W.eq (g2 := F0 m 339 ls [.long r60.1]) rfl ?_
              refine lv_ldc2 (v := (-9000000000000000001 : Int64)) F.1 F.2.1 F.2.2.2.1 (F.2.2.2.2 _ (List.mem_of_getElem? (i := 136) rfl)) dL_errors_339 ?_
              refine W.lcmp F.1 F.2.1 dL_errors_342 ?_
              refine lv_if_ne (tgt := 587) F.1 F.2.1 dL_errors_343 rfl (fun hc62 => ?_) (fun hc62 => ?_)
              · have hf := ifn hc62 hf
                refine lv_iconst (v := (0 : Int32)) F.1 F.2.1 dL_errors_587 (by decide) ?_
                refine W.widen (k := 1235 * (6 + 1 - n)) (n := 7410 * (6 + 1 - n)) (by omega) (by omega) ?_
                exact ih.2.2.1 r60.2 w1 (0 : Int32) _ _ _ (lv_sub hl [1, 2] rfl) hP hS hf
              · have hf := ifp hc62 hf
                refine lv_aload_n F.1 F.2.1 dL_errors_346 rfl (lv_at hl 1 rfl) ?_
                refine lv_iload_n F.1 F.2.1 dL_errors_347 rfl (lv_at hl 3 rfl) ?_
                obtain ⟨r63, hr64, hf⟩ := bnd hf
                refine a_H F hK (fun _ hU hW => sl_U hG hS hU hW) (fun _ h => h) hP hS (c_L_shovel hlt v3 hr64) (vx_cwSW 2 F.2.2.2.2 gB_errors_L_shovel rfl rfl rfl hd_L_shovel ⟨(Nat.le_of_ble_eq_true rfl), (Nat.le_of_ble_eq_true rfl)⟩) rfl rfl hl.1 (Nat.le_of_ble_eq_true rfl) dL_errors_348 ⟨(by show _ ≤ 8645; omega), (by show _ ≤ 51870; omega)⟩ (rest := []) (fun H locs hP hS _ => ?_)
                refine W.eq (g2 := F0 m 351 ls [.long r63.1]) rfl ?_
                refine lv_ldc2 (v := (-9000000000000000001 : Int64)) F.1 F.2.1 F.2.2.2.1 (F.2.2.2.2 _ (List.mem_of_getElem? (i := 136) rfl)) dL_errors_351 ?_
                refine W.lcmp F.1 F.2.1 dL_errors_354 ?_
                refine lv_if_ne (tgt := 587) F.1 F.2.1 dL_errors_355 rfl (fun hc65 => ?_) (fun hc65 => ?_)
                · have hf := ifn hc65 hf
                  refine lv_iconst (v := (0 : Int32)) F.1 F.2.1 dL_errors_587 (by decide) ?_
                  refine W.widen (k := 1235 * (6 + 1 - n)) (n := 7410 * (6 + 1 - n)) (by omega) (by omega) ?_
                  exact ih.2.2.1 r63.2 w1 (0 : Int32) _ _ _ (lv_sub hl [1, 2] rfl) hP hS hf
                · have hf := ifp hc65 hf
                  refine lv_aload_n F.1 F.2.1 dL_errors_358 rfl (lv_at hl 1 rfl) ?_
                  refine lv_bipush (v := (-31 : Int32)) F.1 F.2.1 dL_errors_359 (by decide) ?_
                  refine lv_iconst (v := (0 : Int32)) F.1 F.2.1 dL_errors_361 (by decide) ?_
                  refine lv_iconst (v := (1 : Int32)) F.1 F.2.1 dL_errors_362 (by decide) ?_
                  obtain ⟨r66, hr67, hf⟩ := bnd hf
                  refine a_H F hK (fun _ hU hW => sl_U hG hS hU hW) (fun _ h => h) hP hS (c_L_days hlt (-31 : Int32) (0 : Int32) (1 : Int32) hr67) (vx_cwSW 4 F.2.2.2.2 gB_errors_L_days rfl rfl rfl hd_L_days ⟨(Nat.le_of_ble_eq_true rfl), (Nat.le_of_ble_eq_true rfl)⟩) rfl rfl hl.1 (Nat.le_of_ble_eq_true rfl) dL_errors_363 ⟨(by show _ ≤ 8645; omega), (by show _ ≤ 51870; omega)⟩ (rest := []) (fun H locs hP hS _ => ?_)
                  refine W.eq (g2 := F0 m 366 ls [.long r66.1]) rfl ?_
                  refine lv_ldc2 (v := (-9000000000000000002 : Int64)) F.1 F.2.1 F.2.2.2.1 (F.2.2.2.2 _ (List.mem_of_getElem? (i := 84) rfl)) dL_errors_366 ?_
                  refine W.lcmp F.1 F.2.1 dL_errors_369 ?_
                  refine lv_if_ne (tgt := 587) F.1 F.2.1 dL_errors_370 rfl (fun hc68 => ?_) (fun hc68 => ?_)
                  · have hf := ifn hc68 hf
                    refine lv_iconst (v := (0 : Int32)) F.1 F.2.1 dL_errors_587 (by decide) ?_
                    refine W.widen (k := 1235 * (6 + 1 - n)) (n := 7410 * (6 + 1 - n)) (by omega) (by omega) ?_
                    exact ih.2.2.1 r66.2 w1 (0 : Int32) _ _ _ (lv_sub hl [1, 2] rfl) hP hS hf
                  · have hf := ifp hc68 hf
                    refine lv_aload_n F.1 F.2.1 dL_errors_373 rfl (lv_at hl 1 rfl) ?_
                    refine lv_iconst (v := (0 : Int32)) F.1 F.2.1 dL_errors_374 (by decide) ?_
                    refine lv_iconst (v := (-1 : Int32)) F.1 F.2.1 dL_errors_375 (by decide) ?_
                    refine lv_iconst (v := (1 : Int32)) F.1 F.2.1 dL_errors_376 (by decide) ?_
                    obtain ⟨r69, hr70, hf⟩ := bnd hf
                    refine a_H F hK (fun _ hU hW => sl_U hG hS hU hW) (fun _ h => h) hP hS (c_L_days hlt (0 : Int32) (-1 : Int32) (1 : Int32) hr70) (vx_cwSW 4 F.2.2.2.2 gB_errors_L_days rfl rfl rfl hd_L_days ⟨(Nat.le_of_ble_eq_true rfl), (Nat.le_of_ble_eq_true rfl)⟩) rfl rfl hl.1 (Nat.le_of_ble_eq_true rfl) dL_errors_377 ⟨(by show _ ≤ 8645; omega), (by show _ ≤ 51870; omega)⟩ (rest := []) (fun H locs hP hS _ => ?_)
                    refine W.eq (g2 := F0 m 380 ls [.long r69.1]) rfl ?_
                    refine lv_ldc2 (v := (-9000000000000000002 : Int64)) F.1 F.2.1 F.2.2.2.1 (F.2.2.2.2 _ (List.mem_of_getElem? (i := 84) rfl)) dL_errors_380 ?_
                    refine W.lcmp F.1 F.2.1 dL_errors_383 ?_
                    refine lv_if_ne (tgt := 587) F.1 F.2.1 dL_errors_384 rfl (fun hc71 => ?_) (fun hc71 => ?_)
                    · have hf := ifn hc71 hf
                      refine lv_iconst (v := (0 : Int32)) F.1 F.2.1 dL_errors_587 (by decide) ?_
                      refine W.widen (k := 1235 * (6 + 1 - n)) (n := 7410 * (6 + 1 - n)) (by omega) (by omega) ?_
                      exact ih.2.2.1 r69.2 w1 (0 : Int32) _ _ _ (lv_sub hl [1, 2] rfl) hP hS hf
                    · have hf := ifp hc71 hf
                      refine lv_aload_n F.1 F.2.1 dL_errors_387 rfl (lv_at hl 1 rfl) ?_
                      refine lv_iconst (v := (0 : Int32)) F.1 F.2.1 dL_errors_388 (by decide) ?_
                      refine lv_iconst (v := (0 : Int32)) F.1 F.2.1 dL_errors_389 (by decide) ?_
                      refine lv_iconst (v := (0 : Int32)) F.1 F.2.1 dL_errors_390 (by decide) ?_
                      obtain ⟨r72, hr73, hf⟩ := bnd hf
                      refine a_H F hK (fun _ hU hW => sl_U hG hS hU hW) (fun _ h => h) hP hS (c_L_days hlt (0 : Int32) (0 : Int32) (0 : Int32) hr73) (vx_cwSW 4 F.2.2.2.2 gB_errors_L_days rfl rfl rfl hd_L_days ⟨(Nat.le_of_ble_eq_true rfl), (Nat.le_of_ble_eq_true rfl)⟩) rfl rfl hl.1 (Nat.le_of_ble_eq_true rfl) dL_errors_391 ⟨(by show _ ≤ 8645; omega), (by show _ ≤ 51870; omega)⟩ (rest := []) (fun H locs hP hS _ => ?_)
                      refine W.eq (g2 := F0 m 394 ls [.long r72.1]) rfl ?_
                      refine lv_ldc2 (v := (-9000000000000000002 : Int64)) F.1 F.2.1 F.2.2.2.1 (F.2.2.2.2 _ (List.mem_of_getElem? (i := 84) rfl)) dL_errors_394 ?_
                      refine W.lcmp F.1 F.2.1 dL_errors_397 ?_
                      refine lv_if_ne (tgt := 587) F.1 F.2.1 dL_errors_398 rfl (fun hc74 => ?_) (fun hc74 => ?_)
                      · have hf := ifn hc74 hf
                        refine lv_iconst (v := (0 : Int32)) F.1 F.2.1 dL_errors_587 (by decide) ?_
                        refine W.widen (k := 1235 * (6 + 1 - n)) (n := 7410 * (6 + 1 - n)) (by omega) (by omega) ?_
                        exact ih.2.2.1 r72.2 w1 (0 : Int32) _ _ _ (lv_sub hl [1, 2] rfl) hP hS hf
                      · have hf := ifp hc74 hf
                        refine lv_aload_n F.1 F.2.1 dL_errors_401 rfl (lv_at hl 1 rfl) ?_
                        refine lv_iconst (v := (0 : Int32)) F.1 F.2.1 dL_errors_402 (by decide) ?_
                        refine lv_bipush (v := (31 : Int32)) F.1 F.2.1 dL_errors_403 (by decide) ?_
                        obtain ⟨r75, hr76, hf⟩ := bnd hf
                        refine a_H F hK (fun _ hU hW => sl_U hG hS hU hW) (fun _ h => h) hP hS (c_L_set hlt (0 : Int32) (31 : Int32) hr76) (vx_cwSW 3 F.2.2.2.2 gB_errors_L_set rfl rfl rfl hd_L_set ⟨(Nat.le_of_ble_eq_true rfl), (Nat.le_of_ble_eq_true rfl)⟩) rfl rfl hl.1 (Nat.le_of_ble_eq_true rfl) dL_errors_405 ⟨(by show _ ≤ 8645; omega), (by show _ ≤ 51870; omega)⟩ (rest := []) (fun H locs hP hS _ => ?_)
                        refine W.eq (g2 := F0 m 408 ls [.long r75.1]) rfl ?_
                        refine lv_ldc2 (v := (-9000000000000000002 : Int64)) F.1 F.2.1 F.2.2.2.1 (F.2.2.2.2 _ (List.mem_of_getElem? (i := 84) rfl)) dL_errors_408 ?_
                        refine W.lcmp F.1 F.2.1 dL_errors_411 ?_
                        refine lv_if_ne (tgt := 587) F.1 F.2.1 dL_errors_412 rfl (fun hc77 => ?_) (fun hc77 => ?_)
                        · have hf := ifn hc77 hf
                          refine lv_iconst (v := (0 : Int32)) F.1 F.2.1 dL_errors_587 (by decide) ?_
                          refine W.widen (k := 1235 * (6 + 1 - n)) (n := 7410 * (6 + 1 - n)) (by omega) (by omega) ?_
                          exact ih.2.2.1 r75.2 w1 (0 : Int32) _ _ _ (lv_sub hl [1, 2] rfl) hP hS hf
                        · have hf := ifp hc77 hf
                          refine lv_aload_n F.1 F.2.1 dL_errors_415 rfl (lv_at hl 1 rfl) ?_
                          refine lv_iconst (v := (1 : Int32)) F.1 F.2.1 dL_errors_416 (by decide) ?_
                          refine lv_bipush (v := (10 : Int32)) F.1 F.2.1 dL_errors_417 (by decide) ?_
                          obtain ⟨r78, hr79, hf⟩ := bnd hf
                          refine a_H F hK (fun _ hU hW => sl_U hG hS hU hW) (fun _ h => h) hP hS (c_L_set hlt (1 : Int32) (10 : Int32) hr79) (vx_cwSW 3 F.2.2.2.2 gB_errors_L_set rfl rfl rfl hd_L_set ⟨(Nat.le_of_ble_eq_true rfl), (Nat.le_of_ble_eq_true rfl)⟩) rfl rfl hl.1 (Nat.le_of_ble_eq_true rfl) dL_errors_419 ⟨(by show _ ≤ 8645; omega), (by show _ ≤ 51870; omega)⟩ (rest := []) (fun H locs hP hS _ => ?_)
                          refine W.eq (g2 := F0 m 422 ls [.long r78.1]) rfl ?_
                          refine lv_ldc2 (v := (-9000000000000000002 : Int64)) F.1 F.2.1 F.2.2.2.1 (F.2.2.2.2 _ (List.mem_of_getElem? (i := 84) rfl)) dL_errors_422 ?_
                          refine W.lcmp F.1 F.2.1 dL_errors_425 ?_
                          refine lv_if_ne (tgt := 587) F.1 F.2.1 dL_errors_426 rfl (fun hc80 => ?_) (fun hc80 => ?_)
                          · have hf := ifn hc80 hf
                            refine lv_iconst (v := (0 : Int32)) F.1 F.2.1 dL_errors_587 (by decide) ?_
                            refine W.widen (k := 1235 * (6 + 1 - n)) (n := 7410 * (6 + 1 - n)) (by omega) (by omega) ?_
                            exact ih.2.2.1 r78.2 w1 (0 : Int32) _ _ _ (lv_sub hl [1, 2] rfl) hP hS hf
                          · have hf := ifp hc80 hf
                            refine lv_aload_n F.1 F.2.1 dL_errors_429 rfl (lv_at hl 1 rfl) ?_
                            refine lv_iconst (v := (2 : Int32)) F.1 F.2.1 dL_errors_430 (by decide) ?_
                            refine lv_bipush (v := (51 : Int32)) F.1 F.2.1 dL_errors_431 (by decide) ?_
                            obtain ⟨r81, hr82, hf⟩ := bnd hf
                            refine a_H F hK (fun _ hU hW => sl_U hG hS hU hW) (fun _ h => h) hP hS (c_L_set hlt (2 : Int32) (51 : Int32) hr82) (vx_cwSW 3 F.2.2.2.2 gB_errors_L_set rfl rfl rfl hd_L_set ⟨(Nat.le_of_ble_eq_true rfl), (Nat.le_of_ble_eq_true rfl)⟩) rfl rfl hl.1 (Nat.le_of_ble_eq_true rfl) dL_errors_433 ⟨(by show _ ≤ 8645; omega), (by show _ ≤ 51870; omega)⟩ (rest := []) (fun H locs hP hS _ => ?_)
                            refine W.eq (g2 := F0 m 436 ls [.long r81.1]) rfl ?_
                            refine lv_ldc2 (v := (-9000000000000000002 : Int64)) F.1 F.2.1 F.2.2.2.1 (F.2.2.2.2 _ (List.mem_of_getElem? (i := 84) rfl)) dL_errors_436 ?_
                            refine W.lcmp F.1 F.2.1 dL_errors_439 ?_
                            refine lv_if_ne (tgt := 587) F.1 F.2.1 dL_errors_440 rfl (fun hc83 => ?_) (fun hc83 => ?_)
                            · have hf := ifn hc83 hf
                              refine lv_iconst (v := (0 : Int32)) F.1 F.2.1 dL_errors_587 (by decide) ?_
                              refine W.widen (k := 1235 * (6 + 1 - n)) (n := 7410 * (6 + 1 - n)) (by omega) (by omega) ?_
                              exact ih.2.2.1 r81.2 w1 (0 : Int32) _ _ _ (lv_sub hl [1, 2] rfl) hP hS hf
                            · have hf := ifp hc83 hf
                              refine lv_aload_n F.1 F.2.1 dL_errors_443 rfl (lv_at hl 1 rfl) ?_
                              refine lv_iconst (v := (-1 : Int32)) F.1 F.2.1 dL_errors_444 (by decide) ?_
                              refine lv_iconst (v := (5 : Int32)) F.1 F.2.1 dL_errors_445 (by decide) ?_
                              obtain ⟨r84, hr85, hf⟩ := bnd hf
                              refine a_H F hK (fun _ hU hW => sl_U hG hS hU hW) (fun _ h => h) hP hS (c_L_set hlt (-1 : Int32) (5 : Int32) hr85) (vx_cwSW 3 F.2.2.2.2 gB_errors_L_set rfl rfl rfl hd_L_set ⟨(Nat.le_of_ble_eq_true rfl), (Nat.le_of_ble_eq_true rfl)⟩) rfl rfl hl.1 (Nat.le_of_ble_eq_true rfl) dL_errors_446 ⟨(by show _ ≤ 8645; omega), (by show _ ≤ 51870; omega)⟩ (rest := []) (fun H locs hP hS _ => ?_)
                              refine W.eq (g2 := F0 m 449 ls [.long r84.1]) rfl ?_
                              refine lv_ldc2 (v := (-9000000000000000002 : Int64)) F.1 F.2.1 F.2.2.2.1 (F.2.2.2.2 _ (List.mem_of_getElem? (i := 84) rfl)) dL_errors_449 ?_
                              refine W.lcmp F.1 F.2.1 dL_errors_452 ?_
                              refine lv_if_ne (tgt := 587) F.1 F.2.1 dL_errors_453 rfl (fun hc86 => ?_) (fun hc86 => ?_)
                              · have hf := ifn hc86 hf
                                refine lv_iconst (v := (0 : Int32)) F.1 F.2.1 dL_errors_587 (by decide) ?_
                                refine W.widen (k := 1235 * (6 + 1 - n)) (n := 7410 * (6 + 1 - n)) (by omega) (by omega) ?_
                                exact ih.2.2.1 r84.2 w1 (0 : Int32) _ _ _ (lv_sub hl [1, 2] rfl) hP hS hf
                              · have hf := ifp hc86 hf
                                refine lv_aload_n F.1 F.2.1 dL_errors_456 rfl (lv_at hl 1 rfl) ?_
                                refine lv_iload_n F.1 F.2.1 dL_errors_457 rfl (lv_at hl 3 rfl) ?_
                                refine lv_iconst (v := (1 : Int32)) F.1 F.2.1 dL_errors_458 (by decide) ?_
                                obtain ⟨r87, hr88, hf⟩ := bnd hf
                                refine a_H F hK (fun _ hU hW => sl_U hG hS hU hW) (fun _ h => h) hP hS (c_L_goneIn hlt v3 (1 : Int32) hr88) (vx_cwSW 3 F.2.2.2.2 gB_errors_L_goneIn rfl rfl rfl hd_L_goneIn ⟨(Nat.le_of_ble_eq_true rfl), (Nat.le_of_ble_eq_true rfl)⟩) rfl rfl hl.1 (Nat.le_of_ble_eq_true rfl) dL_errors_459 ⟨(by show _ ≤ 8645; omega), (by show _ ≤ 51870; omega)⟩ (rest := []) (fun H locs hP hS _ => ?_)
                                refine W.eq (g2 := F0 m 462 ls [.long r87.1]) rfl ?_
                                refine lv_ldc2 (v := (-9000000000000000001 : Int64)) F.1 F.2.1 F.2.2.2.1 (F.2.2.2.2 _ (List.mem_of_getElem? (i := 136) rfl)) dL_errors_462 ?_
                                refine W.lcmp F.1 F.2.1 dL_errors_465 ?_
                                refine lv_if_ne (tgt := 587) F.1 F.2.1 dL_errors_466 rfl (fun hc89 => ?_) (fun hc89 => ?_)
                                · have hf := ifn hc89 hf
                                  refine lv_iconst (v := (0 : Int32)) F.1 F.2.1 dL_errors_587 (by decide) ?_
                                  refine W.widen (k := 1235 * (6 + 1 - n)) (n := 7410 * (6 + 1 - n)) (by omega) (by omega) ?_
                                  exact ih.2.2.1 r87.2 w1 (0 : Int32) _ _ _ (lv_sub hl [1, 2] rfl) hP hS hf
                                · have hf := ifp hc89 hf
                                  refine lv_aload_n F.1 F.2.1 dL_errors_469 rfl (lv_at hl 1 rfl) ?_
                                  refine lv_aload_n F.1 F.2.1 dL_errors_470 rfl (lv_at hl 1 rfl) ?_
                                  refine lv_iconst (v := (2 : Int32)) F.1 F.2.1 dL_errors_471 (by decide) ?_
                                  obtain ⟨r90, hr91, hf⟩ := bnd hf
                                  refine a_H F hK (fun _ hU hW => sl_U hG hS hU hW) (fun _ h => h) hP hS (c_L_about hlt (2 : Int32) hr91) (vx_cwSW 2 F.2.2.2.2 gB_errors_L_about rfl rfl rfl hd_L_about ⟨(Nat.le_of_ble_eq_true rfl), (Nat.le_of_ble_eq_true rfl)⟩) rfl rfl hl.1 (Nat.le_of_ble_eq_true rfl) dL_errors_472 ⟨(by show _ ≤ 8645; omega), (by show _ ≤ 51870; omega)⟩ (rest := [.ref (x + 0)]) (fun H locs hP hS _ => ?_)
                                  refine W.eq (g2 := F0 m 475 ls [.long r90, .ref (x + 0)]) rfl ?_
                                  refine lv_l2i (v := r90.toInt32) F.1 F.2.1 dL_errors_475 rfl ?_
                                  refine lv_iconst (v := (0 : Int32)) F.1 F.2.1 dL_errors_476 (by decide) ?_
                                  refine lv_iconst (v := (1 : Int32)) F.1 F.2.1 dL_errors_477 (by decide) ?_
                                  obtain ⟨r92, hr93, hf⟩ := bnd hf
                                  refine a_H F hK (fun _ hU hW => sl_U hG hS hU hW) (fun _ h => h) hP hS (c_L_heaveIn hlt r90.toInt32 (0 : Int32) (1 : Int32) hr93) (vx_cwSW 4 F.2.2.2.2 gB_errors_L_heaveIn rfl rfl rfl hd_L_heaveIn ⟨(Nat.le_of_ble_eq_true rfl), (Nat.le_of_ble_eq_true rfl)⟩) rfl rfl hl.1 (Nat.le_of_ble_eq_true rfl) dL_errors_478 ⟨(by show _ ≤ 8645; omega), (by show _ ≤ 51870; omega)⟩ (rest := []) (fun H locs hP hS _ => ?_)
                                  refine W.eq (g2 := F0 m 481 ls [.long r92.1]) rfl ?_
                                  refine lv_ldc2 (v := (-9000000000000000001 : Int64)) F.1 F.2.1 F.2.2.2.1 (F.2.2.2.2 _ (List.mem_of_getElem? (i := 136) rfl)) dL_errors_481 ?_
                                  refine W.lcmp F.1 F.2.1 dL_errors_484 ?_
                                  refine lv_if_ne (tgt := 587) F.1 F.2.1 dL_errors_485 rfl (fun hc94 => ?_) (fun hc94 => ?_)
                                  · have hf := ifn hc94 hf
                                    refine lv_iconst (v := (0 : Int32)) F.1 F.2.1 dL_errors_587 (by decide) ?_
                                    refine W.widen (k := 1235 * (6 + 1 - n)) (n := 7410 * (6 + 1 - n)) (by omega) (by omega) ?_
                                    exact ih.2.2.1 r92.2 w1 (0 : Int32) _ _ _ (lv_sub hl [1, 2] rfl) hP hS hf
                                  · have hf := ifp hc94 hf
                                    refine lv_iload_n F.1 F.2.1 dL_errors_488 rfl (lv_at hl 3 rfl) ?_
                                    refine lv_iconst (v := (4 : Int32)) F.1 F.2.1 dL_errors_489 (by decide) ?_
                                    refine lv_icmp_lt (tgt := 504) F.1 F.2.1 dL_errors_490 rfl (fun hc95 => ?_) (fun hc95 => ?_)
                                    · have hf := ifp hc95 hf
                                      refine W.widen (k := 1235 * (6 + 1 - n)) (n := 7410 * (6 + 1 - n)) (by omega) (by omega) ?_
                                      exact ih.2.2.2 r92.2 w1 _ _ _ (lv_sub hl [1, 2] rfl) hP hS hf
                                    · have hf := ifn hc95 hf
                                      refine lv_aload_n F.1 F.2.1 dL_errors_493 rfl (lv_at hl 1 rfl) ?_
                                      obtain ⟨r96, hr97, hf⟩ := bnd hf
                                      refine a_H F hK (fun _ hU hW => sl_U hG hS hU hW) (fun _ h => h) hP hS (c_L_site hlt hr97) (vx_cwSW 1 F.2.2.2.2 gB_errors_L_site rfl rfl rfl hd_L_site ⟨(Nat.le_of_ble_eq_true rfl), (Nat.le_of_ble_eq_true rfl)⟩) rfl rfl hl.1 (Nat.le_of_ble_eq_true rfl) dL_errors_494 ⟨(by show _ ≤ 8645; omega), (by show _ ≤ 51870; omega)⟩ (rest := []) (fun H locs hP hS _ => ?_)
                                      refine W.eq (g2 := F0 m 497 ls [.long r96.1]) rfl ?_
                                      refine lv_ldc2 (v := (-9000000000000000003 : Int64)) F.1 F.2.1 F.2.2.2.1 (F.2.2.2.2 _ (List.mem_of_getElem? (i := 418) rfl)) dL_errors_497 ?_
                                      refine W.lcmp F.1 F.2.1 dL_errors_500 ?_
                                      refine lv_if_ne (tgt := 587) F.1 F.2.1 dL_errors_501 rfl (fun hc98 => ?_) (fun hc98 => ?_)
                                      · have hf := ifn hc98 hf
                                        refine lv_iconst (v := (0 : Int32)) F.1 F.2.1 dL_errors_587 (by decide) ?_
                                        refine W.widen (k := 1235 * (6 + 1 - n)) (n := 7410 * (6 + 1 - n)) (by omega) (by omega) ?_
                                        exact ih.2.2.1 r96.2 w1 (0 : Int32) _ _ _ (lv_sub hl [1, 2] rfl) hP hS hf
                                      · have hf := ifp hc98 hf
                                        refine W.widen (k := 1235 * (6 + 1 - n)) (n := 7410 * (6 + 1 - n)) (by omega) (by omega) ?_
                                        exact ih.2.2.2 r96.2 w1 _ _ _ (lv_sub hl [1, 2] rfl) hP hS hf
      · intro μ w1 v3  ls H locs hl hP hS hf
        have hf : fb_L_errors_2  (fl_L_errors  n) μ 0 v3 w1 = some r := hf
        unfold fb_L_errors_2 at hf
        refine lv_aload_n F.1 F.2.1 dL_errors_228 rfl (lv_at hl 0 rfl) ?_
        refine lv_aload_n F.1 F.2.1 dL_errors_229 rfl (lv_at hl 0 rfl) ?_
        refine lv_iconst (v := (1 : Int32)) F.1 F.2.1 dL_errors_230 (by decide) ?_
        obtain ⟨r99, hr100, hf⟩ := bnd hf
        refine a_H F hK (fun _ hU hW => sl_U hG hS hU hW) (fun _ h => h) hP hS (c_L_about hlt (1 : Int32) hr100) (vx_cwSW 2 F.2.2.2.2 gB_errors_L_about rfl rfl rfl hd_L_about ⟨(Nat.le_of_ble_eq_true rfl), (Nat.le_of_ble_eq_true rfl)⟩) rfl rfl hl.1 (Nat.le_of_ble_eq_true rfl) dL_errors_231 ⟨(by show _ ≤ 8645; omega), (by show _ ≤ 51870; omega)⟩ (rest := [.ref (x + 0)]) (fun H locs hP hS _ => ?_)
        refine W.eq (g2 := F0 m 234 ls [.long r99, .ref (x + 0)]) rfl ?_
        refine lv_l2i (v := r99.toInt32) F.1 F.2.1 dL_errors_234 rfl ?_
        refine lv_bipush (v := (6 : Int32)) F.1 F.2.1 dL_errors_235 (by decide) ?_
        obtain ⟨r101, hr102, hf⟩ := bnd hf
        refine a_H F hK (fun _ hU hW => sl_U hG hS hU hW) (fun _ h => h) hP hS (c_L_tubeOf hlt r99.toInt32 (6 : Int32) hr102) (vx_cwSW 3 F.2.2.2.2 gB_errors_L_tubeOf rfl rfl rfl hd_L_tubeOf ⟨(Nat.le_of_ble_eq_true rfl), (Nat.le_of_ble_eq_true rfl)⟩) rfl rfl hl.1 (Nat.le_of_ble_eq_true rfl) dL_errors_237 ⟨(by show _ ≤ 8645; omega), (by show _ ≤ 51870; omega)⟩ (rest := []) (fun H locs hP hS _ => ?_)
        refine W.eq (g2 := F0 m 240 ls [.long r101]) rfl ?_
        refine lv_ldc2 (v := (-9000000000000000001 : Int64)) F.1 F.2.1 F.2.2.2.1 (F.2.2.2.2 _ (List.mem_of_getElem? (i := 136) rfl)) dL_errors_240 ?_
        refine W.lcmp F.1 F.2.1 dL_errors_243 ?_
        refine lv_if_ne (tgt := 298) F.1 F.2.1 dL_errors_244 rfl (fun hc103 => ?_) (fun hc103 => ?_)
        · have hf := ifn hc103 hf
          refine lv_iconst (v := (0 : Int32)) F.1 F.2.1 dL_errors_298 (by decide) ?_
          refine W.widen (k := 1235 * (6 + 1 - n)) (n := 7410 * (6 + 1 - n)) (by omega) (by omega) ?_
          exact ih.1 μ w1 v3 (0 : Int32) _ _ _ (lv_sub hl [0, 1, 2] rfl) hP hS hf
        · have hf := ifp hc103 hf
          refine lv_aload_n F.1 F.2.1 dL_errors_247 rfl (lv_at hl 0 rfl) ?_
          refine lv_aload_n F.1 F.2.1 dL_errors_248 rfl (lv_at hl 0 rfl) ?_
          refine lv_iconst (v := (2 : Int32)) F.1 F.2.1 dL_errors_249 (by decide) ?_
          obtain ⟨r104, hr105, hf⟩ := bnd hf
          refine a_H F hK (fun _ hU hW => sl_U hG hS hU hW) (fun _ h => h) hP hS (c_L_about hlt (2 : Int32) hr105) (vx_cwSW 2 F.2.2.2.2 gB_errors_L_about rfl rfl rfl hd_L_about ⟨(Nat.le_of_ble_eq_true rfl), (Nat.le_of_ble_eq_true rfl)⟩) rfl rfl hl.1 (Nat.le_of_ble_eq_true rfl) dL_errors_250 ⟨(by show _ ≤ 8645; omega), (by show _ ≤ 51870; omega)⟩ (rest := [.ref (x + 0)]) (fun H locs hP hS _ => ?_)
          refine W.eq (g2 := F0 m 253 ls [.long r104, .ref (x + 0)]) rfl ?_
          refine lv_l2i (v := r104.toInt32) F.1 F.2.1 dL_errors_253 rfl ?_
          refine lv_iconst (v := (5 : Int32)) F.1 F.2.1 dL_errors_254 (by decide) ?_
          obtain ⟨r106, hr107, hf⟩ := bnd hf
          refine a_H F hK (fun _ hU hW => sl_U hG hS hU hW) (fun _ h => h) hP hS (c_L_pipeOf hlt r104.toInt32 (5 : Int32) hr107) (vx_cwSW 3 F.2.2.2.2 gB_errors_L_pipeOf rfl rfl rfl hd_L_pipeOf ⟨(Nat.le_of_ble_eq_true rfl), (Nat.le_of_ble_eq_true rfl)⟩) rfl rfl hl.1 (Nat.le_of_ble_eq_true rfl) dL_errors_255 ⟨(by show _ ≤ 8645; omega), (by show _ ≤ 51870; omega)⟩ (rest := []) (fun H locs hP hS _ => ?_)
          refine W.eq (g2 := F0 m 258 ls [.long r106]) rfl ?_
          refine lv_ldc2 (v := (-9000000000000000001 : Int64)) F.1 F.2.1 F.2.2.2.1 (F.2.2.2.2 _ (List.mem_of_getElem? (i := 136) rfl)) dL_errors_258 ?_
          refine W.lcmp F.1 F.2.1 dL_errors_261 ?_
          refine lv_if_ne (tgt := 298) F.1 F.2.1 dL_errors_262 rfl (fun hc108 => ?_) (fun hc108 => ?_)
          · have hf := ifn hc108 hf
            refine lv_iconst (v := (0 : Int32)) F.1 F.2.1 dL_errors_298 (by decide) ?_
            refine W.widen (k := 1235 * (6 + 1 - n)) (n := 7410 * (6 + 1 - n)) (by omega) (by omega) ?_
            exact ih.1 μ w1 v3 (0 : Int32) _ _ _ (lv_sub hl [0, 1, 2] rfl) hP hS hf
          · have hf := ifp hc108 hf
            refine lv_aload_n F.1 F.2.1 dL_errors_265 rfl (lv_at hl 0 rfl) ?_
            refine lv_aload_n F.1 F.2.1 dL_errors_266 rfl (lv_at hl 0 rfl) ?_
            refine lv_iconst (v := (4 : Int32)) F.1 F.2.1 dL_errors_267 (by decide) ?_
            obtain ⟨r109, hr110, hf⟩ := bnd hf
            refine a_H F hK (fun _ hU hW => sl_U hG hS hU hW) (fun _ h => h) hP hS (c_L_about hlt (4 : Int32) hr110) (vx_cwSW 2 F.2.2.2.2 gB_errors_L_about rfl rfl rfl hd_L_about ⟨(Nat.le_of_ble_eq_true rfl), (Nat.le_of_ble_eq_true rfl)⟩) rfl rfl hl.1 (Nat.le_of_ble_eq_true rfl) dL_errors_268 ⟨(by show _ ≤ 8645; omega), (by show _ ≤ 51870; omega)⟩ (rest := [.ref (x + 0)]) (fun H locs hP hS _ => ?_)
            refine W.eq (g2 := F0 m 271 ls [.long r109, .ref (x + 0)]) rfl ?_
            refine lv_l2i (v := r109.toInt32) F.1 F.2.1 dL_errors_271 rfl ?_
            obtain ⟨r111, hr112, hf⟩ := bnd hf
            refine a_H F hK (fun _ hU hW => sl_U hG hS hU hW) (fun _ h => h) hP hS (c_L_oldest hlt r109.toInt32 hr112) (vx_cwSW 2 F.2.2.2.2 gB_errors_L_oldest rfl rfl rfl hd_L_oldest ⟨(Nat.le_of_ble_eq_true rfl), (Nat.le_of_ble_eq_true rfl)⟩) rfl rfl hl.1 (Nat.le_of_ble_eq_true rfl) dL_errors_272 ⟨(by show _ ≤ 8645; omega), (by show _ ≤ 51870; omega)⟩ (rest := []) (fun H locs hP hS _ => ?_)
            refine W.eq (g2 := F0 m 275 ls [.long r111]) rfl ?_
            refine lv_ldc2 (v := (-9000000000000000001 : Int64)) F.1 F.2.1 F.2.2.2.1 (F.2.2.2.2 _ (List.mem_of_getElem? (i := 136) rfl)) dL_errors_275 ?_
            refine W.lcmp F.1 F.2.1 dL_errors_278 ?_
            refine lv_if_ne (tgt := 298) F.1 F.2.1 dL_errors_279 rfl (fun hc113 => ?_) (fun hc113 => ?_)
            · have hf := ifn hc113 hf
              refine lv_iconst (v := (0 : Int32)) F.1 F.2.1 dL_errors_298 (by decide) ?_
              refine W.widen (k := 1235 * (6 + 1 - n)) (n := 7410 * (6 + 1 - n)) (by omega) (by omega) ?_
              exact ih.1 μ w1 v3 (0 : Int32) _ _ _ (lv_sub hl [0, 1, 2] rfl) hP hS hf
            · have hf := ifp hc113 hf
              refine lv_aload_n F.1 F.2.1 dL_errors_282 rfl (lv_at hl 0 rfl) ?_
              refine lv_iconst (v := (-1 : Int32)) F.1 F.2.1 dL_errors_283 (by decide) ?_
              obtain ⟨r114, hr115, hf⟩ := bnd hf
              refine a_H F hK (fun _ hU hW => sl_U hG hS hU hW) (fun _ h => h) hP hS (c_L_oldest hlt (-1 : Int32) hr115) (vx_cwSW 2 F.2.2.2.2 gB_errors_L_oldest rfl rfl rfl hd_L_oldest ⟨(Nat.le_of_ble_eq_true rfl), (Nat.le_of_ble_eq_true rfl)⟩) rfl rfl hl.1 (Nat.le_of_ble_eq_true rfl) dL_errors_284 ⟨(by show _ ≤ 8645; omega), (by show _ ≤ 51870; omega)⟩ (rest := []) (fun H locs hP hS _ => ?_)
              refine W.eq (g2 := F0 m 287 ls [.long r114]) rfl ?_
              refine lv_ldc2 (v := (-9000000000000000001 : Int64)) F.1 F.2.1 F.2.2.2.1 (F.2.2.2.2 _ (List.mem_of_getElem? (i := 136) rfl)) dL_errors_287 ?_
              refine W.lcmp F.1 F.2.1 dL_errors_290 ?_
              refine lv_if_ne (tgt := 298) F.1 F.2.1 dL_errors_291 rfl (fun hc116 => ?_) (fun hc116 => ?_)
              · have hf := ifn hc116 hf
                refine lv_iconst (v := (0 : Int32)) F.1 F.2.1 dL_errors_298 (by decide) ?_
                refine W.widen (k := 1235 * (6 + 1 - n)) (n := 7410 * (6 + 1 - n)) (by omega) (by omega) ?_
                exact ih.1 μ w1 v3 (0 : Int32) _ _ _ (lv_sub hl [0, 1, 2] rfl) hP hS hf
              · have hf := ifp hc116 hf
                refine lv_iconst (v := (1 : Int32)) F.1 F.2.1 dL_errors_294 (by decide) ?_
                refine lv_goto (tgt := 299) F.1 F.2.1 dL_errors_295 rfl ?_
                refine W.widen (k := 1235 * (6 + 1 - n)) (n := 7410 * (6 + 1 - n)) (by omega) (by omega) ?_
                exact ih.1 μ w1 v3 (1 : Int32) _ _ _ (lv_sub hl [0, 1, 2] rfl) hP hS hf
      · intro μ w1 t0  ls H locs hl hP hS hf
        have hf : fb_L_errors_3  (fl_L_errors  n) μ t0 0 w1 = some r := hf
        unfold fb_L_errors_3 at hf
        refine lv_istore F.1 F.2.1 dL_errors_588 hl (Nat.le_of_ble_eq_true rfl) rfl (fun ls hl => ?_)
        have hl : lv_has ls 5 [(4, .int t0), (0, .ref (x + 0)), (1, .long w1)] := hl
        refine lv_iload F.1 F.2.1 dL_errors_590 (lv_at hl 0 rfl) ?_
        refine lv_if_eq (tgt := 608) F.1 F.2.1 dL_errors_592 rfl (fun hc117 => ?_) (fun hc117 => ?_)
        · have hf := ifp hc117 hf
          refine lv_iconst (v := (0 : Int32)) F.1 F.2.1 dL_errors_608 (by decide) ?_
          obtain rfl := Option.some.inj hf
          exact s_zret F hr hlk hP hS rfl (b01_v (v := (0 : Int32)) (Or.inl rfl)) (by show _ ≤ 8645; omega) (by show _ ≤ 51870; omega) dL_errors_609
        · have hf := ifn hc117 hf
          refine lv_aload_n F.1 F.2.1 dL_errors_595 rfl (lv_at hl 1 rfl) ?_
          obtain ⟨r118, hr119, hf⟩ := bnd hf
          refine a_S F hK (fun _ hU hW => sl_U hG hS hU hW) (fun _ h => h) hP hS (c_L_now hlt hr119) (va_cwS 1 F.2.2.2.2 gB_errors_L_now rfl rfl rfl hd_L_now ⟨(Nat.le_of_ble_eq_true rfl), (Nat.le_of_ble_eq_true rfl)⟩) rfl rfl hl.1 (Nat.le_of_ble_eq_true rfl) dL_errors_596 ⟨(by show _ ≤ 8645; omega), (by show _ ≤ 51870; omega)⟩ (rest := []) (fun H locs hP hS _ => ?_)
          refine W.eq (g2 := F0 m 599 ls [.long r118]) rfl ?_
          refine lv_lload_n F.1 F.2.1 dL_errors_599 rfl (lv_at hl 2 rfl) ?_
          refine W.lcmp F.1 F.2.1 dL_errors_600 ?_
          refine lv_if_ne (tgt := 608) F.1 F.2.1 dL_errors_601 rfl (fun hc120 => ?_) (fun hc120 => ?_)
          · have hf := ifn hc120 hf
            refine lv_iconst (v := (0 : Int32)) F.1 F.2.1 dL_errors_608 (by decide) ?_
            obtain rfl := Option.some.inj hf
            exact s_zret F hr hlk hP hS rfl (b01_v (v := (0 : Int32)) (Or.inl rfl)) (by show _ ≤ 8645; omega) (by show _ ≤ 51870; omega) dL_errors_609
          · have hf := ifp hc120 hf
            refine lv_iconst (v := (1 : Int32)) F.1 F.2.1 dL_errors_604 (by decide) ?_
            refine lv_goto (tgt := 609) F.1 F.2.1 dL_errors_605 rfl ?_
            obtain rfl := Option.some.inj hf
            exact s_zret F hr hlk hP hS rfl (b01_v (v := (1 : Int32)) (Or.inr rfl)) (by show _ ≤ 8645; omega) (by show _ ≤ 51870; omega) dL_errors_609
      · intro μ w1  ls H locs hl hP hS hf
        have hf : fb_L_errors_4  (fl_L_errors  n) μ 0 0 w1 = some r := hf
        unfold fb_L_errors_4 at hf
        refine lv_aload_n F.1 F.2.1 dL_errors_504 rfl (lv_at hl 0 rfl) ?_
        refine lv_iconst (v := (0 : Int32)) F.1 F.2.1 dL_errors_505 (by decide) ?_
        refine lv_lconst (v := (0 : Int64)) F.1 F.2.1 dL_errors_506 rfl ?_
        obtain ⟨r121, hr122, hf⟩ := bnd hf
        refine a_H F hK (fun _ hU hW => sl_U hG hS hU hW) (fun _ h => h) hP hS (c_L_script hlt (0 : Int32) (0 : Int64) hr122) (vx_cwSW 3 F.2.2.2.2 gB_errors_L_script rfl rfl rfl hd_L_script ⟨(Nat.le_of_ble_eq_true rfl), (Nat.le_of_ble_eq_true rfl)⟩) rfl rfl hl.1 (Nat.le_of_ble_eq_true rfl) dL_errors_507 ⟨(by show _ ≤ 8645; omega), (by show _ ≤ 51870; omega)⟩ (rest := []) (fun H locs hP hS _ => ?_)
        refine W.eq (g2 := F0 m 510 ls [.long r121.1]) rfl ?_
        refine lv_ldc2 (v := (-9000000000000000002 : Int64)) F.1 F.2.1 F.2.2.2.1 (F.2.2.2.2 _ (List.mem_of_getElem? (i := 84) rfl)) dL_errors_510 ?_
        refine W.lcmp F.1 F.2.1 dL_errors_513 ?_
        refine lv_if_ne (tgt := 587) F.1 F.2.1 dL_errors_514 rfl (fun hc123 => ?_) (fun hc123 => ?_)
        · have hf := ifn hc123 hf
          refine lv_iconst (v := (0 : Int32)) F.1 F.2.1 dL_errors_587 (by decide) ?_
          refine W.widen (k := 1235 * (6 + 1 - n)) (n := 7410 * (6 + 1 - n)) (by omega) (by omega) ?_
          exact ih.2.2.1 r121.2 w1 (0 : Int32) _ _ _ (lv_sub hl [0, 1] rfl) hP hS hf
        · have hf := ifp hc123 hf
          refine lv_aload_n F.1 F.2.1 dL_errors_517 rfl (lv_at hl 0 rfl) ?_
          refine lv_iconst (v := (3 : Int32)) F.1 F.2.1 dL_errors_518 (by decide) ?_
          refine lv_ldc2 (v := (1000000000000000000 : Int64)) F.1 F.2.1 F.2.2.2.1 (F.2.2.2.2 _ (List.mem_of_getElem? (i := 419) rfl)) dL_errors_519 ?_
          obtain ⟨r124, hr125, hf⟩ := bnd hf
          refine a_H F hK (fun _ hU hW => sl_U hG hS hU hW) (fun _ h => h) hP hS (c_L_script hlt (3 : Int32) (1000000000000000000 : Int64) hr125) (vx_cwSW 3 F.2.2.2.2 gB_errors_L_script rfl rfl rfl hd_L_script ⟨(Nat.le_of_ble_eq_true rfl), (Nat.le_of_ble_eq_true rfl)⟩) rfl rfl hl.1 (Nat.le_of_ble_eq_true rfl) dL_errors_522 ⟨(by show _ ≤ 8645; omega), (by show _ ≤ 51870; omega)⟩ (rest := []) (fun H locs hP hS _ => ?_)
          refine W.eq (g2 := F0 m 525 ls [.long r124.1]) rfl ?_
          refine lv_ldc2 (v := (-9000000000000000002 : Int64)) F.1 F.2.1 F.2.2.2.1 (F.2.2.2.2 _ (List.mem_of_getElem? (i := 84) rfl)) dL_errors_525 ?_
          refine W.lcmp F.1 F.2.1 dL_errors_528 ?_
          refine lv_if_ne (tgt := 587) F.1 F.2.1 dL_errors_529 rfl (fun hc126 => ?_) (fun hc126 => ?_)
          · have hf := ifn hc126 hf
            refine lv_iconst (v := (0 : Int32)) F.1 F.2.1 dL_errors_587 (by decide) ?_
            refine W.widen (k := 1235 * (6 + 1 - n)) (n := 7410 * (6 + 1 - n)) (by omega) (by omega) ?_
            exact ih.2.2.1 r124.2 w1 (0 : Int32) _ _ _ (lv_sub hl [0, 1] rfl) hP hS hf
          · have hf := ifp hc126 hf
            refine lv_aload_n F.1 F.2.1 dL_errors_532 rfl (lv_at hl 0 rfl) ?_
            refine lv_lconst (v := (1 : Int64)) F.1 F.2.1 dL_errors_533 rfl ?_
            refine lv_iconst (v := (0 : Int32)) F.1 F.2.1 dL_errors_534 (by decide) ?_
            obtain ⟨r127, hr128, hf⟩ := bnd hf
            refine a_H F hK (fun _ hU hW => sl_U hG hS hU hW) (fun _ h => h) hP hS (c_L_simulate hlt (1 : Int64) (0 : Int32) hr128) (vx_cwSW 3 F.2.2.2.2 gB_errors_L_simulate rfl rfl rfl hd_L_simulate ⟨(Nat.le_of_ble_eq_true rfl), (Nat.le_of_ble_eq_true rfl)⟩) rfl rfl hl.1 (Nat.le_of_ble_eq_true rfl) dL_errors_535 ⟨(by show _ ≤ 8645; omega), (by show _ ≤ 51870; omega)⟩ (rest := []) (fun H locs hP hS _ => ?_)
            refine W.eq (g2 := F0 m 538 ls [.long r127.1]) rfl ?_
            refine lv_ldc2 (v := (-9000000000000000002 : Int64)) F.1 F.2.1 F.2.2.2.1 (F.2.2.2.2 _ (List.mem_of_getElem? (i := 84) rfl)) dL_errors_538 ?_
            refine W.lcmp F.1 F.2.1 dL_errors_541 ?_
            refine lv_if_ne (tgt := 587) F.1 F.2.1 dL_errors_542 rfl (fun hc129 => ?_) (fun hc129 => ?_)
            · have hf := ifn hc129 hf
              refine lv_iconst (v := (0 : Int32)) F.1 F.2.1 dL_errors_587 (by decide) ?_
              refine W.widen (k := 1235 * (6 + 1 - n)) (n := 7410 * (6 + 1 - n)) (by omega) (by omega) ?_
              exact ih.2.2.1 r127.2 w1 (0 : Int32) _ _ _ (lv_sub hl [0, 1] rfl) hP hS hf
            · have hf := ifp hc129 hf
              refine lv_aload_n F.1 F.2.1 dL_errors_545 rfl (lv_at hl 0 rfl) ?_
              refine lv_iconst (v := (2 : Int32)) F.1 F.2.1 dL_errors_546 (by decide) ?_
              obtain ⟨r130, hr131, hf⟩ := bnd hf
              refine a_H F hK (fun _ hU hW => sl_U hG hS hU hW) (fun _ h => h) hP hS (c_L_save hlt (2 : Int32) hr131) (vx_cwSW 2 F.2.2.2.2 gB_errors_L_save rfl rfl rfl hd_L_save ⟨(Nat.le_of_ble_eq_true rfl), (Nat.le_of_ble_eq_true rfl)⟩) rfl rfl hl.1 (Nat.le_of_ble_eq_true rfl) dL_errors_547 ⟨(by show _ ≤ 8645; omega), (by show _ ≤ 51870; omega)⟩ (rest := []) (fun H locs hP hS _ => ?_)
              refine W.eq (g2 := F0 m 550 ls [.long r130.1]) rfl ?_
              refine lv_ldc2 (v := (-9000000000000000001 : Int64)) F.1 F.2.1 F.2.2.2.1 (F.2.2.2.2 _ (List.mem_of_getElem? (i := 136) rfl)) dL_errors_550 ?_
              refine W.lcmp F.1 F.2.1 dL_errors_553 ?_
              refine lv_if_ne (tgt := 587) F.1 F.2.1 dL_errors_554 rfl (fun hc132 => ?_) (fun hc132 => ?_)
              · have hf := ifn hc132 hf
                refine lv_iconst (v := (0 : Int32)) F.1 F.2.1 dL_errors_587 (by decide) ?_
                refine W.widen (k := 1235 * (6 + 1 - n)) (n := 7410 * (6 + 1 - n)) (by omega) (by omega) ?_
                exact ih.2.2.1 r130.2 w1 (0 : Int32) _ _ _ (lv_sub hl [0, 1] rfl) hP hS hf
              · have hf := ifp hc132 hf
                refine lv_aload_n F.1 F.2.1 dL_errors_557 rfl (lv_at hl 0 rfl) ?_
                refine lv_iconst (v := (2 : Int32)) F.1 F.2.1 dL_errors_558 (by decide) ?_
                obtain ⟨r133, hr134, hf⟩ := bnd hf
                refine a_H F hK (fun _ hU hW => sl_U hG hS hU hW) (fun _ h => h) hP hS (c_L_restore hlt (2 : Int32) hr134) (vx_cwSW 2 F.2.2.2.2 gB_errors_L_restore rfl rfl rfl hd_L_restore ⟨(Nat.le_of_ble_eq_true rfl), (Nat.le_of_ble_eq_true rfl)⟩) rfl rfl hl.1 (Nat.le_of_ble_eq_true rfl) dL_errors_559 ⟨(by show _ ≤ 8645; omega), (by show _ ≤ 51870; omega)⟩ (rest := []) (fun H locs hP hS _ => ?_)
                refine W.eq (g2 := F0 m 562 ls [.long r133.1]) rfl ?_
                refine lv_ldc2 (v := (-9000000000000000001 : Int64)) F.1 F.2.1 F.2.2.2.1 (F.2.2.2.2 _ (List.mem_of_getElem? (i := 136) rfl)) dL_errors_562 ?_
                refine W.lcmp F.1 F.2.1 dL_errors_565 ?_
                refine lv_if_ne (tgt := 587) F.1 F.2.1 dL_errors_566 rfl (fun hc135 => ?_) (fun hc135 => ?_)
                · have hf := ifn hc135 hf
                  refine lv_iconst (v := (0 : Int32)) F.1 F.2.1 dL_errors_587 (by decide) ?_
                  refine W.widen (k := 1235 * (6 + 1 - n)) (n := 7410 * (6 + 1 - n)) (by omega) (by omega) ?_
                  exact ih.2.2.1 r133.2 w1 (0 : Int32) _ _ _ (lv_sub hl [0, 1] rfl) hP hS hf
                · have hf := ifp hc135 hf
                  refine lv_aload_n F.1 F.2.1 dL_errors_569 rfl (lv_at hl 0 rfl) ?_
                  refine lv_sipush (v := (256 : Int32)) F.1 F.2.1 dL_errors_570 (by decide) ?_
                  obtain ⟨r136, hr137, hf⟩ := bnd hf
                  refine a_H F hK (fun _ hU hW => sl_U hG hS hU hW) (fun _ h => h) hP hS (c_L_append hlt (256 : Int32) hr137) (vx_cwSW 2 F.2.2.2.2 gB_errors_L_append rfl rfl rfl hd_L_append ⟨(Nat.le_of_ble_eq_true rfl), (Nat.le_of_ble_eq_true rfl)⟩) rfl rfl hl.1 (Nat.le_of_ble_eq_true rfl) dL_errors_573 ⟨(by show _ ≤ 8645; omega), (by show _ ≤ 51870; omega)⟩ (rest := []) (fun H locs hP hS _ => ?_)
                  refine W.eq (g2 := F0 m 576 ls [.long r136.1]) rfl ?_
                  refine lv_ldc2 (v := (-9000000000000000002 : Int64)) F.1 F.2.1 F.2.2.2.1 (F.2.2.2.2 _ (List.mem_of_getElem? (i := 84) rfl)) dL_errors_576 ?_
                  refine W.lcmp F.1 F.2.1 dL_errors_579 ?_
                  refine lv_if_ne (tgt := 587) F.1 F.2.1 dL_errors_580 rfl (fun hc138 => ?_) (fun hc138 => ?_)
                  · have hf := ifn hc138 hf
                    refine lv_iconst (v := (0 : Int32)) F.1 F.2.1 dL_errors_587 (by decide) ?_
                    refine W.widen (k := 1235 * (6 + 1 - n)) (n := 7410 * (6 + 1 - n)) (by omega) (by omega) ?_
                    exact ih.2.2.1 r136.2 w1 (0 : Int32) _ _ _ (lv_sub hl [0, 1] rfl) hP hS hf
                  · have hf := ifp hc138 hf
                    refine lv_iconst (v := (1 : Int32)) F.1 F.2.1 dL_errors_583 (by decide) ?_
                    refine lv_goto (tgt := 588) F.1 F.2.1 dL_errors_584 rfl ?_
                    refine W.widen (k := 1235 * (6 + 1 - n)) (n := 7410 * (6 + 1 - n)) (by omega) (by omega) ?_
                    exact ih.2.2.1 r136.2 w1 (1 : Int32) _ _ _ (lv_sub hl [0, 1] rfl) hP hS hf
  intro ls H locs hl hP hS
  have hl : lv_has ls 5 [(0, .ref (x + 0))] := hl
  unfold f_L_errors at hf
  refine lv_aload_n F.1 F.2.1 dL_errors_0 rfl (lv_at hl 0 rfl) ?_
  obtain ⟨r1, hr2, hf⟩ := bnd hf
  refine a_S F hK (fun _ hU hW => sl_U hG hS hU hW) (fun _ h => h) hP hS (c_L_now hlt hr2) (va_cwS 1 F.2.2.2.2 gB_errors_L_now rfl rfl rfl hd_L_now ⟨(Nat.le_of_ble_eq_true rfl), (Nat.le_of_ble_eq_true rfl)⟩) rfl rfl hl.1 (Nat.le_of_ble_eq_true rfl) dL_errors_1 ⟨(by show _ ≤ 8645; omega), (by show _ ≤ 51870; omega)⟩ (rest := []) (fun H locs hP hS _ => ?_)
  refine W.eq (g2 := F0 m 4 ls [.long r1]) rfl ?_
  refine lv_lstore_n F.1 F.2.1 dL_errors_4 rfl hl (Nat.le_of_ble_eq_true rfl) rfl (fun ls hl => ?_)
  have hl : lv_has ls 5 [(1, .long r1), (0, .ref (x + 0))] := hl
  refine lv_aload_n F.1 F.2.1 dL_errors_5 rfl (lv_at hl 1 rfl) ?_
  refine lv_iconst (v := (0 : Int32)) F.1 F.2.1 dL_errors_6 (by decide) ?_
  obtain ⟨r3, hr4, hf⟩ := bnd hf
  refine a_H F hK (fun _ hU hW => sl_U hG hS hU hW) (fun _ h => h) hP hS (c_L_about hlt (0 : Int32) hr4) (vx_cwSW 2 F.2.2.2.2 gB_errors_L_about rfl rfl rfl hd_L_about ⟨(Nat.le_of_ble_eq_true rfl), (Nat.le_of_ble_eq_true rfl)⟩) rfl rfl hl.1 (Nat.le_of_ble_eq_true rfl) dL_errors_7 ⟨(by show _ ≤ 8645; omega), (by show _ ≤ 51870; omega)⟩ (rest := []) (fun H locs hP hS _ => ?_)
  refine W.eq (g2 := F0 m 10 ls [.long r3]) rfl ?_
  refine lv_l2i (v := r3.toInt32) F.1 F.2.1 dL_errors_10 rfl ?_
  refine lv_istore_n F.1 F.2.1 dL_errors_11 rfl hl (Nat.le_of_ble_eq_true rfl) rfl (fun ls hl => ?_)
  have hl : lv_has ls 5 [(3, .int r3.toInt32), (1, .long r1), (0, .ref (x + 0))] := hl
  refine lv_aload_n F.1 F.2.1 dL_errors_12 rfl (lv_at hl 2 rfl) ?_
  refine lv_iconst (v := (-1 : Int32)) F.1 F.2.1 dL_errors_13 (by decide) ?_
  obtain ⟨r5, hr6, hf⟩ := bnd hf
  refine a_H F hK (fun _ hU hW => sl_U hG hS hU hW) (fun _ h => h) hP hS (c_L_about hlt (-1 : Int32) hr6) (vx_cwSW 2 F.2.2.2.2 gB_errors_L_about rfl rfl rfl hd_L_about ⟨(Nat.le_of_ble_eq_true rfl), (Nat.le_of_ble_eq_true rfl)⟩) rfl rfl hl.1 (Nat.le_of_ble_eq_true rfl) dL_errors_14 ⟨(by show _ ≤ 8645; omega), (by show _ ≤ 51870; omega)⟩ (rest := []) (fun H locs hP hS _ => ?_)
  refine W.eq (g2 := F0 m 17 ls [.long r5]) rfl ?_
  refine lv_ldc2 (v := (-9000000000000000002 : Int64)) F.1 F.2.1 F.2.2.2.1 (F.2.2.2.2 _ (List.mem_of_getElem? (i := 84) rfl)) dL_errors_17 ?_
  refine W.lcmp F.1 F.2.1 dL_errors_20 ?_
  refine lv_if_ne (tgt := 298) F.1 F.2.1 dL_errors_21 rfl (fun hc7 => ?_) (fun hc7 => ?_)
  · have hf := ifn hc7 hf
    refine lv_iconst (v := (0 : Int32)) F.1 F.2.1 dL_errors_298 (by decide) ?_
    refine W.widen (k := 1235 * (6 + 1 - 6)) (n := 7410 * (6 + 1 - 6)) (by omega) (by omega) ?_
    exact (KEY 6 (Nat.le_refl _)).1 μ r1 r3.toInt32 (0 : Int32) _ _ _ (lv_sub hl [2, 1, 0] rfl) hP hS hf
  · have hf := ifp hc7 hf
    refine lv_aload_n F.1 F.2.1 dL_errors_24 rfl (lv_at hl 2 rfl) ?_
    refine lv_bipush (v := (12 : Int32)) F.1 F.2.1 dL_errors_25 (by decide) ?_
    obtain ⟨r8, hr9, hf⟩ := bnd hf
    refine a_H F hK (fun _ hU hW => sl_U hG hS hU hW) (fun _ h => h) hP hS (c_L_about hlt (12 : Int32) hr9) (vx_cwSW 2 F.2.2.2.2 gB_errors_L_about rfl rfl rfl hd_L_about ⟨(Nat.le_of_ble_eq_true rfl), (Nat.le_of_ble_eq_true rfl)⟩) rfl rfl hl.1 (Nat.le_of_ble_eq_true rfl) dL_errors_27 ⟨(by show _ ≤ 8645; omega), (by show _ ≤ 51870; omega)⟩ (rest := []) (fun H locs hP hS _ => ?_)
    refine W.eq (g2 := F0 m 30 ls [.long r8]) rfl ?_
    refine lv_ldc2 (v := (-9000000000000000002 : Int64)) F.1 F.2.1 F.2.2.2.1 (F.2.2.2.2 _ (List.mem_of_getElem? (i := 84) rfl)) dL_errors_30 ?_
    refine W.lcmp F.1 F.2.1 dL_errors_33 ?_
    refine lv_if_ne (tgt := 298) F.1 F.2.1 dL_errors_34 rfl (fun hc10 => ?_) (fun hc10 => ?_)
    · have hf := ifn hc10 hf
      refine lv_iconst (v := (0 : Int32)) F.1 F.2.1 dL_errors_298 (by decide) ?_
      refine W.widen (k := 1235 * (6 + 1 - 6)) (n := 7410 * (6 + 1 - 6)) (by omega) (by omega) ?_
      exact (KEY 6 (Nat.le_refl _)).1 μ r1 r3.toInt32 (0 : Int32) _ _ _ (lv_sub hl [2, 1, 0] rfl) hP hS hf
    · have hf := ifp hc10 hf
      refine lv_aload_n F.1 F.2.1 dL_errors_37 rfl (lv_at hl 2 rfl) ?_
      refine lv_iload_n F.1 F.2.1 dL_errors_38 rfl (lv_at hl 0 rfl) ?_
      refine lv_bipush (v := (9 : Int32)) F.1 F.2.1 dL_errors_39 (by decide) ?_
      obtain ⟨r11, hr12, hf⟩ := bnd hf
      refine a_H F hK (fun _ hU hW => sl_U hG hS hU hW) (fun _ h => h) hP hS (c_L_siteOf hlt r3.toInt32 (9 : Int32) hr12) (vx_cwSW 3 F.2.2.2.2 gB_errors_L_siteOf rfl rfl rfl hd_L_siteOf ⟨(Nat.le_of_ble_eq_true rfl), (Nat.le_of_ble_eq_true rfl)⟩) rfl rfl hl.1 (Nat.le_of_ble_eq_true rfl) dL_errors_41 ⟨(by show _ ≤ 8645; omega), (by show _ ≤ 51870; omega)⟩ (rest := []) (fun H locs hP hS _ => ?_)
      refine W.eq (g2 := F0 m 44 ls [.long r11]) rfl ?_
      refine lv_ldc2 (v := (-9000000000000000001 : Int64)) F.1 F.2.1 F.2.2.2.1 (F.2.2.2.2 _ (List.mem_of_getElem? (i := 136) rfl)) dL_errors_44 ?_
      refine W.lcmp F.1 F.2.1 dL_errors_47 ?_
      refine lv_if_ne (tgt := 298) F.1 F.2.1 dL_errors_48 rfl (fun hc13 => ?_) (fun hc13 => ?_)
      · have hf := ifn hc13 hf
        refine lv_iconst (v := (0 : Int32)) F.1 F.2.1 dL_errors_298 (by decide) ?_
        refine W.widen (k := 1235 * (6 + 1 - 6)) (n := 7410 * (6 + 1 - 6)) (by omega) (by omega) ?_
        exact (KEY 6 (Nat.le_refl _)).1 μ r1 r3.toInt32 (0 : Int32) _ _ _ (lv_sub hl [2, 1, 0] rfl) hP hS hf
      · have hf := ifp hc13 hf
        refine lv_aload_n F.1 F.2.1 dL_errors_51 rfl (lv_at hl 2 rfl) ?_
        refine lv_iconst (v := (-1 : Int32)) F.1 F.2.1 dL_errors_52 (by decide) ?_
        refine lv_iconst (v := (0 : Int32)) F.1 F.2.1 dL_errors_53 (by decide) ?_
        obtain ⟨r14, hr15, hf⟩ := bnd hf
        refine a_H F hK (fun _ hU hW => sl_U hG hS hU hW) (fun _ h => h) hP hS (c_L_siteOf hlt (-1 : Int32) (0 : Int32) hr15) (vx_cwSW 3 F.2.2.2.2 gB_errors_L_siteOf rfl rfl rfl hd_L_siteOf ⟨(Nat.le_of_ble_eq_true rfl), (Nat.le_of_ble_eq_true rfl)⟩) rfl rfl hl.1 (Nat.le_of_ble_eq_true rfl) dL_errors_54 ⟨(by show _ ≤ 8645; omega), (by show _ ≤ 51870; omega)⟩ (rest := []) (fun H locs hP hS _ => ?_)
        refine W.eq (g2 := F0 m 57 ls [.long r14]) rfl ?_
        refine lv_ldc2 (v := (-9000000000000000001 : Int64)) F.1 F.2.1 F.2.2.2.1 (F.2.2.2.2 _ (List.mem_of_getElem? (i := 136) rfl)) dL_errors_57 ?_
        refine W.lcmp F.1 F.2.1 dL_errors_60 ?_
        refine lv_if_ne (tgt := 298) F.1 F.2.1 dL_errors_61 rfl (fun hc16 => ?_) (fun hc16 => ?_)
        · have hf := ifn hc16 hf
          refine lv_iconst (v := (0 : Int32)) F.1 F.2.1 dL_errors_298 (by decide) ?_
          refine W.widen (k := 1235 * (6 + 1 - 6)) (n := 7410 * (6 + 1 - 6)) (by omega) (by omega) ?_
          exact (KEY 6 (Nat.le_refl _)).1 μ r1 r3.toInt32 (0 : Int32) _ _ _ (lv_sub hl [2, 1, 0] rfl) hP hS hf
        · have hf := ifp hc16 hf
          refine lv_iload_n F.1 F.2.1 dL_errors_64 rfl (lv_at hl 0 rfl) ?_
          refine lv_if_eq (tgt := 228) F.1 F.2.1 dL_errors_65 rfl (fun hc17 => ?_) (fun hc17 => ?_)
          · have hf := ifp hc17 hf
            refine W.widen (k := 1235 * (6 + 1 - 6)) (n := 7410 * (6 + 1 - 6)) (by omega) (by omega) ?_
            exact (KEY 6 (Nat.le_refl _)).2.1 μ r1 r3.toInt32 _ _ _ (lv_sub hl [2, 1, 0] rfl) hP hS hf
          · have hf := ifn hc17 hf
            refine lv_aload_n F.1 F.2.1 dL_errors_68 rfl (lv_at hl 2 rfl) ?_
            refine lv_iconst (v := (0 : Int32)) F.1 F.2.1 dL_errors_69 (by decide) ?_
            refine lv_bipush (v := (9 : Int32)) F.1 F.2.1 dL_errors_70 (by decide) ?_
            obtain ⟨r18, hr19, hf⟩ := bnd hf
            refine a_H F hK (fun _ hU hW => sl_U hG hS hU hW) (fun _ h => h) hP hS (c_L_siteOf hlt (0 : Int32) (9 : Int32) hr19) (vx_cwSW 3 F.2.2.2.2 gB_errors_L_siteOf rfl rfl rfl hd_L_siteOf ⟨(Nat.le_of_ble_eq_true rfl), (Nat.le_of_ble_eq_true rfl)⟩) rfl rfl hl.1 (Nat.le_of_ble_eq_true rfl) dL_errors_72 ⟨(by show _ ≤ 8645; omega), (by show _ ≤ 51870; omega)⟩ (rest := []) (fun H locs hP hS _ => ?_)
            refine W.eq (g2 := F0 m 75 ls [.long r18]) rfl ?_
            refine lv_ldc2 (v := (-9000000000000000002 : Int64)) F.1 F.2.1 F.2.2.2.1 (F.2.2.2.2 _ (List.mem_of_getElem? (i := 84) rfl)) dL_errors_75 ?_
            refine W.lcmp F.1 F.2.1 dL_errors_78 ?_
            refine lv_if_ne (tgt := 298) F.1 F.2.1 dL_errors_79 rfl (fun hc20 => ?_) (fun hc20 => ?_)
            · have hf := ifn hc20 hf
              refine lv_iconst (v := (0 : Int32)) F.1 F.2.1 dL_errors_298 (by decide) ?_
              refine W.widen (k := 1235 * (6 + 1 - 6)) (n := 7410 * (6 + 1 - 6)) (by omega) (by omega) ?_
              exact (KEY 6 (Nat.le_refl _)).1 μ r1 r3.toInt32 (0 : Int32) _ _ _ (lv_sub hl [2, 1, 0] rfl) hP hS hf
            · have hf := ifp hc20 hf
              refine lv_aload_n F.1 F.2.1 dL_errors_82 rfl (lv_at hl 2 rfl) ?_
              refine lv_iconst (v := (0 : Int32)) F.1 F.2.1 dL_errors_83 (by decide) ?_
              refine lv_bipush (v := (30 : Int32)) F.1 F.2.1 dL_errors_84 (by decide) ?_
              obtain ⟨r21, hr22, hf⟩ := bnd hf
              refine a_H F hK (fun _ hU hW => sl_U hG hS hU hW) (fun _ h => h) hP hS (c_L_since hlt (0 : Int32) (30 : Int32) hr22) (vx_cwSW 3 F.2.2.2.2 gB_errors_L_since rfl rfl rfl hd_L_since ⟨(Nat.le_of_ble_eq_true rfl), (Nat.le_of_ble_eq_true rfl)⟩) rfl rfl hl.1 (Nat.le_of_ble_eq_true rfl) dL_errors_86 ⟨(by show _ ≤ 8645; omega), (by show _ ≤ 51870; omega)⟩ (rest := []) (fun H locs hP hS _ => ?_)
              refine W.eq (g2 := F0 m 89 ls [.long r21]) rfl ?_
              refine lv_ldc2 (v := (-9000000000000000001 : Int64)) F.1 F.2.1 F.2.2.2.1 (F.2.2.2.2 _ (List.mem_of_getElem? (i := 136) rfl)) dL_errors_89 ?_
              refine W.lcmp F.1 F.2.1 dL_errors_92 ?_
              refine lv_if_ne (tgt := 298) F.1 F.2.1 dL_errors_93 rfl (fun hc23 => ?_) (fun hc23 => ?_)
              · have hf := ifn hc23 hf
                refine lv_iconst (v := (0 : Int32)) F.1 F.2.1 dL_errors_298 (by decide) ?_
                refine W.widen (k := 1235 * (6 + 1 - 6)) (n := 7410 * (6 + 1 - 6)) (by omega) (by omega) ?_
                exact (KEY 6 (Nat.le_refl _)).1 μ r1 r3.toInt32 (0 : Int32) _ _ _ (lv_sub hl [2, 1, 0] rfl) hP hS hf
              · have hf := ifp hc23 hf
                refine lv_aload_n F.1 F.2.1 dL_errors_96 rfl (lv_at hl 2 rfl) ?_
                refine lv_iconst (v := (0 : Int32)) F.1 F.2.1 dL_errors_97 (by decide) ?_
                refine lv_aload_n F.1 F.2.1 dL_errors_98 rfl (lv_at hl 2 rfl) ?_
                refine lv_iconst (v := (0 : Int32)) F.1 F.2.1 dL_errors_99 (by decide) ?_
                refine lv_bipush (v := (6 : Int32)) F.1 F.2.1 dL_errors_100 (by decide) ?_
                obtain ⟨r24, hr25, hf⟩ := bnd hf
                refine a_H F hK (fun _ hU hW => sl_U hG hS hU hW) (fun _ h => h) hP hS (c_L_siteOf hlt (0 : Int32) (6 : Int32) hr25) (vx_cwSW 3 F.2.2.2.2 gB_errors_L_siteOf rfl rfl rfl hd_L_siteOf ⟨(Nat.le_of_ble_eq_true rfl), (Nat.le_of_ble_eq_true rfl)⟩) rfl rfl hl.1 (Nat.le_of_ble_eq_true rfl) dL_errors_102 ⟨(by show _ ≤ 8645; omega), (by show _ ≤ 51870; omega)⟩ (rest := [.int (0 : Int32), .ref (x + 0)]) (fun H locs hP hS _ => ?_)
                refine W.eq (g2 := F0 m 105 ls [.long r24, .int (0 : Int32), .ref (x + 0)]) rfl ?_
                refine lv_l2i (v := r24.toInt32) F.1 F.2.1 dL_errors_105 rfl ?_
                refine lv_iconst (v := (4 : Int32)) F.1 F.2.1 dL_errors_106 (by decide) ?_
                obtain ⟨r26, hr27, hf⟩ := bnd hf
                refine a_H F hK (fun _ hU hW => sl_U hG hS hU hW) (fun _ h => h) hP hS (c_L_layerOf hlt (0 : Int32) r24.toInt32 (4 : Int32) hr27) (vx_cwSW 4 F.2.2.2.2 gB_errors_L_layerOf rfl rfl rfl hd_L_layerOf ⟨(Nat.le_of_ble_eq_true rfl), (Nat.le_of_ble_eq_true rfl)⟩) rfl rfl hl.1 (Nat.le_of_ble_eq_true rfl) dL_errors_107 ⟨(by show _ ≤ 8645; omega), (by show _ ≤ 51870; omega)⟩ (rest := []) (fun H locs hP hS _ => ?_)
                refine W.eq (g2 := F0 m 110 ls [.long r26]) rfl ?_
                refine lv_ldc2 (v := (-9000000000000000001 : Int64)) F.1 F.2.1 F.2.2.2.1 (F.2.2.2.2 _ (List.mem_of_getElem? (i := 136) rfl)) dL_errors_110 ?_
                refine W.lcmp F.1 F.2.1 dL_errors_113 ?_
                refine lv_if_ne (tgt := 298) F.1 F.2.1 dL_errors_114 rfl (fun hc28 => ?_) (fun hc28 => ?_)
                · have hf := ifn hc28 hf
                  refine lv_iconst (v := (0 : Int32)) F.1 F.2.1 dL_errors_298 (by decide) ?_
                  refine W.widen (k := 1235 * (6 + 1 - 6)) (n := 7410 * (6 + 1 - 6)) (by omega) (by omega) ?_
                  exact (KEY 6 (Nat.le_refl _)).1 μ r1 r3.toInt32 (0 : Int32) _ _ _ (lv_sub hl [2, 1, 0] rfl) hP hS hf
                · have hf := ifp hc28 hf
                  refine lv_aload_n F.1 F.2.1 dL_errors_117 rfl (lv_at hl 2 rfl) ?_
                  refine lv_iconst (v := (0 : Int32)) F.1 F.2.1 dL_errors_118 (by decide) ?_
                  refine lv_iconst (v := (2 : Int32)) F.1 F.2.1 dL_errors_119 (by decide) ?_
                  obtain ⟨r29, hr30, hf⟩ := bnd hf
                  refine a_H F hK (fun _ hU hW => sl_U hG hS hU hW) (fun _ h => h) hP hS (c_L_layers hlt (0 : Int32) (2 : Int32) hr30) (vx_cwSW 3 F.2.2.2.2 gB_errors_L_layers rfl rfl rfl hd_L_layers ⟨(Nat.le_of_ble_eq_true rfl), (Nat.le_of_ble_eq_true rfl)⟩) rfl rfl hl.1 (Nat.le_of_ble_eq_true rfl) dL_errors_120 ⟨(by show _ ≤ 8645; omega), (by show _ ≤ 51870; omega)⟩ (rest := []) (fun H locs hP hS _ => ?_)
                  refine W.eq (g2 := F0 m 123 ls [.long r29]) rfl ?_
                  refine lv_ldc2 (v := (-9000000000000000002 : Int64)) F.1 F.2.1 F.2.2.2.1 (F.2.2.2.2 _ (List.mem_of_getElem? (i := 84) rfl)) dL_errors_123 ?_
                  refine W.lcmp F.1 F.2.1 dL_errors_126 ?_
                  refine lv_if_ne (tgt := 298) F.1 F.2.1 dL_errors_127 rfl (fun hc31 => ?_) (fun hc31 => ?_)
                  · have hf := ifn hc31 hf
                    refine lv_iconst (v := (0 : Int32)) F.1 F.2.1 dL_errors_298 (by decide) ?_
                    refine W.widen (k := 1235 * (6 + 1 - 6)) (n := 7410 * (6 + 1 - 6)) (by omega) (by omega) ?_
                    exact (KEY 6 (Nat.le_refl _)).1 μ r1 r3.toInt32 (0 : Int32) _ _ _ (lv_sub hl [2, 1, 0] rfl) hP hS hf
                  · have hf := ifp hc31 hf
                    refine lv_aload_n F.1 F.2.1 dL_errors_130 rfl (lv_at hl 2 rfl) ?_
                    refine lv_iconst (v := (0 : Int32)) F.1 F.2.1 dL_errors_131 (by decide) ?_
                    refine lv_iconst (v := (0 : Int32)) F.1 F.2.1 dL_errors_132 (by decide) ?_
                    obtain ⟨r32, hr33, hf⟩ := bnd hf
                    refine a_H F hK (fun _ hU hW => sl_U hG hS hU hW) (fun _ h => h) hP hS (c_L_tube hlt (0 : Int32) (0 : Int32) hr33) (vx_cwSW 3 F.2.2.2.2 gB_errors_L_tube rfl rfl rfl hd_L_tube ⟨(Nat.le_of_ble_eq_true rfl), (Nat.le_of_ble_eq_true rfl)⟩) rfl rfl hl.1 (Nat.le_of_ble_eq_true rfl) dL_errors_133 ⟨(by show _ ≤ 8645; omega), (by show _ ≤ 51870; omega)⟩ (rest := []) (fun H locs hP hS _ => ?_)
                    refine W.eq (g2 := F0 m 136 ls [.long r32.1]) rfl ?_
                    refine lv_ldc2 (v := (-9000000000000000002 : Int64)) F.1 F.2.1 F.2.2.2.1 (F.2.2.2.2 _ (List.mem_of_getElem? (i := 84) rfl)) dL_errors_136 ?_
                    refine W.lcmp F.1 F.2.1 dL_errors_139 ?_
                    refine lv_if_ne (tgt := 298) F.1 F.2.1 dL_errors_140 rfl (fun hc34 => ?_) (fun hc34 => ?_)
                    · have hf := ifn hc34 hf
                      refine lv_iconst (v := (0 : Int32)) F.1 F.2.1 dL_errors_298 (by decide) ?_
                      refine W.widen (k := 1235 * (6 + 1 - 6)) (n := 7410 * (6 + 1 - 6)) (by omega) (by omega) ?_
                      exact (KEY 6 (Nat.le_refl _)).1 r32.2 r1 r3.toInt32 (0 : Int32) _ _ _ (lv_sub hl [2, 1, 0] rfl) hP hS hf
                    · have hf := ifp hc34 hf
                      refine lv_aload_n F.1 F.2.1 dL_errors_143 rfl (lv_at hl 2 rfl) ?_
                      refine lv_iconst (v := (0 : Int32)) F.1 F.2.1 dL_errors_144 (by decide) ?_
                      refine lv_iconst (v := (-1 : Int32)) F.1 F.2.1 dL_errors_145 (by decide) ?_
                      obtain ⟨r35, hr36, hf⟩ := bnd hf
                      refine a_H F hK (fun _ hU hW => sl_U hG hS hU hW) (fun _ h => h) hP hS (c_L_pipe hlt (0 : Int32) (-1 : Int32) hr36) (vx_cwSW 3 F.2.2.2.2 gB_errors_L_pipe rfl rfl rfl hd_L_pipe ⟨(Nat.le_of_ble_eq_true rfl), (Nat.le_of_ble_eq_true rfl)⟩) rfl rfl hl.1 (Nat.le_of_ble_eq_true rfl) dL_errors_146 ⟨(by show _ ≤ 8645; omega), (by show _ ≤ 51870; omega)⟩ (rest := []) (fun H locs hP hS _ => ?_)
                      refine W.eq (g2 := F0 m 149 ls [.long r35.1]) rfl ?_
                      refine lv_ldc2 (v := (-9000000000000000001 : Int64)) F.1 F.2.1 F.2.2.2.1 (F.2.2.2.2 _ (List.mem_of_getElem? (i := 136) rfl)) dL_errors_149 ?_
                      refine W.lcmp F.1 F.2.1 dL_errors_152 ?_
                      refine lv_if_ne (tgt := 298) F.1 F.2.1 dL_errors_153 rfl (fun hc37 => ?_) (fun hc37 => ?_)
                      · have hf := ifn hc37 hf
                        refine lv_iconst (v := (0 : Int32)) F.1 F.2.1 dL_errors_298 (by decide) ?_
                        refine W.widen (k := 1235 * (6 + 1 - 6)) (n := 7410 * (6 + 1 - 6)) (by omega) (by omega) ?_
                        exact (KEY 6 (Nat.le_refl _)).1 r35.2 r1 r3.toInt32 (0 : Int32) _ _ _ (lv_sub hl [2, 1, 0] rfl) hP hS hf
                      · have hf := ifp hc37 hf
                        refine lv_aload_n F.1 F.2.1 dL_errors_156 rfl (lv_at hl 2 rfl) ?_
                        refine lv_iconst (v := (0 : Int32)) F.1 F.2.1 dL_errors_157 (by decide) ?_
                        refine lv_bipush (v := (21 : Int32)) F.1 F.2.1 dL_errors_158 (by decide) ?_
                        obtain ⟨r38, hr39, hf⟩ := bnd hf
                        refine a_H F hK (fun _ hU hW => sl_U hG hS hU hW) (fun _ h => h) hP hS (c_L_fence hlt (0 : Int32) (21 : Int32) hr39) (vx_cwSW 3 F.2.2.2.2 gB_errors_L_fence rfl rfl rfl hd_L_fence ⟨(Nat.le_of_ble_eq_true rfl), (Nat.le_of_ble_eq_true rfl)⟩) rfl rfl hl.1 (Nat.le_of_ble_eq_true rfl) dL_errors_160 ⟨(by show _ ≤ 8645; omega), (by show _ ≤ 51870; omega)⟩ (rest := []) (fun H locs hP hS _ => ?_)
                        refine W.eq (g2 := F0 m 163 ls [.long r38.1]) rfl ?_
                        refine lv_ldc2 (v := (-9000000000000000002 : Int64)) F.1 F.2.1 F.2.2.2.1 (F.2.2.2.2 _ (List.mem_of_getElem? (i := 84) rfl)) dL_errors_163 ?_
                        refine W.lcmp F.1 F.2.1 dL_errors_166 ?_
                        refine lv_if_ne (tgt := 298) F.1 F.2.1 dL_errors_167 rfl (fun hc40 => ?_) (fun hc40 => ?_)
                        · have hf := ifn hc40 hf
                          refine lv_iconst (v := (0 : Int32)) F.1 F.2.1 dL_errors_298 (by decide) ?_
                          refine W.widen (k := 1235 * (6 + 1 - 6)) (n := 7410 * (6 + 1 - 6)) (by omega) (by omega) ?_
                          exact (KEY 6 (Nat.le_refl _)).1 r38.2 r1 r3.toInt32 (0 : Int32) _ _ _ (lv_sub hl [2, 1, 0] rfl) hP hS hf
                        · have hf := ifp hc40 hf
                          refine lv_aload_n F.1 F.2.1 dL_errors_170 rfl (lv_at hl 2 rfl) ?_
                          refine lv_iconst (v := (0 : Int32)) F.1 F.2.1 dL_errors_171 (by decide) ?_
                          refine lv_iconst (v := (0 : Int32)) F.1 F.2.1 dL_errors_172 (by decide) ?_
                          obtain ⟨r41, hr42, hf⟩ := bnd hf
                          refine a_H F hK (fun _ hU hW => sl_U hG hS hU hW) (fun _ h => h) hP hS (c_L_goneIn hlt (0 : Int32) (0 : Int32) hr42) (vx_cwSW 3 F.2.2.2.2 gB_errors_L_goneIn rfl rfl rfl hd_L_goneIn ⟨(Nat.le_of_ble_eq_true rfl), (Nat.le_of_ble_eq_true rfl)⟩) rfl rfl hl.1 (Nat.le_of_ble_eq_true rfl) dL_errors_173 ⟨(by show _ ≤ 8645; omega), (by show _ ≤ 51870; omega)⟩ (rest := []) (fun H locs hP hS _ => ?_)
                          refine W.eq (g2 := F0 m 176 ls [.long r41.1]) rfl ?_
                          refine lv_ldc2 (v := (-9000000000000000002 : Int64)) F.1 F.2.1 F.2.2.2.1 (F.2.2.2.2 _ (List.mem_of_getElem? (i := 84) rfl)) dL_errors_176 ?_
                          refine W.lcmp F.1 F.2.1 dL_errors_179 ?_
                          refine lv_if_ne (tgt := 298) F.1 F.2.1 dL_errors_180 rfl (fun hc43 => ?_) (fun hc43 => ?_)
                          · have hf := ifn hc43 hf
                            refine lv_iconst (v := (0 : Int32)) F.1 F.2.1 dL_errors_298 (by decide) ?_
                            refine W.widen (k := 1235 * (6 + 1 - 6)) (n := 7410 * (6 + 1 - 6)) (by omega) (by omega) ?_
                            exact (KEY 6 (Nat.le_refl _)).1 r41.2 r1 r3.toInt32 (0 : Int32) _ _ _ (lv_sub hl [2, 1, 0] rfl) hP hS hf
                          · have hf := ifp hc43 hf
                            refine lv_aload_n F.1 F.2.1 dL_errors_183 rfl (lv_at hl 2 rfl) ?_
                            refine lv_iconst (v := (0 : Int32)) F.1 F.2.1 dL_errors_184 (by decide) ?_
                            refine lv_bipush (v := (30 : Int32)) F.1 F.2.1 dL_errors_185 (by decide) ?_
                            refine lv_iconst (v := (0 : Int32)) F.1 F.2.1 dL_errors_187 (by decide) ?_
                            obtain ⟨r44, hr45, hf⟩ := bnd hf
                            refine a_H F hK (fun _ hU hW => sl_U hG hS hU hW) (fun _ h => h) hP hS (c_L_reachedIn hlt (0 : Int32) (30 : Int32) (0 : Int32) hr45) (vx_cwSW 4 F.2.2.2.2 gB_errors_L_reachedIn rfl rfl rfl hd_L_reachedIn ⟨(Nat.le_of_ble_eq_true rfl), (Nat.le_of_ble_eq_true rfl)⟩) rfl rfl hl.1 (Nat.le_of_ble_eq_true rfl) dL_errors_188 ⟨(by show _ ≤ 8645; omega), (by show _ ≤ 51870; omega)⟩ (rest := []) (fun H locs hP hS _ => ?_)
                            refine W.eq (g2 := F0 m 191 ls [.long r44.1]) rfl ?_
                            refine lv_ldc2 (v := (-9000000000000000001 : Int64)) F.1 F.2.1 F.2.2.2.1 (F.2.2.2.2 _ (List.mem_of_getElem? (i := 136) rfl)) dL_errors_191 ?_
                            refine W.lcmp F.1 F.2.1 dL_errors_194 ?_
                            refine lv_if_ne (tgt := 298) F.1 F.2.1 dL_errors_195 rfl (fun hc46 => ?_) (fun hc46 => ?_)
                            · have hf := ifn hc46 hf
                              refine lv_iconst (v := (0 : Int32)) F.1 F.2.1 dL_errors_298 (by decide) ?_
                              refine W.widen (k := 1235 * (6 + 1 - 6)) (n := 7410 * (6 + 1 - 6)) (by omega) (by omega) ?_
                              exact (KEY 6 (Nat.le_refl _)).1 r44.2 r1 r3.toInt32 (0 : Int32) _ _ _ (lv_sub hl [2, 1, 0] rfl) hP hS hf
                            · have hf := ifp hc46 hf
                              refine lv_aload_n F.1 F.2.1 dL_errors_198 rfl (lv_at hl 2 rfl) ?_
                              refine lv_iconst (v := (0 : Int32)) F.1 F.2.1 dL_errors_199 (by decide) ?_
                              refine lv_iconst (v := (0 : Int32)) F.1 F.2.1 dL_errors_200 (by decide) ?_
                              refine lv_iconst (v := (0 : Int32)) F.1 F.2.1 dL_errors_201 (by decide) ?_
                              obtain ⟨r47, hr48, hf⟩ := bnd hf
                              refine a_H F hK (fun _ hU hW => sl_U hG hS hU hW) (fun _ h => h) hP hS (c_L_reachedIn hlt (0 : Int32) (0 : Int32) (0 : Int32) hr48) (vx_cwSW 4 F.2.2.2.2 gB_errors_L_reachedIn rfl rfl rfl hd_L_reachedIn ⟨(Nat.le_of_ble_eq_true rfl), (Nat.le_of_ble_eq_true rfl)⟩) rfl rfl hl.1 (Nat.le_of_ble_eq_true rfl) dL_errors_202 ⟨(by show _ ≤ 8645; omega), (by show _ ≤ 51870; omega)⟩ (rest := []) (fun H locs hP hS _ => ?_)
                              refine W.eq (g2 := F0 m 205 ls [.long r47.1]) rfl ?_
                              refine lv_ldc2 (v := (-9000000000000000002 : Int64)) F.1 F.2.1 F.2.2.2.1 (F.2.2.2.2 _ (List.mem_of_getElem? (i := 84) rfl)) dL_errors_205 ?_
                              refine W.lcmp F.1 F.2.1 dL_errors_208 ?_
                              refine lv_if_ne (tgt := 298) F.1 F.2.1 dL_errors_209 rfl (fun hc49 => ?_) (fun hc49 => ?_)
                              · have hf := ifn hc49 hf
                                refine lv_iconst (v := (0 : Int32)) F.1 F.2.1 dL_errors_298 (by decide) ?_
                                refine W.widen (k := 1235 * (6 + 1 - 6)) (n := 7410 * (6 + 1 - 6)) (by omega) (by omega) ?_
                                exact (KEY 6 (Nat.le_refl _)).1 r47.2 r1 r3.toInt32 (0 : Int32) _ _ _ (lv_sub hl [2, 1, 0] rfl) hP hS hf
                              · have hf := ifp hc49 hf
                                refine lv_aload_n F.1 F.2.1 dL_errors_212 rfl (lv_at hl 2 rfl) ?_
                                refine lv_iconst (v := (0 : Int32)) F.1 F.2.1 dL_errors_213 (by decide) ?_
                                refine lv_iconst (v := (0 : Int32)) F.1 F.2.1 dL_errors_214 (by decide) ?_
                                refine lv_bipush (v := (31 : Int32)) F.1 F.2.1 dL_errors_215 (by decide) ?_
                                refine lv_iconst (v := (1 : Int32)) F.1 F.2.1 dL_errors_217 (by decide) ?_
                                obtain ⟨r50, hr51, hf⟩ := bnd hf
                                refine a_H F hK (fun _ hU hW => sl_U hG hS hU hW) (fun _ h => h) hP hS (c_L_bestFence hlt (0 : Int32) (0 : Int32) (31 : Int32) (1 : Int32) hr51) (vx_cwSW 5 F.2.2.2.2 gB_errors_L_bestFence rfl rfl rfl hd_L_bestFence ⟨(Nat.le_of_ble_eq_true rfl), (Nat.le_of_ble_eq_true rfl)⟩) rfl rfl hl.1 (Nat.le_of_ble_eq_true rfl) dL_errors_218 ⟨(by show _ ≤ 8645; omega), (by show _ ≤ 51870; omega)⟩ (rest := []) (fun H locs hP hS _ => ?_)
                                refine W.eq (g2 := F0 m 221 ls [.long r50.1]) rfl ?_
                                refine lv_ldc2 (v := (-9000000000000000002 : Int64)) F.1 F.2.1 F.2.2.2.1 (F.2.2.2.2 _ (List.mem_of_getElem? (i := 84) rfl)) dL_errors_221 ?_
                                refine W.lcmp F.1 F.2.1 dL_errors_224 ?_
                                refine lv_if_ne (tgt := 298) F.1 F.2.1 dL_errors_225 rfl (fun hc52 => ?_) (fun hc52 => ?_)
                                · have hf := ifn hc52 hf
                                  refine lv_iconst (v := (0 : Int32)) F.1 F.2.1 dL_errors_298 (by decide) ?_
                                  refine W.widen (k := 1235 * (6 + 1 - 6)) (n := 7410 * (6 + 1 - 6)) (by omega) (by omega) ?_
                                  exact (KEY 6 (Nat.le_refl _)).1 r50.2 r1 r3.toInt32 (0 : Int32) _ _ _ (lv_sub hl [2, 1, 0] rfl) hP hS hf
                                · have hf := ifp hc52 hf
                                  refine W.widen (k := 1235 * (6 + 1 - 6)) (n := 7410 * (6 + 1 - 6)) (by omega) (by omega) ?_
                                  exact (KEY 6 (Nat.le_refl _)).2.1 r50.2 r1 r3.toInt32 _ _ _ (lv_sub hl [2, 1, 0] rfl) hP hS hf
