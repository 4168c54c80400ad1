-- FrostTubesLaw.told(LFrostTubes;I)Z
def rmL_told : Room := { frames := 10, cells := 462, slots := 2772, locals := 171 }
theorem hd_L_told : yL_told.cls ≠ "java/lang/invoke/MethodHandle" ∧ yL_told.cls ≠ "java/lang/invoke/VarHandle" ∧ (parseMethodDescriptor yL_told.desc).map (fun d => d.parameters.length) = some 2 := by decide +kernel
set_option maxHeartbeats 8000000 in
set_option maxRecDepth 100000 in
theorem c_L_told {l : Launch} (hlt : l.stackTraces = false) {D : va_G} {x : Nat} {μ : Mem} (a1 : Int32) {r : Int32 × Mem} (hf : f_L_told μ a1 = some r) : LC l yL_told wsB_told rmL_told 462 2772 [.ref (x + 0), .int a1] D x μ (some (.int r.1)) r.2 := by
  refine LC.of (cc := cL_told) (maxL := 5) (ret := (some .boolean)) (by decide +kernel) rfl (Nat.le_of_ble_eq_true rfl) ?_
  intro p e s m args below meth c F hr hlk hK hG
  have KEY : ∀ n : Nat, n ≤ 20 → (∀ (μ : Mem) (v2 : Int32) (v3 : Int32) (ls : Array Slot) (H : Heap) (locs : List Loc), lv_has ls 5 [(0, .ref (x + 0)), (1, .int a1), (2, .int v2), (3, .int v3)] → va_P D vwCl (WL D x μ) H → va_S (rng x) s.heap H locs → fl_L_told a1 n 1 μ 0 0 v2 v3 0 = some r → W p l e rmL_told s m args below meth c H locs (22 * (20 + 1 - n)) (132 * (20 + 1 - n)) (vx_MQ below (QX D x r.2 (some (.int r.1))) XF args s 462 2772 (rng x)) (F0 m 92 ls [])) ∧ (∀ (μ : Mem) (v2 : Int32) (ls : Array Slot) (H : Heap) (locs : List Loc), lv_has ls 5 [(0, .ref (x + 0)), (1, .int a1), (2, .int v2)] → va_P D vwCl (WL D x μ) H → va_S (rng x) s.heap H locs → fl_L_told a1 n 2 μ 0 0 v2 0 0 = some r → W p l e rmL_told s m args below meth c H locs (22 * (20 + 1 - n)) (132 * (20 + 1 - n)) (vx_MQ below (QX D x r.2 (some (.int r.1))) XF args s 462 2772 (rng x)) (F0 m 215 ls [])) ∧ (∀ (μ : Mem) (v3 : Int32) (v4 : Int32) (t0 : Int32) (t1 : Int32) (ls : Array Slot) (H : Heap) (locs : List Loc), lv_has ls 5 [(0, .ref (x + 0)), (1, .int a1), (3, .int v3), (4, .int v4)] → va_P D vwCl (WL D x μ) H → va_S (rng x) s.heap H locs → fl_L_told a1 n 3 μ t0 t1 0 v3 v4 = some r → W p l e rmL_told s m args below meth c H locs (22 * (20 + 1 - n)) (132 * (20 + 1 - n)) (vx_MQ below (QX D x r.2 (some (.int r.1))) XF args s 462 2772 (rng x)) (F0 m 153 ls [.int t0, .int t1, .ref (x + 0)])) := by
    intro n
    induction n with
    | zero => intro _; exact ⟨(fun _ _ _ _ _ _ _ _ _ h => nomatch h), (fun _ _ _ _ _ _ _ _ h => nomatch h), (fun _ _ _ _ _ _ _ _ _ _ _ h => nomatch h)⟩
    | succ n ih =>
      intro hn
      have ih := ih (by omega)
      refine ⟨?_, ?_, ?_⟩
      · intro μ v2 v3  ls H locs hl hP hS hf
        have hf : fb_L_told_1 a1 (fl_L_told a1 n) μ 0 0 v2 v3 0 = some r := hf
        unfold fb_L_told_1 at hf
        refine lv_iload_n F.1 F.2.1 dL_told_92 rfl (lv_at hl 3 rfl) ?_
        refine lv_iconst (v := (1 : Int32)) F.1 F.2.1 dL_told_93 (by decide) ?_
        refine lv_iload_n F.1 F.2.1 dL_told_94 rfl (lv_at hl 1 rfl) ?_
        refine lv_iconst (v := (4 : Int32)) F.1 F.2.1 dL_told_95 (by decide) ?_
        refine lv_irem F.1 F.2.1 dL_told_96 (by decide) ?_
        refine lv_iadd F.1 F.2.1 dL_told_97 ?_
        refine lv_icmp_ge (tgt := 215) F.1 F.2.1 dL_told_98 rfl (fun hc19 => ?_) (fun hc19 => ?_)
        · have hf := ifp hc19 hf
          refine W.widen (k := 22 * (20 + 1 - n)) (n := 132 * (20 + 1 - n)) (by omega) (by omega) ?_
          exact ih.2.1 μ v2 _ _ _ (lv_sub hl [0, 1, 2] rfl) hP hS hf
        · have hf := ifn hc19 hf
          refine lv_iload_n F.1 F.2.1 dL_told_101 rfl (lv_at hl 2 rfl) ?_
          refine lv_if_eq (tgt := 215) F.1 F.2.1 dL_told_102 rfl (fun hc20 => ?_) (fun hc20 => ?_)
          · have hf := ifp hc20 hf
            refine W.widen (k := 22 * (20 + 1 - n)) (n := 132 * (20 + 1 - n)) (by omega) (by omega) ?_
            exact ih.2.1 μ v2 _ _ _ (lv_sub hl [0, 1, 2] rfl) hP hS hf
          · have hf := ifn hc20 hf
            refine lv_iload_n F.1 F.2.1 dL_told_105 rfl (lv_at hl 1 rfl) ?_
            refine lv_iload_n F.1 F.2.1 dL_told_106 rfl (lv_at hl 3 rfl) ?_
            refine lv_ishr F.1 F.2.1 dL_told_107 ?_
            refine lv_istore F.1 F.2.1 dL_told_108 hl (Nat.le_of_ble_eq_true rfl) rfl (fun ls hl => ?_)
            have hl : lv_has ls 5 [(4, .int (a1 >>> (v3 &&& (31 : Int32)))), (0, .ref (x + 0)), (1, .int a1), (2, .int v2), (3, .int v3)] := hl
            refine lv_aload_n F.1 F.2.1 dL_told_110 rfl (lv_at hl 1 rfl) ?_
            refine lv_bipush (v := (112 : Int32)) F.1 F.2.1 dL_told_111 (by decide) ?_
            refine lv_bipush (v := (48 : Int32)) F.1 F.2.1 dL_told_113 (by decide) ?_
            refine lv_iload F.1 F.2.1 dL_told_115 (lv_at hl 0 rfl) ?_
            refine lv_iconst (v := (3 : Int32)) F.1 F.2.1 dL_told_117 (by decide) ?_
            refine lv_irem F.1 F.2.1 dL_told_118 (by decide) ?_
            refine lv_iadd F.1 F.2.1 dL_told_119 ?_
            refine lv_bipush (v := (48 : Int32)) F.1 F.2.1 dL_told_120 (by decide) ?_
            refine lv_bipush (v := (48 : Int32)) F.1 F.2.1 dL_told_122 (by decide) ?_
            refine lv_iload F.1 F.2.1 dL_told_124 (lv_at hl 0 rfl) ?_
            refine lv_bipush (v := (10 : Int32)) F.1 F.2.1 dL_told_126 (by decide) ?_
            refine lv_irem F.1 F.2.1 dL_told_128 (by decide) ?_
            refine lv_iadd F.1 F.2.1 dL_told_129 ?_
            obtain ⟨r21, hr22, hf⟩ := bnd hf
            refine a_S F hK (fun _ hU hW => sl_U hG hS hU hW) (fun _ h => h) hP hS (c_L_says hlt (112 : Int32) ((48 : Int32) + ((a1 >>> (v3 &&& (31 : Int32))) - ((a1 >>> (v3 &&& (31 : Int32))) / (3 : Int32)) * (3 : Int32))) (48 : Int32) ((48 : Int32) + ((a1 >>> (v3 &&& (31 : Int32))) - ((a1 >>> (v3 &&& (31 : Int32))) / (10 : Int32)) * (10 : Int32))) hr22) (va_cwS 5 F.2.2.2.2 gB_told_L_says rfl rfl rfl hd_L_says ⟨(Nat.le_of_ble_eq_true rfl), (Nat.le_of_ble_eq_true rfl)⟩) rfl rfl hl.1 (Nat.le_of_ble_eq_true rfl) dL_told_130 ⟨(by show _ ≤ 462; omega), (by show _ ≤ 2772; omega)⟩ (rest := []) (fun H locs hP hS _ => ?_)
            refine W.eq (g2 := F0 m 133 ls [.int r21.1]) rfl ?_
            refine lv_if_eq (tgt := 207) F.1 F.2.1 dL_told_133 rfl (fun hc23 => ?_) (fun hc23 => ?_)
            · have hf := ifp hc23 hf
              refine lv_iconst (v := (0 : Int32)) F.1 F.2.1 dL_told_207 (by decide) ?_
              refine lv_istore_n F.1 F.2.1 dL_told_208 rfl hl (Nat.le_of_ble_eq_true rfl) rfl (fun ls hl => ?_)
              have hl : lv_has ls 5 [(2, .int (0 : Int32)), (4, .int (a1 >>> (v3 &&& (31 : Int32)))), (0, .ref (x + 0)), (1, .int a1), (3, .int v3)] := hl
              refine lv_iinc (v := (v3 + (1 : Int32))) F.1 F.2.1 dL_told_209 hl (k := 4) rfl rfl (Nat.le_of_ble_eq_true rfl) rfl (fun ls hl => ?_)
              have hl : lv_has ls 5 [(3, .int (v3 + (1 : Int32))), (2, .int (0 : Int32)), (4, .int (a1 >>> (v3 &&& (31 : Int32)))), (0, .ref (x + 0)), (1, .int a1)] := hl
              refine lv_goto (tgt := 92) F.1 F.2.1 dL_told_212 rfl ?_
              refine W.widen (k := 22 * (20 + 1 - n)) (n := 132 * (20 + 1 - n)) (by omega) (by omega) ?_
              exact ih.1 r21.2 (0 : Int32) (v3 + (1 : Int32)) _ _ _ (lv_sub hl [3, 4, 1, 0] rfl) hP hS hf
            · have hf := ifn hc23 hf
              refine lv_aload_n F.1 F.2.1 dL_told_136 rfl (lv_at hl 1 rfl) ?_
              refine lv_bipush (v := (100 : Int32)) F.1 F.2.1 dL_told_137 (by decide) ?_
              refine lv_iload F.1 F.2.1 dL_told_139 (lv_at hl 0 rfl) ?_
              refine lv_iconst (v := (4 : Int32)) F.1 F.2.1 dL_told_141 (by decide) ?_
              refine lv_irem F.1 F.2.1 dL_told_142 (by decide) ?_
              refine lv_if_ne (tgt := 151) F.1 F.2.1 dL_told_143 rfl (fun hc24 => ?_) (fun hc24 => ?_)
              · have hf := ifn hc24 hf
                refine lv_bipush (v := (45 : Int32)) F.1 F.2.1 dL_told_151 (by decide) ?_
                refine W.widen (k := 22 * (20 + 1 - n)) (n := 132 * (20 + 1 - n)) (by omega) (by omega) ?_
                exact ih.2.2 r21.2 v3 (a1 >>> (v3 &&& (31 : Int32))) (45 : Int32) (100 : Int32) _ _ _ (lv_sub hl [1, 2, 4, 0] rfl) hP hS hf
              · have hf := ifp hc24 hf
                refine lv_bipush (v := (43 : Int32)) F.1 F.2.1 dL_told_146 (by decide) ?_
                refine lv_goto (tgt := 153) F.1 F.2.1 dL_told_148 rfl ?_
                refine W.widen (k := 22 * (20 + 1 - n)) (n := 132 * (20 + 1 - n)) (by omega) (by omega) ?_
                exact ih.2.2 r21.2 v3 (a1 >>> (v3 &&& (31 : Int32))) (43 : Int32) (100 : Int32) _ _ _ (lv_sub hl [1, 2, 4, 0] rfl) hP hS hf
      · intro μ v2  ls H locs hl hP hS hf
        have hf : fb_L_told_2 a1 (fl_L_told a1 n) μ 0 0 v2 0 0 = some r := hf
        unfold fb_L_told_2 at hf
        refine lv_iload_n F.1 F.2.1 dL_told_215 rfl (lv_at hl 2 rfl) ?_
        refine lv_if_eq (tgt := 283) F.1 F.2.1 dL_told_216 rfl (fun hc25 => ?_) (fun hc25 => ?_)
        · have hf := ifp hc25 hf
          refine lv_iconst (v := (0 : Int32)) F.1 F.2.1 dL_told_283 (by decide) ?_
          obtain rfl := Option.some.inj hf
          exact s_zret F hr hlk hP hS rfl (b01_v (v := (0 : Int32)) (Or.inl rfl)) (by show _ ≤ 462; omega) (by show _ ≤ 2772; omega) dL_told_284
        · have hf := ifn hc25 hf
          refine lv_aload_n F.1 F.2.1 dL_told_219 rfl (lv_at hl 0 rfl) ?_
          refine lv_bipush (v := (120 : Int32)) F.1 F.2.1 dL_told_220 (by decide) ?_
          refine lv_bipush (v := (49 : Int32)) F.1 F.2.1 dL_told_222 (by decide) ?_
          refine lv_bipush (v := (119 : Int32)) F.1 F.2.1 dL_told_224 (by decide) ?_
          refine lv_bipush (v := (101 : Int32)) F.1 F.2.1 dL_told_226 (by decide) ?_
          obtain ⟨r26, hr27, hf⟩ := bnd hf
          refine a_S F hK (fun _ hU hW => sl_U hG hS hU hW) (fun _ h => h) hP hS (c_L_says hlt (120 : Int32) (49 : Int32) (119 : Int32) (101 : Int32) hr27) (va_cwS 5 F.2.2.2.2 gB_told_L_says rfl rfl rfl hd_L_says ⟨(Nat.le_of_ble_eq_true rfl), (Nat.le_of_ble_eq_true rfl)⟩) rfl rfl hl.1 (Nat.le_of_ble_eq_true rfl) dL_told_228 ⟨(by show _ ≤ 462; omega), (by show _ ≤ 2772; omega)⟩ (rest := []) (fun H locs hP hS _ => ?_)
          refine W.eq (g2 := F0 m 231 ls [.int r26.1]) rfl ?_
          refine lv_if_eq (tgt := 283) F.1 F.2.1 dL_told_231 rfl (fun hc28 => ?_) (fun hc28 => ?_)
          · have hf := ifp hc28 hf
            refine lv_iconst (v := (0 : Int32)) F.1 F.2.1 dL_told_283 (by decide) ?_
            obtain rfl := Option.some.inj hf
            exact s_zret F hr hlk hP hS rfl (b01_v (v := (0 : Int32)) (Or.inl rfl)) (by show _ ≤ 462; omega) (by show _ ≤ 2772; omega) dL_told_284
          · have hf := ifn hc28 hf
            refine lv_aload_n F.1 F.2.1 dL_told_234 rfl (lv_at hl 0 rfl) ?_
            refine lv_bipush (v := (50 : Int32)) F.1 F.2.1 dL_told_235 (by decide) ?_
            obtain ⟨r29, hr30, hf⟩ := bnd hf
            refine a_H F hK (fun _ hU hW => sl_U hG hS hU hW) (fun _ h => h) hP hS (c_L_append hlt (50 : Int32) hr30) (vx_cwSW 2 F.2.2.2.2 gB_told_L_append rfl rfl rfl hd_L_append ⟨(Nat.le_of_ble_eq_true rfl), (Nat.le_of_ble_eq_true rfl)⟩) rfl rfl hl.1 (Nat.le_of_ble_eq_true rfl) dL_told_237 ⟨(by show _ ≤ 462; omega), (by show _ ≤ 2772; omega)⟩ (rest := []) (fun H locs hP hS _ => ?_)
            refine W.eq (g2 := F0 m 240 ls [.long r29.1]) rfl ?_
            refine lv_lconst (v := (0 : Int64)) F.1 F.2.1 dL_told_240 rfl ?_
            refine W.lcmp F.1 F.2.1 dL_told_241 ?_
            refine lv_if_le (tgt := 283) F.1 F.2.1 dL_told_242 rfl (fun hc31 => ?_) (fun hc31 => ?_)
            · have hf := ifp hc31 hf
              refine lv_iconst (v := (0 : Int32)) F.1 F.2.1 dL_told_283 (by decide) ?_
              obtain rfl := Option.some.inj hf
              exact s_zret F hr hlk hP hS rfl (b01_v (v := (0 : Int32)) (Or.inl rfl)) (by show _ ≤ 462; omega) (by show _ ≤ 2772; omega) dL_told_284
            · have hf := ifn hc31 hf
              refine lv_aload_n F.1 F.2.1 dL_told_245 rfl (lv_at hl 0 rfl) ?_
              refine lv_bipush (v := (48 : Int32)) F.1 F.2.1 dL_told_246 (by decide) ?_
              refine lv_iload_n F.1 F.2.1 dL_told_248 rfl (lv_at hl 1 rfl) ?_
              refine lv_iconst (v := (5 : Int32)) F.1 F.2.1 dL_told_249 (by decide) ?_
              refine lv_irem F.1 F.2.1 dL_told_250 (by decide) ?_
              refine lv_iadd F.1 F.2.1 dL_told_251 ?_
              obtain ⟨r32, hr33, hf⟩ := bnd hf
              refine a_H F hK (fun _ hU hW => sl_U hG hS hU hW) (fun _ h => h) hP hS (c_L_append hlt ((48 : Int32) + (a1 - (a1 / (5 : Int32)) * (5 : Int32))) hr33) (vx_cwSW 2 F.2.2.2.2 gB_told_L_append rfl rfl rfl hd_L_append ⟨(Nat.le_of_ble_eq_true rfl), (Nat.le_of_ble_eq_true rfl)⟩) rfl rfl hl.1 (Nat.le_of_ble_eq_true rfl) dL_told_252 ⟨(by show _ ≤ 462; omega), (by show _ ≤ 2772; omega)⟩ (rest := []) (fun H locs hP hS _ => ?_)
              refine W.eq (g2 := F0 m 255 ls [.long r32.1]) rfl ?_
              refine lv_lconst (v := (0 : Int64)) F.1 F.2.1 dL_told_255 rfl ?_
              refine W.lcmp F.1 F.2.1 dL_told_256 ?_
              refine lv_if_le (tgt := 283) F.1 F.2.1 dL_told_257 rfl (fun hc34 => ?_) (fun hc34 => ?_)
              · have hf := ifp hc34 hf
                refine lv_iconst (v := (0 : Int32)) F.1 F.2.1 dL_told_283 (by decide) ?_
                obtain rfl := Option.some.inj hf
                exact s_zret F hr hlk hP hS rfl (b01_v (v := (0 : Int32)) (Or.inl rfl)) (by show _ ≤ 462; omega) (by show _ ≤ 2772; omega) dL_told_284
              · have hf := ifn hc34 hf
                refine lv_aload_n F.1 F.2.1 dL_told_260 rfl (lv_at hl 0 rfl) ?_
                refine lv_bipush (v := (55 : Int32)) F.1 F.2.1 dL_told_261 (by decide) ?_
                obtain ⟨r35, hr36, hf⟩ := bnd hf
                refine a_H F hK (fun _ hU hW => sl_U hG hS hU hW) (fun _ h => h) hP hS (c_L_append hlt (55 : Int32) hr36) (vx_cwSW 2 F.2.2.2.2 gB_told_L_append rfl rfl rfl hd_L_append ⟨(Nat.le_of_ble_eq_true rfl), (Nat.le_of_ble_eq_true rfl)⟩) rfl rfl hl.1 (Nat.le_of_ble_eq_true rfl) dL_told_263 ⟨(by show _ ≤ 462; omega), (by show _ ≤ 2772; omega)⟩ (rest := []) (fun H locs hP hS _ => ?_)
                refine W.eq (g2 := F0 m 266 ls [.long r35.1]) rfl ?_
                refine lv_lconst (v := (0 : Int64)) F.1 F.2.1 dL_told_266 rfl ?_
                refine W.lcmp F.1 F.2.1 dL_told_267 ?_
                refine lv_if_le (tgt := 283) F.1 F.2.1 dL_told_268 rfl (fun hc37 => ?_) (fun hc37 => ?_)
                · have hf := ifp hc37 hf
                  refine lv_iconst (v := (0 : Int32)) F.1 F.2.1 dL_told_283 (by decide) ?_
                  obtain rfl := Option.some.inj hf
                  exact s_zret F hr hlk hP hS rfl (b01_v (v := (0 : Int32)) (Or.inl rfl)) (by show _ ≤ 462; omega) (by show _ ≤ 2772; omega) dL_told_284
                · have hf := ifn hc37 hf
                  refine lv_aload_n F.1 F.2.1 dL_told_271 rfl (lv_at hl 0 rfl) ?_
                  obtain ⟨r38, hr39, hf⟩ := bnd hf
                  refine a_V F hK (fun _ hU hW => sl_U hG hS hU hW) (fun _ h => h) hP hS (c_X4_errorPosition hr39) (cwV 0 F.2.2.2.2 gB_told_X4_errorPosition rfl rfl rfl ⟨rfl, hd_X4_errorPosition⟩ ⟨(Nat.le_of_ble_eq_true rfl), (Nat.le_of_ble_eq_true rfl)⟩) rfl rfl hl.1 (Nat.le_of_ble_eq_true rfl) dL_told_272 ⟨(by show _ ≤ 462; omega), (by show _ ≤ 2772; omega)⟩ (rest := []) (fun H locs hP hS _ => ?_)
                  refine W.eq (g2 := F0 m 275 ls [.int r38.1]) rfl ?_
                  refine lv_iconst (v := (-1 : Int32)) F.1 F.2.1 dL_told_275 (by decide) ?_
                  refine lv_icmp_ne (tgt := 283) F.1 F.2.1 dL_told_276 rfl (fun hc40 => ?_) (fun hc40 => ?_)
                  · have hf := ifn hc40 hf
                    refine lv_iconst (v := (0 : Int32)) F.1 F.2.1 dL_told_283 (by decide) ?_
                    obtain rfl := Option.some.inj hf
                    exact s_zret F hr hlk hP hS rfl (b01_v (v := (0 : Int32)) (Or.inl rfl)) (by show _ ≤ 462; omega) (by show _ ≤ 2772; omega) dL_told_284
                  · have hf := ifp hc40 hf
                    refine lv_iconst (v := (1 : Int32)) F.1 F.2.1 dL_told_279 (by decide) ?_
                    refine lv_goto (tgt := 284) F.1 F.2.1 dL_told_280 rfl ?_
                    obtain rfl := Option.some.inj hf
                    exact s_zret F hr hlk hP hS rfl (b01_v (v := (1 : Int32)) (Or.inr rfl)) (by show _ ≤ 462; omega) (by show _ ≤ 2772; omega) dL_told_284
      · intro μ v3 v4 t0 t1  ls H locs hl hP hS hf
        have hf : fb_L_told_3 a1 (fl_L_told a1 n) μ t0 t1 0 v3 v4 = some r := hf
        unfold fb_L_told_3 at hf
        refine lv_bipush (v := (48 : Int32)) F.1 F.2.1 dL_told_153 (by decide) ?_
        refine lv_iload F.1 F.2.1 dL_told_155 (lv_at hl 3 rfl) ?_
        refine lv_iconst (v := (3 : Int32)) F.1 F.2.1 dL_told_157 (by decide) ?_
        refine lv_irem F.1 F.2.1 dL_told_158 (by decide) ?_
        refine lv_iadd F.1 F.2.1 dL_told_159 ?_
        refine lv_bipush (v := (48 : Int32)) F.1 F.2.1 dL_told_160 (by decide) ?_
        refine lv_iload F.1 F.2.1 dL_told_162 (lv_at hl 3 rfl) ?_
        refine lv_bipush (v := (10 : Int32)) F.1 F.2.1 dL_told_164 (by decide) ?_
        refine lv_irem F.1 F.2.1 dL_told_166 (by decide) ?_
        refine lv_iadd F.1 F.2.1 dL_told_167 ?_
        obtain ⟨r41, hr42, hf⟩ := bnd hf
        refine a_S F hK (fun _ hU hW => sl_U hG hS hU hW) (fun _ h => h) hP hS (c_L_says hlt t1 t0 ((48 : Int32) + (v4 - (v4 / (3 : Int32)) * (3 : Int32))) ((48 : Int32) + (v4 - (v4 / (10 : Int32)) * (10 : Int32))) hr42) (va_cwS 5 F.2.2.2.2 gB_told_L_says rfl rfl rfl hd_L_says ⟨(Nat.le_of_ble_eq_true rfl), (Nat.le_of_ble_eq_true rfl)⟩) rfl rfl hl.1 (Nat.le_of_ble_eq_true rfl) dL_told_168 ⟨(by show _ ≤ 462; omega), (by show _ ≤ 2772; omega)⟩ (rest := []) (fun H locs hP hS _ => ?_)
        refine W.eq (g2 := F0 m 171 ls [.int r41.1]) rfl ?_
        refine lv_if_eq (tgt := 207) F.1 F.2.1 dL_told_171 rfl (fun hc43 => ?_) (fun hc43 => ?_)
        · have hf := ifp hc43 hf
          refine lv_iconst (v := (0 : Int32)) F.1 F.2.1 dL_told_207 (by decide) ?_
          refine lv_istore_n F.1 F.2.1 dL_told_208 rfl hl (Nat.le_of_ble_eq_true rfl) rfl (fun ls hl => ?_)
          have hl : lv_has ls 5 [(2, .int (0 : Int32)), (0, .ref (x + 0)), (1, .int a1), (3, .int v3), (4, .int v4)] := hl
          refine lv_iinc (v := (v3 + (1 : Int32))) F.1 F.2.1 dL_told_209 hl (k := 3) rfl rfl (Nat.le_of_ble_eq_true rfl) rfl (fun ls hl => ?_)
          have hl : lv_has ls 5 [(3, .int (v3 + (1 : Int32))), (2, .int (0 : Int32)), (0, .ref (x + 0)), (1, .int a1), (4, .int v4)] := hl
          refine lv_goto (tgt := 92) F.1 F.2.1 dL_told_212 rfl ?_
          refine W.widen (k := 22 * (20 + 1 - n)) (n := 132 * (20 + 1 - n)) (by omega) (by omega) ?_
          exact ih.1 r41.2 (0 : Int32) (v3 + (1 : Int32)) _ _ _ (lv_sub hl [2, 3, 1, 0] rfl) hP hS hf
        · have hf := ifn hc43 hf
          refine lv_aload_n F.1 F.2.1 dL_told_174 rfl (lv_at hl 0 rfl) ?_
          refine lv_bipush (v := (48 : Int32)) F.1 F.2.1 dL_told_175 (by decide) ?_
          refine lv_bipush (v := (48 : Int32)) F.1 F.2.1 dL_told_177 (by decide) ?_
          refine lv_iload F.1 F.2.1 dL_told_179 (lv_at hl 3 rfl) ?_
          refine lv_iconst (v := (3 : Int32)) F.1 F.2.1 dL_told_181 (by decide) ?_
          refine lv_idiv F.1 F.2.1 dL_told_182 (by decide) ?_
          refine lv_bipush (v := (10 : Int32)) F.1 F.2.1 dL_told_183 (by decide) ?_
          refine lv_irem F.1 F.2.1 dL_told_185 (by decide) ?_
          refine lv_iadd F.1 F.2.1 dL_told_186 ?_
          refine lv_bipush (v := (48 : Int32)) F.1 F.2.1 dL_told_187 (by decide) ?_
          refine lv_bipush (v := (49 : Int32)) F.1 F.2.1 dL_told_189 (by decide) ?_
          refine lv_iload F.1 F.2.1 dL_told_191 (lv_at hl 3 rfl) ?_
          refine lv_bipush (v := (9 : Int32)) F.1 F.2.1 dL_told_193 (by decide) ?_
          refine lv_irem F.1 F.2.1 dL_told_195 (by decide) ?_
          refine lv_iadd F.1 F.2.1 dL_told_196 ?_
          obtain ⟨r44, hr45, hf⟩ := bnd hf
          refine a_S F hK (fun _ hU hW => sl_U hG hS hU hW) (fun _ h => h) hP hS (c_L_says hlt (48 : Int32) ((48 : Int32) + ((v4 / (3 : Int32)) - ((v4 / (3 : Int32)) / (10 : Int32)) * (10 : Int32))) (48 : Int32) ((49 : Int32) + (v4 - (v4 / (9 : Int32)) * (9 : Int32))) hr45) (va_cwS 5 F.2.2.2.2 gB_told_L_says rfl rfl rfl hd_L_says ⟨(Nat.le_of_ble_eq_true rfl), (Nat.le_of_ble_eq_true rfl)⟩) rfl rfl hl.1 (Nat.le_of_ble_eq_true rfl) dL_told_197 ⟨(by show _ ≤ 462; omega), (by show _ ≤ 2772; omega)⟩ (rest := []) (fun H locs hP hS _ => ?_)
          refine W.eq (g2 := F0 m 200 ls [.int r44.1]) rfl ?_
          refine lv_if_eq (tgt := 207) F.1 F.2.1 dL_told_200 rfl (fun hc46 => ?_) (fun hc46 => ?_)
          · have hf := ifp hc46 hf
            refine lv_iconst (v := (0 : Int32)) F.1 F.2.1 dL_told_207 (by decide) ?_
            refine lv_istore_n F.1 F.2.1 dL_told_208 rfl hl (Nat.le_of_ble_eq_true rfl) rfl (fun ls hl => ?_)
            have hl : lv_has ls 5 [(2, .int (0 : Int32)), (0, .ref (x + 0)), (1, .int a1), (3, .int v3), (4, .int v4)] := hl
            refine lv_iinc (v := (v3 + (1 : Int32))) F.1 F.2.1 dL_told_209 hl (k := 3) rfl rfl (Nat.le_of_ble_eq_true rfl) rfl (fun ls hl => ?_)
            have hl : lv_has ls 5 [(3, .int (v3 + (1 : Int32))), (2, .int (0 : Int32)), (0, .ref (x + 0)), (1, .int a1), (4, .int v4)] := hl
            refine lv_goto (tgt := 92) F.1 F.2.1 dL_told_212 rfl ?_
            refine W.widen (k := 22 * (20 + 1 - n)) (n := 132 * (20 + 1 - n)) (by omega) (by omega) ?_
            exact ih.1 r44.2 (0 : Int32) (v3 + (1 : Int32)) _ _ _ (lv_sub hl [2, 3, 1, 0] rfl) hP hS hf
          · have hf := ifn hc46 hf
            refine lv_iconst (v := (1 : Int32)) F.1 F.2.1 dL_told_203 (by decide) ?_
            refine lv_goto (tgt := 208) F.1 F.2.1 dL_told_204 rfl ?_
            refine lv_istore_n F.1 F.2.1 dL_told_208 rfl hl (Nat.le_of_ble_eq_true rfl) rfl (fun ls hl => ?_)
            have hl : lv_has ls 5 [(2, .int (1 : Int32)), (0, .ref (x + 0)), (1, .int a1), (3, .int v3), (4, .int v4)] := hl
            refine lv_iinc (v := (v3 + (1 : Int32))) F.1 F.2.1 dL_told_209 hl (k := 3) rfl rfl (Nat.le_of_ble_eq_true rfl) rfl (fun ls hl => ?_)
            have hl : lv_has ls 5 [(3, .int (v3 + (1 : Int32))), (2, .int (1 : Int32)), (0, .ref (x + 0)), (1, .int a1), (4, .int v4)] := hl
            refine lv_goto (tgt := 92) F.1 F.2.1 dL_told_212 rfl ?_
            refine W.widen (k := 22 * (20 + 1 - n)) (n := 132 * (20 + 1 - n)) (by omega) (by omega) ?_
            exact ih.1 r44.2 (1 : Int32) (v3 + (1 : Int32)) _ _ _ (lv_sub hl [2, 3, 1, 0] rfl) hP hS hf
  intro ls H locs hl hP hS
  have hl : lv_has ls 5 [(0, .ref (x + 0)), (1, .int a1)] := hl
  unfold f_L_told at hf
  refine lv_aload_n F.1 F.2.1 dL_told_0 rfl (lv_at hl 0 rfl) ?_
  obtain ⟨r1, hr2, hf⟩ := bnd hf
  refine a_V F hK (fun _ hU hW => sl_U hG hS hU hW) (fun _ h => h) hP hS (c_X4_clearText hr2) (cwV 0 F.2.2.2.2 gB_told_X4_clearText rfl rfl rfl ⟨rfl, hd_X4_clearText⟩ ⟨(Nat.le_of_ble_eq_true rfl), (Nat.le_of_ble_eq_true rfl)⟩) rfl rfl hl.1 (Nat.le_of_ble_eq_true rfl) dL_told_1 ⟨(by show _ ≤ 462; omega), (by show _ ≤ 2772; omega)⟩ (rest := []) (fun H locs hP hS _ => ?_)
  refine W.eq (g2 := F0 m 4 ls [.int r1.1]) rfl ?_
  refine lv_if_lt (tgt := 88) F.1 F.2.1 dL_told_4 rfl (fun hc3 => ?_) (fun hc3 => ?_)
  · have hf := ifp hc3 hf
    refine lv_iconst (v := (0 : Int32)) F.1 F.2.1 dL_told_88 (by decide) ?_
    refine lv_istore_n F.1 F.2.1 dL_told_89 rfl hl (Nat.le_of_ble_eq_true rfl) rfl (fun ls hl => ?_)
    have hl : lv_has ls 5 [(2, .int (0 : Int32)), (0, .ref (x + 0)), (1, .int a1)] := hl
    refine lv_iconst (v := (0 : Int32)) F.1 F.2.1 dL_told_90 (by decide) ?_
    refine lv_istore_n F.1 F.2.1 dL_told_91 rfl hl (Nat.le_of_ble_eq_true rfl) rfl (fun ls hl => ?_)
    have hl : lv_has ls 5 [(3, .int (0 : Int32)), (2, .int (0 : Int32)), (0, .ref (x + 0)), (1, .int a1)] := hl
    refine W.widen (k := 22 * (20 + 1 - 20)) (n := 132 * (20 + 1 - 20)) (by omega) (by omega) ?_
    exact (KEY 20 (Nat.le_refl _)).1 r1.2 (0 : Int32) (0 : Int32) _ _ _ (lv_sub hl [2, 3, 1, 0] rfl) hP hS hf
  · have hf := ifn hc3 hf
    refine lv_aload_n F.1 F.2.1 dL_told_7 rfl (lv_at hl 0 rfl) ?_
    refine lv_bipush (v := (68 : Int32)) F.1 F.2.1 dL_told_8 (by decide) ?_
    obtain ⟨r4, hr5, hf⟩ := bnd hf
    refine a_H F hK (fun _ hU hW => sl_U hG hS hU hW) (fun _ h => h) hP hS (c_L_append hlt (68 : Int32) hr5) (vx_cwSW 2 F.2.2.2.2 gB_told_L_append rfl rfl rfl hd_L_append ⟨(Nat.le_of_ble_eq_true rfl), (Nat.le_of_ble_eq_true rfl)⟩) rfl rfl hl.1 (Nat.le_of_ble_eq_true rfl) dL_told_10 ⟨(by show _ ≤ 462; omega), (by show _ ≤ 2772; omega)⟩ (rest := []) (fun H locs hP hS _ => ?_)
    refine W.eq (g2 := F0 m 13 ls [.long r4.1]) rfl ?_
    refine lv_lconst (v := (0 : Int64)) F.1 F.2.1 dL_told_13 rfl ?_
    refine W.lcmp F.1 F.2.1 dL_told_14 ?_
    refine lv_if_le (tgt := 88) F.1 F.2.1 dL_told_15 rfl (fun hc6 => ?_) (fun hc6 => ?_)
    · have hf := ifp hc6 hf
      refine lv_iconst (v := (0 : Int32)) F.1 F.2.1 dL_told_88 (by decide) ?_
      refine lv_istore_n F.1 F.2.1 dL_told_89 rfl hl (Nat.le_of_ble_eq_true rfl) rfl (fun ls hl => ?_)
      have hl : lv_has ls 5 [(2, .int (0 : Int32)), (0, .ref (x + 0)), (1, .int a1)] := hl
      refine lv_iconst (v := (0 : Int32)) F.1 F.2.1 dL_told_90 (by decide) ?_
      refine lv_istore_n F.1 F.2.1 dL_told_91 rfl hl (Nat.le_of_ble_eq_true rfl) rfl (fun ls hl => ?_)
      have hl : lv_has ls 5 [(3, .int (0 : Int32)), (2, .int (0 : Int32)), (0, .ref (x + 0)), (1, .int a1)] := hl
      refine W.widen (k := 22 * (20 + 1 - 20)) (n := 132 * (20 + 1 - 20)) (by omega) (by omega) ?_
      exact (KEY 20 (Nat.le_refl _)).1 r4.2 (0 : Int32) (0 : Int32) _ _ _ (lv_sub hl [2, 3, 1, 0] rfl) hP hS hf
    · have hf := ifn hc6 hf
      refine lv_aload_n F.1 F.2.1 dL_told_18 rfl (lv_at hl 0 rfl) ?_
      refine lv_bipush (v := (115 : Int32)) F.1 F.2.1 dL_told_19 (by decide) ?_
      refine lv_bipush (v := (115 : Int32)) F.1 F.2.1 dL_told_21 (by decide) ?_
      refine lv_bipush (v := (102 : Int32)) F.1 F.2.1 dL_told_23 (by decide) ?_
      refine lv_bipush (v := (48 : Int32)) F.1 F.2.1 dL_told_25 (by decide) ?_
      obtain ⟨r7, hr8, hf⟩ := bnd hf
      refine a_S F hK (fun _ hU hW => sl_U hG hS hU hW) (fun _ h => h) hP hS (c_L_says hlt (115 : Int32) (115 : Int32) (102 : Int32) (48 : Int32) hr8) (va_cwS 5 F.2.2.2.2 gB_told_L_says rfl rfl rfl hd_L_says ⟨(Nat.le_of_ble_eq_true rfl), (Nat.le_of_ble_eq_true rfl)⟩) rfl rfl hl.1 (Nat.le_of_ble_eq_true rfl) dL_told_27 ⟨(by show _ ≤ 462; omega), (by show _ ≤ 2772; omega)⟩ (rest := []) (fun H locs hP hS _ => ?_)
      refine W.eq (g2 := F0 m 30 ls [.int r7.1]) rfl ?_
      refine lv_if_eq (tgt := 88) F.1 F.2.1 dL_told_30 rfl (fun hc9 => ?_) (fun hc9 => ?_)
      · have hf := ifp hc9 hf
        refine lv_iconst (v := (0 : Int32)) F.1 F.2.1 dL_told_88 (by decide) ?_
        refine lv_istore_n F.1 F.2.1 dL_told_89 rfl hl (Nat.le_of_ble_eq_true rfl) rfl (fun ls hl => ?_)
        have hl : lv_has ls 5 [(2, .int (0 : Int32)), (0, .ref (x + 0)), (1, .int a1)] := hl
        refine lv_iconst (v := (0 : Int32)) F.1 F.2.1 dL_told_90 (by decide) ?_
        refine lv_istore_n F.1 F.2.1 dL_told_91 rfl hl (Nat.le_of_ble_eq_true rfl) rfl (fun ls hl => ?_)
        have hl : lv_has ls 5 [(3, .int (0 : Int32)), (2, .int (0 : Int32)), (0, .ref (x + 0)), (1, .int a1)] := hl
        refine W.widen (k := 22 * (20 + 1 - 20)) (n := 132 * (20 + 1 - 20)) (by omega) (by omega) ?_
        exact (KEY 20 (Nat.le_refl _)).1 r7.2 (0 : Int32) (0 : Int32) _ _ _ (lv_sub hl [2, 3, 1, 0] rfl) hP hS hf
      · have hf := ifn hc9 hf
        refine lv_aload_n F.1 F.2.1 dL_told_33 rfl (lv_at hl 0 rfl) ?_
        refine lv_bipush (v := (48 : Int32)) F.1 F.2.1 dL_told_34 (by decide) ?_
        refine lv_bipush (v := (48 : Int32)) F.1 F.2.1 dL_told_36 (by decide) ?_
        refine lv_iload_n F.1 F.2.1 dL_told_38 rfl (lv_at hl 1 rfl) ?_
        refine lv_bipush (v := (10 : Int32)) F.1 F.2.1 dL_told_39 (by decide) ?_
        refine lv_irem F.1 F.2.1 dL_told_41 (by decide) ?_
        refine lv_iadd F.1 F.2.1 dL_told_42 ?_
        refine lv_bipush (v := (116 : Int32)) F.1 F.2.1 dL_told_43 (by decide) ?_
        refine lv_bipush (v := (48 : Int32)) F.1 F.2.1 dL_told_45 (by decide) ?_
        refine lv_iload_n F.1 F.2.1 dL_told_47 rfl (lv_at hl 1 rfl) ?_
        refine lv_iconst (v := (3 : Int32)) F.1 F.2.1 dL_told_48 (by decide) ?_
        refine lv_irem F.1 F.2.1 dL_told_49 (by decide) ?_
        refine lv_iadd F.1 F.2.1 dL_told_50 ?_
        obtain ⟨r10, hr11, hf⟩ := bnd hf
        refine a_S F hK (fun _ hU hW => sl_U hG hS hU hW) (fun _ h => h) hP hS (c_L_says hlt (48 : Int32) ((48 : Int32) + (a1 - (a1 / (10 : Int32)) * (10 : Int32))) (116 : Int32) ((48 : Int32) + (a1 - (a1 / (3 : Int32)) * (3 : Int32))) hr11) (va_cwS 5 F.2.2.2.2 gB_told_L_says rfl rfl rfl hd_L_says ⟨(Nat.le_of_ble_eq_true rfl), (Nat.le_of_ble_eq_true rfl)⟩) rfl rfl hl.1 (Nat.le_of_ble_eq_true rfl) dL_told_51 ⟨(by show _ ≤ 462; omega), (by show _ ≤ 2772; omega)⟩ (rest := []) (fun H locs hP hS _ => ?_)
        refine W.eq (g2 := F0 m 54 ls [.int r10.1]) rfl ?_
        refine lv_if_eq (tgt := 88) F.1 F.2.1 dL_told_54 rfl (fun hc12 => ?_) (fun hc12 => ?_)
        · have hf := ifp hc12 hf
          refine lv_iconst (v := (0 : Int32)) F.1 F.2.1 dL_told_88 (by decide) ?_
          refine lv_istore_n F.1 F.2.1 dL_told_89 rfl hl (Nat.le_of_ble_eq_true rfl) rfl (fun ls hl => ?_)
          have hl : lv_has ls 5 [(2, .int (0 : Int32)), (0, .ref (x + 0)), (1, .int a1)] := hl
          refine lv_iconst (v := (0 : Int32)) F.1 F.2.1 dL_told_90 (by decide) ?_
          refine lv_istore_n F.1 F.2.1 dL_told_91 rfl hl (Nat.le_of_ble_eq_true rfl) rfl (fun ls hl => ?_)
          have hl : lv_has ls 5 [(3, .int (0 : Int32)), (2, .int (0 : Int32)), (0, .ref (x + 0)), (1, .int a1)] := hl
          refine W.widen (k := 22 * (20 + 1 - 20)) (n := 132 * (20 + 1 - 20)) (by omega) (by omega) ?_
          exact (KEY 20 (Nat.le_refl _)).1 r10.2 (0 : Int32) (0 : Int32) _ _ _ (lv_sub hl [2, 3, 1, 0] rfl) hP hS hf
        · have hf := ifn hc12 hf
          refine lv_aload_n F.1 F.2.1 dL_told_57 rfl (lv_at hl 0 rfl) ?_
          refine lv_bipush (v := (49 : Int32)) F.1 F.2.1 dL_told_58 (by decide) ?_
          obtain ⟨r13, hr14, hf⟩ := bnd hf
          refine a_H F hK (fun _ hU hW => sl_U hG hS hU hW) (fun _ h => h) hP hS (c_L_append hlt (49 : Int32) hr14) (vx_cwSW 2 F.2.2.2.2 gB_told_L_append rfl rfl rfl hd_L_append ⟨(Nat.le_of_ble_eq_true rfl), (Nat.le_of_ble_eq_true rfl)⟩) rfl rfl hl.1 (Nat.le_of_ble_eq_true rfl) dL_told_60 ⟨(by show _ ≤ 462; omega), (by show _ ≤ 2772; omega)⟩ (rest := []) (fun H locs hP hS _ => ?_)
          refine W.eq (g2 := F0 m 63 ls [.long r13.1]) rfl ?_
          refine lv_lconst (v := (0 : Int64)) F.1 F.2.1 dL_told_63 rfl ?_
          refine W.lcmp F.1 F.2.1 dL_told_64 ?_
          refine lv_if_le (tgt := 88) F.1 F.2.1 dL_told_65 rfl (fun hc15 => ?_) (fun hc15 => ?_)
          · have hf := ifp hc15 hf
            refine lv_iconst (v := (0 : Int32)) F.1 F.2.1 dL_told_88 (by decide) ?_
            refine lv_istore_n F.1 F.2.1 dL_told_89 rfl hl (Nat.le_of_ble_eq_true rfl) rfl (fun ls hl => ?_)
            have hl : lv_has ls 5 [(2, .int (0 : Int32)), (0, .ref (x + 0)), (1, .int a1)] := hl
            refine lv_iconst (v := (0 : Int32)) F.1 F.2.1 dL_told_90 (by decide) ?_
            refine lv_istore_n F.1 F.2.1 dL_told_91 rfl hl (Nat.le_of_ble_eq_true rfl) rfl (fun ls hl => ?_)
            have hl : lv_has ls 5 [(3, .int (0 : Int32)), (2, .int (0 : Int32)), (0, .ref (x + 0)), (1, .int a1)] := hl
            refine W.widen (k := 22 * (20 + 1 - 20)) (n := 132 * (20 + 1 - 20)) (by omega) (by omega) ?_
            exact (KEY 20 (Nat.le_refl _)).1 r13.2 (0 : Int32) (0 : Int32) _ _ _ (lv_sub hl [2, 3, 1, 0] rfl) hP hS hf
          · have hf := ifn hc15 hf
            refine lv_aload_n F.1 F.2.1 dL_told_68 rfl (lv_at hl 0 rfl) ?_
            refine lv_bipush (v := (48 : Int32)) F.1 F.2.1 dL_told_69 (by decide) ?_
            refine lv_iload_n F.1 F.2.1 dL_told_71 rfl (lv_at hl 1 rfl) ?_
            refine lv_bipush (v := (10 : Int32)) F.1 F.2.1 dL_told_72 (by decide) ?_
            refine lv_irem F.1 F.2.1 dL_told_74 (by decide) ?_
            refine lv_iadd F.1 F.2.1 dL_told_75 ?_
            obtain ⟨r16, hr17, hf⟩ := bnd hf
            refine a_H F hK (fun _ hU hW => sl_U hG hS hU hW) (fun _ h => h) hP hS (c_L_append hlt ((48 : Int32) + (a1 - (a1 / (10 : Int32)) * (10 : Int32))) hr17) (vx_cwSW 2 F.2.2.2.2 gB_told_L_append rfl rfl rfl hd_L_append ⟨(Nat.le_of_ble_eq_true rfl), (Nat.le_of_ble_eq_true rfl)⟩) rfl rfl hl.1 (Nat.le_of_ble_eq_true rfl) dL_told_76 ⟨(by show _ ≤ 462; omega), (by show _ ≤ 2772; omega)⟩ (rest := []) (fun H locs hP hS _ => ?_)
            refine W.eq (g2 := F0 m 79 ls [.long r16.1]) rfl ?_
            refine lv_lconst (v := (0 : Int64)) F.1 F.2.1 dL_told_79 rfl ?_
            refine W.lcmp F.1 F.2.1 dL_told_80 ?_
            refine lv_if_le (tgt := 88) F.1 F.2.1 dL_told_81 rfl (fun hc18 => ?_) (fun hc18 => ?_)
            · have hf := ifp hc18 hf
              refine lv_iconst (v := (0 : Int32)) F.1 F.2.1 dL_told_88 (by decide) ?_
              refine lv_istore_n F.1 F.2.1 dL_told_89 rfl hl (Nat.le_of_ble_eq_true rfl) rfl (fun ls hl => ?_)
              have hl : lv_has ls 5 [(2, .int (0 : Int32)), (0, .ref (x + 0)), (1, .int a1)] := hl
              refine lv_iconst (v := (0 : Int32)) F.1 F.2.1 dL_told_90 (by decide) ?_
              refine lv_istore_n F.1 F.2.1 dL_told_91 rfl hl (Nat.le_of_ble_eq_true rfl) rfl (fun ls hl => ?_)
              have hl : lv_has ls 5 [(3, .int (0 : Int32)), (2, .int (0 : Int32)), (0, .ref (x + 0)), (1, .int a1)] := hl
              refine W.widen (k := 22 * (20 + 1 - 20)) (n := 132 * (20 + 1 - 20)) (by omega) (by omega) ?_
              exact (KEY 20 (Nat.le_refl _)).1 r16.2 (0 : Int32) (0 : Int32) _ _ _ (lv_sub hl [2, 3, 1, 0] rfl) hP hS hf
            · have hf := ifn hc18 hf
              refine lv_iconst (v := (1 : Int32)) F.1 F.2.1 dL_told_84 (by decide) ?_
              refine lv_goto (tgt := 89) F.1 F.2.1 dL_told_85 rfl ?_
              refine lv_istore_n F.1 F.2.1 dL_told_89 rfl hl (Nat.le_of_ble_eq_true rfl) rfl (fun ls hl => ?_)
              have hl : lv_has ls 5 [(2, .int (1 : Int32)), (0, .ref (x + 0)), (1, .int a1)] := hl
              refine lv_iconst (v := (0 : Int32)) F.1 F.2.1 dL_told_90 (by decide) ?_
              refine lv_istore_n F.1 F.2.1 dL_told_91 rfl hl (Nat.le_of_ble_eq_true rfl) rfl (fun ls hl => ?_)
              have hl : lv_has ls 5 [(3, .int (0 : Int32)), (2, .int (1 : Int32)), (0, .ref (x + 0)), (1, .int a1)] := hl
              refine W.widen (k := 22 * (20 + 1 - 20)) (n := 132 * (20 + 1 - 20)) (by omega) (by omega) ?_
              exact (KEY 20 (Nat.le_refl _)).1 r16.2 (1 : Int32) (0 : Int32) _ _ _ (lv_sub hl [2, 3, 1, 0] rfl) hP hS hf
