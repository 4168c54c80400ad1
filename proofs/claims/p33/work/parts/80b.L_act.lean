-- FrostTubesLaw.act(LFrostTubes;II)J
def rmL_act : Room := { frames := 9, cells := 8, slots := 48, locals := 216 }
theorem hd_L_act : yL_act.cls ≠ "java/lang/invoke/MethodHandle" ∧ yL_act.cls ≠ "java/lang/invoke/VarHandle" ∧ (parseMethodDescriptor yL_act.desc).map (fun d => d.parameters.length) = some 3 := by decide +kernel
set_option maxHeartbeats 8000000 in
set_option maxRecDepth 100000 in
theorem c_L_act {l : Launch} (hlt : l.stackTraces = false) {D : va_G} {x : Nat} {μ : Mem} (a1 : Int32) (a2 : Int32) {r : Int64 × Mem} (hf : f_L_act μ a1 a2 = some r) : LC l yL_act wsB_act rmL_act 8 48 [.ref (x + 0), .int a1, .int a2] D x μ (some (.long r.1)) r.2 := by
  refine LC.of (cc := cL_act) (maxL := 5) (ret := (some .long)) (by decide +kernel) rfl (Nat.le_of_ble_eq_true rfl) ?_
  intro p e s m args below meth c F hr hlk hK hG
  have KEY : ∀ n : Nat, n ≤ 3 → (∀ (μ : Mem) (v3 : Int32) (t0 : Int32) (t1 : Int32) (ls : Array Slot) (H : Heap) (locs : List Loc), lv_has ls 5 [(3, .int v3)] → va_P D vwCl (WL D x μ) H → va_S (rng x) s.heap H locs → fl_L_act a1 a2 n μ t0 t1 v3 = some r → W p l e rmL_act s m args below meth c H locs (2 * (3 + 1 - n)) (12 * (3 + 1 - n)) (vx_MQ below (QX D x r.2 (some (.long r.1))) XF args s 8 48 (rng x)) (F0 m 252 ls [.int t0, .int t1, .ref (x + 0)])) := by
    intro n
    induction n with
    | zero => intro _; exact (fun _ _ _ _ _ _ _ _ _ _ h => nomatch h)
    | succ n ih =>
      intro hn
      have ih := ih (by omega)
      skip
      intro μ v3 t0 t1  ls H locs hl hP hS hf
      have hf : fb_L_act_1 a1 a2 (fl_L_act a1 a2 n) μ t0 t1 v3 = some r := hf
      unfold fb_L_act_1 at hf
      refine lv_iconst (v := (1 : Int32)) F.1 F.2.1 dL_act_252 (by decide) ?_
      refine lv_iload_n F.1 F.2.1 dL_act_253 rfl (lv_at hl 0 rfl) ?_
      refine lv_iconst (v := (5 : Int32)) F.1 F.2.1 dL_act_254 (by decide) ?_
      refine lv_idiv F.1 F.2.1 dL_act_255 (by decide) ?_
      refine lv_iload_n F.1 F.2.1 dL_act_256 rfl (lv_at hl 0 rfl) ?_
      refine lv_bipush (v := (6 : Int32)) F.1 F.2.1 dL_act_257 (by decide) ?_
      refine lv_irem F.1 F.2.1 dL_act_259 (by decide) ?_
      refine lv_if_ne (tgt := 268) F.1 F.2.1 dL_act_260 rfl (fun hc56 => ?_) (fun hc56 => ?_)
      · have hf := ifn hc56 hf
        refine lv_iconst (v := (5 : Int32)) F.1 F.2.1 dL_act_268 (by decide) ?_
        refine lv_irem F.1 F.2.1 dL_act_269 (by decide) ?_
        refine lv_iadd F.1 F.2.1 dL_act_270 ?_
        obtain ⟨r57, hr58, hf⟩ := bnd hf
        refine a_H F hK (fun _ hU hW => sl_U hG hS hU hW) (fun _ h => h) hP hS (c_L_days hlt t1 t0 ((1 : Int32) + ((v3 / (5 : Int32)) - ((v3 / (5 : Int32)) / (5 : Int32)) * (5 : Int32))) hr58) (vx_cwSW 4 F.2.2.2.2 gB_act_L_days rfl rfl rfl hd_L_days ⟨(Nat.le_of_ble_eq_true rfl), (Nat.le_of_ble_eq_true rfl)⟩) rfl rfl hl.1 (Nat.le_of_ble_eq_true rfl) dL_act_271 ⟨(by show _ ≤ 8; omega), (by show _ ≤ 48; omega)⟩ (rest := []) (fun H locs hP hS _ => ?_)
        refine W.eq (g2 := F0 m 274 ls [.long r57.1]) rfl ?_
        obtain rfl := Option.some.inj hf
        exact s_lret F hr hlk hP hS rfl (by show _ ≤ 8; omega) (by show _ ≤ 48; omega) dL_act_274
      · have hf := ifp hc56 hf
        refine lv_bipush (v := (40 : Int32)) F.1 F.2.1 dL_act_263 (by decide) ?_
        refine lv_goto (tgt := 269) F.1 F.2.1 dL_act_265 rfl ?_
        refine lv_irem F.1 F.2.1 dL_act_269 (by decide) ?_
        refine lv_iadd F.1 F.2.1 dL_act_270 ?_
        obtain ⟨r59, hr60, hf⟩ := bnd hf
        refine a_H F hK (fun _ hU hW => sl_U hG hS hU hW) (fun _ h => h) hP hS (c_L_days hlt t1 t0 ((1 : Int32) + ((v3 / (5 : Int32)) - ((v3 / (5 : Int32)) / (40 : Int32)) * (40 : Int32))) hr60) (vx_cwSW 4 F.2.2.2.2 gB_act_L_days rfl rfl rfl hd_L_days ⟨(Nat.le_of_ble_eq_true rfl), (Nat.le_of_ble_eq_true rfl)⟩) rfl rfl hl.1 (Nat.le_of_ble_eq_true rfl) dL_act_271 ⟨(by show _ ≤ 8; omega), (by show _ ≤ 48; omega)⟩ (rest := []) (fun H locs hP hS _ => ?_)
        refine W.eq (g2 := F0 m 274 ls [.long r59.1]) rfl ?_
        obtain rfl := Option.some.inj hf
        exact s_lret F hr hlk hP hS rfl (by show _ ≤ 8; omega) (by show _ ≤ 48; omega) dL_act_274
  intro ls H locs hl hP hS
  have hl : lv_has ls 5 [(0, .ref (x + 0)), (1, .int a1), (2, .int a2)] := hl
  unfold f_L_act at hf
  refine lv_iload_n F.1 F.2.1 dL_act_0 rfl (lv_at hl 2 rfl) ?_
  refine lv_bipush (v := (32 : Int32)) F.1 F.2.1 dL_act_1 (by decide) ?_
  refine lv_idiv F.1 F.2.1 dL_act_3 (by decide) ?_
  refine lv_istore_n F.1 F.2.1 dL_act_4 rfl hl (Nat.le_of_ble_eq_true rfl) rfl (fun ls hl => ?_)
  have hl : lv_has ls 5 [(3, .int (a2 / (32 : Int32))), (0, .ref (x + 0)), (1, .int a1), (2, .int a2)] := hl
  refine lv_iload_n F.1 F.2.1 dL_act_5 rfl (lv_at hl 2 rfl) ?_
  refine lv_bipush (v := (20 : Int32)) F.1 F.2.1 dL_act_6 (by decide) ?_
  refine lv_irem F.1 F.2.1 dL_act_8 (by decide) ?_
  by_cases hc1 : (a1 - (a1 / (20 : Int32)) * (20 : Int32)) = (0 : Int32)
  · have hf := ifp hc1 hf
    refine lv_tableIn (off := 75) (tgt := 84) F.1 F.2.1 dL_act_9 (by rw [hc1]; decide) (by rw [hc1]; decide) (by rw [hc1]; rfl) rfl ?_
    refine lv_aload_n F.1 F.2.1 dL_act_84 rfl (lv_at hl 1 rfl) ?_
    obtain ⟨r2, hr3, hf⟩ := bnd hf
    refine a_H F hK (fun _ hU hW => sl_U hG hS hU hW) (fun _ h => h) hP hS (c_L_site hlt hr3) (vx_cwSW 1 F.2.2.2.2 gB_act_L_site rfl rfl rfl hd_L_site ⟨(Nat.le_of_ble_eq_true rfl), (Nat.le_of_ble_eq_true rfl)⟩) rfl rfl hl.1 (Nat.le_of_ble_eq_true rfl) dL_act_85 ⟨(by show _ ≤ 8; omega), (by show _ ≤ 48; omega)⟩ (rest := []) (fun H locs hP hS _ => ?_)
    refine W.eq (g2 := F0 m 88 ls [.long r2.1]) rfl ?_
    obtain rfl := Option.some.inj hf
    exact s_lret F hr hlk hP hS rfl (by show _ ≤ 8; omega) (by show _ ≤ 48; omega) dL_act_88
  have hf := ifn hc1 hf
  by_cases hc4 : (a1 - (a1 / (20 : Int32)) * (20 : Int32)) = (1 : Int32)
  · have hf := ifp hc4 hf
    refine lv_tableIn (off := 80) (tgt := 89) F.1 F.2.1 dL_act_9 (by rw [hc4]; decide) (by rw [hc4]; decide) (by rw [hc4]; rfl) rfl ?_
    refine lv_aload_n F.1 F.2.1 dL_act_89 rfl (lv_at hl 1 rfl) ?_
    refine lv_iload_n F.1 F.2.1 dL_act_90 rfl (lv_at hl 3 rfl) ?_
    refine lv_iconst (v := (4 : Int32)) F.1 F.2.1 dL_act_91 (by decide) ?_
    refine lv_irem F.1 F.2.1 dL_act_92 (by decide) ?_
    refine lv_iconst (v := (1 : Int32)) F.1 F.2.1 dL_act_93 (by decide) ?_
    refine lv_iload_n F.1 F.2.1 dL_act_94 rfl (lv_at hl 0 rfl) ?_
    refine lv_bipush (v := (30 : Int32)) F.1 F.2.1 dL_act_95 (by decide) ?_
    refine lv_irem F.1 F.2.1 dL_act_97 (by decide) ?_
    refine lv_iadd F.1 F.2.1 dL_act_98 ?_
    obtain ⟨r5, hr6, hf⟩ := bnd hf
    refine a_H F hK (fun _ hU hW => sl_U hG hS hU hW) (fun _ h => h) hP hS (c_L_tube hlt (a2 - (a2 / (4 : Int32)) * (4 : Int32)) ((1 : Int32) + ((a2 / (32 : Int32)) - ((a2 / (32 : Int32)) / (30 : Int32)) * (30 : Int32))) hr6) (vx_cwSW 3 F.2.2.2.2 gB_act_L_tube rfl rfl rfl hd_L_tube ⟨(Nat.le_of_ble_eq_true rfl), (Nat.le_of_ble_eq_true rfl)⟩) rfl rfl hl.1 (Nat.le_of_ble_eq_true rfl) dL_act_99 ⟨(by show _ ≤ 8; omega), (by show _ ≤ 48; omega)⟩ (rest := []) (fun H locs hP hS _ => ?_)
    refine W.eq (g2 := F0 m 102 ls [.long r5.1]) rfl ?_
    obtain rfl := Option.some.inj hf
    exact s_lret F hr hlk hP hS rfl (by show _ ≤ 8; omega) (by show _ ≤ 48; omega) dL_act_102
  have hf := ifn hc4 hf
  by_cases hc7 : (a1 - (a1 / (20 : Int32)) * (20 : Int32)) = (2 : Int32)
  · have hf := ifp hc7 hf
    refine lv_tableIn (off := 94) (tgt := 103) F.1 F.2.1 dL_act_9 (by rw [hc7]; decide) (by rw [hc7]; decide) (by rw [hc7]; rfl) rfl ?_
    refine lv_aload_n F.1 F.2.1 dL_act_103 rfl (lv_at hl 1 rfl) ?_
    refine lv_iload_n F.1 F.2.1 dL_act_104 rfl (lv_at hl 3 rfl) ?_
    refine lv_iconst (v := (4 : Int32)) F.1 F.2.1 dL_act_105 (by decide) ?_
    refine lv_irem F.1 F.2.1 dL_act_106 (by decide) ?_
    refine lv_iload_n F.1 F.2.1 dL_act_107 rfl (lv_at hl 0 rfl) ?_
    refine lv_bipush (v := (9 : Int32)) F.1 F.2.1 dL_act_108 (by decide) ?_
    refine lv_irem F.1 F.2.1 dL_act_110 (by decide) ?_
    obtain ⟨r8, hr9, hf⟩ := bnd hf
    refine a_H F hK (fun _ hU hW => sl_U hG hS hU hW) (fun _ h => h) hP hS (c_L_pipe hlt (a2 - (a2 / (4 : Int32)) * (4 : Int32)) ((a2 / (32 : Int32)) - ((a2 / (32 : Int32)) / (9 : Int32)) * (9 : Int32)) hr9) (vx_cwSW 3 F.2.2.2.2 gB_act_L_pipe rfl rfl rfl hd_L_pipe ⟨(Nat.le_of_ble_eq_true rfl), (Nat.le_of_ble_eq_true rfl)⟩) rfl rfl hl.1 (Nat.le_of_ble_eq_true rfl) dL_act_111 ⟨(by show _ ≤ 8; omega), (by show _ ≤ 48; omega)⟩ (rest := []) (fun H locs hP hS _ => ?_)
    refine W.eq (g2 := F0 m 114 ls [.long r8.1]) rfl ?_
    obtain rfl := Option.some.inj hf
    exact s_lret F hr hlk hP hS rfl (by show _ ≤ 8; omega) (by show _ ≤ 48; omega) dL_act_114
  have hf := ifn hc7 hf
  by_cases hc10 : (a1 - (a1 / (20 : Int32)) * (20 : Int32)) = (3 : Int32)
  · have hf := ifp hc10 hf
    refine lv_tableIn (off := 94) (tgt := 103) F.1 F.2.1 dL_act_9 (by rw [hc10]; decide) (by rw [hc10]; decide) (by rw [hc10]; rfl) rfl ?_
    refine lv_aload_n F.1 F.2.1 dL_act_103 rfl (lv_at hl 1 rfl) ?_
    refine lv_iload_n F.1 F.2.1 dL_act_104 rfl (lv_at hl 3 rfl) ?_
    refine lv_iconst (v := (4 : Int32)) F.1 F.2.1 dL_act_105 (by decide) ?_
    refine lv_irem F.1 F.2.1 dL_act_106 (by decide) ?_
    refine lv_iload_n F.1 F.2.1 dL_act_107 rfl (lv_at hl 0 rfl) ?_
    refine lv_bipush (v := (9 : Int32)) F.1 F.2.1 dL_act_108 (by decide) ?_
    refine lv_irem F.1 F.2.1 dL_act_110 (by decide) ?_
    obtain ⟨r11, hr12, hf⟩ := bnd hf
    refine a_H F hK (fun _ hU hW => sl_U hG hS hU hW) (fun _ h => h) hP hS (c_L_pipe hlt (a2 - (a2 / (4 : Int32)) * (4 : Int32)) ((a2 / (32 : Int32)) - ((a2 / (32 : Int32)) / (9 : Int32)) * (9 : Int32)) hr12) (vx_cwSW 3 F.2.2.2.2 gB_act_L_pipe rfl rfl rfl hd_L_pipe ⟨(Nat.le_of_ble_eq_true rfl), (Nat.le_of_ble_eq_true rfl)⟩) rfl rfl hl.1 (Nat.le_of_ble_eq_true rfl) dL_act_111 ⟨(by show _ ≤ 8; omega), (by show _ ≤ 48; omega)⟩ (rest := []) (fun H locs hP hS _ => ?_)
    refine W.eq (g2 := F0 m 114 ls [.long r11.1]) rfl ?_
    obtain rfl := Option.some.inj hf
    exact s_lret F hr hlk hP hS rfl (by show _ ≤ 8; omega) (by show _ ≤ 48; omega) dL_act_114
  have hf := ifn hc10 hf
  by_cases hc13 : (a1 - (a1 / (20 : Int32)) * (20 : Int32)) = (4 : Int32)
  · have hf := ifp hc13 hf
    refine lv_tableIn (off := 106) (tgt := 115) F.1 F.2.1 dL_act_9 (by rw [hc13]; decide) (by rw [hc13]; decide) (by rw [hc13]; rfl) rfl ?_
    refine lv_aload_n F.1 F.2.1 dL_act_115 rfl (lv_at hl 1 rfl) ?_
    refine lv_iload_n F.1 F.2.1 dL_act_116 rfl (lv_at hl 3 rfl) ?_
    refine lv_iconst (v := (4 : Int32)) F.1 F.2.1 dL_act_117 (by decide) ?_
    refine lv_irem F.1 F.2.1 dL_act_118 (by decide) ?_
    refine lv_iload_n F.1 F.2.1 dL_act_119 rfl (lv_at hl 0 rfl) ?_
    refine lv_bipush (v := (21 : Int32)) F.1 F.2.1 dL_act_120 (by decide) ?_
    refine lv_irem F.1 F.2.1 dL_act_122 (by decide) ?_
    obtain ⟨r14, hr15, hf⟩ := bnd hf
    refine a_H F hK (fun _ hU hW => sl_U hG hS hU hW) (fun _ h => h) hP hS (c_L_fence hlt (a2 - (a2 / (4 : Int32)) * (4 : Int32)) ((a2 / (32 : Int32)) - ((a2 / (32 : Int32)) / (21 : Int32)) * (21 : Int32)) hr15) (vx_cwSW 3 F.2.2.2.2 gB_act_L_fence rfl rfl rfl hd_L_fence ⟨(Nat.le_of_ble_eq_true rfl), (Nat.le_of_ble_eq_true rfl)⟩) rfl rfl hl.1 (Nat.le_of_ble_eq_true rfl) dL_act_123 ⟨(by show _ ≤ 8; omega), (by show _ ≤ 48; omega)⟩ (rest := []) (fun H locs hP hS _ => ?_)
    refine W.eq (g2 := F0 m 126 ls [.long r14.1]) rfl ?_
    obtain rfl := Option.some.inj hf
    exact s_lret F hr hlk hP hS rfl (by show _ ≤ 8; omega) (by show _ ≤ 48; omega) dL_act_126
  have hf := ifn hc13 hf
  by_cases hc16 : (a1 - (a1 / (20 : Int32)) * (20 : Int32)) = (5 : Int32)
  · have hf := ifp hc16 hf
    refine lv_tableIn (off := 106) (tgt := 115) F.1 F.2.1 dL_act_9 (by rw [hc16]; decide) (by rw [hc16]; decide) (by rw [hc16]; rfl) rfl ?_
    refine lv_aload_n F.1 F.2.1 dL_act_115 rfl (lv_at hl 1 rfl) ?_
    refine lv_iload_n F.1 F.2.1 dL_act_116 rfl (lv_at hl 3 rfl) ?_
    refine lv_iconst (v := (4 : Int32)) F.1 F.2.1 dL_act_117 (by decide) ?_
    refine lv_irem F.1 F.2.1 dL_act_118 (by decide) ?_
    refine lv_iload_n F.1 F.2.1 dL_act_119 rfl (lv_at hl 0 rfl) ?_
    refine lv_bipush (v := (21 : Int32)) F.1 F.2.1 dL_act_120 (by decide) ?_
    refine lv_irem F.1 F.2.1 dL_act_122 (by decide) ?_
    obtain ⟨r17, hr18, hf⟩ := bnd hf
    refine a_H F hK (fun _ hU hW => sl_U hG hS hU hW) (fun _ h => h) hP hS (c_L_fence hlt (a2 - (a2 / (4 : Int32)) * (4 : Int32)) ((a2 / (32 : Int32)) - ((a2 / (32 : Int32)) / (21 : Int32)) * (21 : Int32)) hr18) (vx_cwSW 3 F.2.2.2.2 gB_act_L_fence rfl rfl rfl hd_L_fence ⟨(Nat.le_of_ble_eq_true rfl), (Nat.le_of_ble_eq_true rfl)⟩) rfl rfl hl.1 (Nat.le_of_ble_eq_true rfl) dL_act_123 ⟨(by show _ ≤ 8; omega), (by show _ ≤ 48; omega)⟩ (rest := []) (fun H locs hP hS _ => ?_)
    refine W.eq (g2 := F0 m 126 ls [.long r17.1]) rfl ?_
    obtain rfl := Option.some.inj hf
    exact s_lret F hr hlk hP hS rfl (by show _ ≤ 8; omega) (by show _ ≤ 48; omega) dL_act_126
  have hf := ifn hc16 hf
  by_cases hc19 : (a1 - (a1 / (20 : Int32)) * (20 : Int32)) = (6 : Int32)
  · have hf := ifp hc19 hf
    refine lv_tableIn (off := 118) (tgt := 127) F.1 F.2.1 dL_act_9 (by rw [hc19]; decide) (by rw [hc19]; decide) (by rw [hc19]; rfl) rfl ?_
    refine lv_aload_n F.1 F.2.1 dL_act_127 rfl (lv_at hl 1 rfl) ?_
    refine lv_iload_n F.1 F.2.1 dL_act_128 rfl (lv_at hl 3 rfl) ?_
    refine lv_iconst (v := (4 : Int32)) F.1 F.2.1 dL_act_129 (by decide) ?_
    refine lv_irem F.1 F.2.1 dL_act_130 (by decide) ?_
    obtain ⟨r20, hr21, hf⟩ := bnd hf
    refine a_H F hK (fun _ hU hW => sl_U hG hS hU hW) (fun _ h => h) hP hS (c_L_shovel hlt (a2 - (a2 / (4 : Int32)) * (4 : Int32)) hr21) (vx_cwSW 2 F.2.2.2.2 gB_act_L_shovel rfl rfl rfl hd_L_shovel ⟨(Nat.le_of_ble_eq_true rfl), (Nat.le_of_ble_eq_true rfl)⟩) rfl rfl hl.1 (Nat.le_of_ble_eq_true rfl) dL_act_131 ⟨(by show _ ≤ 8; omega), (by show _ ≤ 48; omega)⟩ (rest := []) (fun H locs hP hS _ => ?_)
    refine W.eq (g2 := F0 m 134 ls [.long r20.1]) rfl ?_
    obtain rfl := Option.some.inj hf
    exact s_lret F hr hlk hP hS rfl (by show _ ≤ 8; omega) (by show _ ≤ 48; omega) dL_act_134
  have hf := ifn hc19 hf
  by_cases hc22 : (a1 - (a1 / (20 : Int32)) * (20 : Int32)) = (7 : Int32)
  · have hf := ifp hc22 hf
    refine lv_tableIn (off := 126) (tgt := 135) F.1 F.2.1 dL_act_9 (by rw [hc22]; decide) (by rw [hc22]; decide) (by rw [hc22]; rfl) rfl ?_
    refine lv_iload_n F.1 F.2.1 dL_act_135 rfl (lv_at hl 3 rfl) ?_
    refine lv_iconst (v := (3 : Int32)) F.1 F.2.1 dL_act_136 (by decide) ?_
    refine lv_irem F.1 F.2.1 dL_act_137 (by decide) ?_
    refine lv_istore F.1 F.2.1 dL_act_138 hl (Nat.le_of_ble_eq_true rfl) rfl (fun ls hl => ?_)
    have hl : lv_has ls 5 [(4, .int (a2 - (a2 / (3 : Int32)) * (3 : Int32))), (3, .int (a2 / (32 : Int32))), (0, .ref (x + 0)), (1, .int a1), (2, .int a2)] := hl
    refine lv_aload_n F.1 F.2.1 dL_act_140 rfl (lv_at hl 2 rfl) ?_
    refine lv_iload F.1 F.2.1 dL_act_141 (lv_at hl 0 rfl) ?_
    refine lv_iload F.1 F.2.1 dL_act_143 (lv_at hl 0 rfl) ?_
    refine lv_if_ne (tgt := 155) F.1 F.2.1 dL_act_145 rfl (fun hc23 => ?_) (fun hc23 => ?_)
    · have hf := ifn hc23 hf
      refine lv_iload F.1 F.2.1 dL_act_155 (lv_at hl 0 rfl) ?_
      refine lv_iconst (v := (1 : Int32)) F.1 F.2.1 dL_act_157 (by decide) ?_
      refine lv_icmp_ne (tgt := 170) F.1 F.2.1 dL_act_158 rfl (fun hc24 => ?_) (fun hc24 => ?_)
      · have hf := ifn hc24 hf
        refine lv_iload_n F.1 F.2.1 dL_act_170 rfl (lv_at hl 1 rfl) ?_
        refine lv_bipush (v := (51 : Int32)) F.1 F.2.1 dL_act_171 (by decide) ?_
        refine lv_irem F.1 F.2.1 dL_act_173 (by decide) ?_
        obtain ⟨r25, hr26, hf⟩ := bnd hf
        refine a_H F hK (fun _ hU hW => sl_U hG hS hU hW) (fun _ h => h) hP hS (c_L_set hlt (a2 - (a2 / (3 : Int32)) * (3 : Int32)) ((a2 / (32 : Int32)) - ((a2 / (32 : Int32)) / (51 : Int32)) * (51 : Int32)) hr26) (vx_cwSW 3 F.2.2.2.2 gB_act_L_set rfl rfl rfl hd_L_set ⟨(Nat.le_of_ble_eq_true rfl), (Nat.le_of_ble_eq_true rfl)⟩) rfl rfl hl.1 (Nat.le_of_ble_eq_true rfl) dL_act_174 ⟨(by show _ ≤ 8; omega), (by show _ ≤ 48; omega)⟩ (rest := []) (fun H locs hP hS _ => ?_)
        refine W.eq (g2 := F0 m 177 ls [.long r25.1]) rfl ?_
        obtain rfl := Option.some.inj hf
        exact s_lret F hr hlk hP hS rfl (by show _ ≤ 8; omega) (by show _ ≤ 48; omega) dL_act_177
      · have hf := ifp hc24 hf
        refine lv_iconst (v := (1 : Int32)) F.1 F.2.1 dL_act_161 (by decide) ?_
        refine lv_iload_n F.1 F.2.1 dL_act_162 rfl (lv_at hl 1 rfl) ?_
        refine lv_bipush (v := (9 : Int32)) F.1 F.2.1 dL_act_163 (by decide) ?_
        refine lv_irem F.1 F.2.1 dL_act_165 (by decide) ?_
        refine lv_iadd F.1 F.2.1 dL_act_166 ?_
        refine lv_goto (tgt := 174) F.1 F.2.1 dL_act_167 rfl ?_
        obtain ⟨r27, hr28, hf⟩ := bnd hf
        refine a_H F hK (fun _ hU hW => sl_U hG hS hU hW) (fun _ h => h) hP hS (c_L_set hlt (a2 - (a2 / (3 : Int32)) * (3 : Int32)) ((1 : Int32) + ((a2 / (32 : Int32)) - ((a2 / (32 : Int32)) / (9 : Int32)) * (9 : Int32))) hr28) (vx_cwSW 3 F.2.2.2.2 gB_act_L_set rfl rfl rfl hd_L_set ⟨(Nat.le_of_ble_eq_true rfl), (Nat.le_of_ble_eq_true rfl)⟩) rfl rfl hl.1 (Nat.le_of_ble_eq_true rfl) dL_act_174 ⟨(by show _ ≤ 8; omega), (by show _ ≤ 48; omega)⟩ (rest := []) (fun H locs hP hS _ => ?_)
        refine W.eq (g2 := F0 m 177 ls [.long r27.1]) rfl ?_
        obtain rfl := Option.some.inj hf
        exact s_lret F hr hlk hP hS rfl (by show _ ≤ 8; omega) (by show _ ≤ 48; omega) dL_act_177
    · have hf := ifp hc23 hf
      refine lv_iload_n F.1 F.2.1 dL_act_148 rfl (lv_at hl 1 rfl) ?_
      refine lv_bipush (v := (31 : Int32)) F.1 F.2.1 dL_act_149 (by decide) ?_
      refine lv_irem F.1 F.2.1 dL_act_151 (by decide) ?_
      refine lv_goto (tgt := 174) F.1 F.2.1 dL_act_152 rfl ?_
      obtain ⟨r29, hr30, hf⟩ := bnd hf
      refine a_H F hK (fun _ hU hW => sl_U hG hS hU hW) (fun _ h => h) hP hS (c_L_set hlt (a2 - (a2 / (3 : Int32)) * (3 : Int32)) ((a2 / (32 : Int32)) - ((a2 / (32 : Int32)) / (31 : Int32)) * (31 : Int32)) hr30) (vx_cwSW 3 F.2.2.2.2 gB_act_L_set rfl rfl rfl hd_L_set ⟨(Nat.le_of_ble_eq_true rfl), (Nat.le_of_ble_eq_true rfl)⟩) rfl rfl hl.1 (Nat.le_of_ble_eq_true rfl) dL_act_174 ⟨(by show _ ≤ 8; omega), (by show _ ≤ 48; omega)⟩ (rest := []) (fun H locs hP hS _ => ?_)
      refine W.eq (g2 := F0 m 177 ls [.long r29.1]) rfl ?_
      obtain rfl := Option.some.inj hf
      exact s_lret F hr hlk hP hS rfl (by show _ ≤ 8; omega) (by show _ ≤ 48; omega) dL_act_177
  have hf := ifn hc22 hf
  by_cases hc31 : (a1 - (a1 / (20 : Int32)) * (20 : Int32)) = (8 : Int32)
  · have hf := ifp hc31 hf
    refine lv_tableIn (off := 169) (tgt := 178) F.1 F.2.1 dL_act_9 (by rw [hc31]; decide) (by rw [hc31]; decide) (by rw [hc31]; rfl) rfl ?_
    refine lv_aload_n F.1 F.2.1 dL_act_178 rfl (lv_at hl 1 rfl) ?_
    obtain ⟨r32, hr33, hf⟩ := bnd hf
    obtain ⟨hk, hf⟩ := ifgp hf
    refine a_VT F hK (fun _ hU hW => sl_U hG hS hU hW) (fun _ h => h) hP hS (c_X4_winter hlt hr33) hk (cwV 0 F.2.2.2.2 gB_act_X4_winter rfl rfl rfl ⟨rfl, hd_X4_winter⟩ ⟨(Nat.le_of_ble_eq_true rfl), (Nat.le_of_ble_eq_true rfl)⟩) rfl rfl hl.1 (Nat.le_of_ble_eq_true rfl) dL_act_179 ⟨(by show _ ≤ 8; omega), (by show _ ≤ 48; omega)⟩ (rest := []) (fun H locs hP hS _ => ?_)
    refine W.eq (g2 := F0 m 182 ls [.int r32.2.1]) rfl ?_
    refine lv_i2l (v := r32.2.1.toInt64) F.1 F.2.1 dL_act_182 rfl ?_
    obtain rfl := Option.some.inj hf
    exact s_lret F hr hlk hP hS rfl (by show _ ≤ 8; omega) (by show _ ≤ 48; omega) dL_act_183
  have hf := ifn hc31 hf
  by_cases hc34 : (a1 - (a1 / (20 : Int32)) * (20 : Int32)) = (9 : Int32)
  · have hf := ifp hc34 hf
    refine lv_tableIn (off := 175) (tgt := 184) F.1 F.2.1 dL_act_9 (by rw [hc34]; decide) (by rw [hc34]; decide) (by rw [hc34]; rfl) rfl ?_
    refine lv_aload_n F.1 F.2.1 dL_act_184 rfl (lv_at hl 1 rfl) ?_
    obtain ⟨r35, hr36, hf⟩ := bnd hf
    refine a_H F hK (fun _ hU hW => sl_U hG hS hU hW) (fun _ h => h) hP hS (c_L_undo hlt hr36) (vx_cwSW 1 F.2.2.2.2 gB_act_L_undo rfl rfl rfl hd_L_undo ⟨(Nat.le_of_ble_eq_true rfl), (Nat.le_of_ble_eq_true rfl)⟩) rfl rfl hl.1 (Nat.le_of_ble_eq_true rfl) dL_act_185 ⟨(by show _ ≤ 8; omega), (by show _ ≤ 48; omega)⟩ (rest := []) (fun H locs hP hS _ => ?_)
    refine W.eq (g2 := F0 m 188 ls [.long r35.1]) rfl ?_
    obtain rfl := Option.some.inj hf
    exact s_lret F hr hlk hP hS rfl (by show _ ≤ 8; omega) (by show _ ≤ 48; omega) dL_act_188
  have hf := ifn hc34 hf
  by_cases hc37 : (a1 - (a1 / (20 : Int32)) * (20 : Int32)) = (10 : Int32)
  · have hf := ifp hc37 hf
    refine lv_tableIn (off := 175) (tgt := 184) F.1 F.2.1 dL_act_9 (by rw [hc37]; decide) (by rw [hc37]; decide) (by rw [hc37]; rfl) rfl ?_
    refine lv_aload_n F.1 F.2.1 dL_act_184 rfl (lv_at hl 1 rfl) ?_
    obtain ⟨r38, hr39, hf⟩ := bnd hf
    refine a_H F hK (fun _ hU hW => sl_U hG hS hU hW) (fun _ h => h) hP hS (c_L_undo hlt hr39) (vx_cwSW 1 F.2.2.2.2 gB_act_L_undo rfl rfl rfl hd_L_undo ⟨(Nat.le_of_ble_eq_true rfl), (Nat.le_of_ble_eq_true rfl)⟩) rfl rfl hl.1 (Nat.le_of_ble_eq_true rfl) dL_act_185 ⟨(by show _ ≤ 8; omega), (by show _ ≤ 48; omega)⟩ (rest := []) (fun H locs hP hS _ => ?_)
    refine W.eq (g2 := F0 m 188 ls [.long r38.1]) rfl ?_
    obtain rfl := Option.some.inj hf
    exact s_lret F hr hlk hP hS rfl (by show _ ≤ 8; omega) (by show _ ≤ 48; omega) dL_act_188
  have hf := ifn hc37 hf
  by_cases hc40 : (a1 - (a1 / (20 : Int32)) * (20 : Int32)) = (11 : Int32)
  · have hf := ifp hc40 hf
    refine lv_tableIn (off := 180) (tgt := 189) F.1 F.2.1 dL_act_9 (by rw [hc40]; decide) (by rw [hc40]; decide) (by rw [hc40]; rfl) rfl ?_
    refine lv_iload_n F.1 F.2.1 dL_act_189 rfl (lv_at hl 0 rfl) ?_
    refine lv_iconst (v := (2 : Int32)) F.1 F.2.1 dL_act_190 (by decide) ?_
    refine lv_irem F.1 F.2.1 dL_act_191 (by decide) ?_
    refine lv_if_ne (tgt := 207) F.1 F.2.1 dL_act_192 rfl (fun hc41 => ?_) (fun hc41 => ?_)
    · have hf := ifn hc41 hf
      refine lv_aload_n F.1 F.2.1 dL_act_207 rfl (lv_at hl 1 rfl) ?_
      refine lv_iload_n F.1 F.2.1 dL_act_208 rfl (lv_at hl 0 rfl) ?_
      refine lv_iconst (v := (2 : Int32)) F.1 F.2.1 dL_act_209 (by decide) ?_
      refine lv_idiv F.1 F.2.1 dL_act_210 (by decide) ?_
      refine lv_iconst (v := (1 : Int32)) F.1 F.2.1 dL_act_211 (by decide) ?_
      refine lv_iand F.1 F.2.1 dL_act_212 ?_
      obtain ⟨r42, hr43, hf⟩ := bnd hf
      refine a_H F hK (fun _ hU hW => sl_U hG hS hU hW) (fun _ h => h) hP hS (c_L_restore hlt (((a2 / (32 : Int32)) / (2 : Int32)) &&& (1 : Int32)) hr43) (vx_cwSW 2 F.2.2.2.2 gB_act_L_restore rfl rfl rfl hd_L_restore ⟨(Nat.le_of_ble_eq_true rfl), (Nat.le_of_ble_eq_true rfl)⟩) rfl rfl hl.1 (Nat.le_of_ble_eq_true rfl) dL_act_213 ⟨(by show _ ≤ 8; omega), (by show _ ≤ 48; omega)⟩ (rest := []) (fun H locs hP hS _ => ?_)
      refine W.eq (g2 := F0 m 216 ls [.long r42.1]) rfl ?_
      obtain rfl := Option.some.inj hf
      exact s_lret F hr hlk hP hS rfl (by show _ ≤ 8; omega) (by show _ ≤ 48; omega) dL_act_216
    · have hf := ifp hc41 hf
      refine lv_aload_n F.1 F.2.1 dL_act_195 rfl (lv_at hl 1 rfl) ?_
      refine lv_iload_n F.1 F.2.1 dL_act_196 rfl (lv_at hl 0 rfl) ?_
      refine lv_iconst (v := (2 : Int32)) F.1 F.2.1 dL_act_197 (by decide) ?_
      refine lv_idiv F.1 F.2.1 dL_act_198 (by decide) ?_
      refine lv_iconst (v := (1 : Int32)) F.1 F.2.1 dL_act_199 (by decide) ?_
      refine lv_iand F.1 F.2.1 dL_act_200 ?_
      obtain ⟨r44, hr45, hf⟩ := bnd hf
      refine a_H F hK (fun _ hU hW => sl_U hG hS hU hW) (fun _ h => h) hP hS (c_L_save hlt (((a2 / (32 : Int32)) / (2 : Int32)) &&& (1 : Int32)) hr45) (vx_cwSW 2 F.2.2.2.2 gB_act_L_save rfl rfl rfl hd_L_save ⟨(Nat.le_of_ble_eq_true rfl), (Nat.le_of_ble_eq_true rfl)⟩) rfl rfl hl.1 (Nat.le_of_ble_eq_true rfl) dL_act_201 ⟨(by show _ ≤ 8; omega), (by show _ ≤ 48; omega)⟩ (rest := []) (fun H locs hP hS _ => ?_)
      refine W.eq (g2 := F0 m 204 ls [.long r44.1]) rfl ?_
      refine lv_goto (tgt := 216) F.1 F.2.1 dL_act_204 rfl ?_
      obtain rfl := Option.some.inj hf
      exact s_lret F hr hlk hP hS rfl (by show _ ≤ 8; omega) (by show _ ≤ 48; omega) dL_act_216
  have hf := ifn hc40 hf
  by_cases hc46 : (a1 - (a1 / (20 : Int32)) * (20 : Int32)) = (12 : Int32)
  · have hf := ifp hc46 hf
    refine lv_tableIn (off := 208) (tgt := 217) F.1 F.2.1 dL_act_9 (by rw [hc46]; decide) (by rw [hc46]; decide) (by rw [hc46]; rfl) rfl ?_
    refine lv_aload_n F.1 F.2.1 dL_act_217 rfl (lv_at hl 1 rfl) ?_
    refine lv_iload_n F.1 F.2.1 dL_act_218 rfl (lv_at hl 3 rfl) ?_
    refine lv_bipush (v := (26 : Int32)) F.1 F.2.1 dL_act_219 (by decide) ?_
    refine lv_irem F.1 F.2.1 dL_act_221 (by decide) ?_
    refine lv_iconst (v := (0 : Int32)) F.1 F.2.1 dL_act_222 (by decide) ?_
    refine lv_iconst (v := (1 : Int32)) F.1 F.2.1 dL_act_223 (by decide) ?_
    refine lv_iload_n F.1 F.2.1 dL_act_224 rfl (lv_at hl 0 rfl) ?_
    refine lv_iconst (v := (5 : Int32)) F.1 F.2.1 dL_act_225 (by decide) ?_
    refine lv_irem F.1 F.2.1 dL_act_226 (by decide) ?_
    refine lv_iadd F.1 F.2.1 dL_act_227 ?_
    obtain ⟨r47, hr48, hf⟩ := bnd hf
    refine a_H F hK (fun _ hU hW => sl_U hG hS hU hW) (fun _ h => h) hP hS (c_L_days hlt (a2 - (a2 / (26 : Int32)) * (26 : Int32)) (0 : Int32) ((1 : Int32) + ((a2 / (32 : Int32)) - ((a2 / (32 : Int32)) / (5 : Int32)) * (5 : Int32))) hr48) (vx_cwSW 4 F.2.2.2.2 gB_act_L_days rfl rfl rfl hd_L_days ⟨(Nat.le_of_ble_eq_true rfl), (Nat.le_of_ble_eq_true rfl)⟩) rfl rfl hl.1 (Nat.le_of_ble_eq_true rfl) dL_act_228 ⟨(by show _ ≤ 8; omega), (by show _ ≤ 48; omega)⟩ (rest := []) (fun H locs hP hS _ => ?_)
    refine W.eq (g2 := F0 m 231 ls [.long r47.1]) rfl ?_
    obtain rfl := Option.some.inj hf
    exact s_lret F hr hlk hP hS rfl (by show _ ≤ 8; omega) (by show _ ≤ 48; omega) dL_act_231
  have hf := ifn hc46 hf
  by_cases hc49 : (a1 - (a1 / (20 : Int32)) * (20 : Int32)) = (13 : Int32)
  · have hf := ifp hc49 hf
    refine lv_tableIn (off := 208) (tgt := 217) F.1 F.2.1 dL_act_9 (by rw [hc49]; decide) (by rw [hc49]; decide) (by rw [hc49]; rfl) rfl ?_
    refine lv_aload_n F.1 F.2.1 dL_act_217 rfl (lv_at hl 1 rfl) ?_
    refine lv_iload_n F.1 F.2.1 dL_act_218 rfl (lv_at hl 3 rfl) ?_
    refine lv_bipush (v := (26 : Int32)) F.1 F.2.1 dL_act_219 (by decide) ?_
    refine lv_irem F.1 F.2.1 dL_act_221 (by decide) ?_
    refine lv_iconst (v := (0 : Int32)) F.1 F.2.1 dL_act_222 (by decide) ?_
    refine lv_iconst (v := (1 : Int32)) F.1 F.2.1 dL_act_223 (by decide) ?_
    refine lv_iload_n F.1 F.2.1 dL_act_224 rfl (lv_at hl 0 rfl) ?_
    refine lv_iconst (v := (5 : Int32)) F.1 F.2.1 dL_act_225 (by decide) ?_
    refine lv_irem F.1 F.2.1 dL_act_226 (by decide) ?_
    refine lv_iadd F.1 F.2.1 dL_act_227 ?_
    obtain ⟨r50, hr51, hf⟩ := bnd hf
    refine a_H F hK (fun _ hU hW => sl_U hG hS hU hW) (fun _ h => h) hP hS (c_L_days hlt (a2 - (a2 / (26 : Int32)) * (26 : Int32)) (0 : Int32) ((1 : Int32) + ((a2 / (32 : Int32)) - ((a2 / (32 : Int32)) / (5 : Int32)) * (5 : Int32))) hr51) (vx_cwSW 4 F.2.2.2.2 gB_act_L_days rfl rfl rfl hd_L_days ⟨(Nat.le_of_ble_eq_true rfl), (Nat.le_of_ble_eq_true rfl)⟩) rfl rfl hl.1 (Nat.le_of_ble_eq_true rfl) dL_act_228 ⟨(by show _ ≤ 8; omega), (by show _ ≤ 48; omega)⟩ (rest := []) (fun H locs hP hS _ => ?_)
    refine W.eq (g2 := F0 m 231 ls [.long r50.1]) rfl ?_
    obtain rfl := Option.some.inj hf
    exact s_lret F hr hlk hP hS rfl (by show _ ≤ 8; omega) (by show _ ≤ 48; omega) dL_act_231
  have hf := ifn hc49 hf
  by_cases hc52 : (a1 - (a1 / (20 : Int32)) * (20 : Int32)) = (14 : Int32)
  · have hf := ifp hc52 hf
    refine lv_tableIn (off := 208) (tgt := 217) F.1 F.2.1 dL_act_9 (by rw [hc52]; decide) (by rw [hc52]; decide) (by rw [hc52]; rfl) rfl ?_
    refine lv_aload_n F.1 F.2.1 dL_act_217 rfl (lv_at hl 1 rfl) ?_
    refine lv_iload_n F.1 F.2.1 dL_act_218 rfl (lv_at hl 3 rfl) ?_
    refine lv_bipush (v := (26 : Int32)) F.1 F.2.1 dL_act_219 (by decide) ?_
    refine lv_irem F.1 F.2.1 dL_act_221 (by decide) ?_
    refine lv_iconst (v := (0 : Int32)) F.1 F.2.1 dL_act_222 (by decide) ?_
    refine lv_iconst (v := (1 : Int32)) F.1 F.2.1 dL_act_223 (by decide) ?_
    refine lv_iload_n F.1 F.2.1 dL_act_224 rfl (lv_at hl 0 rfl) ?_
    refine lv_iconst (v := (5 : Int32)) F.1 F.2.1 dL_act_225 (by decide) ?_
    refine lv_irem F.1 F.2.1 dL_act_226 (by decide) ?_
    refine lv_iadd F.1 F.2.1 dL_act_227 ?_
    obtain ⟨r53, hr54, hf⟩ := bnd hf
    refine a_H F hK (fun _ hU hW => sl_U hG hS hU hW) (fun _ h => h) hP hS (c_L_days hlt (a2 - (a2 / (26 : Int32)) * (26 : Int32)) (0 : Int32) ((1 : Int32) + ((a2 / (32 : Int32)) - ((a2 / (32 : Int32)) / (5 : Int32)) * (5 : Int32))) hr54) (vx_cwSW 4 F.2.2.2.2 gB_act_L_days rfl rfl rfl hd_L_days ⟨(Nat.le_of_ble_eq_true rfl), (Nat.le_of_ble_eq_true rfl)⟩) rfl rfl hl.1 (Nat.le_of_ble_eq_true rfl) dL_act_228 ⟨(by show _ ≤ 8; omega), (by show _ ≤ 48; omega)⟩ (rest := []) (fun H locs hP hS _ => ?_)
    refine W.eq (g2 := F0 m 231 ls [.long r53.1]) rfl ?_
    obtain rfl := Option.some.inj hf
    exact s_lret F hr hlk hP hS rfl (by show _ ≤ 8; omega) (by show _ ≤ 48; omega) dL_act_231
  have hf := ifn hc52 hf
  have hc1i := i32_ne hc1
  have hc4i := i32_ne hc4
  have hc7i := i32_ne hc7
  have hc10i := i32_ne hc10
  have hc13i := i32_ne hc13
  have hc16i := i32_ne hc16
  have hc19i := i32_ne hc19
  have hc22i := i32_ne hc22
  have hc31i := i32_ne hc31
  have hc34i := i32_ne hc34
  have hc37i := i32_ne hc37
  have hc40i := i32_ne hc40
  have hc46i := i32_ne hc46
  have hc49i := i32_ne hc49
  have hc52i := i32_ne hc52
  refine lv_tableOut (tgt := 232) F.1 F.2.1 dL_act_9 (by have : ((0 : Int32)).toInt = 0 := rfl; have : ((1 : Int32)).toInt = 1 := rfl; have : ((2 : Int32)).toInt = 2 := rfl; have : ((3 : Int32)).toInt = 3 := rfl; have : ((4 : Int32)).toInt = 4 := rfl; have : ((5 : Int32)).toInt = 5 := rfl; have : ((6 : Int32)).toInt = 6 := rfl; have : ((7 : Int32)).toInt = 7 := rfl; have : ((8 : Int32)).toInt = 8 := rfl; have : ((9 : Int32)).toInt = 9 := rfl; have : ((10 : Int32)).toInt = 10 := rfl; have : ((11 : Int32)).toInt = 11 := rfl; have : ((12 : Int32)).toInt = 12 := rfl; have : ((13 : Int32)).toInt = 13 := rfl; have : ((14 : Int32)).toInt = 14 := rfl; omega) rfl ?_
  refine lv_aload_n F.1 F.2.1 dL_act_232 rfl (lv_at hl 1 rfl) ?_
  refine lv_iload_n F.1 F.2.1 dL_act_233 rfl (lv_at hl 3 rfl) ?_
  refine lv_bipush (v := (31 : Int32)) F.1 F.2.1 dL_act_234 (by decide) ?_
  refine lv_irem F.1 F.2.1 dL_act_236 (by decide) ?_
  refine lv_ineg F.1 F.2.1 dL_act_237 ?_
  refine lv_iload_n F.1 F.2.1 dL_act_238 rfl (lv_at hl 0 rfl) ?_
  refine lv_iconst (v := (5 : Int32)) F.1 F.2.1 dL_act_239 (by decide) ?_
  refine lv_irem F.1 F.2.1 dL_act_240 (by decide) ?_
  refine lv_if_ne (tgt := 251) F.1 F.2.1 dL_act_241 rfl (fun hc55 => ?_) (fun hc55 => ?_)
  · have hf := ifn hc55 hf
    refine lv_iconst (v := (0 : Int32)) F.1 F.2.1 dL_act_251 (by decide) ?_
    refine W.widen (k := 2 * (3 + 1 - 3)) (n := 12 * (3 + 1 - 3)) (by omega) (by omega) ?_
    exact (KEY 3 (Nat.le_refl _)) μ (a2 / (32 : Int32)) (0 : Int32) (-(a2 - (a2 / (31 : Int32)) * (31 : Int32))) _ _ _ (lv_sub hl [0] rfl) hP hS hf
  · have hf := ifp hc55 hf
    refine lv_iload_n F.1 F.2.1 dL_act_244 rfl (lv_at hl 0 rfl) ?_
    refine lv_bipush (v := (31 : Int32)) F.1 F.2.1 dL_act_245 (by decide) ?_
    refine lv_irem F.1 F.2.1 dL_act_247 (by decide) ?_
    refine lv_goto (tgt := 252) F.1 F.2.1 dL_act_248 rfl ?_
    refine W.widen (k := 2 * (3 + 1 - 3)) (n := 12 * (3 + 1 - 3)) (by omega) (by omega) ?_
    exact (KEY 3 (Nat.le_refl _)) μ (a2 / (32 : Int32)) ((a2 / (32 : Int32)) - ((a2 / (32 : Int32)) / (31 : Int32)) * (31 : Int32)) (-(a2 - (a2 / (31 : Int32)) * (31 : Int32))) _ _ _ (lv_sub hl [0] rfl) hP hS hf
