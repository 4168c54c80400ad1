-- FrostTubes$Ground.copyFrom(LFrostTubes$Ground;)V
def fb_X0_copyFrom_1 (o : Row) (K : Row → Int32 → Option (Row)) (g : Row) (v2 : Int32) : Option (Row) := (if (4 : Int32) ≤ v2 then some (cpy 19 0 o (cpy 18 0 o (cpy 17 0 o (cpy 16 0 o (cpy 15 0 o (cpy 14 0 o (cpy 13 0 o g))))))) else (if oob v2 4 then none else (if oob v2 4 then none else ((f_X2_copyFrom g o v2.toNatClampNeg).bind fun r4 => (K r4 (v2 + (1 : Int32)))))))
def fl_X0_copyFrom (o : Row) : Nat → Row → Int32 → Option (Row)
  | 0, _, _ => none
  | n + 1, g, v2 => fb_X0_copyFrom_1 o (fl_X0_copyFrom o n) g v2
def f_X0_copyFrom (g : Row) (o : Row) : Option (Row) := (fl_X0_copyFrom o FU (cpy 11 0 o (upd (upd (upd (upd (upd (upd g 196 (o 196)) 197 (o 197)) 198 (o 198)) 199 (o 199)) 200 (o 200)) 201 (o 201))) (0 : Int32))
def rmX0_copyFrom : Room := { frames := 2, cells := 0, slots := 0, locals := 101 }
theorem hd_X0_copyFrom : yX0_copyFrom.cls ≠ "java/lang/invoke/MethodHandle" ∧ yX0_copyFrom.cls ≠ "java/lang/invoke/VarHandle" ∧ (parseMethodDescriptor yX0_copyFrom.desc).map (fun d => d.parameters.length) = some 1 := by decide +kernel
set_option maxHeartbeats 8000000 in
set_option maxRecDepth 100000 in
theorem c_X0_copyFrom {l : Launch} {D : va_G} {x : Nat} {μ : Mem} {i : Nat} (hi : i < 19) {g : Row} {j : Nat} (hj : j < 19) (hij : j ≠ i) {o : Row} (ho : μ j = o) {r : Row} (hf : f_X0_copyFrom g o = some r) : CX l yX0_copyFrom wsX0_copyFrom rmX0_copyFrom [.ref (x + gb i), .ref (x + gb j)] D x (va_up μ i g) (none) (va_up μ i r) := by
  refine CX.of (cc := cX0_copyFrom) (maxL := 3) (ret := none) pn_X0 rfl (Nat.le_of_ble_eq_true rfl) ?_
  intro p e s m args below meth c F hr hlk hK hG
  have KEY : ∀ n : Nat, (∀ (g : Row) (v2 : Int32) (ls : Array Slot) (H : Heap) (locs : List Loc), lv_has ls 3 [(0, .ref (x + gb i)), (1, .ref (x + gb j)), (2, .int v2)] → va_P D vwCl (WL D x (va_up μ i g)) H → va_S (rng x) s.heap H locs → fl_X0_copyFrom o n g v2 = some r → W p l e rmX0_copyFrom s m args below meth c H locs 0 0 (MQ below (QX D x (va_up μ i r) (none)) args s 0 0 (rng x)) (F0 m 64 ls [])) := by
    intro n
    induction n with
    | zero => exact (fun _ _ _ _ _ _ _ _ h => nomatch h)
    | succ n ih =>
      skip
      intro g v2  ls H locs hl hP hS hf
      have hf : fb_X0_copyFrom_1 o (fl_X0_copyFrom o n) g v2 = some r := hf
      unfold fb_X0_copyFrom_1 at hf
      refine lv_iload_n F.1 F.2.1 dX0_copyFrom_64 rfl (lv_at hl 2 rfl) ?_
      refine lv_iconst (v := (4 : Int32)) F.1 F.2.1 dX0_copyFrom_65 (by decide) ?_
      refine lv_icmp_ge (tgt := 90) F.1 F.2.1 dX0_copyFrom_66 rfl (fun hc1 => ?_) (fun hc1 => ?_)
      · have hf := ifp hc1 hf
        refine lv_aload_n F.1 F.2.1 dX0_copyFrom_90 rfl (lv_at hl 1 rfl) ?_
        refine gR_X0_tubeSite F hK hP hj (fun _ h => List.mem_cons_of_mem _ (List.mem_append_left _ (List.mem_append_right _ h))) (List.mem_of_getElem? (i := 13) rfl) dX0_copyFrom_91 ?_
        refine lv_iconst (v := (0 : Int32)) F.1 F.2.1 dX0_copyFrom_94 (by decide) ?_
        refine lv_aload_n F.1 F.2.1 dX0_copyFrom_95 rfl (lv_at hl 0 rfl) ?_
        refine gR_X0_tubeSite F hK hP hi (fun _ h => List.mem_cons_of_mem _ (List.mem_append_left _ (List.mem_append_right _ h))) (List.mem_of_getElem? (i := 13) rfl) dX0_copyFrom_96 ?_
        refine lv_iconst (v := (0 : Int32)) F.1 F.2.1 dX0_copyFrom_99 (by decide) ?_
        refine lv_bipush (v := (8 : Int32)) F.1 F.2.1 dX0_copyFrom_100 (by decide) ?_
        refine x_copy F hK (K := 13) (z := 0) hi hij ho hP hS (o_G hj (by decide)) (o_G hi (by decide)) (kd_G j hj 3 (by decide)) (kd_G i hi 3 (by decide)) (Nat.le_of_ble_eq_true rfl) (n := 8) (fun _ => rfl) (fun _ => rfl) rfl (nn := (8 : Int32)) rfl (by decide) (List.mem_of_getElem? (i := 8) rfl) (List.mem_of_getElem? (i := 9) rfl) (List.mem_of_getElem? (i := 10) rfl) (List.mem_of_getElem? (i := 11) rfl) hl.1 (Nat.le_of_ble_eq_true rfl) (Nat.le_of_ble_eq_true rfl) dX0_copyFrom_102 (fun H locs hP hS => ?_)
        refine lv_aload_n F.1 F.2.1 dX0_copyFrom_105 rfl (lv_at hl 1 rfl) ?_
        refine gR_X0_tubeLength F hK hP hj (fun _ h => List.mem_cons_of_mem _ (List.mem_append_left _ (List.mem_append_right _ h))) (List.mem_of_getElem? (i := 14) rfl) dX0_copyFrom_106 ?_
        refine lv_iconst (v := (0 : Int32)) F.1 F.2.1 dX0_copyFrom_109 (by decide) ?_
        refine lv_aload_n F.1 F.2.1 dX0_copyFrom_110 rfl (lv_at hl 0 rfl) ?_
        refine gR_X0_tubeLength F hK hP hi (fun _ h => List.mem_cons_of_mem _ (List.mem_append_left _ (List.mem_append_right _ h))) (List.mem_of_getElem? (i := 14) rfl) dX0_copyFrom_111 ?_
        refine lv_iconst (v := (0 : Int32)) F.1 F.2.1 dX0_copyFrom_114 (by decide) ?_
        refine lv_bipush (v := (8 : Int32)) F.1 F.2.1 dX0_copyFrom_115 (by decide) ?_
        refine x_copy F hK (K := 14) (z := 0) hi hij ho hP hS (o_G hj (by decide)) (o_G hi (by decide)) (kd_G j hj 4 (by decide)) (kd_G i hi 4 (by decide)) (Nat.le_of_ble_eq_true rfl) (n := 8) (fun _ => rfl) (fun _ => rfl) rfl (nn := (8 : Int32)) rfl (by decide) (List.mem_of_getElem? (i := 8) rfl) (List.mem_of_getElem? (i := 9) rfl) (List.mem_of_getElem? (i := 10) rfl) (List.mem_of_getElem? (i := 11) rfl) hl.1 (Nat.le_of_ble_eq_true rfl) (Nat.le_of_ble_eq_true rfl) dX0_copyFrom_117 (fun H locs hP hS => ?_)
        refine lv_aload_n F.1 F.2.1 dX0_copyFrom_120 rfl (lv_at hl 1 rfl) ?_
        refine gR_X0_pipeSite F hK hP hj (fun _ h => List.mem_cons_of_mem _ (List.mem_append_left _ (List.mem_append_right _ h))) (List.mem_of_getElem? (i := 15) rfl) dX0_copyFrom_121 ?_
        refine lv_iconst (v := (0 : Int32)) F.1 F.2.1 dX0_copyFrom_124 (by decide) ?_
        refine lv_aload_n F.1 F.2.1 dX0_copyFrom_125 rfl (lv_at hl 0 rfl) ?_
        refine gR_X0_pipeSite F hK hP hi (fun _ h => List.mem_cons_of_mem _ (List.mem_append_left _ (List.mem_append_right _ h))) (List.mem_of_getElem? (i := 15) rfl) dX0_copyFrom_126 ?_
        refine lv_iconst (v := (0 : Int32)) F.1 F.2.1 dX0_copyFrom_129 (by decide) ?_
        refine lv_bipush (v := (8 : Int32)) F.1 F.2.1 dX0_copyFrom_130 (by decide) ?_
        refine x_copy F hK (K := 15) (z := 0) hi hij ho hP hS (o_G hj (by decide)) (o_G hi (by decide)) (kd_G j hj 5 (by decide)) (kd_G i hi 5 (by decide)) (Nat.le_of_ble_eq_true rfl) (n := 8) (fun _ => rfl) (fun _ => rfl) rfl (nn := (8 : Int32)) rfl (by decide) (List.mem_of_getElem? (i := 8) rfl) (List.mem_of_getElem? (i := 9) rfl) (List.mem_of_getElem? (i := 10) rfl) (List.mem_of_getElem? (i := 11) rfl) hl.1 (Nat.le_of_ble_eq_true rfl) (Nat.le_of_ble_eq_true rfl) dX0_copyFrom_132 (fun H locs hP hS => ?_)
        refine lv_aload_n F.1 F.2.1 dX0_copyFrom_135 rfl (lv_at hl 1 rfl) ?_
        refine gR_X0_pipeCell F hK hP hj (fun _ h => List.mem_cons_of_mem _ (List.mem_append_left _ (List.mem_append_right _ h))) (List.mem_of_getElem? (i := 16) rfl) dX0_copyFrom_136 ?_
        refine lv_iconst (v := (0 : Int32)) F.1 F.2.1 dX0_copyFrom_139 (by decide) ?_
        refine lv_aload_n F.1 F.2.1 dX0_copyFrom_140 rfl (lv_at hl 0 rfl) ?_
        refine gR_X0_pipeCell F hK hP hi (fun _ h => List.mem_cons_of_mem _ (List.mem_append_left _ (List.mem_append_right _ h))) (List.mem_of_getElem? (i := 16) rfl) dX0_copyFrom_141 ?_
        refine lv_iconst (v := (0 : Int32)) F.1 F.2.1 dX0_copyFrom_144 (by decide) ?_
        refine lv_bipush (v := (8 : Int32)) F.1 F.2.1 dX0_copyFrom_145 (by decide) ?_
        refine x_copy F hK (K := 16) (z := 0) hi hij ho hP hS (o_G hj (by decide)) (o_G hi (by decide)) (kd_G j hj 6 (by decide)) (kd_G i hi 6 (by decide)) (Nat.le_of_ble_eq_true rfl) (n := 8) (fun _ => rfl) (fun _ => rfl) rfl (nn := (8 : Int32)) rfl (by decide) (List.mem_of_getElem? (i := 8) rfl) (List.mem_of_getElem? (i := 9) rfl) (List.mem_of_getElem? (i := 10) rfl) (List.mem_of_getElem? (i := 11) rfl) hl.1 (Nat.le_of_ble_eq_true rfl) (Nat.le_of_ble_eq_true rfl) dX0_copyFrom_147 (fun H locs hP hS => ?_)
        refine lv_aload_n F.1 F.2.1 dX0_copyFrom_150 rfl (lv_at hl 1 rfl) ?_
        refine gR_X0_pipeHeave F hK hP hj (fun _ h => List.mem_cons_of_mem _ (List.mem_append_left _ (List.mem_append_right _ h))) (List.mem_of_getElem? (i := 17) rfl) dX0_copyFrom_151 ?_
        refine lv_iconst (v := (0 : Int32)) F.1 F.2.1 dX0_copyFrom_154 (by decide) ?_
        refine lv_aload_n F.1 F.2.1 dX0_copyFrom_155 rfl (lv_at hl 0 rfl) ?_
        refine gR_X0_pipeHeave F hK hP hi (fun _ h => List.mem_cons_of_mem _ (List.mem_append_left _ (List.mem_append_right _ h))) (List.mem_of_getElem? (i := 17) rfl) dX0_copyFrom_156 ?_
        refine lv_iconst (v := (0 : Int32)) F.1 F.2.1 dX0_copyFrom_159 (by decide) ?_
        refine lv_bipush (v := (8 : Int32)) F.1 F.2.1 dX0_copyFrom_160 (by decide) ?_
        refine x_copy F hK (K := 17) (z := 0) hi hij ho hP hS (o_G hj (by decide)) (o_G hi (by decide)) (kd_G j hj 7 (by decide)) (kd_G i hi 7 (by decide)) (Nat.le_of_ble_eq_true rfl) (n := 8) (fun _ => rfl) (fun _ => rfl) rfl (nn := (8 : Int32)) rfl (by decide) (List.mem_of_getElem? (i := 8) rfl) (List.mem_of_getElem? (i := 9) rfl) (List.mem_of_getElem? (i := 10) rfl) (List.mem_of_getElem? (i := 11) rfl) hl.1 (Nat.le_of_ble_eq_true rfl) (Nat.le_of_ble_eq_true rfl) dX0_copyFrom_162 (fun H locs hP hS => ?_)
        refine lv_aload_n F.1 F.2.1 dX0_copyFrom_165 rfl (lv_at hl 1 rfl) ?_
        refine gR_X0_pipeGreatest F hK hP hj (fun _ h => List.mem_cons_of_mem _ (List.mem_append_left _ (List.mem_append_right _ h))) (List.mem_of_getElem? (i := 18) rfl) dX0_copyFrom_166 ?_
        refine lv_iconst (v := (0 : Int32)) F.1 F.2.1 dX0_copyFrom_169 (by decide) ?_
        refine lv_aload_n F.1 F.2.1 dX0_copyFrom_170 rfl (lv_at hl 0 rfl) ?_
        refine gR_X0_pipeGreatest F hK hP hi (fun _ h => List.mem_cons_of_mem _ (List.mem_append_left _ (List.mem_append_right _ h))) (List.mem_of_getElem? (i := 18) rfl) dX0_copyFrom_171 ?_
        refine lv_iconst (v := (0 : Int32)) F.1 F.2.1 dX0_copyFrom_174 (by decide) ?_
        refine lv_bipush (v := (8 : Int32)) F.1 F.2.1 dX0_copyFrom_175 (by decide) ?_
        refine x_copy F hK (K := 18) (z := 0) hi hij ho hP hS (o_G hj (by decide)) (o_G hi (by decide)) (kd_G j hj 8 (by decide)) (kd_G i hi 8 (by decide)) (Nat.le_of_ble_eq_true rfl) (n := 8) (fun _ => rfl) (fun _ => rfl) rfl (nn := (8 : Int32)) rfl (by decide) (List.mem_of_getElem? (i := 8) rfl) (List.mem_of_getElem? (i := 9) rfl) (List.mem_of_getElem? (i := 10) rfl) (List.mem_of_getElem? (i := 11) rfl) hl.1 (Nat.le_of_ble_eq_true rfl) (Nat.le_of_ble_eq_true rfl) dX0_copyFrom_177 (fun H locs hP hS => ?_)
        refine lv_aload_n F.1 F.2.1 dX0_copyFrom_180 rfl (lv_at hl 1 rfl) ?_
        refine gR_X0_pipeTimes F hK hP hj (fun _ h => List.mem_cons_of_mem _ (List.mem_append_left _ (List.mem_append_right _ h))) (List.mem_of_getElem? (i := 19) rfl) dX0_copyFrom_181 ?_
        refine lv_iconst (v := (0 : Int32)) F.1 F.2.1 dX0_copyFrom_184 (by decide) ?_
        refine lv_aload_n F.1 F.2.1 dX0_copyFrom_185 rfl (lv_at hl 0 rfl) ?_
        refine gR_X0_pipeTimes F hK hP hi (fun _ h => List.mem_cons_of_mem _ (List.mem_append_left _ (List.mem_append_right _ h))) (List.mem_of_getElem? (i := 19) rfl) dX0_copyFrom_186 ?_
        refine lv_iconst (v := (0 : Int32)) F.1 F.2.1 dX0_copyFrom_189 (by decide) ?_
        refine lv_bipush (v := (8 : Int32)) F.1 F.2.1 dX0_copyFrom_190 (by decide) ?_
        refine x_copy F hK (K := 19) (z := 0) hi hij ho hP hS (o_G hj (by decide)) (o_G hi (by decide)) (kd_G j hj 9 (by decide)) (kd_G i hi 9 (by decide)) (Nat.le_of_ble_eq_true rfl) (n := 8) (fun _ => rfl) (fun _ => rfl) rfl (nn := (8 : Int32)) rfl (by decide) (List.mem_of_getElem? (i := 8) rfl) (List.mem_of_getElem? (i := 9) rfl) (List.mem_of_getElem? (i := 10) rfl) (List.mem_of_getElem? (i := 11) rfl) hl.1 (Nat.le_of_ble_eq_true rfl) (Nat.le_of_ble_eq_true rfl) dX0_copyFrom_192 (fun H locs hP hS => ?_)
        obtain rfl := Option.some.inj hf
        exact x_vret F hr hlk hP hS rfl dX0_copyFrom_195
      · have hf := ifn hc1 hf
        refine lv_aload_n F.1 F.2.1 dX0_copyFrom_69 rfl (lv_at hl 0 rfl) ?_
        refine gR_X0_sites F hK hP hi (fun _ h => List.mem_cons_of_mem _ (List.mem_append_left _ (List.mem_append_right _ h))) (List.mem_of_getElem? (i := 12) rfl) dX0_copyFrom_70 ?_
        refine lv_iload_n F.1 F.2.1 dX0_copyFrom_73 rfl (lv_at hl 2 rfl) ?_
        obtain ⟨hb2, hf⟩ := ifg hf
        refine lA_GA2 F hK hP hi hb2 dX0_copyFrom_74 ?_
        refine lv_aload_n F.1 F.2.1 dX0_copyFrom_75 rfl (lv_at hl 1 rfl) ?_
        refine gR_X0_sites F hK hP hj (fun _ h => List.mem_cons_of_mem _ (List.mem_append_left _ (List.mem_append_right _ h))) (List.mem_of_getElem? (i := 12) rfl) dX0_copyFrom_76 ?_
        refine lv_iload_n F.1 F.2.1 dX0_copyFrom_79 rfl (lv_at hl 2 rfl) ?_
        obtain ⟨hb3, hf⟩ := ifg hf
        refine lA_GA2 F hK hP hj hb3 dX0_copyFrom_80 ?_
        obtain ⟨r4, hr5, hf⟩ := bnd hf
        refine x_callV F hK hG hP hS (o_S hi (oob_lt hb2)) (kd_S i hi v2.toNatClampNeg (oob_lt hb2)) (ci := 2) (fun _ => rfl) rfl (c_X2_copyFrom hi (oob_lt hb2) hj hij ho hr5) (cwV 1 F.2.2.2.2 gX0_copyFrom_X2_copyFrom rfl rfl rfl ⟨rfl, hd_X2_copyFrom⟩ ⟨(Nat.le_of_ble_eq_true rfl), (Nat.le_of_ble_eq_true rfl)⟩) rfl rfl hl.1 (Nat.le_of_ble_eq_true rfl) dX0_copyFrom_81 ⟨(Nat.le_of_ble_eq_true rfl), (Nat.le_of_ble_eq_true rfl)⟩ (rest := []) (fun H locs hP hS => ?_)
        refine W.eq (g2 := F0 m 84 ls []) rfl ?_
        refine lv_iinc (v := (v2 + (1 : Int32))) F.1 F.2.1 dX0_copyFrom_84 hl (k := 2) rfl rfl (Nat.le_of_ble_eq_true rfl) rfl (fun ls hl => ?_)
        have hl : lv_has ls 3 [(2, .int (v2 + (1 : Int32))), (0, .ref (x + gb i)), (1, .ref (x + gb j))] := hl
        refine lv_goto (tgt := 64) F.1 F.2.1 dX0_copyFrom_87 rfl ?_
        exact ih r4 (v2 + (1 : Int32)) _ _ _ (lv_sub hl [1, 2, 0] rfl) hP hS hf
  intro ls H locs hl hP hS
  have hl : lv_has ls 3 [(0, .ref (x + gb i)), (1, .ref (x + gb j))] := hl
  unfold f_X0_copyFrom at hf
  refine lv_aload_n F.1 F.2.1 dX0_copyFrom_0 rfl (lv_at hl 0 rfl) ?_
  refine lv_aload_n F.1 F.2.1 dX0_copyFrom_1 rfl (lv_at hl 1 rfl) ?_
  refine gI_X0_siteCount F hK hP hj ((mu_off _ _ hij).trans ho) (fun _ h => List.mem_cons_of_mem _ (List.mem_append_left _ (List.mem_append_right _ h))) (List.mem_of_getElem? (i := 1) rfl) dX0_copyFrom_2 ?_
  refine pI_X0_siteCount F hK hi hP hS (fun _ h => List.mem_cons_of_mem _ (List.mem_append_left _ (List.mem_append_right _ h))) (List.mem_of_getElem? (i := 1) rfl) dX0_copyFrom_5 (fun H locs hP hS => ?_)
  refine lv_aload_n F.1 F.2.1 dX0_copyFrom_8 rfl (lv_at hl 0 rfl) ?_
  refine lv_aload_n F.1 F.2.1 dX0_copyFrom_9 rfl (lv_at hl 1 rfl) ?_
  refine gI_X0_tubeCount F hK hP hj ((mu_off _ _ hij).trans ho) (fun _ h => List.mem_cons_of_mem _ (List.mem_append_left _ (List.mem_append_right _ h))) (List.mem_of_getElem? (i := 2) rfl) dX0_copyFrom_10 ?_
  refine pI_X0_tubeCount F hK hi hP hS (fun _ h => List.mem_cons_of_mem _ (List.mem_append_left _ (List.mem_append_right _ h))) (List.mem_of_getElem? (i := 2) rfl) dX0_copyFrom_13 (fun H locs hP hS => ?_)
  refine lv_aload_n F.1 F.2.1 dX0_copyFrom_16 rfl (lv_at hl 0 rfl) ?_
  refine lv_aload_n F.1 F.2.1 dX0_copyFrom_17 rfl (lv_at hl 1 rfl) ?_
  refine gI_X0_pipeCount F hK hP hj ((mu_off _ _ hij).trans ho) (fun _ h => List.mem_cons_of_mem _ (List.mem_append_left _ (List.mem_append_right _ h))) (List.mem_of_getElem? (i := 3) rfl) dX0_copyFrom_18 ?_
  refine pI_X0_pipeCount F hK hi hP hS (fun _ h => List.mem_cons_of_mem _ (List.mem_append_left _ (List.mem_append_right _ h))) (List.mem_of_getElem? (i := 3) rfl) dX0_copyFrom_21 (fun H locs hP hS => ?_)
  refine lv_aload_n F.1 F.2.1 dX0_copyFrom_24 rfl (lv_at hl 0 rfl) ?_
  refine lv_aload_n F.1 F.2.1 dX0_copyFrom_25 rfl (lv_at hl 1 rfl) ?_
  refine gI_X0_dayCount F hK hP hj ((mu_off _ _ hij).trans ho) (fun _ h => List.mem_cons_of_mem _ (List.mem_append_left _ (List.mem_append_right _ h))) (List.mem_of_getElem? (i := 4) rfl) dX0_copyFrom_26 ?_
  refine pI_X0_dayCount F hK hi hP hS (fun _ h => List.mem_cons_of_mem _ (List.mem_append_left _ (List.mem_append_right _ h))) (List.mem_of_getElem? (i := 4) rfl) dX0_copyFrom_29 (fun H locs hP hS => ?_)
  refine lv_aload_n F.1 F.2.1 dX0_copyFrom_32 rfl (lv_at hl 0 rfl) ?_
  refine lv_aload_n F.1 F.2.1 dX0_copyFrom_33 rfl (lv_at hl 1 rfl) ?_
  refine gI_X0_winterCount F hK hP hj ((mu_off _ _ hij).trans ho) (fun _ h => List.mem_cons_of_mem _ (List.mem_append_left _ (List.mem_append_right _ h))) (List.mem_of_getElem? (i := 5) rfl) dX0_copyFrom_34 ?_
  refine pI_X0_winterCount F hK hi hP hS (fun _ h => List.mem_cons_of_mem _ (List.mem_append_left _ (List.mem_append_right _ h))) (List.mem_of_getElem? (i := 5) rfl) dX0_copyFrom_37 (fun H locs hP hS => ?_)
  refine lv_aload_n F.1 F.2.1 dX0_copyFrom_40 rfl (lv_at hl 0 rfl) ?_
  refine lv_aload_n F.1 F.2.1 dX0_copyFrom_41 rfl (lv_at hl 1 rfl) ?_
  refine gI_X0_greatestColdSum F hK hP hj ((mu_off _ _ hij).trans ho) (fun _ h => List.mem_cons_of_mem _ (List.mem_append_left _ (List.mem_append_right _ h))) (List.mem_of_getElem? (i := 6) rfl) dX0_copyFrom_42 ?_
  refine pI_X0_greatestColdSum F hK hi hP hS (fun _ h => List.mem_cons_of_mem _ (List.mem_append_left _ (List.mem_append_right _ h))) (List.mem_of_getElem? (i := 6) rfl) dX0_copyFrom_45 (fun H locs hP hS => ?_)
  refine lv_aload_n F.1 F.2.1 dX0_copyFrom_48 rfl (lv_at hl 1 rfl) ?_
  refine gR_X0_settings F hK hP hj (fun _ h => List.mem_cons_of_mem _ (List.mem_append_left _ (List.mem_append_right _ h))) (List.mem_of_getElem? (i := 7) rfl) dX0_copyFrom_49 ?_
  refine lv_iconst (v := (0 : Int32)) F.1 F.2.1 dX0_copyFrom_52 (by decide) ?_
  refine lv_aload_n F.1 F.2.1 dX0_copyFrom_53 rfl (lv_at hl 0 rfl) ?_
  refine gR_X0_settings F hK hP hi (fun _ h => List.mem_cons_of_mem _ (List.mem_append_left _ (List.mem_append_right _ h))) (List.mem_of_getElem? (i := 7) rfl) dX0_copyFrom_54 ?_
  refine lv_iconst (v := (0 : Int32)) F.1 F.2.1 dX0_copyFrom_57 (by decide) ?_
  refine lv_iconst (v := (3 : Int32)) F.1 F.2.1 dX0_copyFrom_58 (by decide) ?_
  refine x_copy F hK (K := 11) (z := 0) hi hij ho hP hS (o_G hj (by decide)) (o_G hi (by decide)) (kd_G j hj 1 (by decide)) (kd_G i hi 1 (by decide)) (Nat.le_of_ble_eq_true rfl) (n := 3) (fun _ => rfl) (fun _ => rfl) rfl (nn := (3 : Int32)) rfl (by decide) (List.mem_of_getElem? (i := 8) rfl) (List.mem_of_getElem? (i := 9) rfl) (List.mem_of_getElem? (i := 10) rfl) (List.mem_of_getElem? (i := 11) rfl) hl.1 (Nat.le_of_ble_eq_true rfl) (Nat.le_of_ble_eq_true rfl) dX0_copyFrom_59 (fun H locs hP hS => ?_)
  refine lv_iconst (v := (0 : Int32)) F.1 F.2.1 dX0_copyFrom_62 (by decide) ?_
  refine lv_istore_n F.1 F.2.1 dX0_copyFrom_63 rfl hl (Nat.le_of_ble_eq_true rfl) rfl (fun ls hl => ?_)
  have hl : lv_has ls 3 [(2, .int (0 : Int32)), (0, .ref (x + gb i)), (1, .ref (x + gb j))] := hl
  exact (KEY FU) (cpy 11 0 o (upd (upd (upd (upd (upd (upd g 196 (o 196)) 197 (o 197)) 198 (o 198)) 199 (o 199)) 200 (o 200)) 201 (o 201))) (0 : Int32) _ _ _ (lv_sub hl [1, 2, 0] rfl) hP hS hf

-- FrostTubes$Ground.hasSite(I)Z
def f_X0_hasSite (g : Row) (a1 : Int32) : Option (Int32) := (if a1 < 0 then some (0 : Int32) else (if (g 196) ≤ a1 then some (0 : Int32) else some (1 : Int32)))
def rmX0_hasSite : Room := { frames := 0, cells := 0, slots := 0, locals := 0 }
theorem hd_X0_hasSite : yX0_hasSite.cls ≠ "java/lang/invoke/MethodHandle" ∧ yX0_hasSite.cls ≠ "java/lang/invoke/VarHandle" ∧ (parseMethodDescriptor yX0_hasSite.desc).map (fun d => d.parameters.length) = some 1 := by decide +kernel
set_option maxHeartbeats 8000000 in
set_option maxRecDepth 100000 in
theorem c_X0_hasSite {l : Launch} {D : va_G} {x : Nat} {μ : Mem} {i : Nat} (hi : i < 19) {g : Row} (hg : μ i = g) (a1 : Int32) {r : Int32} (hf : f_X0_hasSite g a1 = some r) : CX l yX0_hasSite wsX0_hasSite rmX0_hasSite [.ref (x + gb i), .int a1] D x μ (some (.int r)) μ := by
  refine CX.of (cc := cX0_hasSite) (maxL := 2) (ret := (some .boolean)) pn_X0 rfl (Nat.le_of_ble_eq_true rfl) ?_
  intro p e s m args below meth c F hr hlk hK hG
  intro ls H locs hl hP hS
  have hl : lv_has ls 2 [(0, .ref (x + gb i)), (1, .int a1)] := hl
  unfold f_X0_hasSite at hf
  refine lv_iload_n F.1 F.2.1 dX0_hasSite_0 rfl (lv_at hl 1 rfl) ?_
  refine lv_if_lt (tgt := 16) F.1 F.2.1 dX0_hasSite_1 rfl (fun hc1 => ?_) (fun hc1 => ?_)
  · have hf := ifp hc1 hf
    refine lv_iconst (v := (0 : Int32)) F.1 F.2.1 dX0_hasSite_16 (by decide) ?_
    obtain rfl := Option.some.inj hf
    exact x_zret F hr hlk hP hS rfl (b01_v (v := (0 : Int32)) (Or.inl rfl)) dX0_hasSite_17
  · have hf := ifn hc1 hf
    refine lv_iload_n F.1 F.2.1 dX0_hasSite_4 rfl (lv_at hl 1 rfl) ?_
    refine lv_aload_n F.1 F.2.1 dX0_hasSite_5 rfl (lv_at hl 0 rfl) ?_
    refine gI_X0_siteCount F hK hP hi hg (fun _ h => List.mem_cons_of_mem _ (List.mem_append_right _ h)) (List.mem_of_getElem? (i := 1) rfl) dX0_hasSite_6 ?_
    refine lv_icmp_ge (tgt := 16) F.1 F.2.1 dX0_hasSite_9 rfl (fun hc2 => ?_) (fun hc2 => ?_)
    · have hf := ifp hc2 hf
      refine lv_iconst (v := (0 : Int32)) F.1 F.2.1 dX0_hasSite_16 (by decide) ?_
      obtain rfl := Option.some.inj hf
      exact x_zret F hr hlk hP hS rfl (b01_v (v := (0 : Int32)) (Or.inl rfl)) dX0_hasSite_17
    · have hf := ifn hc2 hf
      refine lv_iconst (v := (1 : Int32)) F.1 F.2.1 dX0_hasSite_12 (by decide) ?_
      refine lv_goto (tgt := 17) F.1 F.2.1 dX0_hasSite_13 rfl ?_
      obtain rfl := Option.some.inj hf
      exact x_zret F hr hlk hP hS rfl (b01_v (v := (1 : Int32)) (Or.inr rfl)) dX0_hasSite_17

-- FrostTubes$Ground.hasPipe(I)Z
def f_X0_hasPipe (g : Row) (a1 : Int32) : Option (Int32) := (if a1 < 0 then some (0 : Int32) else (if (g 198) ≤ a1 then some (0 : Int32) else some (1 : Int32)))
def rmX0_hasPipe : Room := { frames := 0, cells := 0, slots := 0, locals := 0 }
theorem hd_X0_hasPipe : yX0_hasPipe.cls ≠ "java/lang/invoke/MethodHandle" ∧ yX0_hasPipe.cls ≠ "java/lang/invoke/VarHandle" ∧ (parseMethodDescriptor yX0_hasPipe.desc).map (fun d => d.parameters.length) = some 1 := by decide +kernel
set_option maxHeartbeats 8000000 in
set_option maxRecDepth 100000 in
theorem c_X0_hasPipe {l : Launch} {D : va_G} {x : Nat} {μ : Mem} {i : Nat} (hi : i < 19) {g : Row} (hg : μ i = g) (a1 : Int32) {r : Int32} (hf : f_X0_hasPipe g a1 = some r) : CX l yX0_hasPipe wsX0_hasPipe rmX0_hasPipe [.ref (x + gb i), .int a1] D x μ (some (.int r)) μ := by
  refine CX.of (cc := cX0_hasPipe) (maxL := 2) (ret := (some .boolean)) pn_X0 rfl (Nat.le_of_ble_eq_true rfl) ?_
  intro p e s m args below meth c F hr hlk hK hG
  intro ls H locs hl hP hS
  have hl : lv_has ls 2 [(0, .ref (x + gb i)), (1, .int a1)] := hl
  unfold f_X0_hasPipe at hf
  refine lv_iload_n F.1 F.2.1 dX0_hasPipe_0 rfl (lv_at hl 1 rfl) ?_
  refine lv_if_lt (tgt := 16) F.1 F.2.1 dX0_hasPipe_1 rfl (fun hc1 => ?_) (fun hc1 => ?_)
  · have hf := ifp hc1 hf
    refine lv_iconst (v := (0 : Int32)) F.1 F.2.1 dX0_hasPipe_16 (by decide) ?_
    obtain rfl := Option.some.inj hf
    exact x_zret F hr hlk hP hS rfl (b01_v (v := (0 : Int32)) (Or.inl rfl)) dX0_hasPipe_17
  · have hf := ifn hc1 hf
    refine lv_iload_n F.1 F.2.1 dX0_hasPipe_4 rfl (lv_at hl 1 rfl) ?_
    refine lv_aload_n F.1 F.2.1 dX0_hasPipe_5 rfl (lv_at hl 0 rfl) ?_
    refine gI_X0_pipeCount F hK hP hi hg (fun _ h => List.mem_cons_of_mem _ (List.mem_append_right _ h)) (List.mem_of_getElem? (i := 1) rfl) dX0_hasPipe_6 ?_
    refine lv_icmp_ge (tgt := 16) F.1 F.2.1 dX0_hasPipe_9 rfl (fun hc2 => ?_) (fun hc2 => ?_)
    · have hf := ifp hc2 hf
      refine lv_iconst (v := (0 : Int32)) F.1 F.2.1 dX0_hasPipe_16 (by decide) ?_
      obtain rfl := Option.some.inj hf
      exact x_zret F hr hlk hP hS rfl (b01_v (v := (0 : Int32)) (Or.inl rfl)) dX0_hasPipe_17
    · have hf := ifn hc2 hf
      refine lv_iconst (v := (1 : Int32)) F.1 F.2.1 dX0_hasPipe_12 (by decide) ?_
      refine lv_goto (tgt := 17) F.1 F.2.1 dX0_hasPipe_13 rfl ?_
      obtain rfl := Option.some.inj hf
      exact x_zret F hr hlk hP hS rfl (b01_v (v := (1 : Int32)) (Or.inr rfl)) dX0_hasPipe_17

-- FrostTubes$Ground.frozenCells()I
def fb_X0_frozenCells_1 (g : Row) (K : Int32 → Int32 → Option (Int32)) (v1 : Int32) (v2 : Int32) : Option (Int32) := (if (g 196) ≤ v2 then some v1 else (if oob v2 4 then none else ((f_X2_frozenWithin g v2.toNatClampNeg (30 : Int32)).bind fun r3 => (K (v1 + r3) (v2 + (1 : Int32))))))
def fl_X0_frozenCells (g : Row) : Nat → Int32 → Int32 → Option (Int32)
  | 0, _, _ => none
  | n + 1, v1, v2 => fb_X0_frozenCells_1 g (fl_X0_frozenCells g n) v1 v2
def f_X0_frozenCells (g : Row) : Option (Int32) := (fl_X0_frozenCells g FU (0 : Int32) (0 : Int32))
def rmX0_frozenCells : Room := { frames := 2, cells := 0, slots := 0, locals := 44 }
theorem hd_X0_frozenCells : yX0_frozenCells.cls ≠ "java/lang/invoke/MethodHandle" ∧ yX0_frozenCells.cls ≠ "java/lang/invoke/VarHandle" ∧ (parseMethodDescriptor yX0_frozenCells.desc).map (fun d => d.parameters.length) = some 0 := by decide +kernel
set_option maxHeartbeats 8000000 in
set_option maxRecDepth 100000 in
theorem c_X0_frozenCells {l : Launch} {D : va_G} {x : Nat} {μ : Mem} {i : Nat} (hi : i < 19) {g : Row} (hg : μ i = g) {r : Int32} (hf : f_X0_frozenCells g = some r) : CX l yX0_frozenCells wsX0_frozenCells rmX0_frozenCells [.ref (x + gb i)] D x μ (some (.int r)) μ := by
  refine CX.of (cc := cX0_frozenCells) (maxL := 3) (ret := (some .int)) pn_X0 rfl (Nat.le_of_ble_eq_true rfl) ?_
  intro p e s m args below meth c F hr hlk hK hG
  have KEY : ∀ n : Nat, (∀ (v1 : Int32) (v2 : Int32) (ls : Array Slot) (H : Heap) (locs : List Loc), lv_has ls 3 [(0, .ref (x + gb i)), (1, .int v1), (2, .int v2)] → va_P D vwCl (WL D x μ) H → va_S (rng x) s.heap H locs → fl_X0_frozenCells g n v1 v2 = some r → W p l e rmX0_frozenCells s m args below meth c H locs 0 0 (MQ below (QX D x μ (some (.int r))) args s 0 0 (rng x)) (F0 m 4 ls [])) := by
    intro n
    induction n with
    | zero => exact (fun _ _ _ _ _ _ _ _ h => nomatch h)
    | succ n ih =>
      skip
      intro v1 v2  ls H locs hl hP hS hf
      have hf : fb_X0_frozenCells_1 g (fl_X0_frozenCells g n) v1 v2 = some r := hf
      unfold fb_X0_frozenCells_1 at hf
      refine lv_iload_n F.1 F.2.1 dX0_frozenCells_4 rfl (lv_at hl 2 rfl) ?_
      refine lv_aload_n F.1 F.2.1 dX0_frozenCells_5 rfl (lv_at hl 0 rfl) ?_
      refine gI_X0_siteCount F hK hP hi hg (fun _ h => List.mem_cons_of_mem _ (List.mem_append_left _ (List.mem_append_right _ h))) (List.mem_of_getElem? (i := 1) rfl) dX0_frozenCells_6 ?_
      refine lv_icmp_ge (tgt := 32) F.1 F.2.1 dX0_frozenCells_9 rfl (fun hc1 => ?_) (fun hc1 => ?_)
      · have hf := ifp hc1 hf
        refine lv_iload_n F.1 F.2.1 dX0_frozenCells_32 rfl (lv_at hl 1 rfl) ?_
        obtain rfl := Option.some.inj hf
        exact x_iret F hr hlk hP hS rfl dX0_frozenCells_33
      · have hf := ifn hc1 hf
        refine lv_iload_n F.1 F.2.1 dX0_frozenCells_12 rfl (lv_at hl 1 rfl) ?_
        refine lv_aload_n F.1 F.2.1 dX0_frozenCells_13 rfl (lv_at hl 0 rfl) ?_
        refine gR_X0_sites F hK hP hi (fun _ h => List.mem_cons_of_mem _ (List.mem_append_left _ (List.mem_append_right _ h))) (List.mem_of_getElem? (i := 2) rfl) dX0_frozenCells_14 ?_
        refine lv_iload_n F.1 F.2.1 dX0_frozenCells_17 rfl (lv_at hl 2 rfl) ?_
        obtain ⟨hb2, hf⟩ := ifg hf
        refine lA_GA2 F hK hP hi hb2 dX0_frozenCells_18 ?_
        refine lv_bipush (v := (30 : Int32)) F.1 F.2.1 dX0_frozenCells_19 (by decide) ?_
        obtain ⟨r3, hr4, hf⟩ := bnd hf
        refine x_callV F hK hG hP hS (o_S hi (oob_lt hb2)) (kd_S i hi v2.toNatClampNeg (oob_lt hb2)) (ci := 2) (fun _ => rfl) rfl (c_X2_frozenWithin hi (oob_lt hb2) hg (30 : Int32) hr4) (cwV 1 F.2.2.2.2 gX0_frozenCells_X2_frozenWithin rfl rfl rfl ⟨rfl, hd_X2_frozenWithin⟩ ⟨(Nat.le_of_ble_eq_true rfl), (Nat.le_of_ble_eq_true rfl)⟩) rfl rfl hl.1 (Nat.le_of_ble_eq_true rfl) dX0_frozenCells_21 ⟨(Nat.le_of_ble_eq_true rfl), (Nat.le_of_ble_eq_true rfl)⟩ (rest := [.int v1]) (fun H locs hP hS => ?_)
        refine W.eq (g2 := F0 m 24 ls [.int r3, .int v1]) rfl ?_
        refine lv_iadd F.1 F.2.1 dX0_frozenCells_24 ?_
        refine lv_istore_n F.1 F.2.1 dX0_frozenCells_25 rfl hl (Nat.le_of_ble_eq_true rfl) rfl (fun ls hl => ?_)
        have hl : lv_has ls 3 [(1, .int (v1 + r3)), (0, .ref (x + gb i)), (2, .int v2)] := hl
        refine lv_iinc (v := (v2 + (1 : Int32))) F.1 F.2.1 dX0_frozenCells_26 hl (k := 2) rfl rfl (Nat.le_of_ble_eq_true rfl) rfl (fun ls hl => ?_)
        have hl : lv_has ls 3 [(2, .int (v2 + (1 : Int32))), (1, .int (v1 + r3)), (0, .ref (x + gb i))] := hl
        refine lv_goto (tgt := 4) F.1 F.2.1 dX0_frozenCells_29 rfl ?_
        exact ih (v1 + r3) (v2 + (1 : Int32)) _ _ _ (lv_sub hl [2, 1, 0] rfl) hP hS hf
  intro ls H locs hl hP hS
  have hl : lv_has ls 3 [(0, .ref (x + gb i))] := hl
  unfold f_X0_frozenCells at hf
  refine lv_iconst (v := (0 : Int32)) F.1 F.2.1 dX0_frozenCells_0 (by decide) ?_
  refine lv_istore_n F.1 F.2.1 dX0_frozenCells_1 rfl hl (Nat.le_of_ble_eq_true rfl) rfl (fun ls hl => ?_)
  have hl : lv_has ls 3 [(1, .int (0 : Int32)), (0, .ref (x + gb i))] := hl
  refine lv_iconst (v := (0 : Int32)) F.1 F.2.1 dX0_frozenCells_2 (by decide) ?_
  refine lv_istore_n F.1 F.2.1 dX0_frozenCells_3 rfl hl (Nat.le_of_ble_eq_true rfl) rfl (fun ls hl => ?_)
  have hl : lv_has ls 3 [(2, .int (0 : Int32)), (1, .int (0 : Int32)), (0, .ref (x + gb i))] := hl
  exact (KEY FU) (0 : Int32) (0 : Int32) _ _ _ (lv_sub hl [2, 1, 0] rfl) hP hS hf

-- FrostTubes$Ground.layersOfAll()I
def fb_X0_layersOfAll_1 (g : Row) (K : Int32 → Int32 → Option (Int32)) (v1 : Int32) (v2 : Int32) : Option (Int32) := (if (g 196) ≤ v2 then some v1 else (if oob v2 4 then none else ((f_X2_layersWithin g v2.toNatClampNeg (30 : Int32)).bind fun r3 => (K (v1 + r3) (v2 + (1 : Int32))))))
def fl_X0_layersOfAll (g : Row) : Nat → Int32 → Int32 → Option (Int32)
  | 0, _, _ => none
  | n + 1, v1, v2 => fb_X0_layersOfAll_1 g (fl_X0_layersOfAll g n) v1 v2
def f_X0_layersOfAll (g : Row) : Option (Int32) := (fl_X0_layersOfAll g FU (0 : Int32) (0 : Int32))
def rmX0_layersOfAll : Room := { frames := 3, cells := 0, slots := 0, locals := 65 }
theorem hd_X0_layersOfAll : yX0_layersOfAll.cls ≠ "java/lang/invoke/MethodHandle" ∧ yX0_layersOfAll.cls ≠ "java/lang/invoke/VarHandle" ∧ (parseMethodDescriptor yX0_layersOfAll.desc).map (fun d => d.parameters.length) = some 0 := by decide +kernel
set_option maxHeartbeats 8000000 in
set_option maxRecDepth 100000 in
theorem c_X0_layersOfAll {l : Launch} {D : va_G} {x : Nat} {μ : Mem} {i : Nat} (hi : i < 19) {g : Row} (hg : μ i = g) {r : Int32} (hf : f_X0_layersOfAll g = some r) : CX l yX0_layersOfAll wsX0_layersOfAll rmX0_layersOfAll [.ref (x + gb i)] D x μ (some (.int r)) μ := by
  refine CX.of (cc := cX0_layersOfAll) (maxL := 3) (ret := (some .int)) pn_X0 rfl (Nat.le_of_ble_eq_true rfl) ?_
  intro p e s m args below meth c F hr hlk hK hG
  have KEY : ∀ n : Nat, (∀ (v1 : Int32) (v2 : Int32) (ls : Array Slot) (H : Heap) (locs : List Loc), lv_has ls 3 [(0, .ref (x + gb i)), (1, .int v1), (2, .int v2)] → va_P D vwCl (WL D x μ) H → va_S (rng x) s.heap H locs → fl_X0_layersOfAll g n v1 v2 = some r → W p l e rmX0_layersOfAll s m args below meth c H locs 0 0 (MQ below (QX D x μ (some (.int r))) args s 0 0 (rng x)) (F0 m 4 ls [])) := by
    intro n
    induction n with
    | zero => exact (fun _ _ _ _ _ _ _ _ h => nomatch h)
    | succ n ih =>
      skip
      intro v1 v2  ls H locs hl hP hS hf
      have hf : fb_X0_layersOfAll_1 g (fl_X0_layersOfAll g n) v1 v2 = some r := hf
      unfold fb_X0_layersOfAll_1 at hf
      refine lv_iload_n F.1 F.2.1 dX0_layersOfAll_4 rfl (lv_at hl 2 rfl) ?_
      refine lv_aload_n F.1 F.2.1 dX0_layersOfAll_5 rfl (lv_at hl 0 rfl) ?_
      refine gI_X0_siteCount F hK hP hi hg (fun _ h => List.mem_cons_of_mem _ (List.mem_append_left _ (List.mem_append_right _ h))) (List.mem_of_getElem? (i := 1) rfl) dX0_layersOfAll_6 ?_
      refine lv_icmp_ge (tgt := 32) F.1 F.2.1 dX0_layersOfAll_9 rfl (fun hc1 => ?_) (fun hc1 => ?_)
      · have hf := ifp hc1 hf
        refine lv_iload_n F.1 F.2.1 dX0_layersOfAll_32 rfl (lv_at hl 1 rfl) ?_
        obtain rfl := Option.some.inj hf
        exact x_iret F hr hlk hP hS rfl dX0_layersOfAll_33
      · have hf := ifn hc1 hf
        refine lv_iload_n F.1 F.2.1 dX0_layersOfAll_12 rfl (lv_at hl 1 rfl) ?_
        refine lv_aload_n F.1 F.2.1 dX0_layersOfAll_13 rfl (lv_at hl 0 rfl) ?_
        refine gR_X0_sites F hK hP hi (fun _ h => List.mem_cons_of_mem _ (List.mem_append_left _ (List.mem_append_right _ h))) (List.mem_of_getElem? (i := 2) rfl) dX0_layersOfAll_14 ?_
        refine lv_iload_n F.1 F.2.1 dX0_layersOfAll_17 rfl (lv_at hl 2 rfl) ?_
        obtain ⟨hb2, hf⟩ := ifg hf
        refine lA_GA2 F hK hP hi hb2 dX0_layersOfAll_18 ?_
        refine lv_bipush (v := (30 : Int32)) F.1 F.2.1 dX0_layersOfAll_19 (by decide) ?_
        obtain ⟨r3, hr4, hf⟩ := bnd hf
        refine x_callV F hK hG hP hS (o_S hi (oob_lt hb2)) (kd_S i hi v2.toNatClampNeg (oob_lt hb2)) (ci := 2) (fun _ => rfl) rfl (c_X2_layersWithin hi (oob_lt hb2) hg (30 : Int32) hr4) (cwV 1 F.2.2.2.2 gX0_layersOfAll_X2_layersWithin rfl rfl rfl ⟨rfl, hd_X2_layersWithin⟩ ⟨(Nat.le_of_ble_eq_true rfl), (Nat.le_of_ble_eq_true rfl)⟩) rfl rfl hl.1 (Nat.le_of_ble_eq_true rfl) dX0_layersOfAll_21 ⟨(Nat.le_of_ble_eq_true rfl), (Nat.le_of_ble_eq_true rfl)⟩ (rest := [.int v1]) (fun H locs hP hS => ?_)
        refine W.eq (g2 := F0 m 24 ls [.int r3, .int v1]) rfl ?_
        refine lv_iadd F.1 F.2.1 dX0_layersOfAll_24 ?_
        refine lv_istore_n F.1 F.2.1 dX0_layersOfAll_25 rfl hl (Nat.le_of_ble_eq_true rfl) rfl (fun ls hl => ?_)
        have hl : lv_has ls 3 [(1, .int (v1 + r3)), (0, .ref (x + gb i)), (2, .int v2)] := hl
        refine lv_iinc (v := (v2 + (1 : Int32))) F.1 F.2.1 dX0_layersOfAll_26 hl (k := 2) rfl rfl (Nat.le_of_ble_eq_true rfl) rfl (fun ls hl => ?_)
        have hl : lv_has ls 3 [(2, .int (v2 + (1 : Int32))), (1, .int (v1 + r3)), (0, .ref (x + gb i))] := hl
        refine lv_goto (tgt := 4) F.1 F.2.1 dX0_layersOfAll_29 rfl ?_
        exact ih (v1 + r3) (v2 + (1 : Int32)) _ _ _ (lv_sub hl [2, 1, 0] rfl) hP hS hf
  intro ls H locs hl hP hS
  have hl : lv_has ls 3 [(0, .ref (x + gb i))] := hl
  unfold f_X0_layersOfAll at hf
  refine lv_iconst (v := (0 : Int32)) F.1 F.2.1 dX0_layersOfAll_0 (by decide) ?_
  refine lv_istore_n F.1 F.2.1 dX0_layersOfAll_1 rfl hl (Nat.le_of_ble_eq_true rfl) rfl (fun ls hl => ?_)
  have hl : lv_has ls 3 [(1, .int (0 : Int32)), (0, .ref (x + gb i))] := hl
  refine lv_iconst (v := (0 : Int32)) F.1 F.2.1 dX0_layersOfAll_2 (by decide) ?_
  refine lv_istore_n F.1 F.2.1 dX0_layersOfAll_3 rfl hl (Nat.le_of_ble_eq_true rfl) rfl (fun ls hl => ?_)
  have hl : lv_has ls 3 [(2, .int (0 : Int32)), (1, .int (0 : Int32)), (0, .ref (x + gb i))] := hl
  exact (KEY FU) (0 : Int32) (0 : Int32) _ _ _ (lv_sub hl [2, 1, 0] rfl) hP hS hf

-- FrostTubes$Ground.heavesOfAll()I
def fb_X0_heavesOfAll_1 (g : Row) (K : Int32 → Int32 → Option (Int32)) (v1 : Int32) (v2 : Int32) : Option (Int32) := (if (g 198) ≤ v2 then some v1 else (if oob v2 8 then none else (K (v1 + (g (158 + 5 * v2.toNatClampNeg))) (v2 + (1 : Int32)))))
def fl_X0_heavesOfAll (g : Row) : Nat → Int32 → Int32 → Option (Int32)
  | 0, _, _ => none
  | n + 1, v1, v2 => fb_X0_heavesOfAll_1 g (fl_X0_heavesOfAll g n) v1 v2
def f_X0_heavesOfAll (g : Row) : Option (Int32) := (fl_X0_heavesOfAll g FU (0 : Int32) (0 : Int32))
def rmX0_heavesOfAll : Room := { frames := 0, cells := 0, slots := 0, locals := 0 }
theorem hd_X0_heavesOfAll : yX0_heavesOfAll.cls ≠ "java/lang/invoke/MethodHandle" ∧ yX0_heavesOfAll.cls ≠ "java/lang/invoke/VarHandle" ∧ (parseMethodDescriptor yX0_heavesOfAll.desc).map (fun d => d.parameters.length) = some 0 := by decide +kernel
set_option maxHeartbeats 8000000 in
set_option maxRecDepth 100000 in
theorem c_X0_heavesOfAll {l : Launch} {D : va_G} {x : Nat} {μ : Mem} {i : Nat} (hi : i < 19) {g : Row} (hg : μ i = g) {r : Int32} (hf : f_X0_heavesOfAll g = some r) : CX l yX0_heavesOfAll wsX0_heavesOfAll rmX0_heavesOfAll [.ref (x + gb i)] D x μ (some (.int r)) μ := by
  refine CX.of (cc := cX0_heavesOfAll) (maxL := 3) (ret := (some .int)) pn_X0 rfl (Nat.le_of_ble_eq_true rfl) ?_
  intro p e s m args below meth c F hr hlk hK hG
  have KEY : ∀ n : Nat, (∀ (v1 : Int32) (v2 : Int32) (ls : Array Slot) (H : Heap) (locs : List Loc), lv_has ls 3 [(0, .ref (x + gb i)), (1, .int v1), (2, .int v2)] → va_P D vwCl (WL D x μ) H → va_S (rng x) s.heap H locs → fl_X0_heavesOfAll g n v1 v2 = some r → W p l e rmX0_heavesOfAll s m args below meth c H locs 0 0 (MQ below (QX D x μ (some (.int r))) args s 0 0 (rng x)) (F0 m 4 ls [])) := by
    intro n
    induction n with
    | zero => exact (fun _ _ _ _ _ _ _ _ h => nomatch h)
    | succ n ih =>
      skip
      intro v1 v2  ls H locs hl hP hS hf
      have hf : fb_X0_heavesOfAll_1 g (fl_X0_heavesOfAll g n) v1 v2 = some r := hf
      unfold fb_X0_heavesOfAll_1 at hf
      refine lv_iload_n F.1 F.2.1 dX0_heavesOfAll_4 rfl (lv_at hl 2 rfl) ?_
      refine lv_aload_n F.1 F.2.1 dX0_heavesOfAll_5 rfl (lv_at hl 0 rfl) ?_
      refine gI_X0_pipeCount F hK hP hi hg (fun _ h => List.mem_cons_of_mem _ (List.mem_append_right _ h)) (List.mem_of_getElem? (i := 1) rfl) dX0_heavesOfAll_6 ?_
      refine lv_icmp_ge (tgt := 27) F.1 F.2.1 dX0_heavesOfAll_9 rfl (fun hc1 => ?_) (fun hc1 => ?_)
      · have hf := ifp hc1 hf
        refine lv_iload_n F.1 F.2.1 dX0_heavesOfAll_27 rfl (lv_at hl 1 rfl) ?_
        obtain rfl := Option.some.inj hf
        exact x_iret F hr hlk hP hS rfl dX0_heavesOfAll_28
      · have hf := ifn hc1 hf
        refine lv_iload_n F.1 F.2.1 dX0_heavesOfAll_12 rfl (lv_at hl 1 rfl) ?_
        refine lv_aload_n F.1 F.2.1 dX0_heavesOfAll_13 rfl (lv_at hl 0 rfl) ?_
        refine gR_X0_pipeHeave F hK hP hi (fun _ h => List.mem_cons_of_mem _ (List.mem_append_right _ h)) (List.mem_of_getElem? (i := 2) rfl) dX0_heavesOfAll_14 ?_
        refine lv_iload_n F.1 F.2.1 dX0_heavesOfAll_17 rfl (lv_at hl 2 rfl) ?_
        obtain ⟨hb2, hf⟩ := ifg hf
        refine lA_GA7 F hK hP hi hg hb2 dX0_heavesOfAll_18 ?_
        refine lv_iadd F.1 F.2.1 dX0_heavesOfAll_19 ?_
        refine lv_istore_n F.1 F.2.1 dX0_heavesOfAll_20 rfl hl (Nat.le_of_ble_eq_true rfl) rfl (fun ls hl => ?_)
        have hl : lv_has ls 3 [(1, .int (v1 + (g (158 + 5 * v2.toNatClampNeg)))), (0, .ref (x + gb i)), (2, .int v2)] := hl
        refine lv_iinc (v := (v2 + (1 : Int32))) F.1 F.2.1 dX0_heavesOfAll_21 hl (k := 2) rfl rfl (Nat.le_of_ble_eq_true rfl) rfl (fun ls hl => ?_)
        have hl : lv_has ls 3 [(2, .int (v2 + (1 : Int32))), (1, .int (v1 + (g (158 + 5 * v2.toNatClampNeg)))), (0, .ref (x + gb i))] := hl
        refine lv_goto (tgt := 4) F.1 F.2.1 dX0_heavesOfAll_24 rfl ?_
        exact ih (v1 + (g (158 + 5 * v2.toNatClampNeg))) (v2 + (1 : Int32)) _ _ _ (lv_sub hl [2, 1, 0] rfl) hP hS hf
  intro ls H locs hl hP hS
  have hl : lv_has ls 3 [(0, .ref (x + gb i))] := hl
  unfold f_X0_heavesOfAll at hf
  refine lv_iconst (v := (0 : Int32)) F.1 F.2.1 dX0_heavesOfAll_0 (by decide) ?_
  refine lv_istore_n F.1 F.2.1 dX0_heavesOfAll_1 rfl hl (Nat.le_of_ble_eq_true rfl) rfl (fun ls hl => ?_)
  have hl : lv_has ls 3 [(1, .int (0 : Int32)), (0, .ref (x + gb i))] := hl
  refine lv_iconst (v := (0 : Int32)) F.1 F.2.1 dX0_heavesOfAll_2 (by decide) ?_
  refine lv_istore_n F.1 F.2.1 dX0_heavesOfAll_3 rfl hl (Nat.le_of_ble_eq_true rfl) rfl (fun ls hl => ?_)
  have hl : lv_has ls 3 [(2, .int (0 : Int32)), (1, .int (0 : Int32)), (0, .ref (x + gb i))] := hl
  exact (KEY FU) (0 : Int32) (0 : Int32) _ _ _ (lv_sub hl [2, 1, 0] rfl) hP hS hf

-- FrostTubes$Ground.greatestSumNow()I
def fb_X0_greatestSumNow_1 (g : Row) (K : Int32 → Int32 → Option (Int32)) (v1 : Int32) (v2 : Int32) : Option (Int32) := (if (g 196) ≤ v2 then some v1 else (if oob v2 4 then none else (K (if v1 < (g (35 * v2.toNatClampNeg + 4)) then (g (35 * v2.toNatClampNeg + 4)) else v1) (v2 + (1 : Int32)))))
def fl_X0_greatestSumNow (g : Row) : Nat → Int32 → Int32 → Option (Int32)
  | 0, _, _ => none
  | n + 1, v1, v2 => fb_X0_greatestSumNow_1 g (fl_X0_greatestSumNow g n) v1 v2
def f_X0_greatestSumNow (g : Row) : Option (Int32) := (fl_X0_greatestSumNow g FU (0 : Int32) (0 : Int32))
def rmX0_greatestSumNow : Room := { frames := 1, cells := 0, slots := 0, locals := 13 }
theorem hd_X0_greatestSumNow : yX0_greatestSumNow.cls ≠ "java/lang/invoke/MethodHandle" ∧ yX0_greatestSumNow.cls ≠ "java/lang/invoke/VarHandle" ∧ (parseMethodDescriptor yX0_greatestSumNow.desc).map (fun d => d.parameters.length) = some 0 := by decide +kernel
set_option maxHeartbeats 8000000 in
set_option maxRecDepth 100000 in
theorem c_X0_greatestSumNow {l : Launch} {D : va_G} {x : Nat} {μ : Mem} {i : Nat} (hi : i < 19) {g : Row} (hg : μ i = g) {r : Int32} (hf : f_X0_greatestSumNow g = some r) : CX l yX0_greatestSumNow wsX0_greatestSumNow rmX0_greatestSumNow [.ref (x + gb i)] D x μ (some (.int r)) μ := by
  refine CX.of (cc := cX0_greatestSumNow) (maxL := 3) (ret := (some .int)) pn_X0 rfl (Nat.le_of_ble_eq_true rfl) ?_
  intro p e s m args below meth c F hr hlk hK hG
  have KEY : ∀ n : Nat, (∀ (v1 : Int32) (v2 : Int32) (ls : Array Slot) (H : Heap) (locs : List Loc), lv_has ls 3 [(0, .ref (x + gb i)), (1, .int v1), (2, .int v2)] → va_P D vwCl (WL D x μ) H → va_S (rng x) s.heap H locs → fl_X0_greatestSumNow g n v1 v2 = some r → W p l e rmX0_greatestSumNow s m args below meth c H locs 0 0 (MQ below (QX D x μ (some (.int r))) args s 0 0 (rng x)) (F0 m 4 ls [])) := by
    intro n
    induction n with
    | zero => exact (fun _ _ _ _ _ _ _ _ h => nomatch h)
    | succ n ih =>
      skip
      intro v1 v2  ls H locs hl hP hS hf
      have hf : fb_X0_greatestSumNow_1 g (fl_X0_greatestSumNow g n) v1 v2 = some r := hf
      unfold fb_X0_greatestSumNow_1 at hf
      refine lv_iload_n F.1 F.2.1 dX0_greatestSumNow_4 rfl (lv_at hl 2 rfl) ?_
      refine lv_aload_n F.1 F.2.1 dX0_greatestSumNow_5 rfl (lv_at hl 0 rfl) ?_
      refine gI_X0_siteCount F hK hP hi hg (fun _ h => List.mem_cons_of_mem _ (List.mem_append_left _ (List.mem_append_right _ h))) (List.mem_of_getElem? (i := 1) rfl) dX0_greatestSumNow_6 ?_
      refine lv_icmp_ge (tgt := 32) F.1 F.2.1 dX0_greatestSumNow_9 rfl (fun hc1 => ?_) (fun hc1 => ?_)
      · have hf := ifp hc1 hf
        refine lv_iload_n F.1 F.2.1 dX0_greatestSumNow_32 rfl (lv_at hl 1 rfl) ?_
        obtain rfl := Option.some.inj hf
        exact x_iret F hr hlk hP hS rfl dX0_greatestSumNow_33
      · have hf := ifn hc1 hf
        refine lv_iload_n F.1 F.2.1 dX0_greatestSumNow_12 rfl (lv_at hl 1 rfl) ?_
        refine lv_aload_n F.1 F.2.1 dX0_greatestSumNow_13 rfl (lv_at hl 0 rfl) ?_
        refine gR_X0_sites F hK hP hi (fun _ h => List.mem_cons_of_mem _ (List.mem_append_left _ (List.mem_append_right _ h))) (List.mem_of_getElem? (i := 2) rfl) dX0_greatestSumNow_14 ?_
        refine lv_iload_n F.1 F.2.1 dX0_greatestSumNow_17 rfl (lv_at hl 2 rfl) ?_
        obtain ⟨hb2, hf⟩ := ifg hf
        refine lA_GA2 F hK hP hi hb2 dX0_greatestSumNow_18 ?_
        refine gI_X2_coldSum F hK hP hi (oob_lt hb2) hg (fun _ h => List.mem_cons_of_mem _ (List.mem_append_right _ h)) (List.mem_of_getElem? (i := 3) rfl) dX0_greatestSumNow_19 ?_
        refine va_mmax F.1 F.2.1 (F.2.2.1.trans hl.1.symm) F.2.2.2.1 (F.2.2.2.2 _ (List.mem_of_getElem? (i := 4) rfl)) (F.2.2.2.2 _ (List.mem_of_getElem? (i := 5) rfl)) (F.2.2.2.2 _ (List.mem_of_getElem? (i := 6) rfl)) (F.2.2.2.2 _ (List.mem_of_getElem? (i := 7) rfl)) (Nat.le_of_ble_eq_true rfl) (Nat.le_of_ble_eq_true rfl) (Nat.le_of_ble_eq_true rfl) (Nat.le_of_ble_eq_true rfl) dX0_greatestSumNow_22 ?_
        refine lv_istore_n F.1 F.2.1 dX0_greatestSumNow_25 rfl hl (Nat.le_of_ble_eq_true rfl) rfl (fun ls hl => ?_)
        have hl : lv_has ls 3 [(1, .int (if v1 < (g (35 * v2.toNatClampNeg + 4)) then (g (35 * v2.toNatClampNeg + 4)) else v1)), (0, .ref (x + gb i)), (2, .int v2)] := hl
        refine lv_iinc (v := (v2 + (1 : Int32))) F.1 F.2.1 dX0_greatestSumNow_26 hl (k := 2) rfl rfl (Nat.le_of_ble_eq_true rfl) rfl (fun ls hl => ?_)
        have hl : lv_has ls 3 [(2, .int (v2 + (1 : Int32))), (1, .int (if v1 < (g (35 * v2.toNatClampNeg + 4)) then (g (35 * v2.toNatClampNeg + 4)) else v1)), (0, .ref (x + gb i))] := hl
        refine lv_goto (tgt := 4) F.1 F.2.1 dX0_greatestSumNow_29 rfl ?_
        exact ih (if v1 < (g (35 * v2.toNatClampNeg + 4)) then (g (35 * v2.toNatClampNeg + 4)) else v1) (v2 + (1 : Int32)) _ _ _ (lv_sub hl [2, 1, 0] rfl) hP hS hf
  intro ls H locs hl hP hS
  have hl : lv_has ls 3 [(0, .ref (x + gb i))] := hl
  unfold f_X0_greatestSumNow at hf
  refine lv_iconst (v := (0 : Int32)) F.1 F.2.1 dX0_greatestSumNow_0 (by decide) ?_
  refine lv_istore_n F.1 F.2.1 dX0_greatestSumNow_1 rfl hl (Nat.le_of_ble_eq_true rfl) rfl (fun ls hl => ?_)
  have hl : lv_has ls 3 [(1, .int (0 : Int32)), (0, .ref (x + gb i))] := hl
  refine lv_iconst (v := (0 : Int32)) F.1 F.2.1 dX0_greatestSumNow_2 (by decide) ?_
  refine lv_istore_n F.1 F.2.1 dX0_greatestSumNow_3 rfl hl (Nat.le_of_ble_eq_true rfl) rfl (fun ls hl => ?_)
  have hl : lv_has ls 3 [(2, .int (0 : Int32)), (1, .int (0 : Int32)), (0, .ref (x + gb i))] := hl
  exact (KEY FU) (0 : Int32) (0 : Int32) _ _ _ (lv_sub hl [2, 1, 0] rfl) hP hS hf

-- FrostTubes$Ground.nextAgeKey(I)I
def fb_X0_nextAgeKey_1 (g : Row) (a1 : Int32) (K : Nat → Int32 → Int32 → Int32 → Option (Int32)) (v2 : Int32) (v3 : Int32) (v4 : Int32) : Option (Int32) := (if (g 196) ≤ v3 then some v2 else (K 2 v2 v3 (0 : Int32)))
def fb_X0_nextAgeKey_2 (g : Row) (a1 : Int32) (K : Nat → Int32 → Int32 → Int32 → Option (Int32)) (v2 : Int32) (v3 : Int32) (v4 : Int32) : Option (Int32) := (if (30 : Int32) ≤ v4 then (K 1 v2 (v3 + (1 : Int32)) 0) else (if oob v3 4 then none else (if oob v4 30 then none else (if oob v3 4 then none else ((f_X2_isFrozen g v3.toNatClampNeg v4).bind fun r6 => (if r6 = 0 then (K 2 v2 v3 (v4 + (1 : Int32))) else (if ((((1000 : Int32) * (g (35 * v3.toNatClampNeg + (5 + v4.toNatClampNeg)))) + ((100 : Int32) * v3)) + v4) ≤ a1 then (K 2 v2 v3 (v4 + (1 : Int32))) else (if v2 ≤ ((((1000 : Int32) * (g (35 * v3.toNatClampNeg + (5 + v4.toNatClampNeg)))) + ((100 : Int32) * v3)) + v4) then (K 2 v2 v3 (v4 + (1 : Int32))) else (K 2 ((((1000 : Int32) * (g (35 * v3.toNatClampNeg + (5 + v4.toNatClampNeg)))) + ((100 : Int32) * v3)) + v4) v3 (v4 + (1 : Int32)))))))))))
def fl_X0_nextAgeKey (g : Row) (a1 : Int32) : Nat → Nat → Int32 → Int32 → Int32 → Option (Int32)
  | 0, _, _, _, _ => none
  | n + 1, lab, v2, v3, v4 => match lab with
    | 1 => fb_X0_nextAgeKey_1 g a1 (fl_X0_nextAgeKey g a1 n) v2 v3 v4
    | _ => fb_X0_nextAgeKey_2 g a1 (fl_X0_nextAgeKey g a1 n) v2 v3 v4
def f_X0_nextAgeKey (g : Row) (a1 : Int32) : Option (Int32) := (fl_X0_nextAgeKey g a1 FU 1 (10000000 : Int32) (0 : Int32) 0)
def rmX0_nextAgeKey : Room := { frames := 1, cells := 0, slots := 0, locals := 21 }
theorem hd_X0_nextAgeKey : yX0_nextAgeKey.cls ≠ "java/lang/invoke/MethodHandle" ∧ yX0_nextAgeKey.cls ≠ "java/lang/invoke/VarHandle" ∧ (parseMethodDescriptor yX0_nextAgeKey.desc).map (fun d => d.parameters.length) = some 1 := by decide +kernel
set_option maxHeartbeats 8000000 in
set_option maxRecDepth 100000 in
theorem c_X0_nextAgeKey {l : Launch} {D : va_G} {x : Nat} {μ : Mem} {i : Nat} (hi : i < 19) {g : Row} (hg : μ i = g) (a1 : Int32) {r : Int32} (hf : f_X0_nextAgeKey g a1 = some r) : CX l yX0_nextAgeKey wsX0_nextAgeKey rmX0_nextAgeKey [.ref (x + gb i), .int a1] D x μ (some (.int r)) μ := by
  refine CX.of (cc := cX0_nextAgeKey) (maxL := 6) (ret := (some .int)) pn_X0 rfl (Nat.le_of_ble_eq_true rfl) ?_
  intro p e s m args below meth c F hr hlk hK hG
  have KEY : ∀ n : Nat, (∀ (v2 : Int32) (v3 : Int32) (ls : Array Slot) (H : Heap) (locs : List Loc), lv_has ls 6 [(0, .ref (x + gb i)), (1, .int a1), (2, .int v2), (3, .int v3)] → va_P D vwCl (WL D x μ) H → va_S (rng x) s.heap H locs → fl_X0_nextAgeKey g a1 n 1 v2 v3 0 = some r → W p l e rmX0_nextAgeKey s m args below meth c H locs 0 0 (MQ below (QX D x μ (some (.int r))) args s 0 0 (rng x)) (F0 m 5 ls [])) ∧ (∀ (v2 : Int32) (v3 : Int32) (v4 : Int32) (ls : Array Slot) (H : Heap) (locs : List Loc), lv_has ls 6 [(0, .ref (x + gb i)), (1, .int a1), (2, .int v2), (3, .int v3), (4, .int v4)] → va_P D vwCl (WL D x μ) H → va_S (rng x) s.heap H locs → fl_X0_nextAgeKey g a1 n 2 v2 v3 v4 = some r → W p l e rmX0_nextAgeKey s m args below meth c H locs 0 0 (MQ below (QX D x μ (some (.int r))) args s 0 0 (rng x)) (F0 m 16 ls [])) := by
    intro n
    induction n with
    | zero => exact ⟨(fun _ _ _ _ _ _ _ _ h => nomatch h), (fun _ _ _ _ _ _ _ _ _ h => nomatch h)⟩
    | succ n ih =>
      refine ⟨?_, ?_⟩
      · intro v2 v3  ls H locs hl hP hS hf
        have hf : fb_X0_nextAgeKey_1 g a1 (fl_X0_nextAgeKey g a1 n) v2 v3 0 = some r := hf
        unfold fb_X0_nextAgeKey_1 at hf
        refine lv_iload_n F.1 F.2.1 dX0_nextAgeKey_5 rfl (lv_at hl 3 rfl) ?_
        refine lv_aload_n F.1 F.2.1 dX0_nextAgeKey_6 rfl (lv_at hl 0 rfl) ?_
        refine gI_X0_siteCount F hK hP hi hg (fun _ h => List.mem_cons_of_mem _ (List.mem_append_left _ (List.mem_append_right _ h))) (List.mem_of_getElem? (i := 2) rfl) dX0_nextAgeKey_7 ?_
        refine lv_icmp_ge (tgt := 90) F.1 F.2.1 dX0_nextAgeKey_10 rfl (fun hc1 => ?_) (fun hc1 => ?_)
        · have hf := ifp hc1 hf
          refine lv_iload_n F.1 F.2.1 dX0_nextAgeKey_90 rfl (lv_at hl 2 rfl) ?_
          obtain rfl := Option.some.inj hf
          exact x_iret F hr hlk hP hS rfl dX0_nextAgeKey_91
        · have hf := ifn hc1 hf
          refine lv_iconst (v := (0 : Int32)) F.1 F.2.1 dX0_nextAgeKey_13 (by decide) ?_
          refine lv_istore F.1 F.2.1 dX0_nextAgeKey_14 hl (Nat.le_of_ble_eq_true rfl) rfl (fun ls hl => ?_)
          have hl : lv_has ls 6 [(4, .int (0 : Int32)), (0, .ref (x + gb i)), (1, .int a1), (2, .int v2), (3, .int v3)] := hl
          exact ih.2 v2 v3 (0 : Int32) _ _ _ (lv_sub hl [1, 2, 3, 4, 0] rfl) hP hS hf
      · intro v2 v3 v4  ls H locs hl hP hS hf
        have hf : fb_X0_nextAgeKey_2 g a1 (fl_X0_nextAgeKey g a1 n) v2 v3 v4 = some r := hf
        unfold fb_X0_nextAgeKey_2 at hf
        refine lv_iload F.1 F.2.1 dX0_nextAgeKey_16 (lv_at hl 4 rfl) ?_
        refine lv_bipush (v := (30 : Int32)) F.1 F.2.1 dX0_nextAgeKey_18 (by decide) ?_
        refine lv_icmp_ge (tgt := 84) F.1 F.2.1 dX0_nextAgeKey_20 rfl (fun hc2 => ?_) (fun hc2 => ?_)
        · have hf := ifp hc2 hf
          refine lv_iinc (v := (v3 + (1 : Int32))) F.1 F.2.1 dX0_nextAgeKey_84 hl (k := 3) rfl rfl (Nat.le_of_ble_eq_true rfl) rfl (fun ls hl => ?_)
          have hl : lv_has ls 6 [(3, .int (v3 + (1 : Int32))), (0, .ref (x + gb i)), (1, .int a1), (2, .int v2), (4, .int v4)] := hl
          refine lv_goto (tgt := 5) F.1 F.2.1 dX0_nextAgeKey_87 rfl ?_
          exact ih.1 v2 (v3 + (1 : Int32)) _ _ _ (lv_sub hl [1, 2, 3, 0] rfl) hP hS hf
        · have hf := ifn hc2 hf
          refine lv_sipush (v := (1000 : Int32)) F.1 F.2.1 dX0_nextAgeKey_23 (by decide) ?_
          refine lv_aload_n F.1 F.2.1 dX0_nextAgeKey_26 rfl (lv_at hl 0 rfl) ?_
          refine gR_X0_sites F hK hP hi (fun _ h => List.mem_cons_of_mem _ (List.mem_append_left _ (List.mem_append_right _ h))) (List.mem_of_getElem? (i := 3) rfl) dX0_nextAgeKey_27 ?_
          refine lv_iload_n F.1 F.2.1 dX0_nextAgeKey_30 rfl (lv_at hl 3 rfl) ?_
          obtain ⟨hb3, hf⟩ := ifg hf
          refine lA_GA2 F hK hP hi hb3 dX0_nextAgeKey_31 ?_
          refine gR_X2_frozenSince F hK hP hi (oob_lt hb3) (fun _ h => List.mem_cons_of_mem _ (List.mem_append_right _ h)) (List.mem_of_getElem? (i := 4) rfl) dX0_nextAgeKey_32 ?_
          refine lv_iload F.1 F.2.1 dX0_nextAgeKey_35 (lv_at hl 4 rfl) ?_
          obtain ⟨hb4, hf⟩ := ifg hf
          refine lA_SA F hK hP hi (oob_lt hb3) hg hb4 dX0_nextAgeKey_37 ?_
          refine lv_imul F.1 F.2.1 dX0_nextAgeKey_38 ?_
          refine lv_bipush (v := (100 : Int32)) F.1 F.2.1 dX0_nextAgeKey_39 (by decide) ?_
          refine lv_iload_n F.1 F.2.1 dX0_nextAgeKey_41 rfl (lv_at hl 3 rfl) ?_
          refine lv_imul F.1 F.2.1 dX0_nextAgeKey_42 ?_
          refine lv_iadd F.1 F.2.1 dX0_nextAgeKey_43 ?_
          refine lv_iload F.1 F.2.1 dX0_nextAgeKey_44 (lv_at hl 4 rfl) ?_
          refine lv_iadd F.1 F.2.1 dX0_nextAgeKey_46 ?_
          refine lv_istore F.1 F.2.1 dX0_nextAgeKey_47 hl (Nat.le_of_ble_eq_true rfl) rfl (fun ls hl => ?_)
          have hl : lv_has ls 6 [(5, .int ((((1000 : Int32) * (g (35 * v3.toNatClampNeg + (5 + v4.toNatClampNeg)))) + ((100 : Int32) * v3)) + v4)), (0, .ref (x + gb i)), (1, .int a1), (2, .int v2), (3, .int v3), (4, .int v4)] := hl
          refine lv_aload_n F.1 F.2.1 dX0_nextAgeKey_49 rfl (lv_at hl 1 rfl) ?_
          refine gR_X0_sites F hK hP hi (fun _ h => List.mem_cons_of_mem _ (List.mem_append_left _ (List.mem_append_right _ h))) (List.mem_of_getElem? (i := 3) rfl) dX0_nextAgeKey_50 ?_
          refine lv_iload_n F.1 F.2.1 dX0_nextAgeKey_53 rfl (lv_at hl 4 rfl) ?_
          obtain ⟨hb5, hf⟩ := ifg hf
          refine lA_GA2 F hK hP hi hb5 dX0_nextAgeKey_54 ?_
          refine lv_iload F.1 F.2.1 dX0_nextAgeKey_55 (lv_at hl 5 rfl) ?_
          obtain ⟨r6, hr7, hf⟩ := bnd hf
          refine x_callV F hK hG hP hS (o_S hi (oob_lt hb5)) (kd_S i hi v3.toNatClampNeg (oob_lt hb5)) (ci := 2) (fun _ => rfl) rfl (c_X2_isFrozen hi (oob_lt hb5) hg v4 hr7) (cwV 1 F.2.2.2.2 gX0_nextAgeKey_X2_isFrozen rfl rfl rfl ⟨rfl, hd_X2_isFrozen⟩ ⟨(Nat.le_of_ble_eq_true rfl), (Nat.le_of_ble_eq_true rfl)⟩) rfl rfl hl.1 (Nat.le_of_ble_eq_true rfl) dX0_nextAgeKey_57 ⟨(Nat.le_of_ble_eq_true rfl), (Nat.le_of_ble_eq_true rfl)⟩ (rest := []) (fun H locs hP hS => ?_)
          refine W.eq (g2 := F0 m 60 ls [.int r6]) rfl ?_
          refine lv_if_eq (tgt := 78) F.1 F.2.1 dX0_nextAgeKey_60 rfl (fun hc8 => ?_) (fun hc8 => ?_)
          · have hf := ifp hc8 hf
            refine lv_iinc (v := (v4 + (1 : Int32))) F.1 F.2.1 dX0_nextAgeKey_78 hl (k := 5) rfl rfl (Nat.le_of_ble_eq_true rfl) rfl (fun ls hl => ?_)
            have hl : lv_has ls 6 [(4, .int (v4 + (1 : Int32))), (5, .int ((((1000 : Int32) * (g (35 * v3.toNatClampNeg + (5 + v4.toNatClampNeg)))) + ((100 : Int32) * v3)) + v4)), (0, .ref (x + gb i)), (1, .int a1), (2, .int v2), (3, .int v3)] := hl
            refine lv_goto (tgt := 16) F.1 F.2.1 dX0_nextAgeKey_81 rfl ?_
            exact ih.2 v2 v3 (v4 + (1 : Int32)) _ _ _ (lv_sub hl [2, 3, 4, 5, 0] rfl) hP hS hf
          · have hf := ifn hc8 hf
            refine lv_iload F.1 F.2.1 dX0_nextAgeKey_63 (lv_at hl 0 rfl) ?_
            refine lv_iload_n F.1 F.2.1 dX0_nextAgeKey_65 rfl (lv_at hl 2 rfl) ?_
            refine lv_icmp_le (tgt := 78) F.1 F.2.1 dX0_nextAgeKey_66 rfl (fun hc9 => ?_) (fun hc9 => ?_)
            · have hf := ifp hc9 hf
              refine lv_iinc (v := (v4 + (1 : Int32))) F.1 F.2.1 dX0_nextAgeKey_78 hl (k := 5) rfl rfl (Nat.le_of_ble_eq_true rfl) rfl (fun ls hl => ?_)
              have hl : lv_has ls 6 [(4, .int (v4 + (1 : Int32))), (5, .int ((((1000 : Int32) * (g (35 * v3.toNatClampNeg + (5 + v4.toNatClampNeg)))) + ((100 : Int32) * v3)) + v4)), (0, .ref (x + gb i)), (1, .int a1), (2, .int v2), (3, .int v3)] := hl
              refine lv_goto (tgt := 16) F.1 F.2.1 dX0_nextAgeKey_81 rfl ?_
              exact ih.2 v2 v3 (v4 + (1 : Int32)) _ _ _ (lv_sub hl [2, 3, 4, 5, 0] rfl) hP hS hf
            · have hf := ifn hc9 hf
              refine lv_iload F.1 F.2.1 dX0_nextAgeKey_69 (lv_at hl 0 rfl) ?_
              refine lv_iload_n F.1 F.2.1 dX0_nextAgeKey_71 rfl (lv_at hl 3 rfl) ?_
              refine lv_icmp_ge (tgt := 78) F.1 F.2.1 dX0_nextAgeKey_72 rfl (fun hc10 => ?_) (fun hc10 => ?_)
              · have hf := ifp hc10 hf
                refine lv_iinc (v := (v4 + (1 : Int32))) F.1 F.2.1 dX0_nextAgeKey_78 hl (k := 5) rfl rfl (Nat.le_of_ble_eq_true rfl) rfl (fun ls hl => ?_)
                have hl : lv_has ls 6 [(4, .int (v4 + (1 : Int32))), (5, .int ((((1000 : Int32) * (g (35 * v3.toNatClampNeg + (5 + v4.toNatClampNeg)))) + ((100 : Int32) * v3)) + v4)), (0, .ref (x + gb i)), (1, .int a1), (2, .int v2), (3, .int v3)] := hl
                refine lv_goto (tgt := 16) F.1 F.2.1 dX0_nextAgeKey_81 rfl ?_
                exact ih.2 v2 v3 (v4 + (1 : Int32)) _ _ _ (lv_sub hl [2, 3, 4, 5, 0] rfl) hP hS hf
              · have hf := ifn hc10 hf
                refine lv_iload F.1 F.2.1 dX0_nextAgeKey_75 (lv_at hl 0 rfl) ?_
                refine lv_istore_n F.1 F.2.1 dX0_nextAgeKey_77 rfl hl (Nat.le_of_ble_eq_true rfl) rfl (fun ls hl => ?_)
                have hl : lv_has ls 6 [(2, .int ((((1000 : Int32) * (g (35 * v3.toNatClampNeg + (5 + v4.toNatClampNeg)))) + ((100 : Int32) * v3)) + v4)), (5, .int ((((1000 : Int32) * (g (35 * v3.toNatClampNeg + (5 + v4.toNatClampNeg)))) + ((100 : Int32) * v3)) + v4)), (0, .ref (x + gb i)), (1, .int a1), (3, .int v3), (4, .int v4)] := hl
                refine lv_iinc (v := (v4 + (1 : Int32))) F.1 F.2.1 dX0_nextAgeKey_78 hl (k := 5) rfl rfl (Nat.le_of_ble_eq_true rfl) rfl (fun ls hl => ?_)
                have hl : lv_has ls 6 [(4, .int (v4 + (1 : Int32))), (2, .int ((((1000 : Int32) * (g (35 * v3.toNatClampNeg + (5 + v4.toNatClampNeg)))) + ((100 : Int32) * v3)) + v4)), (5, .int ((((1000 : Int32) * (g (35 * v3.toNatClampNeg + (5 + v4.toNatClampNeg)))) + ((100 : Int32) * v3)) + v4)), (0, .ref (x + gb i)), (1, .int a1), (3, .int v3)] := hl
                refine lv_goto (tgt := 16) F.1 F.2.1 dX0_nextAgeKey_81 rfl ?_
                exact ih.2 ((((1000 : Int32) * (g (35 * v3.toNatClampNeg + (5 + v4.toNatClampNeg)))) + ((100 : Int32) * v3)) + v4) v3 (v4 + (1 : Int32)) _ _ _ (lv_sub hl [3, 4, 1, 5, 0] rfl) hP hS hf
  intro ls H locs hl hP hS
  have hl : lv_has ls 6 [(0, .ref (x + gb i)), (1, .int a1)] := hl
  unfold f_X0_nextAgeKey at hf
  refine lv_ldc (v := (10000000 : Int32)) F.1 F.2.1 F.2.2.2.1 (F.2.2.2.2 _ (List.mem_of_getElem? (i := 1) rfl)) dX0_nextAgeKey_0 ?_
  refine lv_istore_n F.1 F.2.1 dX0_nextAgeKey_2 rfl hl (Nat.le_of_ble_eq_true rfl) rfl (fun ls hl => ?_)
  have hl : lv_has ls 6 [(2, .int (10000000 : Int32)), (0, .ref (x + gb i)), (1, .int a1)] := hl
  refine lv_iconst (v := (0 : Int32)) F.1 F.2.1 dX0_nextAgeKey_3 (by decide) ?_
  refine lv_istore_n F.1 F.2.1 dX0_nextAgeKey_4 rfl hl (Nat.le_of_ble_eq_true rfl) rfl (fun ls hl => ?_)
  have hl : lv_has ls 6 [(3, .int (0 : Int32)), (2, .int (10000000 : Int32)), (0, .ref (x + gb i)), (1, .int a1)] := hl
  exact (KEY FU).1 (10000000 : Int32) (0 : Int32) _ _ _ (lv_sub hl [2, 3, 1, 0] rfl) hP hS hf

-- FrostTubes$Ground.numberOf(I)I
def f_X0_numberOf (g : Row) (a1 : Int32) : Option (Int32) := (if a1 = (0 : Int32) then some (g 196) else (if a1 = (1 : Int32) then some (g 197) else (if a1 = (2 : Int32) then some (g 198) else (if a1 = (3 : Int32) then some (g 199) else (if a1 = (4 : Int32) then ((f_X0_frozenCells g).bind fun r6 => some r6) else (if a1 = (5 : Int32) then ((f_X0_layersOfAll g).bind fun r9 => some r9) else (if a1 = (6 : Int32) then some (g 200) else (if a1 = (7 : Int32) then some (g 201) else (if a1 = (8 : Int32) then ((f_X0_heavesOfAll g).bind fun r14 => some r14) else (if a1 = (9 : Int32) then some (g (202 + (0 : Int32).toNatClampNeg)) else (if a1 = (10 : Int32) then some (g (202 + (1 : Int32).toNatClampNeg)) else some (g (202 + (2 : Int32).toNatClampNeg)))))))))))))
def rmX0_numberOf : Room := { frames := 4, cells := 0, slots := 0, locals := 87 }
theorem hd_X0_numberOf : yX0_numberOf.cls ≠ "java/lang/invoke/MethodHandle" ∧ yX0_numberOf.cls ≠ "java/lang/invoke/VarHandle" ∧ (parseMethodDescriptor yX0_numberOf.desc).map (fun d => d.parameters.length) = some 1 := by decide +kernel
set_option maxHeartbeats 8000000 in
set_option maxRecDepth 100000 in
theorem c_X0_numberOf {l : Launch} {D : va_G} {x : Nat} {μ : Mem} {i : Nat} (hi : i < 19) {g : Row} (hg : μ i = g) (a1 : Int32) {r : Int32} (hf : f_X0_numberOf g a1 = some r) : CX l yX0_numberOf wsX0_numberOf rmX0_numberOf [.ref (x + gb i), .int a1] D x μ (some (.int r)) μ := by
  refine CX.of (cc := cX0_numberOf) (maxL := 2) (ret := (some .int)) pn_X0 rfl (Nat.le_of_ble_eq_true rfl) ?_
  intro p e s m args below meth c F hr hlk hK hG
  intro ls H locs hl hP hS
  have hl : lv_has ls 2 [(0, .ref (x + gb i)), (1, .int a1)] := hl
  unfold f_X0_numberOf at hf
  refine lv_iload_n F.1 F.2.1 dX0_numberOf_0 rfl (lv_at hl 1 rfl) ?_
  by_cases hc1 : a1 = (0 : Int32)
  · have hf := ifp hc1 hf
    refine lv_tableIn (off := 59) (tgt := 60) F.1 F.2.1 dX0_numberOf_1 (by rw [hc1]; decide) (by rw [hc1]; decide) (by rw [hc1]; rfl) rfl ?_
    refine lv_aload_n F.1 F.2.1 dX0_numberOf_60 rfl (lv_at hl 0 rfl) ?_
    refine gI_X0_siteCount F hK hP hi hg (fun _ h => List.mem_cons_of_mem _ (List.mem_append_left _ (List.mem_append_right _ h))) (List.mem_of_getElem? (i := 1) rfl) dX0_numberOf_61 ?_
    obtain rfl := Option.some.inj hf
    exact x_iret F hr hlk hP hS rfl dX0_numberOf_64
  have hf := ifn hc1 hf
  by_cases hc2 : a1 = (1 : Int32)
  · have hf := ifp hc2 hf
    refine lv_tableIn (off := 64) (tgt := 65) F.1 F.2.1 dX0_numberOf_1 (by rw [hc2]; decide) (by rw [hc2]; decide) (by rw [hc2]; rfl) rfl ?_
    refine lv_aload_n F.1 F.2.1 dX0_numberOf_65 rfl (lv_at hl 0 rfl) ?_
    refine gI_X0_tubeCount F hK hP hi hg (fun _ h => List.mem_cons_of_mem _ (List.mem_append_left _ (List.mem_append_right _ h))) (List.mem_of_getElem? (i := 2) rfl) dX0_numberOf_66 ?_
    obtain rfl := Option.some.inj hf
    exact x_iret F hr hlk hP hS rfl dX0_numberOf_69
  have hf := ifn hc2 hf
  by_cases hc3 : a1 = (2 : Int32)
  · have hf := ifp hc3 hf
    refine lv_tableIn (off := 69) (tgt := 70) F.1 F.2.1 dX0_numberOf_1 (by rw [hc3]; decide) (by rw [hc3]; decide) (by rw [hc3]; rfl) rfl ?_
    refine lv_aload_n F.1 F.2.1 dX0_numberOf_70 rfl (lv_at hl 0 rfl) ?_
    refine gI_X0_pipeCount F hK hP hi hg (fun _ h => List.mem_cons_of_mem _ (List.mem_append_left _ (List.mem_append_right _ h))) (List.mem_of_getElem? (i := 3) rfl) dX0_numberOf_71 ?_
    obtain rfl := Option.some.inj hf
    exact x_iret F hr hlk hP hS rfl dX0_numberOf_74
  have hf := ifn hc3 hf
  by_cases hc4 : a1 = (3 : Int32)
  · have hf := ifp hc4 hf
    refine lv_tableIn (off := 74) (tgt := 75) F.1 F.2.1 dX0_numberOf_1 (by rw [hc4]; decide) (by rw [hc4]; decide) (by rw [hc4]; rfl) rfl ?_
    refine lv_aload_n F.1 F.2.1 dX0_numberOf_75 rfl (lv_at hl 0 rfl) ?_
    refine gI_X0_dayCount F hK hP hi hg (fun _ h => List.mem_cons_of_mem _ (List.mem_append_left _ (List.mem_append_right _ h))) (List.mem_of_getElem? (i := 4) rfl) dX0_numberOf_76 ?_
    obtain rfl := Option.some.inj hf
    exact x_iret F hr hlk hP hS rfl dX0_numberOf_79
  have hf := ifn hc4 hf
  by_cases hc5 : a1 = (4 : Int32)
  · have hf := ifp hc5 hf
    refine lv_tableIn (off := 79) (tgt := 80) F.1 F.2.1 dX0_numberOf_1 (by rw [hc5]; decide) (by rw [hc5]; decide) (by rw [hc5]; rfl) rfl ?_
    refine lv_aload_n F.1 F.2.1 dX0_numberOf_80 rfl (lv_at hl 0 rfl) ?_
    obtain ⟨r6, hr7, hf⟩ := bnd hf
    refine x_callV F hK hG hP hS (o_G hi (c := 0) (by decide)) (kd_G i hi 0 (by decide)) (ci := 0) (fun _ => rfl) rfl (c_X0_frozenCells hi hg hr7) (cwV 0 F.2.2.2.2 gX0_numberOf_X0_frozenCells rfl rfl rfl ⟨rfl, hd_X0_frozenCells⟩ ⟨(Nat.le_of_ble_eq_true rfl), (Nat.le_of_ble_eq_true rfl)⟩) rfl rfl hl.1 (Nat.le_of_ble_eq_true rfl) dX0_numberOf_81 ⟨(Nat.le_of_ble_eq_true rfl), (Nat.le_of_ble_eq_true rfl)⟩ (rest := []) (fun H locs hP hS => ?_)
    refine W.eq (g2 := F0 m 84 ls [.int r6]) rfl ?_
    obtain rfl := Option.some.inj hf
    exact x_iret F hr hlk hP hS rfl dX0_numberOf_84
  have hf := ifn hc5 hf
  by_cases hc8 : a1 = (5 : Int32)
  · have hf := ifp hc8 hf
    refine lv_tableIn (off := 84) (tgt := 85) F.1 F.2.1 dX0_numberOf_1 (by rw [hc8]; decide) (by rw [hc8]; decide) (by rw [hc8]; rfl) rfl ?_
    refine lv_aload_n F.1 F.2.1 dX0_numberOf_85 rfl (lv_at hl 0 rfl) ?_
    obtain ⟨r9, hr10, hf⟩ := bnd hf
    refine x_callV F hK hG hP hS (o_G hi (c := 0) (by decide)) (kd_G i hi 0 (by decide)) (ci := 0) (fun _ => rfl) rfl (c_X0_layersOfAll hi hg hr10) (cwV 0 F.2.2.2.2 gX0_numberOf_X0_layersOfAll rfl rfl rfl ⟨rfl, hd_X0_layersOfAll⟩ ⟨(Nat.le_of_ble_eq_true rfl), (Nat.le_of_ble_eq_true rfl)⟩) rfl rfl hl.1 (Nat.le_of_ble_eq_true rfl) dX0_numberOf_86 ⟨(Nat.le_of_ble_eq_true rfl), (Nat.le_of_ble_eq_true rfl)⟩ (rest := []) (fun H locs hP hS => ?_)
    refine W.eq (g2 := F0 m 89 ls [.int r9]) rfl ?_
    obtain rfl := Option.some.inj hf
    exact x_iret F hr hlk hP hS rfl dX0_numberOf_89
  have hf := ifn hc8 hf
  by_cases hc11 : a1 = (6 : Int32)
  · have hf := ifp hc11 hf
    refine lv_tableIn (off := 89) (tgt := 90) F.1 F.2.1 dX0_numberOf_1 (by rw [hc11]; decide) (by rw [hc11]; decide) (by rw [hc11]; rfl) rfl ?_
    refine lv_aload_n F.1 F.2.1 dX0_numberOf_90 rfl (lv_at hl 0 rfl) ?_
    refine gI_X0_winterCount F hK hP hi hg (fun _ h => List.mem_cons_of_mem _ (List.mem_append_left _ (List.mem_append_right _ h))) (List.mem_of_getElem? (i := 5) rfl) dX0_numberOf_91 ?_
    obtain rfl := Option.some.inj hf
    exact x_iret F hr hlk hP hS rfl dX0_numberOf_94
  have hf := ifn hc11 hf
  by_cases hc12 : a1 = (7 : Int32)
  · have hf := ifp hc12 hf
    refine lv_tableIn (off := 94) (tgt := 95) F.1 F.2.1 dX0_numberOf_1 (by rw [hc12]; decide) (by rw [hc12]; decide) (by rw [hc12]; rfl) rfl ?_
    refine lv_aload_n F.1 F.2.1 dX0_numberOf_95 rfl (lv_at hl 0 rfl) ?_
    refine gI_X0_greatestColdSum F hK hP hi hg (fun _ h => List.mem_cons_of_mem _ (List.mem_append_left _ (List.mem_append_right _ h))) (List.mem_of_getElem? (i := 6) rfl) dX0_numberOf_96 ?_
    obtain rfl := Option.some.inj hf
    exact x_iret F hr hlk hP hS rfl dX0_numberOf_99
  have hf := ifn hc12 hf
  by_cases hc13 : a1 = (8 : Int32)
  · have hf := ifp hc13 hf
    refine lv_tableIn (off := 99) (tgt := 100) F.1 F.2.1 dX0_numberOf_1 (by rw [hc13]; decide) (by rw [hc13]; decide) (by rw [hc13]; rfl) rfl ?_
    refine lv_aload_n F.1 F.2.1 dX0_numberOf_100 rfl (lv_at hl 0 rfl) ?_
    obtain ⟨r14, hr15, hf⟩ := bnd hf
    refine x_callV F hK hG hP hS (o_G hi (c := 0) (by decide)) (kd_G i hi 0 (by decide)) (ci := 0) (fun _ => rfl) rfl (c_X0_heavesOfAll hi hg hr15) (cwV 0 F.2.2.2.2 gX0_numberOf_X0_heavesOfAll rfl rfl rfl ⟨rfl, hd_X0_heavesOfAll⟩ ⟨(Nat.le_of_ble_eq_true rfl), (Nat.le_of_ble_eq_true rfl)⟩) rfl rfl hl.1 (Nat.le_of_ble_eq_true rfl) dX0_numberOf_101 ⟨(Nat.le_of_ble_eq_true rfl), (Nat.le_of_ble_eq_true rfl)⟩ (rest := []) (fun H locs hP hS => ?_)
    refine W.eq (g2 := F0 m 104 ls [.int r14]) rfl ?_
    obtain rfl := Option.some.inj hf
    exact x_iret F hr hlk hP hS rfl dX0_numberOf_104
  have hf := ifn hc13 hf
  by_cases hc16 : a1 = (9 : Int32)
  · have hf := ifp hc16 hf
    refine lv_tableIn (off := 104) (tgt := 105) F.1 F.2.1 dX0_numberOf_1 (by rw [hc16]; decide) (by rw [hc16]; decide) (by rw [hc16]; rfl) rfl ?_
    refine lv_aload_n F.1 F.2.1 dX0_numberOf_105 rfl (lv_at hl 0 rfl) ?_
    refine gR_X0_settings F hK hP hi (fun _ h => List.mem_cons_of_mem _ (List.mem_append_left _ (List.mem_append_right _ h))) (List.mem_of_getElem? (i := 7) rfl) dX0_numberOf_106 ?_
    refine lv_iconst (v := (0 : Int32)) F.1 F.2.1 dX0_numberOf_109 (by decide) ?_
    refine lA_GA1 F hK hP hi hg (by decide) dX0_numberOf_110 ?_
    obtain rfl := Option.some.inj hf
    exact x_iret F hr hlk hP hS rfl dX0_numberOf_111
  have hf := ifn hc16 hf
  by_cases hc17 : a1 = (10 : Int32)
  · have hf := ifp hc17 hf
    refine lv_tableIn (off := 111) (tgt := 112) F.1 F.2.1 dX0_numberOf_1 (by rw [hc17]; decide) (by rw [hc17]; decide) (by rw [hc17]; rfl) rfl ?_
    refine lv_aload_n F.1 F.2.1 dX0_numberOf_112 rfl (lv_at hl 0 rfl) ?_
    refine gR_X0_settings F hK hP hi (fun _ h => List.mem_cons_of_mem _ (List.mem_append_left _ (List.mem_append_right _ h))) (List.mem_of_getElem? (i := 7) rfl) dX0_numberOf_113 ?_
    refine lv_iconst (v := (1 : Int32)) F.1 F.2.1 dX0_numberOf_116 (by decide) ?_
    refine lA_GA1 F hK hP hi hg (by decide) dX0_numberOf_117 ?_
    obtain rfl := Option.some.inj hf
    exact x_iret F hr hlk hP hS rfl dX0_numberOf_118
  have hf := ifn hc17 hf
  have hc1i := i32_ne hc1
  have hc2i := i32_ne hc2
  have hc3i := i32_ne hc3
  have hc4i := i32_ne hc4
  have hc5i := i32_ne hc5
  have hc8i := i32_ne hc8
  have hc11i := i32_ne hc11
  have hc12i := i32_ne hc12
  have hc13i := i32_ne hc13
  have hc16i := i32_ne hc16
  have hc17i := i32_ne hc17
  refine lv_tableOut (tgt := 119) F.1 F.2.1 dX0_numberOf_1 (by have : ((0 : Int32)).toInt = 0 := rfl; have : ((1 : Int32)).toInt = 1 := rfl; have : ((2 : Int32)).toInt = 2 := rfl; have : ((3 : Int32)).toInt = 3 := rfl; have : ((4 : Int32)).toInt = 4 := rfl; have : ((5 : Int32)).toInt = 5 := rfl; have : ((6 : Int32)).toInt = 6 := rfl; have : ((7 : Int32)).toInt = 7 := rfl; have : ((8 : Int32)).toInt = 8 := rfl; have : ((9 : Int32)).toInt = 9 := rfl; have : ((10 : Int32)).toInt = 10 := rfl; omega) rfl ?_
  refine lv_aload_n F.1 F.2.1 dX0_numberOf_119 rfl (lv_at hl 0 rfl) ?_
  refine gR_X0_settings F hK hP hi (fun _ h => List.mem_cons_of_mem _ (List.mem_append_left _ (List.mem_append_right _ h))) (List.mem_of_getElem? (i := 7) rfl) dX0_numberOf_120 ?_
  refine lv_iconst (v := (2 : Int32)) F.1 F.2.1 dX0_numberOf_123 (by decide) ?_
  refine lA_GA1 F hK hP hi hg (by decide) dX0_numberOf_124 ?_
  obtain rfl := Option.some.inj hf
  exact x_iret F hr hlk hP hS rfl dX0_numberOf_125

-- FrostTubes$Ground.numberOfTube(II)I
def f_X0_numberOfTube (g : Row) (a1 : Int32) (a2 : Int32) : Option (Int32) := (if oob a1 8 then none else (if oob a1 8 then none else (if oob (g (140 + 2 * a1.toNatClampNeg)) 4 then none else (if a2 = (0 : Int32) then (if oob a1 8 then none else some (g (140 + 2 * a1.toNatClampNeg))) else (if a2 = (1 : Int32) then some (g (141 + 2 * a1.toNatClampNeg)) else (if a2 = (2 : Int32) then ((f_X2_frozenWithin g ((g (140 + 2 * a1.toNatClampNeg)).toNatClampNeg) (g (141 + 2 * a1.toNatClampNeg))).bind fun r8 => some r8) else (if a2 = (3 : Int32) then ((f_X2_layersWithin g ((g (140 + 2 * a1.toNatClampNeg)).toNatClampNeg) (g (141 + 2 * a1.toNatClampNeg))).bind fun r11 => some r11) else (if a2 = (4 : Int32) then ((f_X2_lowestWithin g ((g (140 + 2 * a1.toNatClampNeg)).toNatClampNeg) (g (141 + 2 * a1.toNatClampNeg))).bind fun r14 => some r14) else ((f_X2_lowestWithin g ((g (140 + 2 * a1.toNatClampNeg)).toNatClampNeg) (30 : Int32)).bind fun r16 => (if r16 < (g (141 + 2 * a1.toNatClampNeg)) then some (0 : Int32) else some (1 : Int32)))))))))))
def rmX0_numberOfTube : Room := { frames := 3, cells := 0, slots := 0, locals := 65 }
theorem hd_X0_numberOfTube : yX0_numberOfTube.cls ≠ "java/lang/invoke/MethodHandle" ∧ yX0_numberOfTube.cls ≠ "java/lang/invoke/VarHandle" ∧ (parseMethodDescriptor yX0_numberOfTube.desc).map (fun d => d.parameters.length) = some 2 := by decide +kernel
set_option maxHeartbeats 8000000 in
set_option maxRecDepth 100000 in
theorem c_X0_numberOfTube {l : Launch} {D : va_G} {x : Nat} {μ : Mem} {i : Nat} (hi : i < 19) {g : Row} (hg : μ i = g) (a1 : Int32) (a2 : Int32) {r : Int32} (hf : f_X0_numberOfTube g a1 a2 = some r) : CX l yX0_numberOfTube wsX0_numberOfTube rmX0_numberOfTube [.ref (x + gb i), .int a1, .int a2] D x μ (some (.int r)) μ := by
  refine CX.of (cc := cX0_numberOfTube) (maxL := 5) (ret := (some .int)) pn_X0 rfl (Nat.le_of_ble_eq_true rfl) ?_
  intro p e s m args below meth c F hr hlk hK hG
  intro ls H locs hl hP hS
  have hl : lv_has ls 5 [(0, .ref (x + gb i)), (1, .int a1), (2, .int a2)] := hl
  unfold f_X0_numberOfTube at hf
  refine lv_aload_n F.1 F.2.1 dX0_numberOfTube_0 rfl (lv_at hl 0 rfl) ?_
  refine gR_X0_tubeLength F hK hP hi (fun _ h => List.mem_cons_of_mem _ (List.mem_append_left _ (List.mem_append_right _ h))) (List.mem_of_getElem? (i := 1) rfl) dX0_numberOfTube_1 ?_
  refine lv_iload_n F.1 F.2.1 dX0_numberOfTube_4 rfl (lv_at hl 1 rfl) ?_
  obtain ⟨hb1, hf⟩ := ifg hf
  refine lA_GA4 F hK hP hi hg hb1 dX0_numberOfTube_5 ?_
  refine lv_istore_n F.1 F.2.1 dX0_numberOfTube_6 rfl hl (Nat.le_of_ble_eq_true rfl) rfl (fun ls hl => ?_)
  have hl : lv_has ls 5 [(3, .int (g (141 + 2 * a1.toNatClampNeg))), (0, .ref (x + gb i)), (1, .int a1), (2, .int a2)] := hl
  refine lv_aload_n F.1 F.2.1 dX0_numberOfTube_7 rfl (lv_at hl 1 rfl) ?_
  refine gR_X0_sites F hK hP hi (fun _ h => List.mem_cons_of_mem _ (List.mem_append_left _ (List.mem_append_right _ h))) (List.mem_of_getElem? (i := 2) rfl) dX0_numberOfTube_8 ?_
  refine lv_aload_n F.1 F.2.1 dX0_numberOfTube_11 rfl (lv_at hl 1 rfl) ?_
  refine gR_X0_tubeSite F hK hP hi (fun _ h => List.mem_cons_of_mem _ (List.mem_append_left _ (List.mem_append_right _ h))) (List.mem_of_getElem? (i := 3) rfl) dX0_numberOfTube_12 ?_
  refine lv_iload_n F.1 F.2.1 dX0_numberOfTube_15 rfl (lv_at hl 2 rfl) ?_
  obtain ⟨hb2, hf⟩ := ifg hf
  refine lA_GA3 F hK hP hi hg hb2 dX0_numberOfTube_16 ?_
  obtain ⟨hb3, hf⟩ := ifg hf
  refine lA_GA2 F hK hP hi hb3 dX0_numberOfTube_17 ?_
  refine lv_astore F.1 F.2.1 dX0_numberOfTube_18 hl (Nat.le_of_ble_eq_true rfl) rfl (fun ls hl => ?_)
  have hl : lv_has ls 5 [(4, .ref (x + sb i (g (140 + 2 * a1.toNatClampNeg)).toNatClampNeg)), (3, .int (g (141 + 2 * a1.toNatClampNeg))), (0, .ref (x + gb i)), (1, .int a1), (2, .int a2)] := hl
  refine lv_iload_n F.1 F.2.1 dX0_numberOfTube_20 rfl (lv_at hl 4 rfl) ?_
  by_cases hc4 : a2 = (0 : Int32)
  · have hf := ifp hc4 hf
    refine lv_tableIn (off := 35) (tgt := 56) F.1 F.2.1 dX0_numberOfTube_21 (by rw [hc4]; decide) (by rw [hc4]; decide) (by rw [hc4]; rfl) rfl ?_
    refine lv_aload_n F.1 F.2.1 dX0_numberOfTube_56 rfl (lv_at hl 2 rfl) ?_
    refine gR_X0_tubeSite F hK hP hi (fun _ h => List.mem_cons_of_mem _ (List.mem_append_left _ (List.mem_append_right _ h))) (List.mem_of_getElem? (i := 3) rfl) dX0_numberOfTube_57 ?_
    refine lv_iload_n F.1 F.2.1 dX0_numberOfTube_60 rfl (lv_at hl 3 rfl) ?_
    obtain ⟨hb5, hf⟩ := ifg hf
    refine lA_GA3 F hK hP hi hg hb5 dX0_numberOfTube_61 ?_
    obtain rfl := Option.some.inj hf
    exact x_iret F hr hlk hP hS rfl dX0_numberOfTube_62
  have hf := ifn hc4 hf
  by_cases hc6 : a2 = (1 : Int32)
  · have hf := ifp hc6 hf
    refine lv_tableIn (off := 42) (tgt := 63) F.1 F.2.1 dX0_numberOfTube_21 (by rw [hc6]; decide) (by rw [hc6]; decide) (by rw [hc6]; rfl) rfl ?_
    refine lv_iload_n F.1 F.2.1 dX0_numberOfTube_63 rfl (lv_at hl 1 rfl) ?_
    obtain rfl := Option.some.inj hf
    exact x_iret F hr hlk hP hS rfl dX0_numberOfTube_64
  have hf := ifn hc6 hf
  by_cases hc7 : a2 = (2 : Int32)
  · have hf := ifp hc7 hf
    refine lv_tableIn (off := 44) (tgt := 65) F.1 F.2.1 dX0_numberOfTube_21 (by rw [hc7]; decide) (by rw [hc7]; decide) (by rw [hc7]; rfl) rfl ?_
    refine lv_aload F.1 F.2.1 dX0_numberOfTube_65 (lv_at hl 0 rfl) ?_
    refine lv_iload_n F.1 F.2.1 dX0_numberOfTube_67 rfl (lv_at hl 1 rfl) ?_
    obtain ⟨r8, hr9, hf⟩ := bnd hf
    refine x_callV F hK hG hP hS (o_S hi (oob_lt hb3)) (kd_S i hi (g (140 + 2 * a1.toNatClampNeg)).toNatClampNeg (oob_lt hb3)) (ci := 2) (fun _ => rfl) rfl (c_X2_frozenWithin hi (oob_lt hb3) hg (g (141 + 2 * a1.toNatClampNeg)) hr9) (cwV 1 F.2.2.2.2 gX0_numberOfTube_X2_frozenWithin rfl rfl rfl ⟨rfl, hd_X2_frozenWithin⟩ ⟨(Nat.le_of_ble_eq_true rfl), (Nat.le_of_ble_eq_true rfl)⟩) rfl rfl hl.1 (Nat.le_of_ble_eq_true rfl) dX0_numberOfTube_68 ⟨(Nat.le_of_ble_eq_true rfl), (Nat.le_of_ble_eq_true rfl)⟩ (rest := []) (fun H locs hP hS => ?_)
    refine W.eq (g2 := F0 m 71 ls [.int r8]) rfl ?_
    obtain rfl := Option.some.inj hf
    exact x_iret F hr hlk hP hS rfl dX0_numberOfTube_71
  have hf := ifn hc7 hf
  by_cases hc10 : a2 = (3 : Int32)
  · have hf := ifp hc10 hf
    refine lv_tableIn (off := 51) (tgt := 72) F.1 F.2.1 dX0_numberOfTube_21 (by rw [hc10]; decide) (by rw [hc10]; decide) (by rw [hc10]; rfl) rfl ?_
    refine lv_aload F.1 F.2.1 dX0_numberOfTube_72 (lv_at hl 0 rfl) ?_
    refine lv_iload_n F.1 F.2.1 dX0_numberOfTube_74 rfl (lv_at hl 1 rfl) ?_
    obtain ⟨r11, hr12, hf⟩ := bnd hf
    refine x_callV F hK hG hP hS (o_S hi (oob_lt hb3)) (kd_S i hi (g (140 + 2 * a1.toNatClampNeg)).toNatClampNeg (oob_lt hb3)) (ci := 2) (fun _ => rfl) rfl (c_X2_layersWithin hi (oob_lt hb3) hg (g (141 + 2 * a1.toNatClampNeg)) hr12) (cwV 1 F.2.2.2.2 gX0_numberOfTube_X2_layersWithin rfl rfl rfl ⟨rfl, hd_X2_layersWithin⟩ ⟨(Nat.le_of_ble_eq_true rfl), (Nat.le_of_ble_eq_true rfl)⟩) rfl rfl hl.1 (Nat.le_of_ble_eq_true rfl) dX0_numberOfTube_75 ⟨(Nat.le_of_ble_eq_true rfl), (Nat.le_of_ble_eq_true rfl)⟩ (rest := []) (fun H locs hP hS => ?_)
    refine W.eq (g2 := F0 m 78 ls [.int r11]) rfl ?_
    obtain rfl := Option.some.inj hf
    exact x_iret F hr hlk hP hS rfl dX0_numberOfTube_78
  have hf := ifn hc10 hf
  by_cases hc13 : a2 = (4 : Int32)
  · have hf := ifp hc13 hf
    refine lv_tableIn (off := 58) (tgt := 79) F.1 F.2.1 dX0_numberOfTube_21 (by rw [hc13]; decide) (by rw [hc13]; decide) (by rw [hc13]; rfl) rfl ?_
    refine lv_aload F.1 F.2.1 dX0_numberOfTube_79 (lv_at hl 0 rfl) ?_
    refine lv_iload_n F.1 F.2.1 dX0_numberOfTube_81 rfl (lv_at hl 1 rfl) ?_
    obtain ⟨r14, hr15, hf⟩ := bnd hf
    refine x_callV F hK hG hP hS (o_S hi (oob_lt hb3)) (kd_S i hi (g (140 + 2 * a1.toNatClampNeg)).toNatClampNeg (oob_lt hb3)) (ci := 2) (fun _ => rfl) rfl (c_X2_lowestWithin hi (oob_lt hb3) hg (g (141 + 2 * a1.toNatClampNeg)) hr15) (cwV 1 F.2.2.2.2 gX0_numberOfTube_X2_lowestWithin rfl rfl rfl ⟨rfl, hd_X2_lowestWithin⟩ ⟨(Nat.le_of_ble_eq_true rfl), (Nat.le_of_ble_eq_true rfl)⟩) rfl rfl hl.1 (Nat.le_of_ble_eq_true rfl) dX0_numberOfTube_82 ⟨(Nat.le_of_ble_eq_true rfl), (Nat.le_of_ble_eq_true rfl)⟩ (rest := []) (fun H locs hP hS => ?_)
    refine W.eq (g2 := F0 m 85 ls [.int r14]) rfl ?_
    obtain rfl := Option.some.inj hf
    exact x_iret F hr hlk hP hS rfl dX0_numberOfTube_85
  have hf := ifn hc13 hf
  have hc4i := i32_ne hc4
  have hc6i := i32_ne hc6
  have hc7i := i32_ne hc7
  have hc10i := i32_ne hc10
  have hc13i := i32_ne hc13
  refine lv_tableOut (tgt := 86) F.1 F.2.1 dX0_numberOfTube_21 (by have : ((0 : Int32)).toInt = 0 := rfl; have : ((1 : Int32)).toInt = 1 := rfl; have : ((2 : Int32)).toInt = 2 := rfl; have : ((3 : Int32)).toInt = 3 := rfl; have : ((4 : Int32)).toInt = 4 := rfl; omega) rfl ?_
  refine lv_aload F.1 F.2.1 dX0_numberOfTube_86 (lv_at hl 0 rfl) ?_
  refine lv_bipush (v := (30 : Int32)) F.1 F.2.1 dX0_numberOfTube_88 (by decide) ?_
  obtain ⟨r16, hr17, hf⟩ := bnd hf
  refine x_callV F hK hG hP hS (o_S hi (oob_lt hb3)) (kd_S i hi (g (140 + 2 * a1.toNatClampNeg)).toNatClampNeg (oob_lt hb3)) (ci := 2) (fun _ => rfl) rfl (c_X2_lowestWithin hi (oob_lt hb3) hg (30 : Int32) hr17) (cwV 1 F.2.2.2.2 gX0_numberOfTube_X2_lowestWithin rfl rfl rfl ⟨rfl, hd_X2_lowestWithin⟩ ⟨(Nat.le_of_ble_eq_true rfl), (Nat.le_of_ble_eq_true rfl)⟩) rfl rfl hl.1 (Nat.le_of_ble_eq_true rfl) dX0_numberOfTube_90 ⟨(Nat.le_of_ble_eq_true rfl), (Nat.le_of_ble_eq_true rfl)⟩ (rest := []) (fun H locs hP hS => ?_)
  refine W.eq (g2 := F0 m 93 ls [.int r16]) rfl ?_
  refine lv_iload_n F.1 F.2.1 dX0_numberOfTube_93 rfl (lv_at hl 1 rfl) ?_
  refine lv_icmp_lt (tgt := 101) F.1 F.2.1 dX0_numberOfTube_94 rfl (fun hc18 => ?_) (fun hc18 => ?_)
  · have hf := ifp hc18 hf
    refine lv_iconst (v := (0 : Int32)) F.1 F.2.1 dX0_numberOfTube_101 (by decide) ?_
    obtain rfl := Option.some.inj hf
    exact x_iret F hr hlk hP hS rfl dX0_numberOfTube_102
  · have hf := ifn hc18 hf
    refine lv_iconst (v := (1 : Int32)) F.1 F.2.1 dX0_numberOfTube_97 (by decide) ?_
    refine lv_goto (tgt := 102) F.1 F.2.1 dX0_numberOfTube_98 rfl ?_
    obtain rfl := Option.some.inj hf
    exact x_iret F hr hlk hP hS rfl dX0_numberOfTube_102

-- FrostTubes$Ground.numberOfPipe(II)I
def f_X0_numberOfPipe (g : Row) (a1 : Int32) (a2 : Int32) : Option (Int32) := (if a2 = (0 : Int32) then (if oob a1 8 then none else some (g (156 + 5 * a1.toNatClampNeg))) else (if a2 = (1 : Int32) then (if oob a1 8 then none else some (g (157 + 5 * a1.toNatClampNeg))) else (if a2 = (2 : Int32) then (if oob a1 8 then none else some (g (158 + 5 * a1.toNatClampNeg))) else (if a2 = (3 : Int32) then (if oob a1 8 then none else some (g (159 + 5 * a1.toNatClampNeg))) else (if oob a1 8 then none else some (g (160 + 5 * a1.toNatClampNeg)))))))
def rmX0_numberOfPipe : Room := { frames := 0, cells := 0, slots := 0, locals := 0 }
theorem hd_X0_numberOfPipe : yX0_numberOfPipe.cls ≠ "java/lang/invoke/MethodHandle" ∧ yX0_numberOfPipe.cls ≠ "java/lang/invoke/VarHandle" ∧ (parseMethodDescriptor yX0_numberOfPipe.desc).map (fun d => d.parameters.length) = some 2 := by decide +kernel
set_option maxHeartbeats 8000000 in
set_option maxRecDepth 100000 in
theorem c_X0_numberOfPipe {l : Launch} {D : va_G} {x : Nat} {μ : Mem} {i : Nat} (hi : i < 19) {g : Row} (hg : μ i = g) (a1 : Int32) (a2 : Int32) {r : Int32} (hf : f_X0_numberOfPipe g a1 a2 = some r) : CX l yX0_numberOfPipe wsX0_numberOfPipe rmX0_numberOfPipe [.ref (x + gb i), .int a1, .int a2] D x μ (some (.int r)) μ := by
  refine CX.of (cc := cX0_numberOfPipe) (maxL := 3) (ret := (some .int)) pn_X0 rfl (Nat.le_of_ble_eq_true rfl) ?_
  intro p e s m args below meth c F hr hlk hK hG
  intro ls H locs hl hP hS
  have hl : lv_has ls 3 [(0, .ref (x + gb i)), (1, .int a1), (2, .int a2)] := hl
  unfold f_X0_numberOfPipe at hf
  refine lv_iload_n F.1 F.2.1 dX0_numberOfPipe_0 rfl (lv_at hl 2 rfl) ?_
  by_cases hc1 : a2 = (0 : Int32)
  · have hf := ifp hc1 hf
    refine lv_tableIn (off := 31) (tgt := 32) F.1 F.2.1 dX0_numberOfPipe_1 (by rw [hc1]; decide) (by rw [hc1]; decide) (by rw [hc1]; rfl) rfl ?_
    refine lv_aload_n F.1 F.2.1 dX0_numberOfPipe_32 rfl (lv_at hl 0 rfl) ?_
    refine gR_X0_pipeSite F hK hP hi (fun _ h => List.mem_cons_of_mem _ (List.mem_append_right _ h)) (List.mem_of_getElem? (i := 1) rfl) dX0_numberOfPipe_33 ?_
    refine lv_iload_n F.1 F.2.1 dX0_numberOfPipe_36 rfl (lv_at hl 1 rfl) ?_
    obtain ⟨hb2, hf⟩ := ifg hf
    refine lA_GA5 F hK hP hi hg hb2 dX0_numberOfPipe_37 ?_
    obtain rfl := Option.some.inj hf
    exact x_iret F hr hlk hP hS rfl dX0_numberOfPipe_38
  have hf := ifn hc1 hf
  by_cases hc3 : a2 = (1 : Int32)
  · have hf := ifp hc3 hf
    refine lv_tableIn (off := 38) (tgt := 39) F.1 F.2.1 dX0_numberOfPipe_1 (by rw [hc3]; decide) (by rw [hc3]; decide) (by rw [hc3]; rfl) rfl ?_
    refine lv_aload_n F.1 F.2.1 dX0_numberOfPipe_39 rfl (lv_at hl 0 rfl) ?_
    refine gR_X0_pipeCell F hK hP hi (fun _ h => List.mem_cons_of_mem _ (List.mem_append_right _ h)) (List.mem_of_getElem? (i := 2) rfl) dX0_numberOfPipe_40 ?_
    refine lv_iload_n F.1 F.2.1 dX0_numberOfPipe_43 rfl (lv_at hl 1 rfl) ?_
    obtain ⟨hb4, hf⟩ := ifg hf
    refine lA_GA6 F hK hP hi hg hb4 dX0_numberOfPipe_44 ?_
    obtain rfl := Option.some.inj hf
    exact x_iret F hr hlk hP hS rfl dX0_numberOfPipe_45
  have hf := ifn hc3 hf
  by_cases hc5 : a2 = (2 : Int32)
  · have hf := ifp hc5 hf
    refine lv_tableIn (off := 45) (tgt := 46) F.1 F.2.1 dX0_numberOfPipe_1 (by rw [hc5]; decide) (by rw [hc5]; decide) (by rw [hc5]; rfl) rfl ?_
    refine lv_aload_n F.1 F.2.1 dX0_numberOfPipe_46 rfl (lv_at hl 0 rfl) ?_
    refine gR_X0_pipeHeave F hK hP hi (fun _ h => List.mem_cons_of_mem _ (List.mem_append_right _ h)) (List.mem_of_getElem? (i := 3) rfl) dX0_numberOfPipe_47 ?_
    refine lv_iload_n F.1 F.2.1 dX0_numberOfPipe_50 rfl (lv_at hl 1 rfl) ?_
    obtain ⟨hb6, hf⟩ := ifg hf
    refine lA_GA7 F hK hP hi hg hb6 dX0_numberOfPipe_51 ?_
    obtain rfl := Option.some.inj hf
    exact x_iret F hr hlk hP hS rfl dX0_numberOfPipe_52
  have hf := ifn hc5 hf
  by_cases hc7 : a2 = (3 : Int32)
  · have hf := ifp hc7 hf
    refine lv_tableIn (off := 52) (tgt := 53) F.1 F.2.1 dX0_numberOfPipe_1 (by rw [hc7]; decide) (by rw [hc7]; decide) (by rw [hc7]; rfl) rfl ?_
    refine lv_aload_n F.1 F.2.1 dX0_numberOfPipe_53 rfl (lv_at hl 0 rfl) ?_
    refine gR_X0_pipeGreatest F hK hP hi (fun _ h => List.mem_cons_of_mem _ (List.mem_append_right _ h)) (List.mem_of_getElem? (i := 4) rfl) dX0_numberOfPipe_54 ?_
    refine lv_iload_n F.1 F.2.1 dX0_numberOfPipe_57 rfl (lv_at hl 1 rfl) ?_
    obtain ⟨hb8, hf⟩ := ifg hf
    refine lA_GA8 F hK hP hi hg hb8 dX0_numberOfPipe_58 ?_
    obtain rfl := Option.some.inj hf
    exact x_iret F hr hlk hP hS rfl dX0_numberOfPipe_59
  have hf := ifn hc7 hf
  have hc1i := i32_ne hc1
  have hc3i := i32_ne hc3
  have hc5i := i32_ne hc5
  have hc7i := i32_ne hc7
  refine lv_tableOut (tgt := 60) F.1 F.2.1 dX0_numberOfPipe_1 (by have : ((0 : Int32)).toInt = 0 := rfl; have : ((1 : Int32)).toInt = 1 := rfl; have : ((2 : Int32)).toInt = 2 := rfl; have : ((3 : Int32)).toInt = 3 := rfl; omega) rfl ?_
  refine lv_aload_n F.1 F.2.1 dX0_numberOfPipe_60 rfl (lv_at hl 0 rfl) ?_
  refine gR_X0_pipeTimes F hK hP hi (fun _ h => List.mem_cons_of_mem _ (List.mem_append_right _ h)) (List.mem_of_getElem? (i := 5) rfl) dX0_numberOfPipe_61 ?_
  refine lv_iload_n F.1 F.2.1 dX0_numberOfPipe_64 rfl (lv_at hl 1 rfl) ?_
  obtain ⟨hb9, hf⟩ := ifg hf
  refine lA_GA9 F hK hP hi hg hb9 dX0_numberOfPipe_65 ?_
  obtain rfl := Option.some.inj hf
  exact x_iret F hr hlk hP hS rfl dX0_numberOfPipe_66

-- FrostTubes$Ground.faultOfTube(II)I
def f_X0_faultOfTube (g : Row) (a1 : Int32) (a2 : Int32) : Option (Int32) := ((f_X0_hasSite g a1).bind fun r1 => (if r1 = 0 then some (1 : Int32) else (if a2 < (1 : Int32) then some (2 : Int32) else (if a2 ≤ (30 : Int32) then (if (8 : Int32) ≤ (g 197) then some (3 : Int32) else some (0 : Int32)) else some (2 : Int32)))))
def rmX0_faultOfTube : Room := { frames := 1, cells := 0, slots := 0, locals := 21 }
theorem hd_X0_faultOfTube : yX0_faultOfTube.cls ≠ "java/lang/invoke/MethodHandle" ∧ yX0_faultOfTube.cls ≠ "java/lang/invoke/VarHandle" ∧ (parseMethodDescriptor yX0_faultOfTube.desc).map (fun d => d.parameters.length) = some 2 := by decide +kernel
set_option maxHeartbeats 8000000 in
set_option maxRecDepth 100000 in
theorem c_X0_faultOfTube {l : Launch} {D : va_G} {x : Nat} {μ : Mem} {i : Nat} (hi : i < 19) {g : Row} (hg : μ i = g) (a1 : Int32) (a2 : Int32) {r : Int32} (hf : f_X0_faultOfTube g a1 a2 = some r) : CX l yX0_faultOfTube wsX0_faultOfTube rmX0_faultOfTube [.ref (x + gb i), .int a1, .int a2] D x μ (some (.int r)) μ := by
  refine CX.of (cc := cX0_faultOfTube) (maxL := 3) (ret := (some .int)) pn_X0 rfl (Nat.le_of_ble_eq_true rfl) ?_
  intro p e s m args below meth c F hr hlk hK hG
  intro ls H locs hl hP hS
  have hl : lv_has ls 3 [(0, .ref (x + gb i)), (1, .int a1), (2, .int a2)] := hl
  unfold f_X0_faultOfTube at hf
  refine lv_aload_n F.1 F.2.1 dX0_faultOfTube_0 rfl (lv_at hl 0 rfl) ?_
  refine lv_iload_n F.1 F.2.1 dX0_faultOfTube_1 rfl (lv_at hl 1 rfl) ?_
  obtain ⟨r1, hr2, hf⟩ := bnd hf
  refine x_callV F hK hG hP hS (o_G hi (c := 0) (by decide)) (kd_G i hi 0 (by decide)) (ci := 0) (fun _ => rfl) rfl (c_X0_hasSite hi hg a1 hr2) (cwV 1 F.2.2.2.2 gX0_faultOfTube_X0_hasSite rfl rfl rfl ⟨rfl, hd_X0_hasSite⟩ ⟨(Nat.le_of_ble_eq_true rfl), (Nat.le_of_ble_eq_true rfl)⟩) rfl rfl hl.1 (Nat.le_of_ble_eq_true rfl) dX0_faultOfTube_2 ⟨(Nat.le_of_ble_eq_true rfl), (Nat.le_of_ble_eq_true rfl)⟩ (rest := []) (fun H locs hP hS => ?_)
  refine W.eq (g2 := F0 m 5 ls [.int r1]) rfl ?_
  refine lv_if_ne (tgt := 10) F.1 F.2.1 dX0_faultOfTube_5 rfl (fun hc3 => ?_) (fun hc3 => ?_)
  · have hf := ifn hc3 hf
    refine lv_iload_n F.1 F.2.1 dX0_faultOfTube_10 rfl (lv_at hl 2 rfl) ?_
    refine lv_iconst (v := (1 : Int32)) F.1 F.2.1 dX0_faultOfTube_11 (by decide) ?_
    refine lv_icmp_lt (tgt := 21) F.1 F.2.1 dX0_faultOfTube_12 rfl (fun hc4 => ?_) (fun hc4 => ?_)
    · have hf := ifp hc4 hf
      refine lv_iconst (v := (2 : Int32)) F.1 F.2.1 dX0_faultOfTube_21 (by decide) ?_
      obtain rfl := Option.some.inj hf
      exact x_iret F hr hlk hP hS rfl dX0_faultOfTube_22
    · have hf := ifn hc4 hf
      refine lv_iload_n F.1 F.2.1 dX0_faultOfTube_15 rfl (lv_at hl 2 rfl) ?_
      refine lv_bipush (v := (30 : Int32)) F.1 F.2.1 dX0_faultOfTube_16 (by decide) ?_
      refine lv_icmp_le (tgt := 23) F.1 F.2.1 dX0_faultOfTube_18 rfl (fun hc5 => ?_) (fun hc5 => ?_)
      · have hf := ifp hc5 hf
        refine lv_aload_n F.1 F.2.1 dX0_faultOfTube_23 rfl (lv_at hl 0 rfl) ?_
        refine gI_X0_tubeCount F hK hP hi hg (fun _ h => List.mem_cons_of_mem _ (List.mem_append_right _ h)) (List.mem_of_getElem? (i := 1) rfl) dX0_faultOfTube_24 ?_
        refine lv_bipush (v := (8 : Int32)) F.1 F.2.1 dX0_faultOfTube_27 (by decide) ?_
        refine lv_icmp_ge (tgt := 36) F.1 F.2.1 dX0_faultOfTube_29 rfl (fun hc6 => ?_) (fun hc6 => ?_)
        · have hf := ifp hc6 hf
          refine lv_iconst (v := (3 : Int32)) F.1 F.2.1 dX0_faultOfTube_36 (by decide) ?_
          obtain rfl := Option.some.inj hf
          exact x_iret F hr hlk hP hS rfl dX0_faultOfTube_37
        · have hf := ifn hc6 hf
          refine lv_iconst (v := (0 : Int32)) F.1 F.2.1 dX0_faultOfTube_32 (by decide) ?_
          refine lv_goto (tgt := 37) F.1 F.2.1 dX0_faultOfTube_33 rfl ?_
          obtain rfl := Option.some.inj hf
          exact x_iret F hr hlk hP hS rfl dX0_faultOfTube_37
      · have hf := ifn hc5 hf
        refine lv_iconst (v := (2 : Int32)) F.1 F.2.1 dX0_faultOfTube_21 (by decide) ?_
        obtain rfl := Option.some.inj hf
        exact x_iret F hr hlk hP hS rfl dX0_faultOfTube_22
  · have hf := ifp hc3 hf
    refine lv_iconst (v := (1 : Int32)) F.1 F.2.1 dX0_faultOfTube_8 (by decide) ?_
    obtain rfl := Option.some.inj hf
    exact x_iret F hr hlk hP hS rfl dX0_faultOfTube_9

-- FrostTubes$Ground.faultOfPipe(II)I
def f_X0_faultOfPipe (g : Row) (a1 : Int32) (a2 : Int32) : Option (Int32) := ((f_X0_hasSite g a1).bind fun r1 => (if r1 = 0 then some (1 : Int32) else (if a2 < 0 then some (1 : Int32) else (if a2 < (30 : Int32) then (if (8 : Int32) ≤ (g 198) then some (3 : Int32) else (if oob a1 4 then none else ((f_X2_isFrozen g a1.toNatClampNeg a2).bind fun r8 => (if r8 = 0 then some (0 : Int32) else some (3 : Int32))))) else some (1 : Int32)))))
def rmX0_faultOfPipe : Room := { frames := 1, cells := 0, slots := 0, locals := 21 }
theorem hd_X0_faultOfPipe : yX0_faultOfPipe.cls ≠ "java/lang/invoke/MethodHandle" ∧ yX0_faultOfPipe.cls ≠ "java/lang/invoke/VarHandle" ∧ (parseMethodDescriptor yX0_faultOfPipe.desc).map (fun d => d.parameters.length) = some 2 := by decide +kernel
set_option maxHeartbeats 8000000 in
set_option maxRecDepth 100000 in
theorem c_X0_faultOfPipe {l : Launch} {D : va_G} {x : Nat} {μ : Mem} {i : Nat} (hi : i < 19) {g : Row} (hg : μ i = g) (a1 : Int32) (a2 : Int32) {r : Int32} (hf : f_X0_faultOfPipe g a1 a2 = some r) : CX l yX0_faultOfPipe wsX0_faultOfPipe rmX0_faultOfPipe [.ref (x + gb i), .int a1, .int a2] D x μ (some (.int r)) μ := by
  refine CX.of (cc := cX0_faultOfPipe) (maxL := 3) (ret := (some .int)) pn_X0 rfl (Nat.le_of_ble_eq_true rfl) ?_
  intro p e s m args below meth c F hr hlk hK hG
  intro ls H locs hl hP hS
  have hl : lv_has ls 3 [(0, .ref (x + gb i)), (1, .int a1), (2, .int a2)] := hl
  unfold f_X0_faultOfPipe at hf
  refine lv_aload_n F.1 F.2.1 dX0_faultOfPipe_0 rfl (lv_at hl 0 rfl) ?_
  refine lv_iload_n F.1 F.2.1 dX0_faultOfPipe_1 rfl (lv_at hl 1 rfl) ?_
  obtain ⟨r1, hr2, hf⟩ := bnd hf
  refine x_callV F hK hG hP hS (o_G hi (c := 0) (by decide)) (kd_G i hi 0 (by decide)) (ci := 0) (fun _ => rfl) rfl (c_X0_hasSite hi hg a1 hr2) (cwV 1 F.2.2.2.2 gX0_faultOfPipe_X0_hasSite rfl rfl rfl ⟨rfl, hd_X0_hasSite⟩ ⟨(Nat.le_of_ble_eq_true rfl), (Nat.le_of_ble_eq_true rfl)⟩) rfl rfl hl.1 (Nat.le_of_ble_eq_true rfl) dX0_faultOfPipe_2 ⟨(Nat.le_of_ble_eq_true rfl), (Nat.le_of_ble_eq_true rfl)⟩ (rest := []) (fun H locs hP hS => ?_)
  refine W.eq (g2 := F0 m 5 ls [.int r1]) rfl ?_
  refine lv_if_eq (tgt := 18) F.1 F.2.1 dX0_faultOfPipe_5 rfl (fun hc3 => ?_) (fun hc3 => ?_)
  · have hf := ifp hc3 hf
    refine lv_iconst (v := (1 : Int32)) F.1 F.2.1 dX0_faultOfPipe_18 (by decide) ?_
    obtain rfl := Option.some.inj hf
    exact x_iret F hr hlk hP hS rfl dX0_faultOfPipe_19
  · have hf := ifn hc3 hf
    refine lv_iload_n F.1 F.2.1 dX0_faultOfPipe_8 rfl (lv_at hl 2 rfl) ?_
    refine lv_if_lt (tgt := 18) F.1 F.2.1 dX0_faultOfPipe_9 rfl (fun hc4 => ?_) (fun hc4 => ?_)
    · have hf := ifp hc4 hf
      refine lv_iconst (v := (1 : Int32)) F.1 F.2.1 dX0_faultOfPipe_18 (by decide) ?_
      obtain rfl := Option.some.inj hf
      exact x_iret F hr hlk hP hS rfl dX0_faultOfPipe_19
    · have hf := ifn hc4 hf
      refine lv_iload_n F.1 F.2.1 dX0_faultOfPipe_12 rfl (lv_at hl 2 rfl) ?_
      refine lv_bipush (v := (30 : Int32)) F.1 F.2.1 dX0_faultOfPipe_13 (by decide) ?_
      refine lv_icmp_lt (tgt := 20) F.1 F.2.1 dX0_faultOfPipe_15 rfl (fun hc5 => ?_) (fun hc5 => ?_)
      · have hf := ifp hc5 hf
        refine lv_aload_n F.1 F.2.1 dX0_faultOfPipe_20 rfl (lv_at hl 0 rfl) ?_
        refine gI_X0_pipeCount F hK hP hi hg (fun _ h => List.mem_cons_of_mem _ (List.mem_append_left _ (List.mem_append_right _ h))) (List.mem_of_getElem? (i := 1) rfl) dX0_faultOfPipe_21 ?_
        refine lv_bipush (v := (8 : Int32)) F.1 F.2.1 dX0_faultOfPipe_24 (by decide) ?_
        refine lv_icmp_ge (tgt := 46) F.1 F.2.1 dX0_faultOfPipe_26 rfl (fun hc6 => ?_) (fun hc6 => ?_)
        · have hf := ifp hc6 hf
          refine lv_iconst (v := (3 : Int32)) F.1 F.2.1 dX0_faultOfPipe_46 (by decide) ?_
          obtain rfl := Option.some.inj hf
          exact x_iret F hr hlk hP hS rfl dX0_faultOfPipe_47
        · have hf := ifn hc6 hf
          refine lv_aload_n F.1 F.2.1 dX0_faultOfPipe_29 rfl (lv_at hl 0 rfl) ?_
          refine gR_X0_sites F hK hP hi (fun _ h => List.mem_cons_of_mem _ (List.mem_append_left _ (List.mem_append_right _ h))) (List.mem_of_getElem? (i := 2) rfl) dX0_faultOfPipe_30 ?_
          refine lv_iload_n F.1 F.2.1 dX0_faultOfPipe_33 rfl (lv_at hl 1 rfl) ?_
          obtain ⟨hb7, hf⟩ := ifg hf
          refine lA_GA2 F hK hP hi hb7 dX0_faultOfPipe_34 ?_
          refine lv_iload_n F.1 F.2.1 dX0_faultOfPipe_35 rfl (lv_at hl 2 rfl) ?_
          obtain ⟨r8, hr9, hf⟩ := bnd hf
          refine x_callV F hK hG hP hS (o_S hi (oob_lt hb7)) (kd_S i hi a1.toNatClampNeg (oob_lt hb7)) (ci := 2) (fun _ => rfl) rfl (c_X2_isFrozen hi (oob_lt hb7) hg a2 hr9) (cwV 1 F.2.2.2.2 gX0_faultOfPipe_X2_isFrozen rfl rfl rfl ⟨rfl, hd_X2_isFrozen⟩ ⟨(Nat.le_of_ble_eq_true rfl), (Nat.le_of_ble_eq_true rfl)⟩) rfl rfl hl.1 (Nat.le_of_ble_eq_true rfl) dX0_faultOfPipe_36 ⟨(Nat.le_of_ble_eq_true rfl), (Nat.le_of_ble_eq_true rfl)⟩ (rest := []) (fun H locs hP hS => ?_)
          refine W.eq (g2 := F0 m 39 ls [.int r8]) rfl ?_
          refine lv_if_ne (tgt := 46) F.1 F.2.1 dX0_faultOfPipe_39 rfl (fun hc10 => ?_) (fun hc10 => ?_)
          · have hf := ifn hc10 hf
            refine lv_iconst (v := (3 : Int32)) F.1 F.2.1 dX0_faultOfPipe_46 (by decide) ?_
            obtain rfl := Option.some.inj hf
            exact x_iret F hr hlk hP hS rfl dX0_faultOfPipe_47
          · have hf := ifp hc10 hf
            refine lv_iconst (v := (0 : Int32)) F.1 F.2.1 dX0_faultOfPipe_42 (by decide) ?_
            refine lv_goto (tgt := 47) F.1 F.2.1 dX0_faultOfPipe_43 rfl ?_
            obtain rfl := Option.some.inj hf
            exact x_iret F hr hlk hP hS rfl dX0_faultOfPipe_47
      · have hf := ifn hc5 hf
        refine lv_iconst (v := (1 : Int32)) F.1 F.2.1 dX0_faultOfPipe_18 (by decide) ?_
        obtain rfl := Option.some.inj hf
        exact x_iret F hr hlk hP hS rfl dX0_faultOfPipe_19

-- FrostTubes$Ground.faultOfFence(II)I
def f_X0_faultOfFence (g : Row) (a1 : Int32) (a2 : Int32) : Option (Int32) := ((f_X0_hasSite g a1).bind fun r1 => (if r1 = 0 then some (1 : Int32) else (if a2 < 0 then some (2 : Int32) else (if (20 : Int32) < a2 then some (2 : Int32) else some (0 : Int32)))))
def rmX0_faultOfFence : Room := { frames := 1, cells := 0, slots := 0, locals := 21 }
theorem hd_X0_faultOfFence : yX0_faultOfFence.cls ≠ "java/lang/invoke/MethodHandle" ∧ yX0_faultOfFence.cls ≠ "java/lang/invoke/VarHandle" ∧ (parseMethodDescriptor yX0_faultOfFence.desc).map (fun d => d.parameters.length) = some 2 := by decide +kernel
set_option maxHeartbeats 8000000 in
set_option maxRecDepth 100000 in
theorem c_X0_faultOfFence {l : Launch} {D : va_G} {x : Nat} {μ : Mem} {i : Nat} (hi : i < 19) {g : Row} (hg : μ i = g) (a1 : Int32) (a2 : Int32) {r : Int32} (hf : f_X0_faultOfFence g a1 a2 = some r) : CX l yX0_faultOfFence wsX0_faultOfFence rmX0_faultOfFence [.ref (x + gb i), .int a1, .int a2] D x μ (some (.int r)) μ := by
  refine CX.of (cc := cX0_faultOfFence) (maxL := 3) (ret := (some .int)) pn_X0 rfl (Nat.le_of_ble_eq_true rfl) ?_
  intro p e s m args below meth c F hr hlk hK hG
  intro ls H locs hl hP hS
  have hl : lv_has ls 3 [(0, .ref (x + gb i)), (1, .int a1), (2, .int a2)] := hl
  unfold f_X0_faultOfFence at hf
  refine lv_aload_n F.1 F.2.1 dX0_faultOfFence_0 rfl (lv_at hl 0 rfl) ?_
  refine lv_iload_n F.1 F.2.1 dX0_faultOfFence_1 rfl (lv_at hl 1 rfl) ?_
  obtain ⟨r1, hr2, hf⟩ := bnd hf
  refine x_callV F hK hG hP hS (o_G hi (c := 0) (by decide)) (kd_G i hi 0 (by decide)) (ci := 0) (fun _ => rfl) rfl (c_X0_hasSite hi hg a1 hr2) (cwV 1 F.2.2.2.2 gX0_faultOfFence_X0_hasSite rfl rfl rfl ⟨rfl, hd_X0_hasSite⟩ ⟨(Nat.le_of_ble_eq_true rfl), (Nat.le_of_ble_eq_true rfl)⟩) rfl rfl hl.1 (Nat.le_of_ble_eq_true rfl) dX0_faultOfFence_2 ⟨(Nat.le_of_ble_eq_true rfl), (Nat.le_of_ble_eq_true rfl)⟩ (rest := []) (fun H locs hP hS => ?_)
  refine W.eq (g2 := F0 m 5 ls [.int r1]) rfl ?_
  refine lv_if_ne (tgt := 10) F.1 F.2.1 dX0_faultOfFence_5 rfl (fun hc3 => ?_) (fun hc3 => ?_)
  · have hf := ifn hc3 hf
    refine lv_iload_n F.1 F.2.1 dX0_faultOfFence_10 rfl (lv_at hl 2 rfl) ?_
    refine lv_if_lt (tgt := 24) F.1 F.2.1 dX0_faultOfFence_11 rfl (fun hc4 => ?_) (fun hc4 => ?_)
    · have hf := ifp hc4 hf
      refine lv_iconst (v := (2 : Int32)) F.1 F.2.1 dX0_faultOfFence_24 (by decide) ?_
      obtain rfl := Option.some.inj hf
      exact x_iret F hr hlk hP hS rfl dX0_faultOfFence_25
    · have hf := ifn hc4 hf
      refine lv_iload_n F.1 F.2.1 dX0_faultOfFence_14 rfl (lv_at hl 2 rfl) ?_
      refine lv_bipush (v := (20 : Int32)) F.1 F.2.1 dX0_faultOfFence_15 (by decide) ?_
      refine lv_icmp_gt (tgt := 24) F.1 F.2.1 dX0_faultOfFence_17 rfl (fun hc5 => ?_) (fun hc5 => ?_)
      · have hf := ifp hc5 hf
        refine lv_iconst (v := (2 : Int32)) F.1 F.2.1 dX0_faultOfFence_24 (by decide) ?_
        obtain rfl := Option.some.inj hf
        exact x_iret F hr hlk hP hS rfl dX0_faultOfFence_25
      · have hf := ifn hc5 hf
        refine lv_iconst (v := (0 : Int32)) F.1 F.2.1 dX0_faultOfFence_20 (by decide) ?_
        refine lv_goto (tgt := 25) F.1 F.2.1 dX0_faultOfFence_21 rfl ?_
        obtain rfl := Option.some.inj hf
        exact x_iret F hr hlk hP hS rfl dX0_faultOfFence_25
  · have hf := ifp hc3 hf
    refine lv_iconst (v := (1 : Int32)) F.1 F.2.1 dX0_faultOfFence_8 (by decide) ?_
    obtain rfl := Option.some.inj hf
    exact x_iret F hr hlk hP hS rfl dX0_faultOfFence_9

-- FrostTubes$Ground.faultOfDays(III)I
def f_X0_faultOfDays (g : Row) (a1 : Int32) (a2 : Int32) (a3 : Int32) : Option (Int32) := (if a1 < (-30 : Int32) then some (2 : Int32) else (if (30 : Int32) < a1 then some (2 : Int32) else (if a2 < 0 then some (2 : Int32) else (if (30 : Int32) < a2 then some (2 : Int32) else (if a3 < (1 : Int32) then some (2 : Int32) else (if a3 ≤ (60 : Int32) then (if (9999 : Int32) < ((g 199) + a3) then some (3 : Int32) else some (0 : Int32)) else some (2 : Int32)))))))
def rmX0_faultOfDays : Room := { frames := 0, cells := 0, slots := 0, locals := 0 }
theorem hd_X0_faultOfDays : yX0_faultOfDays.cls ≠ "java/lang/invoke/MethodHandle" ∧ yX0_faultOfDays.cls ≠ "java/lang/invoke/VarHandle" ∧ (parseMethodDescriptor yX0_faultOfDays.desc).map (fun d => d.parameters.length) = some 3 := by decide +kernel
set_option maxHeartbeats 8000000 in
set_option maxRecDepth 100000 in
theorem c_X0_faultOfDays {l : Launch} {D : va_G} {x : Nat} {μ : Mem} {i : Nat} (hi : i < 19) {g : Row} (hg : μ i = g) (a1 : Int32) (a2 : Int32) (a3 : Int32) {r : Int32} (hf : f_X0_faultOfDays g a1 a2 a3 = some r) : CX l yX0_faultOfDays wsX0_faultOfDays rmX0_faultOfDays [.ref (x + gb i), .int a1, .int a2, .int a3] D x μ (some (.int r)) μ := by
  refine CX.of (cc := cX0_faultOfDays) (maxL := 4) (ret := (some .int)) pn_X0 rfl (Nat.le_of_ble_eq_true rfl) ?_
  intro p e s m args below meth c F hr hlk hK hG
  intro ls H locs hl hP hS
  have hl : lv_has ls 4 [(0, .ref (x + gb i)), (1, .int a1), (2, .int a2), (3, .int a3)] := hl
  unfold f_X0_faultOfDays at hf
  refine lv_iload_n F.1 F.2.1 dX0_faultOfDays_0 rfl (lv_at hl 1 rfl) ?_
  refine lv_bipush (v := (-30 : Int32)) F.1 F.2.1 dX0_faultOfDays_1 (by decide) ?_
  refine lv_icmp_lt (tgt := 33) F.1 F.2.1 dX0_faultOfDays_3 rfl (fun hc1 => ?_) (fun hc1 => ?_)
  · have hf := ifp hc1 hf
    refine lv_iconst (v := (2 : Int32)) F.1 F.2.1 dX0_faultOfDays_33 (by decide) ?_
    obtain rfl := Option.some.inj hf
    exact x_iret F hr hlk hP hS rfl dX0_faultOfDays_34
  · have hf := ifn hc1 hf
    refine lv_iload_n F.1 F.2.1 dX0_faultOfDays_6 rfl (lv_at hl 1 rfl) ?_
    refine lv_bipush (v := (30 : Int32)) F.1 F.2.1 dX0_faultOfDays_7 (by decide) ?_
    refine lv_icmp_gt (tgt := 33) F.1 F.2.1 dX0_faultOfDays_9 rfl (fun hc2 => ?_) (fun hc2 => ?_)
    · have hf := ifp hc2 hf
      refine lv_iconst (v := (2 : Int32)) F.1 F.2.1 dX0_faultOfDays_33 (by decide) ?_
      obtain rfl := Option.some.inj hf
      exact x_iret F hr hlk hP hS rfl dX0_faultOfDays_34
    · have hf := ifn hc2 hf
      refine lv_iload_n F.1 F.2.1 dX0_faultOfDays_12 rfl (lv_at hl 2 rfl) ?_
      refine lv_if_lt (tgt := 33) F.1 F.2.1 dX0_faultOfDays_13 rfl (fun hc3 => ?_) (fun hc3 => ?_)
      · have hf := ifp hc3 hf
        refine lv_iconst (v := (2 : Int32)) F.1 F.2.1 dX0_faultOfDays_33 (by decide) ?_
        obtain rfl := Option.some.inj hf
        exact x_iret F hr hlk hP hS rfl dX0_faultOfDays_34
      · have hf := ifn hc3 hf
        refine lv_iload_n F.1 F.2.1 dX0_faultOfDays_16 rfl (lv_at hl 2 rfl) ?_
        refine lv_bipush (v := (30 : Int32)) F.1 F.2.1 dX0_faultOfDays_17 (by decide) ?_
        refine lv_icmp_gt (tgt := 33) F.1 F.2.1 dX0_faultOfDays_19 rfl (fun hc4 => ?_) (fun hc4 => ?_)
        · have hf := ifp hc4 hf
          refine lv_iconst (v := (2 : Int32)) F.1 F.2.1 dX0_faultOfDays_33 (by decide) ?_
          obtain rfl := Option.some.inj hf
          exact x_iret F hr hlk hP hS rfl dX0_faultOfDays_34
        · have hf := ifn hc4 hf
          refine lv_iload_n F.1 F.2.1 dX0_faultOfDays_22 rfl (lv_at hl 3 rfl) ?_
          refine lv_iconst (v := (1 : Int32)) F.1 F.2.1 dX0_faultOfDays_23 (by decide) ?_
          refine lv_icmp_lt (tgt := 33) F.1 F.2.1 dX0_faultOfDays_24 rfl (fun hc5 => ?_) (fun hc5 => ?_)
          · have hf := ifp hc5 hf
            refine lv_iconst (v := (2 : Int32)) F.1 F.2.1 dX0_faultOfDays_33 (by decide) ?_
            obtain rfl := Option.some.inj hf
            exact x_iret F hr hlk hP hS rfl dX0_faultOfDays_34
          · have hf := ifn hc5 hf
            refine lv_iload_n F.1 F.2.1 dX0_faultOfDays_27 rfl (lv_at hl 3 rfl) ?_
            refine lv_bipush (v := (60 : Int32)) F.1 F.2.1 dX0_faultOfDays_28 (by decide) ?_
            refine lv_icmp_le (tgt := 35) F.1 F.2.1 dX0_faultOfDays_30 rfl (fun hc6 => ?_) (fun hc6 => ?_)
            · have hf := ifp hc6 hf
              refine lv_aload_n F.1 F.2.1 dX0_faultOfDays_35 rfl (lv_at hl 0 rfl) ?_
              refine gI_X0_dayCount F hK hP hi hg (fun _ h => List.mem_cons_of_mem _ (List.mem_append_right _ h)) (List.mem_of_getElem? (i := 1) rfl) dX0_faultOfDays_36 ?_
              refine lv_iload_n F.1 F.2.1 dX0_faultOfDays_39 rfl (lv_at hl 3 rfl) ?_
              refine lv_iadd F.1 F.2.1 dX0_faultOfDays_40 ?_
              refine lv_sipush (v := (9999 : Int32)) F.1 F.2.1 dX0_faultOfDays_41 (by decide) ?_
              refine lv_icmp_gt (tgt := 51) F.1 F.2.1 dX0_faultOfDays_44 rfl (fun hc7 => ?_) (fun hc7 => ?_)
              · have hf := ifp hc7 hf
                refine lv_iconst (v := (3 : Int32)) F.1 F.2.1 dX0_faultOfDays_51 (by decide) ?_
                obtain rfl := Option.some.inj hf
                exact x_iret F hr hlk hP hS rfl dX0_faultOfDays_52
              · have hf := ifn hc7 hf
                refine lv_iconst (v := (0 : Int32)) F.1 F.2.1 dX0_faultOfDays_47 (by decide) ?_
                refine lv_goto (tgt := 52) F.1 F.2.1 dX0_faultOfDays_48 rfl ?_
                obtain rfl := Option.some.inj hf
                exact x_iret F hr hlk hP hS rfl dX0_faultOfDays_52
            · have hf := ifn hc6 hf
              refine lv_iconst (v := (2 : Int32)) F.1 F.2.1 dX0_faultOfDays_33 (by decide) ?_
              obtain rfl := Option.some.inj hf
              exact x_iret F hr hlk hP hS rfl dX0_faultOfDays_34

-- FrostTubes$Ground.faultOfSetting(II)I
def f_X0_faultOfSetting (g : Row) (a1 : Int32) (a2 : Int32) : Option (Int32) := (if a1 < 0 then some (2 : Int32) else (if a1 < (3 : Int32) then (if oob a1 3 then none else (if a2 < (lstI a1.toNatClampNeg) then some (2 : Int32) else (if oob a1 3 then none else (if (mstI a1.toNatClampNeg) < a2 then some (2 : Int32) else some (0 : Int32))))) else some (2 : Int32)))
def rmX0_faultOfSetting : Room := { frames := 0, cells := 0, slots := 0, locals := 0 }
theorem hd_X0_faultOfSetting : yX0_faultOfSetting.cls ≠ "java/lang/invoke/MethodHandle" ∧ yX0_faultOfSetting.cls ≠ "java/lang/invoke/VarHandle" ∧ (parseMethodDescriptor yX0_faultOfSetting.desc).map (fun d => d.parameters.length) = some 2 := by decide +kernel
set_option maxHeartbeats 8000000 in
set_option maxRecDepth 100000 in
theorem c_X0_faultOfSetting {l : Launch} {D : va_G} {x : Nat} {μ : Mem} {i : Nat} (hi : i < 19) {g : Row} (hg : μ i = g) (a1 : Int32) (a2 : Int32) {r : Int32} (hf : f_X0_faultOfSetting g a1 a2 = some r) : CX l yX0_faultOfSetting wsX0_faultOfSetting rmX0_faultOfSetting [.ref (x + gb i), .int a1, .int a2] D x μ (some (.int r)) μ := by
  refine CX.of (cc := cX0_faultOfSetting) (maxL := 3) (ret := (some .int)) pn_X0 rfl (Nat.le_of_ble_eq_true rfl) ?_
  intro p e s m args below meth c F hr hlk hK hG
  intro ls H locs hl hP hS
  have hl : lv_has ls 3 [(0, .ref (x + gb i)), (1, .int a1), (2, .int a2)] := hl
  unfold f_X0_faultOfSetting at hf
  refine lv_iload_n F.1 F.2.1 dX0_faultOfSetting_0 rfl (lv_at hl 1 rfl) ?_
  refine lv_if_lt (tgt := 9) F.1 F.2.1 dX0_faultOfSetting_1 rfl (fun hc1 => ?_) (fun hc1 => ?_)
  · have hf := ifp hc1 hf
    refine lv_iconst (v := (2 : Int32)) F.1 F.2.1 dX0_faultOfSetting_9 (by decide) ?_
    obtain rfl := Option.some.inj hf
    exact x_iret F hr hlk hP hS rfl dX0_faultOfSetting_10
  · have hf := ifn hc1 hf
    refine lv_iload_n F.1 F.2.1 dX0_faultOfSetting_4 rfl (lv_at hl 1 rfl) ?_
    refine lv_iconst (v := (3 : Int32)) F.1 F.2.1 dX0_faultOfSetting_5 (by decide) ?_
    refine lv_icmp_lt (tgt := 11) F.1 F.2.1 dX0_faultOfSetting_6 rfl (fun hc2 => ?_) (fun hc2 => ?_)
    · have hf := ifp hc2 hf
      refine lv_iload_n F.1 F.2.1 dX0_faultOfSetting_11 rfl (lv_at hl 2 rfl) ?_
      obtain ⟨t3, hs4, hs4b⟩ := hG.2.1
      refine va_getsN F.1 F.2.1 hs4 hS F.2.2.2.1 (va_Nw.use rfl hG.1.1) (fun _ h => h) dX0_faultOfSetting_12 ?_
      refine lv_iload_n F.1 F.2.1 dX0_faultOfSetting_15 rfl (lv_at hl 1 rfl) ?_
      obtain ⟨hb5, hf⟩ := ifg hf
      refine va_ti F.1 F.2.1 hs4b hS hb5 (v := .int (lstI a1.toNatClampNeg)) rfl dX0_faultOfSetting_16 ?_
      refine lv_icmp_lt (tgt := 33) F.1 F.2.1 dX0_faultOfSetting_17 rfl (fun hc6 => ?_) (fun hc6 => ?_)
      · have hf := ifp hc6 hf
        refine lv_iconst (v := (2 : Int32)) F.1 F.2.1 dX0_faultOfSetting_33 (by decide) ?_
        obtain rfl := Option.some.inj hf
        exact x_iret F hr hlk hP hS rfl dX0_faultOfSetting_34
      · have hf := ifn hc6 hf
        refine lv_iload_n F.1 F.2.1 dX0_faultOfSetting_20 rfl (lv_at hl 2 rfl) ?_
        obtain ⟨t7, hs8, hs8b⟩ := hG.2.2.1
        refine va_getsN F.1 F.2.1 hs8 hS F.2.2.2.1 (va_Nw.use rfl hG.1.2) (fun _ h => h) dX0_faultOfSetting_21 ?_
        refine lv_iload_n F.1 F.2.1 dX0_faultOfSetting_24 rfl (lv_at hl 1 rfl) ?_
        obtain ⟨hb9, hf⟩ := ifg hf
        refine va_ti F.1 F.2.1 hs8b hS hb9 (v := .int (mstI a1.toNatClampNeg)) rfl dX0_faultOfSetting_25 ?_
        refine lv_icmp_gt (tgt := 33) F.1 F.2.1 dX0_faultOfSetting_26 rfl (fun hc10 => ?_) (fun hc10 => ?_)
        · have hf := ifp hc10 hf
          refine lv_iconst (v := (2 : Int32)) F.1 F.2.1 dX0_faultOfSetting_33 (by decide) ?_
          obtain rfl := Option.some.inj hf
          exact x_iret F hr hlk hP hS rfl dX0_faultOfSetting_34
        · have hf := ifn hc10 hf
          refine lv_iconst (v := (0 : Int32)) F.1 F.2.1 dX0_faultOfSetting_29 (by decide) ?_
          refine lv_goto (tgt := 34) F.1 F.2.1 dX0_faultOfSetting_30 rfl ?_
          obtain rfl := Option.some.inj hf
          exact x_iret F hr hlk hP hS rfl dX0_faultOfSetting_34
    · have hf := ifn hc2 hf
      refine lv_iconst (v := (2 : Int32)) F.1 F.2.1 dX0_faultOfSetting_9 (by decide) ?_
      obtain rfl := Option.some.inj hf
      exact x_iret F hr hlk hP hS rfl dX0_faultOfSetting_10

-- FrostTubes$Ground.faultOf(IIII)I
def f_X0_faultOf (g : Row) (a1 : Int32) (a2 : Int32) (a3 : Int32) (a4 : Int32) : Option (Int32) := (if a1 = (100 : Int32) then ((f_X0_faultOfDays g a2 a3 a4).bind fun r2 => some r2) else (if a1 = (101 : Int32) then ((f_X0_faultOfSetting g a2 a3).bind fun r5 => some r5) else (if a1 = (102 : Int32) then ((f_X0_faultOfFence g a2 a3).bind fun r8 => some r8) else (if a1 = (112 : Int32) then ((f_X0_faultOfPipe g a2 a3).bind fun r11 => some r11) else (if a1 = (115 : Int32) then (if (4 : Int32) ≤ (g 196) then some (3 : Int32) else some (0 : Int32)) else (if a1 = (116 : Int32) then ((f_X0_faultOfTube g a2 a3).bind fun r16 => some r16) else (if a1 = (119 : Int32) then some (0 : Int32) else (if a1 = (120 : Int32) then ((f_X0_hasSite g a2).bind fun r20 => (if r20 = 0 then some (1 : Int32) else some (0 : Int32))) else some (2 : Int32)))))))))
def rmX0_faultOf : Room := { frames := 2, cells := 0, slots := 0, locals := 43 }
theorem hd_X0_faultOf : yX0_faultOf.cls ≠ "java/lang/invoke/MethodHandle" ∧ yX0_faultOf.cls ≠ "java/lang/invoke/VarHandle" ∧ (parseMethodDescriptor yX0_faultOf.desc).map (fun d => d.parameters.length) = some 4 := by decide +kernel
set_option maxHeartbeats 8000000 in
set_option maxRecDepth 100000 in
theorem c_X0_faultOf {l : Launch} {D : va_G} {x : Nat} {μ : Mem} {i : Nat} (hi : i < 19) {g : Row} (hg : μ i = g) (a1 : Int32) (a2 : Int32) (a3 : Int32) (a4 : Int32) {r : Int32} (hf : f_X0_faultOf g a1 a2 a3 a4 = some r) : CX l yX0_faultOf wsX0_faultOf rmX0_faultOf [.ref (x + gb i), .int a1, .int a2, .int a3, .int a4] D x μ (some (.int r)) μ := by
  refine CX.of (cc := cX0_faultOf) (maxL := 5) (ret := (some .int)) pn_X0 rfl (Nat.le_of_ble_eq_true rfl) ?_
  intro p e s m args below meth c F hr hlk hK hG
  intro ls H locs hl hP hS
  have hl : lv_has ls 5 [(0, .ref (x + gb i)), (1, .int a1), (2, .int a2), (3, .int a3), (4, .int a4)] := hl
  unfold f_X0_faultOf at hf
  refine lv_iload_n F.1 F.2.1 dX0_faultOf_0 rfl (lv_at hl 1 rfl) ?_
  by_cases hc1 : a1 = (100 : Int32)
  · have hf := ifp hc1 hf
    refine lv_tableIn (off := 148) (tgt := 149) F.1 F.2.1 dX0_faultOf_1 (by rw [hc1]; decide) (by rw [hc1]; decide) (by rw [hc1]; rfl) rfl ?_
    refine lv_aload_n F.1 F.2.1 dX0_faultOf_149 rfl (lv_at hl 0 rfl) ?_
    refine lv_iload_n F.1 F.2.1 dX0_faultOf_150 rfl (lv_at hl 2 rfl) ?_
    refine lv_iload_n F.1 F.2.1 dX0_faultOf_151 rfl (lv_at hl 3 rfl) ?_
    refine lv_iload F.1 F.2.1 dX0_faultOf_152 (lv_at hl 4 rfl) ?_
    obtain ⟨r2, hr3, hf⟩ := bnd hf
    refine x_callV F hK hG hP hS (o_G hi (c := 0) (by decide)) (kd_G i hi 0 (by decide)) (ci := 0) (fun _ => rfl) rfl (c_X0_faultOfDays hi hg a2 a3 a4 hr3) (cwV 3 F.2.2.2.2 gX0_faultOf_X0_faultOfDays rfl rfl rfl ⟨rfl, hd_X0_faultOfDays⟩ ⟨(Nat.le_of_ble_eq_true rfl), (Nat.le_of_ble_eq_true rfl)⟩) rfl rfl hl.1 (Nat.le_of_ble_eq_true rfl) dX0_faultOf_154 ⟨(Nat.le_of_ble_eq_true rfl), (Nat.le_of_ble_eq_true rfl)⟩ (rest := []) (fun H locs hP hS => ?_)
    refine W.eq (g2 := F0 m 157 ls [.int r2]) rfl ?_
    obtain rfl := Option.some.inj hf
    exact x_iret F hr hlk hP hS rfl dX0_faultOf_157
  have hf := ifn hc1 hf
  by_cases hc4 : a1 = (101 : Int32)
  · have hf := ifp hc4 hf
    refine lv_tableIn (off := 157) (tgt := 158) F.1 F.2.1 dX0_faultOf_1 (by rw [hc4]; decide) (by rw [hc4]; decide) (by rw [hc4]; rfl) rfl ?_
    refine lv_aload_n F.1 F.2.1 dX0_faultOf_158 rfl (lv_at hl 0 rfl) ?_
    refine lv_iload_n F.1 F.2.1 dX0_faultOf_159 rfl (lv_at hl 2 rfl) ?_
    refine lv_iload_n F.1 F.2.1 dX0_faultOf_160 rfl (lv_at hl 3 rfl) ?_
    obtain ⟨r5, hr6, hf⟩ := bnd hf
    refine x_callV F hK hG hP hS (o_G hi (c := 0) (by decide)) (kd_G i hi 0 (by decide)) (ci := 0) (fun _ => rfl) rfl (c_X0_faultOfSetting hi hg a2 a3 hr6) (cwV 2 F.2.2.2.2 gX0_faultOf_X0_faultOfSetting rfl rfl rfl ⟨rfl, hd_X0_faultOfSetting⟩ ⟨(Nat.le_of_ble_eq_true rfl), (Nat.le_of_ble_eq_true rfl)⟩) rfl rfl hl.1 (Nat.le_of_ble_eq_true rfl) dX0_faultOf_161 ⟨(Nat.le_of_ble_eq_true rfl), (Nat.le_of_ble_eq_true rfl)⟩ (rest := []) (fun H locs hP hS => ?_)
    refine W.eq (g2 := F0 m 164 ls [.int r5]) rfl ?_
    obtain rfl := Option.some.inj hf
    exact x_iret F hr hlk hP hS rfl dX0_faultOf_164
  have hf := ifn hc4 hf
  by_cases hc7 : a1 = (102 : Int32)
  · have hf := ifp hc7 hf
    refine lv_tableIn (off := 127) (tgt := 128) F.1 F.2.1 dX0_faultOf_1 (by rw [hc7]; decide) (by rw [hc7]; decide) (by rw [hc7]; rfl) rfl ?_
    refine lv_aload_n F.1 F.2.1 dX0_faultOf_128 rfl (lv_at hl 0 rfl) ?_
    refine lv_iload_n F.1 F.2.1 dX0_faultOf_129 rfl (lv_at hl 2 rfl) ?_
    refine lv_iload_n F.1 F.2.1 dX0_faultOf_130 rfl (lv_at hl 3 rfl) ?_
    obtain ⟨r8, hr9, hf⟩ := bnd hf
    refine x_callV F hK hG hP hS (o_G hi (c := 0) (by decide)) (kd_G i hi 0 (by decide)) (ci := 0) (fun _ => rfl) rfl (c_X0_faultOfFence hi hg a2 a3 hr9) (cwV 2 F.2.2.2.2 gX0_faultOf_X0_faultOfFence rfl rfl rfl ⟨rfl, hd_X0_faultOfFence⟩ ⟨(Nat.le_of_ble_eq_true rfl), (Nat.le_of_ble_eq_true rfl)⟩) rfl rfl hl.1 (Nat.le_of_ble_eq_true rfl) dX0_faultOf_131 ⟨(Nat.le_of_ble_eq_true rfl), (Nat.le_of_ble_eq_true rfl)⟩ (rest := []) (fun H locs hP hS => ?_)
    refine W.eq (g2 := F0 m 134 ls [.int r8]) rfl ?_
    obtain rfl := Option.some.inj hf
    exact x_iret F hr hlk hP hS rfl dX0_faultOf_134
  have hf := ifn hc7 hf
  by_cases hc10 : a1 = (112 : Int32)
  · have hf := ifp hc10 hf
    refine lv_tableIn (off := 120) (tgt := 121) F.1 F.2.1 dX0_faultOf_1 (by rw [hc10]; decide) (by rw [hc10]; decide) (by rw [hc10]; rfl) rfl ?_
    refine lv_aload_n F.1 F.2.1 dX0_faultOf_121 rfl (lv_at hl 0 rfl) ?_
    refine lv_iload_n F.1 F.2.1 dX0_faultOf_122 rfl (lv_at hl 2 rfl) ?_
    refine lv_iload_n F.1 F.2.1 dX0_faultOf_123 rfl (lv_at hl 3 rfl) ?_
    obtain ⟨r11, hr12, hf⟩ := bnd hf
    refine x_callV F hK hG hP hS (o_G hi (c := 0) (by decide)) (kd_G i hi 0 (by decide)) (ci := 0) (fun _ => rfl) rfl (c_X0_faultOfPipe hi hg a2 a3 hr12) (cwV 2 F.2.2.2.2 gX0_faultOf_X0_faultOfPipe rfl rfl rfl ⟨rfl, hd_X0_faultOfPipe⟩ ⟨(Nat.le_of_ble_eq_true rfl), (Nat.le_of_ble_eq_true rfl)⟩) rfl rfl hl.1 (Nat.le_of_ble_eq_true rfl) dX0_faultOf_124 ⟨(Nat.le_of_ble_eq_true rfl), (Nat.le_of_ble_eq_true rfl)⟩ (rest := []) (fun H locs hP hS => ?_)
    refine W.eq (g2 := F0 m 127 ls [.int r11]) rfl ?_
    obtain rfl := Option.some.inj hf
    exact x_iret F hr hlk hP hS rfl dX0_faultOf_127
  have hf := ifn hc10 hf
  by_cases hc13 : a1 = (115 : Int32)
  · have hf := ifp hc13 hf
    refine lv_tableIn (off := 99) (tgt := 100) F.1 F.2.1 dX0_faultOf_1 (by rw [hc13]; decide) (by rw [hc13]; decide) (by rw [hc13]; rfl) rfl ?_
    refine lv_aload_n F.1 F.2.1 dX0_faultOf_100 rfl (lv_at hl 0 rfl) ?_
    refine gI_X0_siteCount F hK hP hi hg (fun _ h => List.mem_cons_of_mem _ (List.mem_append_left _ (List.mem_append_right _ h))) (List.mem_of_getElem? (i := 1) rfl) dX0_faultOf_101 ?_
    refine lv_iconst (v := (4 : Int32)) F.1 F.2.1 dX0_faultOf_104 (by decide) ?_
    refine lv_icmp_ge (tgt := 112) F.1 F.2.1 dX0_faultOf_105 rfl (fun hc14 => ?_) (fun hc14 => ?_)
    · have hf := ifp hc14 hf
      refine lv_iconst (v := (3 : Int32)) F.1 F.2.1 dX0_faultOf_112 (by decide) ?_
      obtain rfl := Option.some.inj hf
      exact x_iret F hr hlk hP hS rfl dX0_faultOf_113
    · have hf := ifn hc14 hf
      refine lv_iconst (v := (0 : Int32)) F.1 F.2.1 dX0_faultOf_108 (by decide) ?_
      refine lv_goto (tgt := 113) F.1 F.2.1 dX0_faultOf_109 rfl ?_
      obtain rfl := Option.some.inj hf
      exact x_iret F hr hlk hP hS rfl dX0_faultOf_113
  have hf := ifn hc13 hf
  by_cases hc15 : a1 = (116 : Int32)
  · have hf := ifp hc15 hf
    refine lv_tableIn (off := 113) (tgt := 114) F.1 F.2.1 dX0_faultOf_1 (by rw [hc15]; decide) (by rw [hc15]; decide) (by rw [hc15]; rfl) rfl ?_
    refine lv_aload_n F.1 F.2.1 dX0_faultOf_114 rfl (lv_at hl 0 rfl) ?_
    refine lv_iload_n F.1 F.2.1 dX0_faultOf_115 rfl (lv_at hl 2 rfl) ?_
    refine lv_iload_n F.1 F.2.1 dX0_faultOf_116 rfl (lv_at hl 3 rfl) ?_
    obtain ⟨r16, hr17, hf⟩ := bnd hf
    refine x_callV F hK hG hP hS (o_G hi (c := 0) (by decide)) (kd_G i hi 0 (by decide)) (ci := 0) (fun _ => rfl) rfl (c_X0_faultOfTube hi hg a2 a3 hr17) (cwV 2 F.2.2.2.2 gX0_faultOf_X0_faultOfTube rfl rfl rfl ⟨rfl, hd_X0_faultOfTube⟩ ⟨(Nat.le_of_ble_eq_true rfl), (Nat.le_of_ble_eq_true rfl)⟩) rfl rfl hl.1 (Nat.le_of_ble_eq_true rfl) dX0_faultOf_117 ⟨(Nat.le_of_ble_eq_true rfl), (Nat.le_of_ble_eq_true rfl)⟩ (rest := []) (fun H locs hP hS => ?_)
    refine W.eq (g2 := F0 m 120 ls [.int r16]) rfl ?_
    obtain rfl := Option.some.inj hf
    exact x_iret F hr hlk hP hS rfl dX0_faultOf_120
  have hf := ifn hc15 hf
  by_cases hc18 : a1 = (119 : Int32)
  · have hf := ifp hc18 hf
    refine lv_tableIn (off := 164) (tgt := 165) F.1 F.2.1 dX0_faultOf_1 (by rw [hc18]; decide) (by rw [hc18]; decide) (by rw [hc18]; rfl) rfl ?_
    refine lv_iconst (v := (0 : Int32)) F.1 F.2.1 dX0_faultOf_165 (by decide) ?_
    obtain rfl := Option.some.inj hf
    exact x_iret F hr hlk hP hS rfl dX0_faultOf_166
  have hf := ifn hc18 hf
  by_cases hc19 : a1 = (120 : Int32)
  · have hf := ifp hc19 hf
    refine lv_tableIn (off := 134) (tgt := 135) F.1 F.2.1 dX0_faultOf_1 (by rw [hc19]; decide) (by rw [hc19]; decide) (by rw [hc19]; rfl) rfl ?_
    refine lv_aload_n F.1 F.2.1 dX0_faultOf_135 rfl (lv_at hl 0 rfl) ?_
    refine lv_iload_n F.1 F.2.1 dX0_faultOf_136 rfl (lv_at hl 2 rfl) ?_
    obtain ⟨r20, hr21, hf⟩ := bnd hf
    refine x_callV F hK hG hP hS (o_G hi (c := 0) (by decide)) (kd_G i hi 0 (by decide)) (ci := 0) (fun _ => rfl) rfl (c_X0_hasSite hi hg a2 hr21) (cwV 1 F.2.2.2.2 gX0_faultOf_X0_hasSite rfl rfl rfl ⟨rfl, hd_X0_hasSite⟩ ⟨(Nat.le_of_ble_eq_true rfl), (Nat.le_of_ble_eq_true rfl)⟩) rfl rfl hl.1 (Nat.le_of_ble_eq_true rfl) dX0_faultOf_137 ⟨(Nat.le_of_ble_eq_true rfl), (Nat.le_of_ble_eq_true rfl)⟩ (rest := []) (fun H locs hP hS => ?_)
    refine W.eq (g2 := F0 m 140 ls [.int r20]) rfl ?_
    refine lv_if_eq (tgt := 147) F.1 F.2.1 dX0_faultOf_140 rfl (fun hc22 => ?_) (fun hc22 => ?_)
    · have hf := ifp hc22 hf
      refine lv_iconst (v := (1 : Int32)) F.1 F.2.1 dX0_faultOf_147 (by decide) ?_
      obtain rfl := Option.some.inj hf
      exact x_iret F hr hlk hP hS rfl dX0_faultOf_148
    · have hf := ifn hc22 hf
      refine lv_iconst (v := (0 : Int32)) F.1 F.2.1 dX0_faultOf_143 (by decide) ?_
      refine lv_goto (tgt := 148) F.1 F.2.1 dX0_faultOf_144 rfl ?_
      obtain rfl := Option.some.inj hf
      exact x_iret F hr hlk hP hS rfl dX0_faultOf_148
  have hf := ifn hc19 hf
  have hc1i := i32_ne hc1
  have hc4i := i32_ne hc4
  have hc7i := i32_ne hc7
  have hc10i := i32_ne hc10
  have hc13i := i32_ne hc13
  have hc15i := i32_ne hc15
  have hc18i := i32_ne hc18
  have hc19i := i32_ne hc19
  have hgap : a1.toInt < 100 ∨ 120 < a1.toInt ∨ a1.toInt = 103 ∨ a1.toInt = 104 ∨ a1.toInt = 105 ∨ a1.toInt = 106 ∨ a1.toInt = 107 ∨ a1.toInt = 108 ∨ a1.toInt = 109 ∨ a1.toInt = 110 ∨ a1.toInt = 111 ∨ a1.toInt = 113 ∨ a1.toInt = 114 ∨ a1.toInt = 117 ∨ a1.toInt = 118 := by have : ((100 : Int32)).toInt = 100 := rfl; have : ((101 : Int32)).toInt = 101 := rfl; have : ((102 : Int32)).toInt = 102 := rfl; have : ((112 : Int32)).toInt = 112 := rfl; have : ((115 : Int32)).toInt = 115 := rfl; have : ((116 : Int32)).toInt = 116 := rfl; have : ((119 : Int32)).toInt = 119 := rfl; have : ((120 : Int32)).toInt = 120 := rfl; omega
  refine lv_tableG (tgt := 167) F.1 F.2.1 dX0_faultOf_1 (by rcases hgap with h | h | h | h | h | h | h | h | h | h | h | h | h | h | h <;> first | exact Or.inl h | exact Or.inr (Or.inl h) | (refine Or.inr (Or.inr ?_); rw [h]; rfl)) rfl ?_
  refine lv_iconst (v := (2 : Int32)) F.1 F.2.1 dX0_faultOf_167 (by decide) ?_
  obtain rfl := Option.some.inj hf
  exact x_iret F hr hlk hP hS rfl dX0_faultOf_168

-- FrostTubes$Ground.addTube(II)I
def f_X0_addTube (g : Row) (a1 : Int32) (a2 : Int32) : Option (Int32 × Row) := (if oob (g 197) 8 then none else (if oob ((upd g (140 + 2 * (g 197).toNatClampNeg) a1) 197) 8 then none else some (((upd (upd g (140 + 2 * (g 197).toNatClampNeg) a1) (141 + 2 * ((upd g (140 + 2 * (g 197).toNatClampNeg) a1) 197).toNatClampNeg) a2) 197), (upd (upd (upd g (140 + 2 * (g 197).toNatClampNeg) a1) (141 + 2 * ((upd g (140 + 2 * (g 197).toNatClampNeg) a1) 197).toNatClampNeg) a2) 197 (((upd (upd g (140 + 2 * (g 197).toNatClampNeg) a1) (141 + 2 * ((upd g (140 + 2 * (g 197).toNatClampNeg) a1) 197).toNatClampNeg) a2) 197) + (1 : Int32))))))
def rmX0_addTube : Room := { frames := 0, cells := 0, slots := 0, locals := 0 }
theorem hd_X0_addTube : yX0_addTube.cls ≠ "java/lang/invoke/MethodHandle" ∧ yX0_addTube.cls ≠ "java/lang/invoke/VarHandle" ∧ (parseMethodDescriptor yX0_addTube.desc).map (fun d => d.parameters.length) = some 2 := by decide +kernel
set_option maxHeartbeats 8000000 in
set_option maxRecDepth 100000 in
theorem c_X0_addTube {l : Launch} {D : va_G} {x : Nat} {μ : Mem} {i : Nat} (hi : i < 19) {g : Row} (a1 : Int32) (a2 : Int32) {r : Int32 × Row} (hf : f_X0_addTube g a1 a2 = some r) : CX l yX0_addTube wsX0_addTube rmX0_addTube [.ref (x + gb i), .int a1, .int a2] D x (va_up μ i g) (some (.int r.1)) (va_up μ i r.2) := by
  refine CX.of (cc := cX0_addTube) (maxL := 3) (ret := (some .int)) pn_X0 rfl (Nat.le_of_ble_eq_true rfl) ?_
  intro p e s m args below meth c F hr hlk hK hG
  intro ls H locs hl hP hS
  have hl : lv_has ls 3 [(0, .ref (x + gb i)), (1, .int a1), (2, .int a2)] := hl
  unfold f_X0_addTube at hf
  refine lv_aload_n F.1 F.2.1 dX0_addTube_0 rfl (lv_at hl 0 rfl) ?_
  refine gR_X0_tubeSite F hK hP hi (fun _ h => List.mem_cons_of_mem _ (List.mem_append_right _ h)) (List.mem_of_getElem? (i := 1) rfl) dX0_addTube_1 ?_
  refine lv_aload_n F.1 F.2.1 dX0_addTube_4 rfl (lv_at hl 0 rfl) ?_
  refine gI_X0_tubeCount F hK hP hi (mu_at _ _ _) (fun _ h => List.mem_cons_of_mem _ (List.mem_append_right _ h)) (List.mem_of_getElem? (i := 2) rfl) dX0_addTube_5 ?_
  refine lv_iload_n F.1 F.2.1 dX0_addTube_8 rfl (lv_at hl 1 rfl) ?_
  obtain ⟨hb1, hf⟩ := ifg hf
  refine sA_GA3 F hK hi hP hS hb1 dX0_addTube_9 (fun H locs hP hS => ?_)
  refine lv_aload_n F.1 F.2.1 dX0_addTube_10 rfl (lv_at hl 0 rfl) ?_
  refine gR_X0_tubeLength F hK hP hi (fun _ h => List.mem_cons_of_mem _ (List.mem_append_right _ h)) (List.mem_of_getElem? (i := 3) rfl) dX0_addTube_11 ?_
  refine lv_aload_n F.1 F.2.1 dX0_addTube_14 rfl (lv_at hl 0 rfl) ?_
  refine gI_X0_tubeCount F hK hP hi (mu_at _ _ _) (fun _ h => List.mem_cons_of_mem _ (List.mem_append_right _ h)) (List.mem_of_getElem? (i := 2) rfl) dX0_addTube_15 ?_
  refine lv_iload_n F.1 F.2.1 dX0_addTube_18 rfl (lv_at hl 2 rfl) ?_
  obtain ⟨hb2, hf⟩ := ifg hf
  refine sA_GA4 F hK hi hP hS hb2 dX0_addTube_19 (fun H locs hP hS => ?_)
  refine lv_aload_n F.1 F.2.1 dX0_addTube_20 rfl (lv_at hl 0 rfl) ?_
  refine lv_dup F.1 F.2.1 dX0_addTube_21 rfl ?_
  refine gI_X0_tubeCount F hK hP hi (mu_at _ _ _) (fun _ h => List.mem_cons_of_mem _ (List.mem_append_right _ h)) (List.mem_of_getElem? (i := 2) rfl) dX0_addTube_22 ?_
  refine lv_dup_x1 F.1 F.2.1 dX0_addTube_25 rfl rfl ?_
  refine lv_iconst (v := (1 : Int32)) F.1 F.2.1 dX0_addTube_26 (by decide) ?_
  refine lv_iadd F.1 F.2.1 dX0_addTube_27 ?_
  refine pI_X0_tubeCount F hK hi hP hS (fun _ h => List.mem_cons_of_mem _ (List.mem_append_right _ h)) (List.mem_of_getElem? (i := 2) rfl) dX0_addTube_28 (fun H locs hP hS => ?_)
  obtain rfl := Option.some.inj hf
  exact x_iret F hr hlk hP hS rfl dX0_addTube_31

-- FrostTubes$Ground.addPipe(II)I
def f_X0_addPipe (g : Row) (a1 : Int32) (a2 : Int32) : Option (Int32 × Row) := (if oob (g 198) 8 then none else (if oob ((upd g (156 + 5 * (g 198).toNatClampNeg) a1) 198) 8 then none else some (((upd (upd g (156 + 5 * (g 198).toNatClampNeg) a1) (157 + 5 * ((upd g (156 + 5 * (g 198).toNatClampNeg) a1) 198).toNatClampNeg) a2) 198), (upd (upd (upd g (156 + 5 * (g 198).toNatClampNeg) a1) (157 + 5 * ((upd g (156 + 5 * (g 198).toNatClampNeg) a1) 198).toNatClampNeg) a2) 198 (((upd (upd g (156 + 5 * (g 198).toNatClampNeg) a1) (157 + 5 * ((upd g (156 + 5 * (g 198).toNatClampNeg) a1) 198).toNatClampNeg) a2) 198) + (1 : Int32))))))
def rmX0_addPipe : Room := { frames := 0, cells := 0, slots := 0, locals := 0 }
theorem hd_X0_addPipe : yX0_addPipe.cls ≠ "java/lang/invoke/MethodHandle" ∧ yX0_addPipe.cls ≠ "java/lang/invoke/VarHandle" ∧ (parseMethodDescriptor yX0_addPipe.desc).map (fun d => d.parameters.length) = some 2 := by decide +kernel
set_option maxHeartbeats 8000000 in
set_option maxRecDepth 100000 in
theorem c_X0_addPipe {l : Launch} {D : va_G} {x : Nat} {μ : Mem} {i : Nat} (hi : i < 19) {g : Row} (a1 : Int32) (a2 : Int32) {r : Int32 × Row} (hf : f_X0_addPipe g a1 a2 = some r) : CX l yX0_addPipe wsX0_addPipe rmX0_addPipe [.ref (x + gb i), .int a1, .int a2] D x (va_up μ i g) (some (.int r.1)) (va_up μ i r.2) := by
  refine CX.of (cc := cX0_addPipe) (maxL := 3) (ret := (some .int)) pn_X0 rfl (Nat.le_of_ble_eq_true rfl) ?_
  intro p e s m args below meth c F hr hlk hK hG
  intro ls H locs hl hP hS
  have hl : lv_has ls 3 [(0, .ref (x + gb i)), (1, .int a1), (2, .int a2)] := hl
  unfold f_X0_addPipe at hf
  refine lv_aload_n F.1 F.2.1 dX0_addPipe_0 rfl (lv_at hl 0 rfl) ?_
  refine gR_X0_pipeSite F hK hP hi (fun _ h => List.mem_cons_of_mem _ (List.mem_append_right _ h)) (List.mem_of_getElem? (i := 1) rfl) dX0_addPipe_1 ?_
  refine lv_aload_n F.1 F.2.1 dX0_addPipe_4 rfl (lv_at hl 0 rfl) ?_
  refine gI_X0_pipeCount F hK hP hi (mu_at _ _ _) (fun _ h => List.mem_cons_of_mem _ (List.mem_append_right _ h)) (List.mem_of_getElem? (i := 2) rfl) dX0_addPipe_5 ?_
  refine lv_iload_n F.1 F.2.1 dX0_addPipe_8 rfl (lv_at hl 1 rfl) ?_
  obtain ⟨hb1, hf⟩ := ifg hf
  refine sA_GA5 F hK hi hP hS hb1 dX0_addPipe_9 (fun H locs hP hS => ?_)
  refine lv_aload_n F.1 F.2.1 dX0_addPipe_10 rfl (lv_at hl 0 rfl) ?_
  refine gR_X0_pipeCell F hK hP hi (fun _ h => List.mem_cons_of_mem _ (List.mem_append_right _ h)) (List.mem_of_getElem? (i := 3) rfl) dX0_addPipe_11 ?_
  refine lv_aload_n F.1 F.2.1 dX0_addPipe_14 rfl (lv_at hl 0 rfl) ?_
  refine gI_X0_pipeCount F hK hP hi (mu_at _ _ _) (fun _ h => List.mem_cons_of_mem _ (List.mem_append_right _ h)) (List.mem_of_getElem? (i := 2) rfl) dX0_addPipe_15 ?_
  refine lv_iload_n F.1 F.2.1 dX0_addPipe_18 rfl (lv_at hl 2 rfl) ?_
  obtain ⟨hb2, hf⟩ := ifg hf
  refine sA_GA6 F hK hi hP hS hb2 dX0_addPipe_19 (fun H locs hP hS => ?_)
  refine lv_aload_n F.1 F.2.1 dX0_addPipe_20 rfl (lv_at hl 0 rfl) ?_
  refine lv_dup F.1 F.2.1 dX0_addPipe_21 rfl ?_
  refine gI_X0_pipeCount F hK hP hi (mu_at _ _ _) (fun _ h => List.mem_cons_of_mem _ (List.mem_append_right _ h)) (List.mem_of_getElem? (i := 2) rfl) dX0_addPipe_22 ?_
  refine lv_dup_x1 F.1 F.2.1 dX0_addPipe_25 rfl rfl ?_
  refine lv_iconst (v := (1 : Int32)) F.1 F.2.1 dX0_addPipe_26 (by decide) ?_
  refine lv_iadd F.1 F.2.1 dX0_addPipe_27 ?_
  refine pI_X0_pipeCount F hK hi hP hS (fun _ h => List.mem_cons_of_mem _ (List.mem_append_right _ h)) (List.mem_of_getElem? (i := 2) rfl) dX0_addPipe_28 (fun H locs hP hS => ?_)
  obtain rfl := Option.some.inj hf
  exact x_iret F hr hlk hP hS rfl dX0_addPipe_31

-- FrostTubes$Ground.buildFence(II)I
def f_X0_buildFence (g : Row) (a1 : Int32) (a2 : Int32) : Option (Int32 × Row) := (if oob a1 4 then none else (if oob a1 4 then none else some ((g (35 * a1.toNatClampNeg + 1)), (upd g (35 * a1.toNatClampNeg + 1) a2))))
def rmX0_buildFence : Room := { frames := 0, cells := 0, slots := 0, locals := 0 }
theorem hd_X0_buildFence : yX0_buildFence.cls ≠ "java/lang/invoke/MethodHandle" ∧ yX0_buildFence.cls ≠ "java/lang/invoke/VarHandle" ∧ (parseMethodDescriptor yX0_buildFence.desc).map (fun d => d.parameters.length) = some 2 := by decide +kernel
set_option maxHeartbeats 8000000 in
set_option maxRecDepth 100000 in
theorem c_X0_buildFence {l : Launch} {D : va_G} {x : Nat} {μ : Mem} {i : Nat} (hi : i < 19) {g : Row} (a1 : Int32) (a2 : Int32) {r : Int32 × Row} (hf : f_X0_buildFence g a1 a2 = some r) : CX l yX0_buildFence wsX0_buildFence rmX0_buildFence [.ref (x + gb i), .int a1, .int a2] D x (va_up μ i g) (some (.int r.1)) (va_up μ i r.2) := by
  refine CX.of (cc := cX0_buildFence) (maxL := 4) (ret := (some .int)) pn_X0 rfl (Nat.le_of_ble_eq_true rfl) ?_
  intro p e s m args below meth c F hr hlk hK hG
  intro ls H locs hl hP hS
  have hl : lv_has ls 4 [(0, .ref (x + gb i)), (1, .int a1), (2, .int a2)] := hl
  unfold f_X0_buildFence at hf
  refine lv_aload_n F.1 F.2.1 dX0_buildFence_0 rfl (lv_at hl 0 rfl) ?_
  refine gR_X0_sites F hK hP hi (fun _ h => List.mem_cons_of_mem _ (List.mem_append_left _ (List.mem_append_right _ h))) (List.mem_of_getElem? (i := 1) rfl) dX0_buildFence_1 ?_
  refine lv_iload_n F.1 F.2.1 dX0_buildFence_4 rfl (lv_at hl 1 rfl) ?_
  obtain ⟨hb1, hf⟩ := ifg hf
  refine lA_GA2 F hK hP hi hb1 dX0_buildFence_5 ?_
  refine gI_X2_fenceHeight F hK hP hi (oob_lt hb1) (mu_at _ _ _) (fun _ h => List.mem_cons_of_mem _ (List.mem_append_right _ h)) (List.mem_of_getElem? (i := 2) rfl) dX0_buildFence_6 ?_
  refine lv_istore_n F.1 F.2.1 dX0_buildFence_9 rfl hl (Nat.le_of_ble_eq_true rfl) rfl (fun ls hl => ?_)
  have hl : lv_has ls 4 [(3, .int (g (35 * a1.toNatClampNeg + 1))), (0, .ref (x + gb i)), (1, .int a1), (2, .int a2)] := hl
  refine lv_aload_n F.1 F.2.1 dX0_buildFence_10 rfl (lv_at hl 1 rfl) ?_
  refine gR_X0_sites F hK hP hi (fun _ h => List.mem_cons_of_mem _ (List.mem_append_left _ (List.mem_append_right _ h))) (List.mem_of_getElem? (i := 1) rfl) dX0_buildFence_11 ?_
  refine lv_iload_n F.1 F.2.1 dX0_buildFence_14 rfl (lv_at hl 2 rfl) ?_
  obtain ⟨hb2, hf⟩ := ifg hf
  refine lA_GA2 F hK hP hi hb2 dX0_buildFence_15 ?_
  refine lv_iload_n F.1 F.2.1 dX0_buildFence_16 rfl (lv_at hl 3 rfl) ?_
  refine pI_X2_fenceHeight F hK hi (oob_lt hb2) hP hS (fun _ h => List.mem_cons_of_mem _ (List.mem_append_right _ h)) (List.mem_of_getElem? (i := 2) rfl) dX0_buildFence_17 (fun H locs hP hS => ?_)
  refine lv_iload_n F.1 F.2.1 dX0_buildFence_20 rfl (lv_at hl 0 rfl) ?_
  obtain rfl := Option.some.inj hf
  exact x_iret F hr hlk hP hS rfl dX0_buildFence_21

-- FrostTubes$Ground.clearSnow(I)I
def f_X0_clearSnow (g : Row) (a1 : Int32) : Option (Int32 × Row) := (if oob a1 4 then none else (if oob a1 4 then none else some ((g (35 * a1.toNatClampNeg + 0)), (upd g (35 * a1.toNatClampNeg + 0) (0 : Int32)))))
def rmX0_clearSnow : Room := { frames := 0, cells := 0, slots := 0, locals := 0 }
theorem hd_X0_clearSnow : yX0_clearSnow.cls ≠ "java/lang/invoke/MethodHandle" ∧ yX0_clearSnow.cls ≠ "java/lang/invoke/VarHandle" ∧ (parseMethodDescriptor yX0_clearSnow.desc).map (fun d => d.parameters.length) = some 1 := by decide +kernel
set_option maxHeartbeats 8000000 in
set_option maxRecDepth 100000 in
theorem c_X0_clearSnow {l : Launch} {D : va_G} {x : Nat} {μ : Mem} {i : Nat} (hi : i < 19) {g : Row} (a1 : Int32) {r : Int32 × Row} (hf : f_X0_clearSnow g a1 = some r) : CX l yX0_clearSnow wsX0_clearSnow rmX0_clearSnow [.ref (x + gb i), .int a1] D x (va_up μ i g) (some (.int r.1)) (va_up μ i r.2) := by
  refine CX.of (cc := cX0_clearSnow) (maxL := 3) (ret := (some .int)) pn_X0 rfl (Nat.le_of_ble_eq_true rfl) ?_
  intro p e s m args below meth c F hr hlk hK hG
  intro ls H locs hl hP hS
  have hl : lv_has ls 3 [(0, .ref (x + gb i)), (1, .int a1)] := hl
  unfold f_X0_clearSnow at hf
  refine lv_aload_n F.1 F.2.1 dX0_clearSnow_0 rfl (lv_at hl 0 rfl) ?_
  refine gR_X0_sites F hK hP hi (fun _ h => List.mem_cons_of_mem _ (List.mem_append_left _ (List.mem_append_right _ h))) (List.mem_of_getElem? (i := 1) rfl) dX0_clearSnow_1 ?_
  refine lv_iload_n F.1 F.2.1 dX0_clearSnow_4 rfl (lv_at hl 1 rfl) ?_
  obtain ⟨hb1, hf⟩ := ifg hf
  refine lA_GA2 F hK hP hi hb1 dX0_clearSnow_5 ?_
  refine gI_X2_snow F hK hP hi (oob_lt hb1) (mu_at _ _ _) (fun _ h => List.mem_cons_of_mem _ (List.mem_append_right _ h)) (List.mem_of_getElem? (i := 2) rfl) dX0_clearSnow_6 ?_
  refine lv_istore_n F.1 F.2.1 dX0_clearSnow_9 rfl hl (Nat.le_of_ble_eq_true rfl) rfl (fun ls hl => ?_)
  have hl : lv_has ls 3 [(2, .int (g (35 * a1.toNatClampNeg + 0))), (0, .ref (x + gb i)), (1, .int a1)] := hl
  refine lv_aload_n F.1 F.2.1 dX0_clearSnow_10 rfl (lv_at hl 1 rfl) ?_
  refine gR_X0_sites F hK hP hi (fun _ h => List.mem_cons_of_mem _ (List.mem_append_left _ (List.mem_append_right _ h))) (List.mem_of_getElem? (i := 1) rfl) dX0_clearSnow_11 ?_
  refine lv_iload_n F.1 F.2.1 dX0_clearSnow_14 rfl (lv_at hl 2 rfl) ?_
  obtain ⟨hb2, hf⟩ := ifg hf
  refine lA_GA2 F hK hP hi hb2 dX0_clearSnow_15 ?_
  refine lv_iconst (v := (0 : Int32)) F.1 F.2.1 dX0_clearSnow_16 (by decide) ?_
  refine pI_X2_snow F hK hi (oob_lt hb2) hP hS (fun _ h => List.mem_cons_of_mem _ (List.mem_append_right _ h)) (List.mem_of_getElem? (i := 2) rfl) dX0_clearSnow_17 (fun H locs hP hS => ?_)
  refine lv_iload_n F.1 F.2.1 dX0_clearSnow_20 rfl (lv_at hl 0 rfl) ?_
  obtain rfl := Option.some.inj hf
  exact x_iret F hr hlk hP hS rfl dX0_clearSnow_21

-- FrostTubes$Ground.freeze(II)V
def fb_X0_freeze_1 (a1 : Int32) (a2 : Int32) (K : Row → Int32 → Option (Row)) (g : Row) (v3 : Int32) : Option (Row) := (if (g 198) ≤ v3 then some g else (if oob v3 8 then none else (if (g (156 + 5 * v3.toNatClampNeg)) = a1 then (if oob v3 8 then none else (if (g (157 + 5 * v3.toNatClampNeg)) = a2 then (if oob v3 8 then none else (if oob v3 8 then none else (if oob v3 8 then none else (if oob v3 8 then none else (if oob v3 8 then none else (if oob v3 8 then none else (if oob v3 8 then none else (K (upd (upd (upd g (158 + 5 * v3.toNatClampNeg) ((g (158 + 5 * v3.toNatClampNeg)) + (g (202 + (2 : Int32).toNatClampNeg)))) (159 + 5 * v3.toNatClampNeg) (if ((upd g (158 + 5 * v3.toNatClampNeg) ((g (158 + 5 * v3.toNatClampNeg)) + (g (202 + (2 : Int32).toNatClampNeg)))) (159 + 5 * v3.toNatClampNeg)) < ((upd g (158 + 5 * v3.toNatClampNeg) ((g (158 + 5 * v3.toNatClampNeg)) + (g (202 + (2 : Int32).toNatClampNeg)))) (158 + 5 * v3.toNatClampNeg)) then ((upd g (158 + 5 * v3.toNatClampNeg) ((g (158 + 5 * v3.toNatClampNeg)) + (g (202 + (2 : Int32).toNatClampNeg)))) (158 + 5 * v3.toNatClampNeg)) else ((upd g (158 + 5 * v3.toNatClampNeg) ((g (158 + 5 * v3.toNatClampNeg)) + (g (202 + (2 : Int32).toNatClampNeg)))) (159 + 5 * v3.toNatClampNeg)))) (160 + 5 * v3.toNatClampNeg) (((upd (upd g (158 + 5 * v3.toNatClampNeg) ((g (158 + 5 * v3.toNatClampNeg)) + (g (202 + (2 : Int32).toNatClampNeg)))) (159 + 5 * v3.toNatClampNeg) (if ((upd g (158 + 5 * v3.toNatClampNeg) ((g (158 + 5 * v3.toNatClampNeg)) + (g (202 + (2 : Int32).toNatClampNeg)))) (159 + 5 * v3.toNatClampNeg)) < ((upd g (158 + 5 * v3.toNatClampNeg) ((g (158 + 5 * v3.toNatClampNeg)) + (g (202 + (2 : Int32).toNatClampNeg)))) (158 + 5 * v3.toNatClampNeg)) then ((upd g (158 + 5 * v3.toNatClampNeg) ((g (158 + 5 * v3.toNatClampNeg)) + (g (202 + (2 : Int32).toNatClampNeg)))) (158 + 5 * v3.toNatClampNeg)) else ((upd g (158 + 5 * v3.toNatClampNeg) ((g (158 + 5 * v3.toNatClampNeg)) + (g (202 + (2 : Int32).toNatClampNeg)))) (159 + 5 * v3.toNatClampNeg)))) (160 + 5 * v3.toNatClampNeg)) + (1 : Int32))) (v3 + (1 : Int32)))))))))) else (K g (v3 + (1 : Int32))))) else (K g (v3 + (1 : Int32))))))
def fl_X0_freeze (a1 : Int32) (a2 : Int32) : Nat → Row → Int32 → Option (Row)
  | 0, _, _ => none
  | n + 1, g, v3 => fb_X0_freeze_1 a1 a2 (fl_X0_freeze a1 a2 n) g v3
def f_X0_freeze (g : Row) (a1 : Int32) (a2 : Int32) : Option (Row) := (if oob a1 4 then none else (if oob a2 30 then none else (fl_X0_freeze a1 a2 FU (upd g (35 * a1.toNatClampNeg + (5 + a2.toNatClampNeg)) (g 199)) (0 : Int32))))
def rmX0_freeze : Room := { frames := 1, cells := 0, slots := 0, locals := 15 }
theorem hd_X0_freeze : yX0_freeze.cls ≠ "java/lang/invoke/MethodHandle" ∧ yX0_freeze.cls ≠ "java/lang/invoke/VarHandle" ∧ (parseMethodDescriptor yX0_freeze.desc).map (fun d => d.parameters.length) = some 2 := by decide +kernel
set_option maxHeartbeats 8000000 in
set_option maxRecDepth 100000 in
theorem c_X0_freeze {l : Launch} {D : va_G} {x : Nat} {μ : Mem} {i : Nat} (hi : i < 19) {g : Row} (a1 : Int32) (a2 : Int32) {r : Row} (hf : f_X0_freeze g a1 a2 = some r) : CX l yX0_freeze wsX0_freeze rmX0_freeze [.ref (x + gb i), .int a1, .int a2] D x (va_up μ i g) (none) (va_up μ i r) := by
  refine CX.of (cc := cX0_freeze) (maxL := 4) (ret := none) pn_X0 rfl (Nat.le_of_ble_eq_true rfl) ?_
  intro p e s m args below meth c F hr hlk hK hG
  have KEY : ∀ n : Nat, (∀ (g : Row) (v3 : Int32) (ls : Array Slot) (H : Heap) (locs : List Loc), lv_has ls 4 [(0, .ref (x + gb i)), (1, .int a1), (2, .int a2), (3, .int v3)] → va_P D vwCl (WL D x (va_up μ i g)) H → va_S (rng x) s.heap H locs → fl_X0_freeze a1 a2 n g v3 = some r → W p l e rmX0_freeze s m args below meth c H locs 0 0 (MQ below (QX D x (va_up μ i r) (none)) args s 0 0 (rng x)) (F0 m 17 ls [])) := by
    intro n
    induction n with
    | zero => exact (fun _ _ _ _ _ _ _ _ h => nomatch h)
    | succ n ih =>
      skip
      intro g v3  ls H locs hl hP hS hf
      have hf : fb_X0_freeze_1 a1 a2 (fl_X0_freeze a1 a2 n) g v3 = some r := hf
      unfold fb_X0_freeze_1 at hf
      refine lv_iload_n F.1 F.2.1 dX0_freeze_17 rfl (lv_at hl 3 rfl) ?_
      refine lv_aload_n F.1 F.2.1 dX0_freeze_18 rfl (lv_at hl 0 rfl) ?_
      refine gI_X0_pipeCount F hK hP hi (mu_at _ _ _) (fun _ h => List.mem_cons_of_mem _ (List.mem_append_left _ (List.mem_append_right _ h))) (List.mem_of_getElem? (i := 4) rfl) dX0_freeze_19 ?_
      refine lv_icmp_ge (tgt := 97) F.1 F.2.1 dX0_freeze_22 rfl (fun hc3 => ?_) (fun hc3 => ?_)
      · have hf := ifp hc3 hf
        obtain rfl := Option.some.inj hf
        exact x_vret F hr hlk hP hS rfl dX0_freeze_97
      · have hf := ifn hc3 hf
        refine lv_aload_n F.1 F.2.1 dX0_freeze_25 rfl (lv_at hl 0 rfl) ?_
        refine gR_X0_pipeSite F hK hP hi (fun _ h => List.mem_cons_of_mem _ (List.mem_append_left _ (List.mem_append_right _ h))) (List.mem_of_getElem? (i := 5) rfl) dX0_freeze_26 ?_
        refine lv_iload_n F.1 F.2.1 dX0_freeze_29 rfl (lv_at hl 3 rfl) ?_
        obtain ⟨hb4, hf⟩ := ifg hf
        refine lA_GA5 F hK hP hi (mu_at _ _ _) hb4 dX0_freeze_30 ?_
        refine lv_iload_n F.1 F.2.1 dX0_freeze_31 rfl (lv_at hl 1 rfl) ?_
        refine lv_icmp_ne (tgt := 91) F.1 F.2.1 dX0_freeze_32 rfl (fun hc5 => ?_) (fun hc5 => ?_)
        · have hf := ifn hc5 hf
          refine lv_iinc (v := (v3 + (1 : Int32))) F.1 F.2.1 dX0_freeze_91 hl (k := 3) rfl rfl (Nat.le_of_ble_eq_true rfl) rfl (fun ls hl => ?_)
          have hl : lv_has ls 4 [(3, .int (v3 + (1 : Int32))), (0, .ref (x + gb i)), (1, .int a1), (2, .int a2)] := hl
          refine lv_goto (tgt := 17) F.1 F.2.1 dX0_freeze_94 rfl ?_
          exact ih g (v3 + (1 : Int32)) _ _ _ (lv_sub hl [1, 2, 3, 0] rfl) hP hS hf
        · have hf := ifp hc5 hf
          refine lv_aload_n F.1 F.2.1 dX0_freeze_35 rfl (lv_at hl 0 rfl) ?_
          refine gR_X0_pipeCell F hK hP hi (fun _ h => List.mem_cons_of_mem _ (List.mem_append_left _ (List.mem_append_right _ h))) (List.mem_of_getElem? (i := 6) rfl) dX0_freeze_36 ?_
          refine lv_iload_n F.1 F.2.1 dX0_freeze_39 rfl (lv_at hl 3 rfl) ?_
          obtain ⟨hb6, hf⟩ := ifg hf
          refine lA_GA6 F hK hP hi (mu_at _ _ _) hb6 dX0_freeze_40 ?_
          refine lv_iload_n F.1 F.2.1 dX0_freeze_41 rfl (lv_at hl 2 rfl) ?_
          refine lv_icmp_ne (tgt := 91) F.1 F.2.1 dX0_freeze_42 rfl (fun hc7 => ?_) (fun hc7 => ?_)
          · have hf := ifn hc7 hf
            refine lv_iinc (v := (v3 + (1 : Int32))) F.1 F.2.1 dX0_freeze_91 hl (k := 3) rfl rfl (Nat.le_of_ble_eq_true rfl) rfl (fun ls hl => ?_)
            have hl : lv_has ls 4 [(3, .int (v3 + (1 : Int32))), (0, .ref (x + gb i)), (1, .int a1), (2, .int a2)] := hl
            refine lv_goto (tgt := 17) F.1 F.2.1 dX0_freeze_94 rfl ?_
            exact ih g (v3 + (1 : Int32)) _ _ _ (lv_sub hl [1, 2, 3, 0] rfl) hP hS hf
          · have hf := ifp hc7 hf
            refine lv_aload_n F.1 F.2.1 dX0_freeze_45 rfl (lv_at hl 0 rfl) ?_
            refine gR_X0_pipeHeave F hK hP hi (fun _ h => List.mem_cons_of_mem _ (List.mem_append_left _ (List.mem_append_right _ h))) (List.mem_of_getElem? (i := 7) rfl) dX0_freeze_46 ?_
            refine lv_iload_n F.1 F.2.1 dX0_freeze_49 rfl (lv_at hl 3 rfl) ?_
            refine lv_dup2_11 F.1 F.2.1 dX0_freeze_50 rfl rfl ?_
            obtain ⟨hb8, hf⟩ := ifg hf
            refine lA_GA7 F hK hP hi (mu_at _ _ _) hb8 dX0_freeze_51 ?_
            refine lv_aload_n F.1 F.2.1 dX0_freeze_52 rfl (lv_at hl 0 rfl) ?_
            refine gR_X0_settings F hK hP hi (fun _ h => List.mem_cons_of_mem _ (List.mem_append_left _ (List.mem_append_right _ h))) (List.mem_of_getElem? (i := 8) rfl) dX0_freeze_53 ?_
            refine lv_iconst (v := (2 : Int32)) F.1 F.2.1 dX0_freeze_56 (by decide) ?_
            refine lA_GA1 F hK hP hi (mu_at _ _ _) (by decide) dX0_freeze_57 ?_
            refine lv_iadd F.1 F.2.1 dX0_freeze_58 ?_
            obtain ⟨hb9, hf⟩ := ifg hf
            refine sA_GA7 F hK hi hP hS hb9 dX0_freeze_59 (fun H locs hP hS => ?_)
            refine lv_aload_n F.1 F.2.1 dX0_freeze_60 rfl (lv_at hl 0 rfl) ?_
            refine gR_X0_pipeGreatest F hK hP hi (fun _ h => List.mem_cons_of_mem _ (List.mem_append_left _ (List.mem_append_right _ h))) (List.mem_of_getElem? (i := 9) rfl) dX0_freeze_61 ?_
            refine lv_iload_n F.1 F.2.1 dX0_freeze_64 rfl (lv_at hl 3 rfl) ?_
            refine lv_aload_n F.1 F.2.1 dX0_freeze_65 rfl (lv_at hl 0 rfl) ?_
            refine gR_X0_pipeGreatest F hK hP hi (fun _ h => List.mem_cons_of_mem _ (List.mem_append_left _ (List.mem_append_right _ h))) (List.mem_of_getElem? (i := 9) rfl) dX0_freeze_66 ?_
            refine lv_iload_n F.1 F.2.1 dX0_freeze_69 rfl (lv_at hl 3 rfl) ?_
            obtain ⟨hb10, hf⟩ := ifg hf
            refine lA_GA8 F hK hP hi (mu_at _ _ _) hb10 dX0_freeze_70 ?_
            refine lv_aload_n F.1 F.2.1 dX0_freeze_71 rfl (lv_at hl 0 rfl) ?_
            refine gR_X0_pipeHeave F hK hP hi (fun _ h => List.mem_cons_of_mem _ (List.mem_append_left _ (List.mem_append_right _ h))) (List.mem_of_getElem? (i := 7) rfl) dX0_freeze_72 ?_
            refine lv_iload_n F.1 F.2.1 dX0_freeze_75 rfl (lv_at hl 3 rfl) ?_
            obtain ⟨hb11, hf⟩ := ifg hf
            refine lA_GA7 F hK hP hi (mu_at _ _ _) hb11 dX0_freeze_76 ?_
            refine va_mmax F.1 F.2.1 (F.2.2.1.trans hl.1.symm) F.2.2.2.1 (F.2.2.2.2 _ (List.mem_of_getElem? (i := 10) rfl)) (F.2.2.2.2 _ (List.mem_of_getElem? (i := 11) rfl)) (F.2.2.2.2 _ (List.mem_of_getElem? (i := 12) rfl)) (F.2.2.2.2 _ (List.mem_of_getElem? (i := 13) rfl)) (Nat.le_of_ble_eq_true rfl) (Nat.le_of_ble_eq_true rfl) (Nat.le_of_ble_eq_true rfl) (Nat.le_of_ble_eq_true rfl) dX0_freeze_77 ?_
            obtain ⟨hb12, hf⟩ := ifg hf
            refine sA_GA8 F hK hi hP hS hb12 dX0_freeze_80 (fun H locs hP hS => ?_)
            refine lv_aload_n F.1 F.2.1 dX0_freeze_81 rfl (lv_at hl 0 rfl) ?_
            refine gR_X0_pipeTimes F hK hP hi (fun _ h => List.mem_cons_of_mem _ (List.mem_append_left _ (List.mem_append_right _ h))) (List.mem_of_getElem? (i := 14) rfl) dX0_freeze_82 ?_
            refine lv_iload_n F.1 F.2.1 dX0_freeze_85 rfl (lv_at hl 3 rfl) ?_
            refine lv_dup2_11 F.1 F.2.1 dX0_freeze_86 rfl rfl ?_
            obtain ⟨hb13, hf⟩ := ifg hf
            refine lA_GA9 F hK hP hi (mu_at _ _ _) hb13 dX0_freeze_87 ?_
            refine lv_iconst (v := (1 : Int32)) F.1 F.2.1 dX0_freeze_88 (by decide) ?_
            refine lv_iadd F.1 F.2.1 dX0_freeze_89 ?_
            obtain ⟨hb14, hf⟩ := ifg hf
            refine sA_GA9 F hK hi hP hS hb14 dX0_freeze_90 (fun H locs hP hS => ?_)
            refine lv_iinc (v := (v3 + (1 : Int32))) F.1 F.2.1 dX0_freeze_91 hl (k := 3) rfl rfl (Nat.le_of_ble_eq_true rfl) rfl (fun ls hl => ?_)
            have hl : lv_has ls 4 [(3, .int (v3 + (1 : Int32))), (0, .ref (x + gb i)), (1, .int a1), (2, .int a2)] := hl
            refine lv_goto (tgt := 17) F.1 F.2.1 dX0_freeze_94 rfl ?_
            exact ih (upd (upd (upd g (158 + 5 * v3.toNatClampNeg) ((g (158 + 5 * v3.toNatClampNeg)) + (g (202 + (2 : Int32).toNatClampNeg)))) (159 + 5 * v3.toNatClampNeg) (if ((upd g (158 + 5 * v3.toNatClampNeg) ((g (158 + 5 * v3.toNatClampNeg)) + (g (202 + (2 : Int32).toNatClampNeg)))) (159 + 5 * v3.toNatClampNeg)) < ((upd g (158 + 5 * v3.toNatClampNeg) ((g (158 + 5 * v3.toNatClampNeg)) + (g (202 + (2 : Int32).toNatClampNeg)))) (158 + 5 * v3.toNatClampNeg)) then ((upd g (158 + 5 * v3.toNatClampNeg) ((g (158 + 5 * v3.toNatClampNeg)) + (g (202 + (2 : Int32).toNatClampNeg)))) (158 + 5 * v3.toNatClampNeg)) else ((upd g (158 + 5 * v3.toNatClampNeg) ((g (158 + 5 * v3.toNatClampNeg)) + (g (202 + (2 : Int32).toNatClampNeg)))) (159 + 5 * v3.toNatClampNeg)))) (160 + 5 * v3.toNatClampNeg) (((upd (upd g (158 + 5 * v3.toNatClampNeg) ((g (158 + 5 * v3.toNatClampNeg)) + (g (202 + (2 : Int32).toNatClampNeg)))) (159 + 5 * v3.toNatClampNeg) (if ((upd g (158 + 5 * v3.toNatClampNeg) ((g (158 + 5 * v3.toNatClampNeg)) + (g (202 + (2 : Int32).toNatClampNeg)))) (159 + 5 * v3.toNatClampNeg)) < ((upd g (158 + 5 * v3.toNatClampNeg) ((g (158 + 5 * v3.toNatClampNeg)) + (g (202 + (2 : Int32).toNatClampNeg)))) (158 + 5 * v3.toNatClampNeg)) then ((upd g (158 + 5 * v3.toNatClampNeg) ((g (158 + 5 * v3.toNatClampNeg)) + (g (202 + (2 : Int32).toNatClampNeg)))) (158 + 5 * v3.toNatClampNeg)) else ((upd g (158 + 5 * v3.toNatClampNeg) ((g (158 + 5 * v3.toNatClampNeg)) + (g (202 + (2 : Int32).toNatClampNeg)))) (159 + 5 * v3.toNatClampNeg)))) (160 + 5 * v3.toNatClampNeg)) + (1 : Int32))) (v3 + (1 : Int32)) _ _ _ (lv_sub hl [1, 2, 3, 0] rfl) hP hS hf
  intro ls H locs hl hP hS
  have hl : lv_has ls 4 [(0, .ref (x + gb i)), (1, .int a1), (2, .int a2)] := hl
  unfold f_X0_freeze at hf
  refine lv_aload_n F.1 F.2.1 dX0_freeze_0 rfl (lv_at hl 0 rfl) ?_
  refine gR_X0_sites F hK hP hi (fun _ h => List.mem_cons_of_mem _ (List.mem_append_left _ (List.mem_append_right _ h))) (List.mem_of_getElem? (i := 1) rfl) dX0_freeze_1 ?_
  refine lv_iload_n F.1 F.2.1 dX0_freeze_4 rfl (lv_at hl 1 rfl) ?_
  obtain ⟨hb1, hf⟩ := ifg hf
  refine lA_GA2 F hK hP hi hb1 dX0_freeze_5 ?_
  refine gR_X2_frozenSince F hK hP hi (oob_lt hb1) (fun _ h => List.mem_cons_of_mem _ (List.mem_append_right _ h)) (List.mem_of_getElem? (i := 2) rfl) dX0_freeze_6 ?_
  refine lv_iload_n F.1 F.2.1 dX0_freeze_9 rfl (lv_at hl 2 rfl) ?_
  refine lv_aload_n F.1 F.2.1 dX0_freeze_10 rfl (lv_at hl 0 rfl) ?_
  refine gI_X0_dayCount F hK hP hi (mu_at _ _ _) (fun _ h => List.mem_cons_of_mem _ (List.mem_append_left _ (List.mem_append_right _ h))) (List.mem_of_getElem? (i := 3) rfl) dX0_freeze_11 ?_
  obtain ⟨hb2, hf⟩ := ifg hf
  refine sA_SA F hK hi (oob_lt hb1) hP hS hb2 dX0_freeze_14 (fun H locs hP hS => ?_)
  refine lv_iconst (v := (0 : Int32)) F.1 F.2.1 dX0_freeze_15 (by decide) ?_
  refine lv_istore_n F.1 F.2.1 dX0_freeze_16 rfl hl (Nat.le_of_ble_eq_true rfl) rfl (fun ls hl => ?_)
  have hl : lv_has ls 4 [(3, .int (0 : Int32)), (0, .ref (x + gb i)), (1, .int a1), (2, .int a2)] := hl
  exact (KEY FU) (upd g (35 * a1.toNatClampNeg + (5 + a2.toNatClampNeg)) (g 199)) (0 : Int32) _ _ _ (lv_sub hl [1, 2, 3, 0] rfl) hP hS hf

-- FrostTubes$Ground.thaw(II)V
def fb_X0_thaw_1 (a1 : Int32) (a2 : Int32) (K : Row → Int32 → Option (Row)) (g : Row) (v3 : Int32) : Option (Row) := (if (g 198) ≤ v3 then some g else (if oob v3 8 then none else (if (g (156 + 5 * v3.toNatClampNeg)) = a1 then (if oob v3 8 then none else (if (g (157 + 5 * v3.toNatClampNeg)) = a2 then (if oob v3 8 then none else (if oob v3 8 then none else (if oob v3 8 then none else (K (upd g (158 + 5 * v3.toNatClampNeg) ((g (158 + 5 * v3.toNatClampNeg)) - ((g (158 + 5 * v3.toNatClampNeg)) / (2 : Int32)))) (v3 + (1 : Int32)))))) else (K g (v3 + (1 : Int32))))) else (K g (v3 + (1 : Int32))))))
def fl_X0_thaw (a1 : Int32) (a2 : Int32) : Nat → Row → Int32 → Option (Row)
  | 0, _, _ => none
  | n + 1, g, v3 => fb_X0_thaw_1 a1 a2 (fl_X0_thaw a1 a2 n) g v3
def f_X0_thaw (g : Row) (a1 : Int32) (a2 : Int32) : Option (Row) := (if oob a1 4 then none else (if oob a2 30 then none else (fl_X0_thaw a1 a2 FU (upd g (35 * a1.toNatClampNeg + (5 + a2.toNatClampNeg)) (-1 : Int32)) (0 : Int32))))
def rmX0_thaw : Room := { frames := 0, cells := 0, slots := 0, locals := 0 }
theorem hd_X0_thaw : yX0_thaw.cls ≠ "java/lang/invoke/MethodHandle" ∧ yX0_thaw.cls ≠ "java/lang/invoke/VarHandle" ∧ (parseMethodDescriptor yX0_thaw.desc).map (fun d => d.parameters.length) = some 2 := by decide +kernel
set_option maxHeartbeats 8000000 in
set_option maxRecDepth 100000 in
theorem c_X0_thaw {l : Launch} {D : va_G} {x : Nat} {μ : Mem} {i : Nat} (hi : i < 19) {g : Row} (a1 : Int32) (a2 : Int32) {r : Row} (hf : f_X0_thaw g a1 a2 = some r) : CX l yX0_thaw wsX0_thaw rmX0_thaw [.ref (x + gb i), .int a1, .int a2] D x (va_up μ i g) (none) (va_up μ i r) := by
  refine CX.of (cc := cX0_thaw) (maxL := 4) (ret := none) pn_X0 rfl (Nat.le_of_ble_eq_true rfl) ?_
  intro p e s m args below meth c F hr hlk hK hG
  have KEY : ∀ n : Nat, (∀ (g : Row) (v3 : Int32) (ls : Array Slot) (H : Heap) (locs : List Loc), lv_has ls 4 [(0, .ref (x + gb i)), (1, .int a1), (2, .int a2), (3, .int v3)] → va_P D vwCl (WL D x (va_up μ i g)) H → va_S (rng x) s.heap H locs → fl_X0_thaw a1 a2 n g v3 = some r → W p l e rmX0_thaw s m args below meth c H locs 0 0 (MQ below (QX D x (va_up μ i r) (none)) args s 0 0 (rng x)) (F0 m 14 ls [])) := by
    intro n
    induction n with
    | zero => exact (fun _ _ _ _ _ _ _ _ h => nomatch h)
    | succ n ih =>
      skip
      intro g v3  ls H locs hl hP hS hf
      have hf : fb_X0_thaw_1 a1 a2 (fl_X0_thaw a1 a2 n) g v3 = some r := hf
      unfold fb_X0_thaw_1 at hf
      refine lv_iload_n F.1 F.2.1 dX0_thaw_14 rfl (lv_at hl 3 rfl) ?_
      refine lv_aload_n F.1 F.2.1 dX0_thaw_15 rfl (lv_at hl 0 rfl) ?_
      refine gI_X0_pipeCount F hK hP hi (mu_at _ _ _) (fun _ h => List.mem_cons_of_mem _ (List.mem_append_left _ (List.mem_append_right _ h))) (List.mem_of_getElem? (i := 3) rfl) dX0_thaw_16 ?_
      refine lv_icmp_ge (tgt := 65) F.1 F.2.1 dX0_thaw_19 rfl (fun hc3 => ?_) (fun hc3 => ?_)
      · have hf := ifp hc3 hf
        obtain rfl := Option.some.inj hf
        exact x_vret F hr hlk hP hS rfl dX0_thaw_65
      · have hf := ifn hc3 hf
        refine lv_aload_n F.1 F.2.1 dX0_thaw_22 rfl (lv_at hl 0 rfl) ?_
        refine gR_X0_pipeSite F hK hP hi (fun _ h => List.mem_cons_of_mem _ (List.mem_append_left _ (List.mem_append_right _ h))) (List.mem_of_getElem? (i := 4) rfl) dX0_thaw_23 ?_
        refine lv_iload_n F.1 F.2.1 dX0_thaw_26 rfl (lv_at hl 3 rfl) ?_
        obtain ⟨hb4, hf⟩ := ifg hf
        refine lA_GA5 F hK hP hi (mu_at _ _ _) hb4 dX0_thaw_27 ?_
        refine lv_iload_n F.1 F.2.1 dX0_thaw_28 rfl (lv_at hl 1 rfl) ?_
        refine lv_icmp_ne (tgt := 59) F.1 F.2.1 dX0_thaw_29 rfl (fun hc5 => ?_) (fun hc5 => ?_)
        · have hf := ifn hc5 hf
          refine lv_iinc (v := (v3 + (1 : Int32))) F.1 F.2.1 dX0_thaw_59 hl (k := 3) rfl rfl (Nat.le_of_ble_eq_true rfl) rfl (fun ls hl => ?_)
          have hl : lv_has ls 4 [(3, .int (v3 + (1 : Int32))), (0, .ref (x + gb i)), (1, .int a1), (2, .int a2)] := hl
          refine lv_goto (tgt := 14) F.1 F.2.1 dX0_thaw_62 rfl ?_
          exact ih g (v3 + (1 : Int32)) _ _ _ (lv_sub hl [1, 2, 3, 0] rfl) hP hS hf
        · have hf := ifp hc5 hf
          refine lv_aload_n F.1 F.2.1 dX0_thaw_32 rfl (lv_at hl 0 rfl) ?_
          refine gR_X0_pipeCell F hK hP hi (fun _ h => List.mem_cons_of_mem _ (List.mem_append_left _ (List.mem_append_right _ h))) (List.mem_of_getElem? (i := 5) rfl) dX0_thaw_33 ?_
          refine lv_iload_n F.1 F.2.1 dX0_thaw_36 rfl (lv_at hl 3 rfl) ?_
          obtain ⟨hb6, hf⟩ := ifg hf
          refine lA_GA6 F hK hP hi (mu_at _ _ _) hb6 dX0_thaw_37 ?_
          refine lv_iload_n F.1 F.2.1 dX0_thaw_38 rfl (lv_at hl 2 rfl) ?_
          refine lv_icmp_ne (tgt := 59) F.1 F.2.1 dX0_thaw_39 rfl (fun hc7 => ?_) (fun hc7 => ?_)
          · have hf := ifn hc7 hf
            refine lv_iinc (v := (v3 + (1 : Int32))) F.1 F.2.1 dX0_thaw_59 hl (k := 3) rfl rfl (Nat.le_of_ble_eq_true rfl) rfl (fun ls hl => ?_)
            have hl : lv_has ls 4 [(3, .int (v3 + (1 : Int32))), (0, .ref (x + gb i)), (1, .int a1), (2, .int a2)] := hl
            refine lv_goto (tgt := 14) F.1 F.2.1 dX0_thaw_62 rfl ?_
            exact ih g (v3 + (1 : Int32)) _ _ _ (lv_sub hl [1, 2, 3, 0] rfl) hP hS hf
          · have hf := ifp hc7 hf
            refine lv_aload_n F.1 F.2.1 dX0_thaw_42 rfl (lv_at hl 0 rfl) ?_
            refine gR_X0_pipeHeave F hK hP hi (fun _ h => List.mem_cons_of_mem _ (List.mem_append_left _ (List.mem_append_right _ h))) (List.mem_of_getElem? (i := 6) rfl) dX0_thaw_43 ?_
            refine lv_iload_n F.1 F.2.1 dX0_thaw_46 rfl (lv_at hl 3 rfl) ?_
            refine lv_dup2_11 F.1 F.2.1 dX0_thaw_47 rfl rfl ?_
            obtain ⟨hb8, hf⟩ := ifg hf
            refine lA_GA7 F hK hP hi (mu_at _ _ _) hb8 dX0_thaw_48 ?_
            refine lv_aload_n F.1 F.2.1 dX0_thaw_49 rfl (lv_at hl 0 rfl) ?_
            refine gR_X0_pipeHeave F hK hP hi (fun _ h => List.mem_cons_of_mem _ (List.mem_append_left _ (List.mem_append_right _ h))) (List.mem_of_getElem? (i := 6) rfl) dX0_thaw_50 ?_
            refine lv_iload_n F.1 F.2.1 dX0_thaw_53 rfl (lv_at hl 3 rfl) ?_
            obtain ⟨hb9, hf⟩ := ifg hf
            refine lA_GA7 F hK hP hi (mu_at _ _ _) hb9 dX0_thaw_54 ?_
            refine lv_iconst (v := (2 : Int32)) F.1 F.2.1 dX0_thaw_55 (by decide) ?_
            refine lv_idiv F.1 F.2.1 dX0_thaw_56 (by decide) ?_
            refine lv_isub F.1 F.2.1 dX0_thaw_57 ?_
            obtain ⟨hb10, hf⟩ := ifg hf
            refine sA_GA7 F hK hi hP hS hb10 dX0_thaw_58 (fun H locs hP hS => ?_)
            refine lv_iinc (v := (v3 + (1 : Int32))) F.1 F.2.1 dX0_thaw_59 hl (k := 3) rfl rfl (Nat.le_of_ble_eq_true rfl) rfl (fun ls hl => ?_)
            have hl : lv_has ls 4 [(3, .int (v3 + (1 : Int32))), (0, .ref (x + gb i)), (1, .int a1), (2, .int a2)] := hl
            refine lv_goto (tgt := 14) F.1 F.2.1 dX0_thaw_62 rfl ?_
            exact ih (upd g (158 + 5 * v3.toNatClampNeg) ((g (158 + 5 * v3.toNatClampNeg)) - ((g (158 + 5 * v3.toNatClampNeg)) / (2 : Int32)))) (v3 + (1 : Int32)) _ _ _ (lv_sub hl [1, 2, 3, 0] rfl) hP hS hf
  intro ls H locs hl hP hS
  have hl : lv_has ls 4 [(0, .ref (x + gb i)), (1, .int a1), (2, .int a2)] := hl
  unfold f_X0_thaw at hf
  refine lv_aload_n F.1 F.2.1 dX0_thaw_0 rfl (lv_at hl 0 rfl) ?_
  refine gR_X0_sites F hK hP hi (fun _ h => List.mem_cons_of_mem _ (List.mem_append_left _ (List.mem_append_right _ h))) (List.mem_of_getElem? (i := 1) rfl) dX0_thaw_1 ?_
  refine lv_iload_n F.1 F.2.1 dX0_thaw_4 rfl (lv_at hl 1 rfl) ?_
  obtain ⟨hb1, hf⟩ := ifg hf
  refine lA_GA2 F hK hP hi hb1 dX0_thaw_5 ?_
  refine gR_X2_frozenSince F hK hP hi (oob_lt hb1) (fun _ h => List.mem_cons_of_mem _ (List.mem_append_right _ h)) (List.mem_of_getElem? (i := 2) rfl) dX0_thaw_6 ?_
  refine lv_iload_n F.1 F.2.1 dX0_thaw_9 rfl (lv_at hl 2 rfl) ?_
  refine lv_iconst (v := (-1 : Int32)) F.1 F.2.1 dX0_thaw_10 (by decide) ?_
  obtain ⟨hb2, hf⟩ := ifg hf
  refine sA_SA F hK hi (oob_lt hb1) hP hS hb2 dX0_thaw_11 (fun H locs hP hS => ?_)
  refine lv_iconst (v := (0 : Int32)) F.1 F.2.1 dX0_thaw_12 (by decide) ?_
  refine lv_istore_n F.1 F.2.1 dX0_thaw_13 rfl hl (Nat.le_of_ble_eq_true rfl) rfl (fun ls hl => ?_)
  have hl : lv_has ls 4 [(3, .int (0 : Int32)), (0, .ref (x + gb i)), (1, .int a1), (2, .int a2)] := hl
  exact (KEY FU) (upd g (35 * a1.toNatClampNeg + (5 + a2.toNatClampNeg)) (-1 : Int32)) (0 : Int32) _ _ _ (lv_sub hl [1, 2, 3, 0] rfl) hP hS hf

-- FrostTubes$Ground.passDay(III)V
def fb_X0_passDay_1 (a1 : Int32) (a2 : Int32) (a3 : Int32) (K : Nat → Row → Int32 → Option (Row)) (g : Row) (v5 : Int32) : Option (Row) := (if (30 : Int32) ≤ v5 then (K 2 g (0 : Int32)) else (if (g (35 * a1.toNatClampNeg + 2)) < ((4 : Int32) + v5) then (K 2 g (0 : Int32)) else ((f_X2_isFrozen g a1.toNatClampNeg v5).bind fun r8 => (if r8 = 0 then ((f_X0_freeze (upd g (35 * a1.toNatClampNeg + 2) ((g (35 * a1.toNatClampNeg + 2)) - ((4 : Int32) + v5))) a1 v5).bind fun r11 => (K 1 r11 (v5 + (1 : Int32)))) else (K 1 g (v5 + (1 : Int32)))))))
def fb_X0_passDay_2 (a1 : Int32) (a2 : Int32) (a3 : Int32) (K : Nat → Row → Int32 → Option (Row)) (g : Row) (v5 : Int32) : Option (Row) := (if (30 : Int32) ≤ v5 then (K 3 g 0) else (if (g (35 * a1.toNatClampNeg + 3)) < ((3 : Int32) + v5) then (K 3 g 0) else ((f_X2_isFrozen g a1.toNatClampNeg v5).bind fun r15 => (if r15 = 0 then (K 2 g (v5 + (1 : Int32))) else ((f_X0_thaw (upd g (35 * a1.toNatClampNeg + 3) ((g (35 * a1.toNatClampNeg + 3)) - ((3 : Int32) + v5))) a1 v5).bind fun r18 => (K 2 r18 (v5 + (1 : Int32))))))))
def fb_X0_passDay_3 (a1 : Int32) (a2 : Int32) (a3 : Int32) (K : Nat → Row → Int32 → Option (Row)) (g : Row) (v5 : Int32) : Option (Row) := ((f_X2_lowestWithin g a1.toNatClampNeg (30 : Int32)).bind fun r20 => (if (g (202 + (0 : Int32).toNatClampNeg)) ≤ 0 then some g else (if (g (202 + (0 : Int32).toNatClampNeg)) = 0 then none else (if ((g 199) - ((g 199) / (g (202 + (0 : Int32).toNatClampNeg))) * (g (202 + (0 : Int32).toNatClampNeg))) = 0 then (if r20 = (-1 : Int32) then some g else ((f_X0_thaw g a1 r20).bind fun r26 => some r26)) else some g))))
def fl_X0_passDay (a1 : Int32) (a2 : Int32) (a3 : Int32) : Nat → Nat → Row → Int32 → Option (Row)
  | 0, _, _, _ => none
  | n + 1, lab, g, v5 => match lab with
    | 1 => fb_X0_passDay_1 a1 a2 a3 (fl_X0_passDay a1 a2 a3 n) g v5
    | 2 => fb_X0_passDay_2 a1 a2 a3 (fl_X0_passDay a1 a2 a3 n) g v5
    | _ => fb_X0_passDay_3 a1 a2 a3 (fl_X0_passDay a1 a2 a3 n) g v5
def f_X0_passDay (g : Row) (a1 : Int32) (a2 : Int32) (a3 : Int32) : Option (Row) := (if oob a1 4 then none else ((f_X2_takeSnow g a1.toNatClampNeg a3).bind fun r2 => ((f_X2_takeTemperature r2 a1.toNatClampNeg a2 (r2 (202 + (1 : Int32).toNatClampNeg))).bind fun r4 => (fl_X0_passDay a1 a2 a3 FU 1 r4 (0 : Int32)))))
def rmX0_passDay : Room := { frames := 2, cells := 0, slots := 0, locals := 44 }
theorem hd_X0_passDay : yX0_passDay.cls ≠ "java/lang/invoke/MethodHandle" ∧ yX0_passDay.cls ≠ "java/lang/invoke/VarHandle" ∧ (parseMethodDescriptor yX0_passDay.desc).map (fun d => d.parameters.length) = some 3 := by decide +kernel
set_option maxHeartbeats 8000000 in
set_option maxRecDepth 100000 in
theorem c_X0_passDay {l : Launch} {D : va_G} {x : Nat} {μ : Mem} {i : Nat} (hi : i < 19) {g : Row} (a1 : Int32) (a2 : Int32) (a3 : Int32) {r : Row} (hf : f_X0_passDay g a1 a2 a3 = some r) : CX l yX0_passDay wsX0_passDay rmX0_passDay [.ref (x + gb i), .int a1, .int a2, .int a3] D x (va_up μ i g) (none) (va_up μ i r) := by
  refine CX.of (cc := cX0_passDay) (maxL := 7) (ret := none) pn_X0 rfl (Nat.le_of_ble_eq_true rfl) ?_
  intro p e s m args below meth c F hr hlk hK hG
  have KEY : ∀ n : Nat, (∀ (g : Row) (v5 : Int32) (hy0 : a1.toNatClampNeg < 4) (ls : Array Slot) (H : Heap) (locs : List Loc), lv_has ls 7 [(0, .ref (x + gb i)), (1, .int a1), (4, .ref (x + sb i a1.toNatClampNeg)), (5, .int v5)] → va_P D vwCl (WL D x (va_up μ i g)) H → va_S (rng x) s.heap H locs → fl_X0_passDay a1 a2 a3 n 1 g v5 = some r → W p l e rmX0_passDay s m args below meth c H locs 0 0 (MQ below (QX D x (va_up μ i r) (none)) args s 0 0 (rng x)) (F0 m 29 ls [])) ∧ (∀ (g : Row) (v5 : Int32) (hy0 : a1.toNatClampNeg < 4) (ls : Array Slot) (H : Heap) (locs : List Loc), lv_has ls 7 [(0, .ref (x + gb i)), (1, .int a1), (4, .ref (x + sb i a1.toNatClampNeg)), (5, .int v5)] → va_P D vwCl (WL D x (va_up μ i g)) H → va_S (rng x) s.heap H locs → fl_X0_passDay a1 a2 a3 n 2 g v5 = some r → W p l e rmX0_passDay s m args below meth c H locs 0 0 (MQ below (QX D x (va_up μ i r) (none)) args s 0 0 (rng x)) (F0 m 88 ls [])) ∧ (∀ (g : Row) (hy0 : a1.toNatClampNeg < 4) (ls : Array Slot) (H : Heap) (locs : List Loc), lv_has ls 7 [(0, .ref (x + gb i)), (1, .int a1), (4, .ref (x + sb i a1.toNatClampNeg))] → va_P D vwCl (WL D x (va_up μ i g)) H → va_S (rng x) s.heap H locs → fl_X0_passDay a1 a2 a3 n 3 g 0 = some r → W p l e rmX0_passDay s m args below meth c H locs 0 0 (MQ below (QX D x (va_up μ i r) (none)) args s 0 0 (rng x)) (F0 m 144 ls [])) := by
    intro n
    induction n with
    | zero => exact ⟨(fun _ _ _ _ _ _ _ _ _ h => nomatch h), (fun _ _ _ _ _ _ _ _ _ h => nomatch h), (fun _ _ _ _ _ _ _ _ h => nomatch h)⟩
    | succ n ih =>
      refine ⟨?_, ?_, ?_⟩
      · intro g v5 hy0  ls H locs hl hP hS hf
        have hf : fb_X0_passDay_1 a1 a2 a3 (fl_X0_passDay a1 a2 a3 n) g v5 = some r := hf
        unfold fb_X0_passDay_1 at hf
        refine lv_iload F.1 F.2.1 dX0_passDay_29 (lv_at hl 3 rfl) ?_
        refine lv_bipush (v := (30 : Int32)) F.1 F.2.1 dX0_passDay_31 (by decide) ?_
        refine lv_icmp_ge (tgt := 85) F.1 F.2.1 dX0_passDay_33 rfl (fun hc6 => ?_) (fun hc6 => ?_)
        · have hf := ifp hc6 hf
          refine lv_iconst (v := (0 : Int32)) F.1 F.2.1 dX0_passDay_85 (by decide) ?_
          refine lv_istore F.1 F.2.1 dX0_passDay_86 hl (Nat.le_of_ble_eq_true rfl) rfl (fun ls hl => ?_)
          have hl : lv_has ls 7 [(5, .int (0 : Int32)), (0, .ref (x + gb i)), (1, .int a1), (4, .ref (x + sb i a1.toNatClampNeg))] := hl
          exact ih.2.1 g (0 : Int32) hy0 _ _ _ (lv_sub hl [1, 2, 3, 0] rfl) hP hS hf
        · have hf := ifn hc6 hf
          refine lv_aload F.1 F.2.1 dX0_passDay_36 (lv_at hl 2 rfl) ?_
          refine gI_X2_cold F hK hP hi hy0 (mu_at _ _ _) (fun _ h => List.mem_cons_of_mem _ (List.mem_append_right _ h)) (List.mem_of_getElem? (i := 3) rfl) dX0_passDay_38 ?_
          refine lv_iconst (v := (4 : Int32)) F.1 F.2.1 dX0_passDay_41 (by decide) ?_
          refine lv_iload F.1 F.2.1 dX0_passDay_42 (lv_at hl 3 rfl) ?_
          refine lv_iadd F.1 F.2.1 dX0_passDay_44 ?_
          refine lv_icmp_lt (tgt := 85) F.1 F.2.1 dX0_passDay_45 rfl (fun hc7 => ?_) (fun hc7 => ?_)
          · have hf := ifp hc7 hf
            refine lv_iconst (v := (0 : Int32)) F.1 F.2.1 dX0_passDay_85 (by decide) ?_
            refine lv_istore F.1 F.2.1 dX0_passDay_86 hl (Nat.le_of_ble_eq_true rfl) rfl (fun ls hl => ?_)
            have hl : lv_has ls 7 [(5, .int (0 : Int32)), (0, .ref (x + gb i)), (1, .int a1), (4, .ref (x + sb i a1.toNatClampNeg))] := hl
            exact ih.2.1 g (0 : Int32) hy0 _ _ _ (lv_sub hl [1, 2, 3, 0] rfl) hP hS hf
          · have hf := ifn hc7 hf
            refine lv_aload F.1 F.2.1 dX0_passDay_48 (lv_at hl 2 rfl) ?_
            refine lv_iload F.1 F.2.1 dX0_passDay_50 (lv_at hl 3 rfl) ?_
            obtain ⟨r8, hr9, hf⟩ := bnd hf
            refine x_callV F hK hG hP hS (o_S hi hy0) (kd_S i hi a1.toNatClampNeg hy0) (ci := 2) (fun _ => rfl) rfl (c_X2_isFrozen hi hy0 (mu_at _ _ _) v5 hr9) (cwV 1 F.2.2.2.2 gX0_passDay_X2_isFrozen rfl rfl rfl ⟨rfl, hd_X2_isFrozen⟩ ⟨(Nat.le_of_ble_eq_true rfl), (Nat.le_of_ble_eq_true rfl)⟩) rfl rfl hl.1 (Nat.le_of_ble_eq_true rfl) dX0_passDay_52 ⟨(Nat.le_of_ble_eq_true rfl), (Nat.le_of_ble_eq_true rfl)⟩ (rest := []) (fun H locs hP hS => ?_)
            refine W.eq (g2 := F0 m 55 ls [.int r8]) rfl ?_
            refine lv_if_ne (tgt := 79) F.1 F.2.1 dX0_passDay_55 rfl (fun hc10 => ?_) (fun hc10 => ?_)
            · have hf := ifn hc10 hf
              refine lv_iinc (v := (v5 + (1 : Int32))) F.1 F.2.1 dX0_passDay_79 hl (k := 3) rfl rfl (Nat.le_of_ble_eq_true rfl) rfl (fun ls hl => ?_)
              have hl : lv_has ls 7 [(5, .int (v5 + (1 : Int32))), (0, .ref (x + gb i)), (1, .int a1), (4, .ref (x + sb i a1.toNatClampNeg))] := hl
              refine lv_goto (tgt := 29) F.1 F.2.1 dX0_passDay_82 rfl ?_
              exact ih.1 g (v5 + (1 : Int32)) hy0 _ _ _ (lv_sub hl [1, 2, 3, 0] rfl) hP hS hf
            · have hf := ifp hc10 hf
              refine lv_aload F.1 F.2.1 dX0_passDay_58 (lv_at hl 2 rfl) ?_
              refine lv_dup F.1 F.2.1 dX0_passDay_60 rfl ?_
              refine gI_X2_cold F hK hP hi hy0 (mu_at _ _ _) (fun _ h => List.mem_cons_of_mem _ (List.mem_append_right _ h)) (List.mem_of_getElem? (i := 3) rfl) dX0_passDay_61 ?_
              refine lv_iconst (v := (4 : Int32)) F.1 F.2.1 dX0_passDay_64 (by decide) ?_
              refine lv_iload F.1 F.2.1 dX0_passDay_65 (lv_at hl 3 rfl) ?_
              refine lv_iadd F.1 F.2.1 dX0_passDay_67 ?_
              refine lv_isub F.1 F.2.1 dX0_passDay_68 ?_
              refine pI_X2_cold F hK hi hy0 hP hS (fun _ h => List.mem_cons_of_mem _ (List.mem_append_right _ h)) (List.mem_of_getElem? (i := 3) rfl) dX0_passDay_69 (fun H locs hP hS => ?_)
              refine lv_aload_n F.1 F.2.1 dX0_passDay_72 rfl (lv_at hl 0 rfl) ?_
              refine lv_iload_n F.1 F.2.1 dX0_passDay_73 rfl (lv_at hl 1 rfl) ?_
              refine lv_iload F.1 F.2.1 dX0_passDay_74 (lv_at hl 3 rfl) ?_
              obtain ⟨r11, hr12, hf⟩ := bnd hf
              refine x_callV F hK hG hP hS (o_G hi (c := 0) (by decide)) (kd_G i hi 0 (by decide)) (ci := 0) (fun _ => rfl) rfl (c_X0_freeze hi a1 v5 hr12) (cwV 2 F.2.2.2.2 gX0_passDay_X0_freeze rfl rfl rfl ⟨rfl, hd_X0_freeze⟩ ⟨(Nat.le_of_ble_eq_true rfl), (Nat.le_of_ble_eq_true rfl)⟩) rfl rfl hl.1 (Nat.le_of_ble_eq_true rfl) dX0_passDay_76 ⟨(Nat.le_of_ble_eq_true rfl), (Nat.le_of_ble_eq_true rfl)⟩ (rest := []) (fun H locs hP hS => ?_)
              refine W.eq (g2 := F0 m 79 ls []) rfl ?_
              refine lv_iinc (v := (v5 + (1 : Int32))) F.1 F.2.1 dX0_passDay_79 hl (k := 3) rfl rfl (Nat.le_of_ble_eq_true rfl) rfl (fun ls hl => ?_)
              have hl : lv_has ls 7 [(5, .int (v5 + (1 : Int32))), (0, .ref (x + gb i)), (1, .int a1), (4, .ref (x + sb i a1.toNatClampNeg))] := hl
              refine lv_goto (tgt := 29) F.1 F.2.1 dX0_passDay_82 rfl ?_
              exact ih.1 r11 (v5 + (1 : Int32)) hy0 _ _ _ (lv_sub hl [1, 2, 3, 0] rfl) hP hS hf
      · intro g v5 hy0  ls H locs hl hP hS hf
        have hf : fb_X0_passDay_2 a1 a2 a3 (fl_X0_passDay a1 a2 a3 n) g v5 = some r := hf
        unfold fb_X0_passDay_2 at hf
        refine lv_iload F.1 F.2.1 dX0_passDay_88 (lv_at hl 3 rfl) ?_
        refine lv_bipush (v := (30 : Int32)) F.1 F.2.1 dX0_passDay_90 (by decide) ?_
        refine lv_icmp_ge (tgt := 144) F.1 F.2.1 dX0_passDay_92 rfl (fun hc13 => ?_) (fun hc13 => ?_)
        · have hf := ifp hc13 hf
          exact ih.2.2 g  hy0 _ _ _ (lv_sub hl [0, 1, 2] rfl) hP hS hf
        · have hf := ifn hc13 hf
          refine lv_aload F.1 F.2.1 dX0_passDay_95 (lv_at hl 2 rfl) ?_
          refine gI_X2_warmth F hK hP hi hy0 (mu_at _ _ _) (fun _ h => List.mem_cons_of_mem _ (List.mem_append_right _ h)) (List.mem_of_getElem? (i := 4) rfl) dX0_passDay_97 ?_
          refine lv_iconst (v := (3 : Int32)) F.1 F.2.1 dX0_passDay_100 (by decide) ?_
          refine lv_iload F.1 F.2.1 dX0_passDay_101 (lv_at hl 3 rfl) ?_
          refine lv_iadd F.1 F.2.1 dX0_passDay_103 ?_
          refine lv_icmp_lt (tgt := 144) F.1 F.2.1 dX0_passDay_104 rfl (fun hc14 => ?_) (fun hc14 => ?_)
          · have hf := ifp hc14 hf
            exact ih.2.2 g  hy0 _ _ _ (lv_sub hl [0, 1, 2] rfl) hP hS hf
          · have hf := ifn hc14 hf
            refine lv_aload F.1 F.2.1 dX0_passDay_107 (lv_at hl 2 rfl) ?_
            refine lv_iload F.1 F.2.1 dX0_passDay_109 (lv_at hl 3 rfl) ?_
            obtain ⟨r15, hr16, hf⟩ := bnd hf
            refine x_callV F hK hG hP hS (o_S hi hy0) (kd_S i hi a1.toNatClampNeg hy0) (ci := 2) (fun _ => rfl) rfl (c_X2_isFrozen hi hy0 (mu_at _ _ _) v5 hr16) (cwV 1 F.2.2.2.2 gX0_passDay_X2_isFrozen rfl rfl rfl ⟨rfl, hd_X2_isFrozen⟩ ⟨(Nat.le_of_ble_eq_true rfl), (Nat.le_of_ble_eq_true rfl)⟩) rfl rfl hl.1 (Nat.le_of_ble_eq_true rfl) dX0_passDay_111 ⟨(Nat.le_of_ble_eq_true rfl), (Nat.le_of_ble_eq_true rfl)⟩ (rest := []) (fun H locs hP hS => ?_)
            refine W.eq (g2 := F0 m 114 ls [.int r15]) rfl ?_
            refine lv_if_eq (tgt := 138) F.1 F.2.1 dX0_passDay_114 rfl (fun hc17 => ?_) (fun hc17 => ?_)
            · have hf := ifp hc17 hf
              refine lv_iinc (v := (v5 + (1 : Int32))) F.1 F.2.1 dX0_passDay_138 hl (k := 3) rfl rfl (Nat.le_of_ble_eq_true rfl) rfl (fun ls hl => ?_)
              have hl : lv_has ls 7 [(5, .int (v5 + (1 : Int32))), (0, .ref (x + gb i)), (1, .int a1), (4, .ref (x + sb i a1.toNatClampNeg))] := hl
              refine lv_goto (tgt := 88) F.1 F.2.1 dX0_passDay_141 rfl ?_
              exact ih.2.1 g (v5 + (1 : Int32)) hy0 _ _ _ (lv_sub hl [1, 2, 3, 0] rfl) hP hS hf
            · have hf := ifn hc17 hf
              refine lv_aload F.1 F.2.1 dX0_passDay_117 (lv_at hl 2 rfl) ?_
              refine lv_dup F.1 F.2.1 dX0_passDay_119 rfl ?_
              refine gI_X2_warmth F hK hP hi hy0 (mu_at _ _ _) (fun _ h => List.mem_cons_of_mem _ (List.mem_append_right _ h)) (List.mem_of_getElem? (i := 4) rfl) dX0_passDay_120 ?_
              refine lv_iconst (v := (3 : Int32)) F.1 F.2.1 dX0_passDay_123 (by decide) ?_
              refine lv_iload F.1 F.2.1 dX0_passDay_124 (lv_at hl 3 rfl) ?_
              refine lv_iadd F.1 F.2.1 dX0_passDay_126 ?_
              refine lv_isub F.1 F.2.1 dX0_passDay_127 ?_
              refine pI_X2_warmth F hK hi hy0 hP hS (fun _ h => List.mem_cons_of_mem _ (List.mem_append_right _ h)) (List.mem_of_getElem? (i := 4) rfl) dX0_passDay_128 (fun H locs hP hS => ?_)
              refine lv_aload_n F.1 F.2.1 dX0_passDay_131 rfl (lv_at hl 0 rfl) ?_
              refine lv_iload_n F.1 F.2.1 dX0_passDay_132 rfl (lv_at hl 1 rfl) ?_
              refine lv_iload F.1 F.2.1 dX0_passDay_133 (lv_at hl 3 rfl) ?_
              obtain ⟨r18, hr19, hf⟩ := bnd hf
              refine x_callV F hK hG hP hS (o_G hi (c := 0) (by decide)) (kd_G i hi 0 (by decide)) (ci := 0) (fun _ => rfl) rfl (c_X0_thaw hi a1 v5 hr19) (cwV 2 F.2.2.2.2 gX0_passDay_X0_thaw rfl rfl rfl ⟨rfl, hd_X0_thaw⟩ ⟨(Nat.le_of_ble_eq_true rfl), (Nat.le_of_ble_eq_true rfl)⟩) rfl rfl hl.1 (Nat.le_of_ble_eq_true rfl) dX0_passDay_135 ⟨(Nat.le_of_ble_eq_true rfl), (Nat.le_of_ble_eq_true rfl)⟩ (rest := []) (fun H locs hP hS => ?_)
              refine W.eq (g2 := F0 m 138 ls []) rfl ?_
              refine lv_iinc (v := (v5 + (1 : Int32))) F.1 F.2.1 dX0_passDay_138 hl (k := 3) rfl rfl (Nat.le_of_ble_eq_true rfl) rfl (fun ls hl => ?_)
              have hl : lv_has ls 7 [(5, .int (v5 + (1 : Int32))), (0, .ref (x + gb i)), (1, .int a1), (4, .ref (x + sb i a1.toNatClampNeg))] := hl
              refine lv_goto (tgt := 88) F.1 F.2.1 dX0_passDay_141 rfl ?_
              exact ih.2.1 r18 (v5 + (1 : Int32)) hy0 _ _ _ (lv_sub hl [1, 2, 3, 0] rfl) hP hS hf
      · intro g hy0  ls H locs hl hP hS hf
        have hf : fb_X0_passDay_3 a1 a2 a3 (fl_X0_passDay a1 a2 a3 n) g 0 = some r := hf
        unfold fb_X0_passDay_3 at hf
        refine lv_aload_n F.1 F.2.1 dX0_passDay_144 rfl (lv_at hl 0 rfl) ?_
        refine gR_X0_settings F hK hP hi (fun _ h => List.mem_cons_of_mem _ (List.mem_append_left _ (List.mem_append_right _ h))) (List.mem_of_getElem? (i := 2) rfl) dX0_passDay_145 ?_
        refine lv_iconst (v := (0 : Int32)) F.1 F.2.1 dX0_passDay_148 (by decide) ?_
        refine lA_GA1 F hK hP hi (mu_at _ _ _) (by decide) dX0_passDay_149 ?_
        refine lv_istore F.1 F.2.1 dX0_passDay_150 hl (Nat.le_of_ble_eq_true rfl) rfl (fun ls hl => ?_)
        have hl : lv_has ls 7 [(5, .int (g (202 + (0 : Int32).toNatClampNeg))), (0, .ref (x + gb i)), (1, .int a1), (4, .ref (x + sb i a1.toNatClampNeg))] := hl
        refine lv_aload F.1 F.2.1 dX0_passDay_152 (lv_at hl 3 rfl) ?_
        refine lv_bipush (v := (30 : Int32)) F.1 F.2.1 dX0_passDay_154 (by decide) ?_
        obtain ⟨r20, hr21, hf⟩ := bnd hf
        refine x_callV F hK hG hP hS (o_S hi hy0) (kd_S i hi a1.toNatClampNeg hy0) (ci := 2) (fun _ => rfl) rfl (c_X2_lowestWithin hi hy0 (mu_at _ _ _) (30 : Int32) hr21) (cwV 1 F.2.2.2.2 gX0_passDay_X2_lowestWithin rfl rfl rfl ⟨rfl, hd_X2_lowestWithin⟩ ⟨(Nat.le_of_ble_eq_true rfl), (Nat.le_of_ble_eq_true rfl)⟩) rfl rfl hl.1 (Nat.le_of_ble_eq_true rfl) dX0_passDay_156 ⟨(Nat.le_of_ble_eq_true rfl), (Nat.le_of_ble_eq_true rfl)⟩ (rest := []) (fun H locs hP hS => ?_)
        refine W.eq (g2 := F0 m 159 ls [.int r20]) rfl ?_
        refine lv_istore F.1 F.2.1 dX0_passDay_159 hl (Nat.le_of_ble_eq_true rfl) rfl (fun ls hl => ?_)
        have hl : lv_has ls 7 [(6, .int r20), (5, .int (g (202 + (0 : Int32).toNatClampNeg))), (0, .ref (x + gb i)), (1, .int a1), (4, .ref (x + sb i a1.toNatClampNeg))] := hl
        refine lv_iload F.1 F.2.1 dX0_passDay_161 (lv_at hl 1 rfl) ?_
        refine lv_if_le (tgt := 189) F.1 F.2.1 dX0_passDay_163 rfl (fun hc22 => ?_) (fun hc22 => ?_)
        · have hf := ifp hc22 hf
          obtain rfl := Option.some.inj hf
          exact x_vret F hr hlk hP hS rfl dX0_passDay_189
        · have hf := ifn hc22 hf
          refine lv_aload_n F.1 F.2.1 dX0_passDay_166 rfl (lv_at hl 2 rfl) ?_
          refine gI_X0_dayCount F hK hP hi (mu_at _ _ _) (fun _ h => List.mem_cons_of_mem _ (List.mem_append_left _ (List.mem_append_right _ h))) (List.mem_of_getElem? (i := 5) rfl) dX0_passDay_167 ?_
          refine lv_iload F.1 F.2.1 dX0_passDay_170 (lv_at hl 1 rfl) ?_
          obtain ⟨hz23, hf⟩ := ifg hf
          refine lv_irem F.1 F.2.1 dX0_passDay_172 hz23 ?_
          refine lv_if_ne (tgt := 189) F.1 F.2.1 dX0_passDay_173 rfl (fun hc24 => ?_) (fun hc24 => ?_)
          · have hf := ifn hc24 hf
            obtain rfl := Option.some.inj hf
            exact x_vret F hr hlk hP hS rfl dX0_passDay_189
          · have hf := ifp hc24 hf
            refine lv_iload F.1 F.2.1 dX0_passDay_176 (lv_at hl 0 rfl) ?_
            refine lv_iconst (v := (-1 : Int32)) F.1 F.2.1 dX0_passDay_178 (by decide) ?_
            refine lv_icmp_eq (tgt := 189) F.1 F.2.1 dX0_passDay_179 rfl (fun hc25 => ?_) (fun hc25 => ?_)
            · have hf := ifp hc25 hf
              obtain rfl := Option.some.inj hf
              exact x_vret F hr hlk hP hS rfl dX0_passDay_189
            · have hf := ifn hc25 hf
              refine lv_aload_n F.1 F.2.1 dX0_passDay_182 rfl (lv_at hl 2 rfl) ?_
              refine lv_iload_n F.1 F.2.1 dX0_passDay_183 rfl (lv_at hl 3 rfl) ?_
              refine lv_iload F.1 F.2.1 dX0_passDay_184 (lv_at hl 0 rfl) ?_
              obtain ⟨r26, hr27, hf⟩ := bnd hf
              refine x_callV F hK hG hP hS (o_G hi (c := 0) (by decide)) (kd_G i hi 0 (by decide)) (ci := 0) (fun _ => rfl) rfl (c_X0_thaw hi a1 r20 hr27) (cwV 2 F.2.2.2.2 gX0_passDay_X0_thaw rfl rfl rfl ⟨rfl, hd_X0_thaw⟩ ⟨(Nat.le_of_ble_eq_true rfl), (Nat.le_of_ble_eq_true rfl)⟩) rfl rfl hl.1 (Nat.le_of_ble_eq_true rfl) dX0_passDay_186 ⟨(Nat.le_of_ble_eq_true rfl), (Nat.le_of_ble_eq_true rfl)⟩ (rest := []) (fun H locs hP hS => ?_)
              refine W.eq (g2 := F0 m 189 ls []) rfl ?_
              obtain rfl := Option.some.inj hf
              exact x_vret F hr hlk hP hS rfl dX0_passDay_189
  intro ls H locs hl hP hS
  have hl : lv_has ls 7 [(0, .ref (x + gb i)), (1, .int a1), (2, .int a2), (3, .int a3)] := hl
  unfold f_X0_passDay at hf
  refine lv_aload_n F.1 F.2.1 dX0_passDay_0 rfl (lv_at hl 0 rfl) ?_
  refine gR_X0_sites F hK hP hi (fun _ h => List.mem_cons_of_mem _ (List.mem_append_left _ (List.mem_append_right _ h))) (List.mem_of_getElem? (i := 1) rfl) dX0_passDay_1 ?_
  refine lv_iload_n F.1 F.2.1 dX0_passDay_4 rfl (lv_at hl 1 rfl) ?_
  obtain ⟨hb1, hf⟩ := ifg hf
  refine lA_GA2 F hK hP hi hb1 dX0_passDay_5 ?_
  refine lv_astore F.1 F.2.1 dX0_passDay_6 hl (Nat.le_of_ble_eq_true rfl) rfl (fun ls hl => ?_)
  have hl : lv_has ls 7 [(4, .ref (x + sb i a1.toNatClampNeg)), (0, .ref (x + gb i)), (1, .int a1), (2, .int a2), (3, .int a3)] := hl
  refine lv_aload F.1 F.2.1 dX0_passDay_8 (lv_at hl 0 rfl) ?_
  refine lv_iload_n F.1 F.2.1 dX0_passDay_10 rfl (lv_at hl 4 rfl) ?_
  obtain ⟨r2, hr3, hf⟩ := bnd hf
  refine x_callV F hK hG hP hS (o_S hi (oob_lt hb1)) (kd_S i hi a1.toNatClampNeg (oob_lt hb1)) (ci := 2) (fun _ => rfl) rfl (c_X2_takeSnow hi (oob_lt hb1) a3 hr3) (cwV 1 F.2.2.2.2 gX0_passDay_X2_takeSnow rfl rfl rfl ⟨rfl, hd_X2_takeSnow⟩ ⟨(Nat.le_of_ble_eq_true rfl), (Nat.le_of_ble_eq_true rfl)⟩) rfl rfl hl.1 (Nat.le_of_ble_eq_true rfl) dX0_passDay_11 ⟨(Nat.le_of_ble_eq_true rfl), (Nat.le_of_ble_eq_true rfl)⟩ (rest := []) (fun H locs hP hS => ?_)
  refine W.eq (g2 := F0 m 14 ls []) rfl ?_
  refine lv_aload F.1 F.2.1 dX0_passDay_14 (lv_at hl 0 rfl) ?_
  refine lv_iload_n F.1 F.2.1 dX0_passDay_16 rfl (lv_at hl 3 rfl) ?_
  refine lv_aload_n F.1 F.2.1 dX0_passDay_17 rfl (lv_at hl 1 rfl) ?_
  refine gR_X0_settings F hK hP hi (fun _ h => List.mem_cons_of_mem _ (List.mem_append_left _ (List.mem_append_right _ h))) (List.mem_of_getElem? (i := 2) rfl) dX0_passDay_18 ?_
  refine lv_iconst (v := (1 : Int32)) F.1 F.2.1 dX0_passDay_21 (by decide) ?_
  refine lA_GA1 F hK hP hi (mu_at _ _ _) (by decide) dX0_passDay_22 ?_
  obtain ⟨r4, hr5, hf⟩ := bnd hf
  refine x_callV F hK hG hP hS (o_S hi (oob_lt hb1)) (kd_S i hi a1.toNatClampNeg (oob_lt hb1)) (ci := 2) (fun _ => rfl) rfl (c_X2_takeTemperature hi (oob_lt hb1) a2 (r2 (202 + (1 : Int32).toNatClampNeg)) hr5) (cwV 2 F.2.2.2.2 gX0_passDay_X2_takeTemperature rfl rfl rfl ⟨rfl, hd_X2_takeTemperature⟩ ⟨(Nat.le_of_ble_eq_true rfl), (Nat.le_of_ble_eq_true rfl)⟩) rfl rfl hl.1 (Nat.le_of_ble_eq_true rfl) dX0_passDay_23 ⟨(Nat.le_of_ble_eq_true rfl), (Nat.le_of_ble_eq_true rfl)⟩ (rest := []) (fun H locs hP hS => ?_)
  refine W.eq (g2 := F0 m 26 ls []) rfl ?_
  refine lv_iconst (v := (0 : Int32)) F.1 F.2.1 dX0_passDay_26 (by decide) ?_
  refine lv_istore F.1 F.2.1 dX0_passDay_27 hl (Nat.le_of_ble_eq_true rfl) rfl (fun ls hl => ?_)
  have hl : lv_has ls 7 [(5, .int (0 : Int32)), (4, .ref (x + sb i a1.toNatClampNeg)), (0, .ref (x + gb i)), (1, .int a1), (2, .int a2), (3, .int a3)] := hl
  exact (KEY FU).1 r4 (0 : Int32) (oob_lt hb1) _ _ _ (lv_sub hl [2, 3, 1, 0] rfl) hP hS hf

-- FrostTubes$Ground.passDays(III)I
def fb_X0_passDays_1 (a1 : Int32) (a2 : Int32) (a3 : Int32) (K : Nat → Row → Int32 → Int32 → Option (Int32 × Row)) (g : Row) (v4 : Int32) (v5 : Int32) : Option (Int32 × Row) := (if a3 ≤ v4 then ((f_X0_frozenCells g).bind fun r2 => some (r2, g)) else (K 2 (upd g 199 ((g 199) + (1 : Int32))) v4 (0 : Int32)))
def fb_X0_passDays_2 (a1 : Int32) (a2 : Int32) (a3 : Int32) (K : Nat → Row → Int32 → Int32 → Option (Int32 × Row)) (g : Row) (v4 : Int32) (v5 : Int32) : Option (Int32 × Row) := (if (g 196) ≤ v5 then (K 1 g (v4 + (1 : Int32)) 0) else ((f_X0_passDay g v5 a1 a2).bind fun r5 => (K 2 r5 v4 (v5 + (1 : Int32)))))
def fl_X0_passDays (a1 : Int32) (a2 : Int32) (a3 : Int32) : Nat → Nat → Row → Int32 → Int32 → Option (Int32 × Row)
  | 0, _, _, _, _ => none
  | n + 1, lab, g, v4, v5 => match lab with
    | 1 => fb_X0_passDays_1 a1 a2 a3 (fl_X0_passDays a1 a2 a3 n) g v4 v5
    | _ => fb_X0_passDays_2 a1 a2 a3 (fl_X0_passDays a1 a2 a3 n) g v4 v5
def f_X0_passDays (g : Row) (a1 : Int32) (a2 : Int32) (a3 : Int32) : Option (Int32 × Row) := (fl_X0_passDays a1 a2 a3 FU 1 g (0 : Int32) 0)
def rmX0_passDays : Room := { frames := 3, cells := 0, slots := 0, locals := 70 }
theorem hd_X0_passDays : yX0_passDays.cls ≠ "java/lang/invoke/MethodHandle" ∧ yX0_passDays.cls ≠ "java/lang/invoke/VarHandle" ∧ (parseMethodDescriptor yX0_passDays.desc).map (fun d => d.parameters.length) = some 3 := by decide +kernel
set_option maxHeartbeats 8000000 in
set_option maxRecDepth 100000 in
theorem c_X0_passDays {l : Launch} {D : va_G} {x : Nat} {μ : Mem} {i : Nat} (hi : i < 19) {g : Row} (a1 : Int32) (a2 : Int32) (a3 : Int32) {r : Int32 × Row} (hf : f_X0_passDays g a1 a2 a3 = some r) : CX l yX0_passDays wsX0_passDays rmX0_passDays [.ref (x + gb i), .int a1, .int a2, .int a3] D x (va_up μ i g) (some (.int r.1)) (va_up μ i r.2) := by
  refine CX.of (cc := cX0_passDays) (maxL := 6) (ret := (some .int)) pn_X0 rfl (Nat.le_of_ble_eq_true rfl) ?_
  intro p e s m args below meth c F hr hlk hK hG
  have KEY : ∀ n : Nat, (∀ (g : Row) (v4 : Int32) (ls : Array Slot) (H : Heap) (locs : List Loc), lv_has ls 6 [(0, .ref (x + gb i)), (1, .int a1), (2, .int a2), (3, .int a3), (4, .int v4)] → va_P D vwCl (WL D x (va_up μ i g)) H → va_S (rng x) s.heap H locs → fl_X0_passDays a1 a2 a3 n 1 g v4 0 = some r → W p l e rmX0_passDays s m args below meth c H locs 0 0 (MQ below (QX D x (va_up μ i r.2) (some (.int r.1))) args s 0 0 (rng x)) (F0 m 3 ls [])) ∧ (∀ (g : Row) (v4 : Int32) (v5 : Int32) (ls : Array Slot) (H : Heap) (locs : List Loc), lv_has ls 6 [(0, .ref (x + gb i)), (1, .int a1), (2, .int a2), (3, .int a3), (4, .int v4), (5, .int v5)] → va_P D vwCl (WL D x (va_up μ i g)) H → va_S (rng x) s.heap H locs → fl_X0_passDays a1 a2 a3 n 2 g v4 v5 = some r → W p l e rmX0_passDays s m args below meth c H locs 0 0 (MQ below (QX D x (va_up μ i r.2) (some (.int r.1))) args s 0 0 (rng x)) (F0 m 22 ls [])) := by
    intro n
    induction n with
    | zero => exact ⟨(fun _ _ _ _ _ _ _ _ h => nomatch h), (fun _ _ _ _ _ _ _ _ _ h => nomatch h)⟩
    | succ n ih =>
      refine ⟨?_, ?_⟩
      · intro g v4  ls H locs hl hP hS hf
        have hf : fb_X0_passDays_1 a1 a2 a3 (fl_X0_passDays a1 a2 a3 n) g v4 0 = some r := hf
        unfold fb_X0_passDays_1 at hf
        refine lv_iload F.1 F.2.1 dX0_passDays_3 (lv_at hl 4 rfl) ?_
        refine lv_iload_n F.1 F.2.1 dX0_passDays_5 rfl (lv_at hl 3 rfl) ?_
        refine lv_icmp_ge (tgt := 51) F.1 F.2.1 dX0_passDays_6 rfl (fun hc1 => ?_) (fun hc1 => ?_)
        · have hf := ifp hc1 hf
          refine lv_aload_n F.1 F.2.1 dX0_passDays_51 rfl (lv_at hl 0 rfl) ?_
          obtain ⟨r2, hr3, hf⟩ := bnd hf
          refine x_callV F hK hG hP hS (o_G hi (c := 0) (by decide)) (kd_G i hi 0 (by decide)) (ci := 0) (fun _ => rfl) rfl (c_X0_frozenCells hi (mu_at _ _ _) hr3) (cwV 0 F.2.2.2.2 gX0_passDays_X0_frozenCells rfl rfl rfl ⟨rfl, hd_X0_frozenCells⟩ ⟨(Nat.le_of_ble_eq_true rfl), (Nat.le_of_ble_eq_true rfl)⟩) rfl rfl hl.1 (Nat.le_of_ble_eq_true rfl) dX0_passDays_52 ⟨(Nat.le_of_ble_eq_true rfl), (Nat.le_of_ble_eq_true rfl)⟩ (rest := []) (fun H locs hP hS => ?_)
          refine W.eq (g2 := F0 m 55 ls [.int r2]) rfl ?_
          obtain rfl := Option.some.inj hf
          exact x_iret F hr hlk hP hS rfl dX0_passDays_55
        · have hf := ifn hc1 hf
          refine lv_aload_n F.1 F.2.1 dX0_passDays_9 rfl (lv_at hl 0 rfl) ?_
          refine lv_dup F.1 F.2.1 dX0_passDays_10 rfl ?_
          refine gI_X0_dayCount F hK hP hi (mu_at _ _ _) (fun _ h => List.mem_cons_of_mem _ (List.mem_append_left _ (List.mem_append_right _ h))) (List.mem_of_getElem? (i := 1) rfl) dX0_passDays_11 ?_
          refine lv_iconst (v := (1 : Int32)) F.1 F.2.1 dX0_passDays_14 (by decide) ?_
          refine lv_iadd F.1 F.2.1 dX0_passDays_15 ?_
          refine pI_X0_dayCount F hK hi hP hS (fun _ h => List.mem_cons_of_mem _ (List.mem_append_left _ (List.mem_append_right _ h))) (List.mem_of_getElem? (i := 1) rfl) dX0_passDays_16 (fun H locs hP hS => ?_)
          refine lv_iconst (v := (0 : Int32)) F.1 F.2.1 dX0_passDays_19 (by decide) ?_
          refine lv_istore F.1 F.2.1 dX0_passDays_20 hl (Nat.le_of_ble_eq_true rfl) rfl (fun ls hl => ?_)
          have hl : lv_has ls 6 [(5, .int (0 : Int32)), (0, .ref (x + gb i)), (1, .int a1), (2, .int a2), (3, .int a3), (4, .int v4)] := hl
          exact ih.2 (upd g 199 ((g 199) + (1 : Int32))) v4 (0 : Int32) _ _ _ (lv_sub hl [1, 2, 3, 4, 5, 0] rfl) hP hS hf
      · intro g v4 v5  ls H locs hl hP hS hf
        have hf : fb_X0_passDays_2 a1 a2 a3 (fl_X0_passDays a1 a2 a3 n) g v4 v5 = some r := hf
        unfold fb_X0_passDays_2 at hf
        refine lv_iload F.1 F.2.1 dX0_passDays_22 (lv_at hl 5 rfl) ?_
        refine lv_aload_n F.1 F.2.1 dX0_passDays_24 rfl (lv_at hl 0 rfl) ?_
        refine gI_X0_siteCount F hK hP hi (mu_at _ _ _) (fun _ h => List.mem_cons_of_mem _ (List.mem_append_left _ (List.mem_append_right _ h))) (List.mem_of_getElem? (i := 2) rfl) dX0_passDays_25 ?_
        refine lv_icmp_ge (tgt := 45) F.1 F.2.1 dX0_passDays_28 rfl (fun hc4 => ?_) (fun hc4 => ?_)
        · have hf := ifp hc4 hf
          refine lv_iinc (v := (v4 + (1 : Int32))) F.1 F.2.1 dX0_passDays_45 hl (k := 4) rfl rfl (Nat.le_of_ble_eq_true rfl) rfl (fun ls hl => ?_)
          have hl : lv_has ls 6 [(4, .int (v4 + (1 : Int32))), (0, .ref (x + gb i)), (1, .int a1), (2, .int a2), (3, .int a3), (5, .int v5)] := hl
          refine lv_goto (tgt := 3) F.1 F.2.1 dX0_passDays_48 rfl ?_
          exact ih.1 g (v4 + (1 : Int32)) _ _ _ (lv_sub hl [1, 2, 3, 4, 0] rfl) hP hS hf
        · have hf := ifn hc4 hf
          refine lv_aload_n F.1 F.2.1 dX0_passDays_31 rfl (lv_at hl 0 rfl) ?_
          refine lv_iload F.1 F.2.1 dX0_passDays_32 (lv_at hl 5 rfl) ?_
          refine lv_iload_n F.1 F.2.1 dX0_passDays_34 rfl (lv_at hl 1 rfl) ?_
          refine lv_iload_n F.1 F.2.1 dX0_passDays_35 rfl (lv_at hl 2 rfl) ?_
          obtain ⟨r5, hr6, hf⟩ := bnd hf
          refine x_callV F hK hG hP hS (o_G hi (c := 0) (by decide)) (kd_G i hi 0 (by decide)) (ci := 0) (fun _ => rfl) rfl (c_X0_passDay hi v5 a1 a2 hr6) (cwV 3 F.2.2.2.2 gX0_passDays_X0_passDay rfl rfl rfl ⟨rfl, hd_X0_passDay⟩ ⟨(Nat.le_of_ble_eq_true rfl), (Nat.le_of_ble_eq_true rfl)⟩) rfl rfl hl.1 (Nat.le_of_ble_eq_true rfl) dX0_passDays_36 ⟨(Nat.le_of_ble_eq_true rfl), (Nat.le_of_ble_eq_true rfl)⟩ (rest := []) (fun H locs hP hS => ?_)
          refine W.eq (g2 := F0 m 39 ls []) rfl ?_
          refine lv_iinc (v := (v5 + (1 : Int32))) F.1 F.2.1 dX0_passDays_39 hl (k := 5) rfl rfl (Nat.le_of_ble_eq_true rfl) rfl (fun ls hl => ?_)
          have hl : lv_has ls 6 [(5, .int (v5 + (1 : Int32))), (0, .ref (x + gb i)), (1, .int a1), (2, .int a2), (3, .int a3), (4, .int v4)] := hl
          refine lv_goto (tgt := 22) F.1 F.2.1 dX0_passDays_42 rfl ?_
          exact ih.2 r5 v4 (v5 + (1 : Int32)) _ _ _ (lv_sub hl [1, 2, 3, 4, 5, 0] rfl) hP hS hf
  intro ls H locs hl hP hS
  have hl : lv_has ls 6 [(0, .ref (x + gb i)), (1, .int a1), (2, .int a2), (3, .int a3)] := hl
  unfold f_X0_passDays at hf
  refine lv_iconst (v := (0 : Int32)) F.1 F.2.1 dX0_passDays_0 (by decide) ?_
  refine lv_istore F.1 F.2.1 dX0_passDays_1 hl (Nat.le_of_ble_eq_true rfl) rfl (fun ls hl => ?_)
  have hl : lv_has ls 6 [(4, .int (0 : Int32)), (0, .ref (x + gb i)), (1, .int a1), (2, .int a2), (3, .int a3)] := hl
  exact (KEY FU).1 g (0 : Int32) _ _ _ (lv_sub hl [1, 2, 3, 4, 0] rfl) hP hS hf

-- FrostTubes$Ground.changeSetting(II)I
def f_X0_changeSetting (g : Row) (a1 : Int32) (a2 : Int32) : Option (Int32 × Row) := (if oob a1 3 then none else (if oob a1 3 then none else some ((g (202 + a1.toNatClampNeg)), (upd g (202 + a1.toNatClampNeg) a2))))
def rmX0_changeSetting : Room := { frames := 0, cells := 0, slots := 0, locals := 0 }
theorem hd_X0_changeSetting : yX0_changeSetting.cls ≠ "java/lang/invoke/MethodHandle" ∧ yX0_changeSetting.cls ≠ "java/lang/invoke/VarHandle" ∧ (parseMethodDescriptor yX0_changeSetting.desc).map (fun d => d.parameters.length) = some 2 := by decide +kernel
set_option maxHeartbeats 8000000 in
set_option maxRecDepth 100000 in
theorem c_X0_changeSetting {l : Launch} {D : va_G} {x : Nat} {μ : Mem} {i : Nat} (hi : i < 19) {g : Row} (a1 : Int32) (a2 : Int32) {r : Int32 × Row} (hf : f_X0_changeSetting g a1 a2 = some r) : CX l yX0_changeSetting wsX0_changeSetting rmX0_changeSetting [.ref (x + gb i), .int a1, .int a2] D x (va_up μ i g) (some (.int r.1)) (va_up μ i r.2) := by
  refine CX.of (cc := cX0_changeSetting) (maxL := 4) (ret := (some .int)) pn_X0 rfl (Nat.le_of_ble_eq_true rfl) ?_
  intro p e s m args below meth c F hr hlk hK hG
  intro ls H locs hl hP hS
  have hl : lv_has ls 4 [(0, .ref (x + gb i)), (1, .int a1), (2, .int a2)] := hl
  unfold f_X0_changeSetting at hf
  refine lv_aload_n F.1 F.2.1 dX0_changeSetting_0 rfl (lv_at hl 0 rfl) ?_
  refine gR_X0_settings F hK hP hi (fun _ h => List.mem_cons_of_mem _ (List.mem_append_right _ h)) (List.mem_of_getElem? (i := 1) rfl) dX0_changeSetting_1 ?_
  refine lv_iload_n F.1 F.2.1 dX0_changeSetting_4 rfl (lv_at hl 1 rfl) ?_
  obtain ⟨hb1, hf⟩ := ifg hf
  refine lA_GA1 F hK hP hi (mu_at _ _ _) hb1 dX0_changeSetting_5 ?_
  refine lv_istore_n F.1 F.2.1 dX0_changeSetting_6 rfl hl (Nat.le_of_ble_eq_true rfl) rfl (fun ls hl => ?_)
  have hl : lv_has ls 4 [(3, .int (g (202 + a1.toNatClampNeg))), (0, .ref (x + gb i)), (1, .int a1), (2, .int a2)] := hl
  refine lv_aload_n F.1 F.2.1 dX0_changeSetting_7 rfl (lv_at hl 1 rfl) ?_
  refine gR_X0_settings F hK hP hi (fun _ h => List.mem_cons_of_mem _ (List.mem_append_right _ h)) (List.mem_of_getElem? (i := 1) rfl) dX0_changeSetting_8 ?_
  refine lv_iload_n F.1 F.2.1 dX0_changeSetting_11 rfl (lv_at hl 2 rfl) ?_
  refine lv_iload_n F.1 F.2.1 dX0_changeSetting_12 rfl (lv_at hl 3 rfl) ?_
  obtain ⟨hb2, hf⟩ := ifg hf
  refine sA_GA1 F hK hi hP hS hb2 dX0_changeSetting_13 (fun H locs hP hS => ?_)
  refine lv_iload_n F.1 F.2.1 dX0_changeSetting_14 rfl (lv_at hl 0 rfl) ?_
  obtain rfl := Option.some.inj hf
  exact x_iret F hr hlk hP hS rfl dX0_changeSetting_15

-- FrostTubes$Ground.beginWinter()I
def fb_X0_beginWinter_1  (K : Row → Int32 → Int32 → Option (Int32 × Row)) (g : Row) (v1 : Int32) (v2 : Int32) : Option (Int32 × Row) := (if (g 196) ≤ v2 then some (v1, g) else (if oob v2 4 then none else (K (upd g (35 * v2.toNatClampNeg + 4) (0 : Int32)) v1 (v2 + (1 : Int32)))))
def fl_X0_beginWinter  : Nat → Row → Int32 → Int32 → Option (Int32 × Row)
  | 0, _, _, _ => none
  | n + 1, g, v1, v2 => fb_X0_beginWinter_1  (fl_X0_beginWinter  n) g v1 v2
def f_X0_beginWinter (g : Row) : Option (Int32 × Row) := ((f_X0_greatestSumNow g).bind fun r1 => (fl_X0_beginWinter  FU (upd (upd g 201 (if (g 201) < r1 then r1 else (g 201))) 200 (((upd g 201 (if (g 201) < r1 then r1 else (g 201))) 200) + (1 : Int32))) r1 (0 : Int32)))
def rmX0_beginWinter : Room := { frames := 2, cells := 0, slots := 0, locals := 35 }
theorem hd_X0_beginWinter : yX0_beginWinter.cls ≠ "java/lang/invoke/MethodHandle" ∧ yX0_beginWinter.cls ≠ "java/lang/invoke/VarHandle" ∧ (parseMethodDescriptor yX0_beginWinter.desc).map (fun d => d.parameters.length) = some 0 := by decide +kernel
set_option maxHeartbeats 8000000 in
set_option maxRecDepth 100000 in
theorem c_X0_beginWinter {l : Launch} {D : va_G} {x : Nat} {μ : Mem} {i : Nat} (hi : i < 19) {g : Row} {r : Int32 × Row} (hf : f_X0_beginWinter g = some r) : CX l yX0_beginWinter wsX0_beginWinter rmX0_beginWinter [.ref (x + gb i)] D x (va_up μ i g) (some (.int r.1)) (va_up μ i r.2) := by
  refine CX.of (cc := cX0_beginWinter) (maxL := 3) (ret := (some .int)) pn_X0 rfl (Nat.le_of_ble_eq_true rfl) ?_
  intro p e s m args below meth c F hr hlk hK hG
  have KEY : ∀ n : Nat, (∀ (g : Row) (v1 : Int32) (v2 : Int32) (ls : Array Slot) (H : Heap) (locs : List Loc), lv_has ls 3 [(0, .ref (x + gb i)), (1, .int v1), (2, .int v2)] → va_P D vwCl (WL D x (va_up μ i g)) H → va_S (rng x) s.heap H locs → fl_X0_beginWinter  n g v1 v2 = some r → W p l e rmX0_beginWinter s m args below meth c H locs 0 0 (MQ below (QX D x (va_up μ i r.2) (some (.int r.1))) args s 0 0 (rng x)) (F0 m 29 ls [])) := by
    intro n
    induction n with
    | zero => exact (fun _ _ _ _ _ _ _ _ _ h => nomatch h)
    | succ n ih =>
      skip
      intro g v1 v2  ls H locs hl hP hS hf
      have hf : fb_X0_beginWinter_1  (fl_X0_beginWinter  n) g v1 v2 = some r := hf
      unfold fb_X0_beginWinter_1 at hf
      refine lv_iload_n F.1 F.2.1 dX0_beginWinter_29 rfl (lv_at hl 2 rfl) ?_
      refine lv_aload_n F.1 F.2.1 dX0_beginWinter_30 rfl (lv_at hl 0 rfl) ?_
      refine gI_X0_siteCount F hK hP hi (mu_at _ _ _) (fun _ h => List.mem_cons_of_mem _ (List.mem_append_left _ (List.mem_append_right _ h))) (List.mem_of_getElem? (i := 7) rfl) dX0_beginWinter_31 ?_
      refine lv_icmp_ge (tgt := 53) F.1 F.2.1 dX0_beginWinter_34 rfl (fun hc3 => ?_) (fun hc3 => ?_)
      · have hf := ifp hc3 hf
        refine lv_iload_n F.1 F.2.1 dX0_beginWinter_53 rfl (lv_at hl 1 rfl) ?_
        obtain rfl := Option.some.inj hf
        exact x_iret F hr hlk hP hS rfl dX0_beginWinter_54
      · have hf := ifn hc3 hf
        refine lv_aload_n F.1 F.2.1 dX0_beginWinter_37 rfl (lv_at hl 0 rfl) ?_
        refine gR_X0_sites F hK hP hi (fun _ h => List.mem_cons_of_mem _ (List.mem_append_left _ (List.mem_append_right _ h))) (List.mem_of_getElem? (i := 8) rfl) dX0_beginWinter_38 ?_
        refine lv_iload_n F.1 F.2.1 dX0_beginWinter_41 rfl (lv_at hl 2 rfl) ?_
        obtain ⟨hb4, hf⟩ := ifg hf
        refine lA_GA2 F hK hP hi hb4 dX0_beginWinter_42 ?_
        refine lv_iconst (v := (0 : Int32)) F.1 F.2.1 dX0_beginWinter_43 (by decide) ?_
        refine pI_X2_coldSum F hK hi (oob_lt hb4) hP hS (fun _ h => List.mem_cons_of_mem _ (List.mem_append_right _ h)) (List.mem_of_getElem? (i := 9) rfl) dX0_beginWinter_44 (fun H locs hP hS => ?_)
        refine lv_iinc (v := (v2 + (1 : Int32))) F.1 F.2.1 dX0_beginWinter_47 hl (k := 2) rfl rfl (Nat.le_of_ble_eq_true rfl) rfl (fun ls hl => ?_)
        have hl : lv_has ls 3 [(2, .int (v2 + (1 : Int32))), (0, .ref (x + gb i)), (1, .int v1)] := hl
        refine lv_goto (tgt := 29) F.1 F.2.1 dX0_beginWinter_50 rfl ?_
        exact ih (upd g (35 * v2.toNatClampNeg + 4) (0 : Int32)) v1 (v2 + (1 : Int32)) _ _ _ (lv_sub hl [1, 2, 0] rfl) hP hS hf
  intro ls H locs hl hP hS
  have hl : lv_has ls 3 [(0, .ref (x + gb i))] := hl
  unfold f_X0_beginWinter at hf
  refine lv_aload_n F.1 F.2.1 dX0_beginWinter_0 rfl (lv_at hl 0 rfl) ?_
  obtain ⟨r1, hr2, hf⟩ := bnd hf
  refine x_callV F hK hG hP hS (o_G hi (c := 0) (by decide)) (kd_G i hi 0 (by decide)) (ci := 0) (fun _ => rfl) rfl (c_X0_greatestSumNow hi (mu_at _ _ _) hr2) (cwV 0 F.2.2.2.2 gX0_beginWinter_X0_greatestSumNow rfl rfl rfl ⟨rfl, hd_X0_greatestSumNow⟩ ⟨(Nat.le_of_ble_eq_true rfl), (Nat.le_of_ble_eq_true rfl)⟩) rfl rfl hl.1 (Nat.le_of_ble_eq_true rfl) dX0_beginWinter_1 ⟨(Nat.le_of_ble_eq_true rfl), (Nat.le_of_ble_eq_true rfl)⟩ (rest := []) (fun H locs hP hS => ?_)
  refine W.eq (g2 := F0 m 4 ls [.int r1]) rfl ?_
  refine lv_istore_n F.1 F.2.1 dX0_beginWinter_4 rfl hl (Nat.le_of_ble_eq_true rfl) rfl (fun ls hl => ?_)
  have hl : lv_has ls 3 [(1, .int r1), (0, .ref (x + gb i))] := hl
  refine lv_aload_n F.1 F.2.1 dX0_beginWinter_5 rfl (lv_at hl 1 rfl) ?_
  refine lv_aload_n F.1 F.2.1 dX0_beginWinter_6 rfl (lv_at hl 1 rfl) ?_
  refine gI_X0_greatestColdSum F hK hP hi (mu_at _ _ _) (fun _ h => List.mem_cons_of_mem _ (List.mem_append_left _ (List.mem_append_right _ h))) (List.mem_of_getElem? (i := 1) rfl) dX0_beginWinter_7 ?_
  refine lv_iload_n F.1 F.2.1 dX0_beginWinter_10 rfl (lv_at hl 0 rfl) ?_
  refine va_mmax F.1 F.2.1 (F.2.2.1.trans hl.1.symm) F.2.2.2.1 (F.2.2.2.2 _ (List.mem_of_getElem? (i := 2) rfl)) (F.2.2.2.2 _ (List.mem_of_getElem? (i := 3) rfl)) (F.2.2.2.2 _ (List.mem_of_getElem? (i := 4) rfl)) (F.2.2.2.2 _ (List.mem_of_getElem? (i := 5) rfl)) (Nat.le_of_ble_eq_true rfl) (Nat.le_of_ble_eq_true rfl) (Nat.le_of_ble_eq_true rfl) (Nat.le_of_ble_eq_true rfl) dX0_beginWinter_11 ?_
  refine pI_X0_greatestColdSum F hK hi hP hS (fun _ h => List.mem_cons_of_mem _ (List.mem_append_left _ (List.mem_append_right _ h))) (List.mem_of_getElem? (i := 1) rfl) dX0_beginWinter_14 (fun H locs hP hS => ?_)
  refine lv_aload_n F.1 F.2.1 dX0_beginWinter_17 rfl (lv_at hl 1 rfl) ?_
  refine lv_dup F.1 F.2.1 dX0_beginWinter_18 rfl ?_
  refine gI_X0_winterCount F hK hP hi (mu_at _ _ _) (fun _ h => List.mem_cons_of_mem _ (List.mem_append_left _ (List.mem_append_right _ h))) (List.mem_of_getElem? (i := 6) rfl) dX0_beginWinter_19 ?_
  refine lv_iconst (v := (1 : Int32)) F.1 F.2.1 dX0_beginWinter_22 (by decide) ?_
  refine lv_iadd F.1 F.2.1 dX0_beginWinter_23 ?_
  refine pI_X0_winterCount F hK hi hP hS (fun _ h => List.mem_cons_of_mem _ (List.mem_append_left _ (List.mem_append_right _ h))) (List.mem_of_getElem? (i := 6) rfl) dX0_beginWinter_24 (fun H locs hP hS => ?_)
  refine lv_iconst (v := (0 : Int32)) F.1 F.2.1 dX0_beginWinter_27 (by decide) ?_
  refine lv_istore_n F.1 F.2.1 dX0_beginWinter_28 rfl hl (Nat.le_of_ble_eq_true rfl) rfl (fun ls hl => ?_)
  have hl : lv_has ls 3 [(2, .int (0 : Int32)), (1, .int r1), (0, .ref (x + gb i))] := hl
  exact (KEY FU) (upd (upd g 201 (if (g 201) < r1 then r1 else (g 201))) 200 (((upd g 201 (if (g 201) < r1 then r1 else (g 201))) 200) + (1 : Int32))) r1 (0 : Int32) _ _ _ (lv_sub hl [2, 1, 0] rfl) hP hS hf

-- FrostTubes$Ground.perform(IIII)I
def f_X0_perform (g : Row) (a1 : Int32) (a2 : Int32) (a3 : Int32) (a4 : Int32) : Option (Int32 × Row) := ((f_X0_faultOf g a1 a2 a3 a4).bind fun r1 => (if r1 = 0 then (if a1 = (100 : Int32) then ((f_X0_passDays g a2 a3 a4).bind fun r5 => some (r5.1, r5.2)) else (if a1 = (101 : Int32) then ((f_X0_changeSetting g a2 a3).bind fun r8 => some (r8.1, r8.2)) else (if a1 = (102 : Int32) then ((f_X0_buildFence g a2 a3).bind fun r11 => some (r11.1, r11.2)) else (if a1 = (112 : Int32) then ((f_X0_addPipe g a2 a3).bind fun r14 => some (r14.1, r14.2)) else (if a1 = (115 : Int32) then some ((g 196), (upd g 196 ((g 196) + (1 : Int32)))) else (if a1 = (116 : Int32) then ((f_X0_addTube g a2 a3).bind fun r18 => some (r18.1, r18.2)) else (if a1 = (119 : Int32) then ((f_X0_beginWinter g).bind fun r21 => some (r21.1, r21.2)) else (if a1 = (120 : Int32) then ((f_X0_clearSnow g a2).bind fun r24 => some (r24.1, r24.2)) else some ((-1 : Int32), g))))))))) else some ((-1 : Int32), g)))
def rmX0_perform : Room := { frames := 4, cells := 0, slots := 0, locals := 95 }
theorem hd_X0_perform : yX0_perform.cls ≠ "java/lang/invoke/MethodHandle" ∧ yX0_perform.cls ≠ "java/lang/invoke/VarHandle" ∧ (parseMethodDescriptor yX0_perform.desc).map (fun d => d.parameters.length) = some 4 := by decide +kernel
set_option maxHeartbeats 8000000 in
set_option maxRecDepth 100000 in
theorem c_X0_perform {l : Launch} {D : va_G} {x : Nat} {μ : Mem} {i : Nat} (hi : i < 19) {g : Row} (a1 : Int32) (a2 : Int32) (a3 : Int32) (a4 : Int32) {r : Int32 × Row} (hf : f_X0_perform g a1 a2 a3 a4 = some r) : CX l yX0_perform wsX0_perform rmX0_perform [.ref (x + gb i), .int a1, .int a2, .int a3, .int a4] D x (va_up μ i g) (some (.int r.1)) (va_up μ i r.2) := by
  refine CX.of (cc := cX0_perform) (maxL := 5) (ret := (some .int)) pn_X0 rfl (Nat.le_of_ble_eq_true rfl) ?_
  intro p e s m args below meth c F hr hlk hK hG
  intro ls H locs hl hP hS
  have hl : lv_has ls 5 [(0, .ref (x + gb i)), (1, .int a1), (2, .int a2), (3, .int a3), (4, .int a4)] := hl
  unfold f_X0_perform at hf
  refine lv_aload_n F.1 F.2.1 dX0_perform_0 rfl (lv_at hl 0 rfl) ?_
  refine lv_iload_n F.1 F.2.1 dX0_perform_1 rfl (lv_at hl 1 rfl) ?_
  refine lv_iload_n F.1 F.2.1 dX0_perform_2 rfl (lv_at hl 2 rfl) ?_
  refine lv_iload_n F.1 F.2.1 dX0_perform_3 rfl (lv_at hl 3 rfl) ?_
  refine lv_iload F.1 F.2.1 dX0_perform_4 (lv_at hl 4 rfl) ?_
  obtain ⟨r1, hr2, hf⟩ := bnd hf
  refine x_callV F hK hG hP hS (o_G hi (c := 0) (by decide)) (kd_G i hi 0 (by decide)) (ci := 0) (fun _ => rfl) rfl (c_X0_faultOf hi (mu_at _ _ _) a1 a2 a3 a4 hr2) (cwV 4 F.2.2.2.2 gX0_perform_X0_faultOf rfl rfl rfl ⟨rfl, hd_X0_faultOf⟩ ⟨(Nat.le_of_ble_eq_true rfl), (Nat.le_of_ble_eq_true rfl)⟩) rfl rfl hl.1 (Nat.le_of_ble_eq_true rfl) dX0_perform_6 ⟨(Nat.le_of_ble_eq_true rfl), (Nat.le_of_ble_eq_true rfl)⟩ (rest := []) (fun H locs hP hS => ?_)
  refine W.eq (g2 := F0 m 9 ls [.int r1]) rfl ?_
  refine lv_if_eq (tgt := 14) F.1 F.2.1 dX0_perform_9 rfl (fun hc3 => ?_) (fun hc3 => ?_)
  · have hf := ifp hc3 hf
    refine lv_iload_n F.1 F.2.1 dX0_perform_14 rfl (lv_at hl 1 rfl) ?_
    by_cases hc4 : a1 = (100 : Int32)
    · have hf := ifp hc4 hf
      refine lv_tableIn (off := 136) (tgt := 151) F.1 F.2.1 dX0_perform_15 (by rw [hc4]; decide) (by rw [hc4]; decide) (by rw [hc4]; rfl) rfl ?_
      refine lv_aload_n F.1 F.2.1 dX0_perform_151 rfl (lv_at hl 0 rfl) ?_
      refine lv_iload_n F.1 F.2.1 dX0_perform_152 rfl (lv_at hl 2 rfl) ?_
      refine lv_iload_n F.1 F.2.1 dX0_perform_153 rfl (lv_at hl 3 rfl) ?_
      refine lv_iload F.1 F.2.1 dX0_perform_154 (lv_at hl 4 rfl) ?_
      obtain ⟨r5, hr6, hf⟩ := bnd hf
      refine x_callV F hK hG hP hS (o_G hi (c := 0) (by decide)) (kd_G i hi 0 (by decide)) (ci := 0) (fun _ => rfl) rfl (c_X0_passDays hi a2 a3 a4 hr6) (cwV 3 F.2.2.2.2 gX0_perform_X0_passDays rfl rfl rfl ⟨rfl, hd_X0_passDays⟩ ⟨(Nat.le_of_ble_eq_true rfl), (Nat.le_of_ble_eq_true rfl)⟩) rfl rfl hl.1 (Nat.le_of_ble_eq_true rfl) dX0_perform_156 ⟨(Nat.le_of_ble_eq_true rfl), (Nat.le_of_ble_eq_true rfl)⟩ (rest := []) (fun H locs hP hS => ?_)
      refine W.eq (g2 := F0 m 159 ls [.int r5.1]) rfl ?_
      obtain rfl := Option.some.inj hf
      exact x_iret F hr hlk hP hS rfl dX0_perform_159
    have hf := ifn hc4 hf
    by_cases hc7 : a1 = (101 : Int32)
    · have hf := ifp hc7 hf
      refine lv_tableIn (off := 145) (tgt := 160) F.1 F.2.1 dX0_perform_15 (by rw [hc7]; decide) (by rw [hc7]; decide) (by rw [hc7]; rfl) rfl ?_
      refine lv_aload_n F.1 F.2.1 dX0_perform_160 rfl (lv_at hl 0 rfl) ?_
      refine lv_iload_n F.1 F.2.1 dX0_perform_161 rfl (lv_at hl 2 rfl) ?_
      refine lv_iload_n F.1 F.2.1 dX0_perform_162 rfl (lv_at hl 3 rfl) ?_
      obtain ⟨r8, hr9, hf⟩ := bnd hf
      refine x_callV F hK hG hP hS (o_G hi (c := 0) (by decide)) (kd_G i hi 0 (by decide)) (ci := 0) (fun _ => rfl) rfl (c_X0_changeSetting hi a2 a3 hr9) (cwV 2 F.2.2.2.2 gX0_perform_X0_changeSetting rfl rfl rfl ⟨rfl, hd_X0_changeSetting⟩ ⟨(Nat.le_of_ble_eq_true rfl), (Nat.le_of_ble_eq_true rfl)⟩) rfl rfl hl.1 (Nat.le_of_ble_eq_true rfl) dX0_perform_163 ⟨(Nat.le_of_ble_eq_true rfl), (Nat.le_of_ble_eq_true rfl)⟩ (rest := []) (fun H locs hP hS => ?_)
      refine W.eq (g2 := F0 m 166 ls [.int r8.1]) rfl ?_
      obtain rfl := Option.some.inj hf
      exact x_iret F hr hlk hP hS rfl dX0_perform_166
    have hf := ifn hc7 hf
    by_cases hc10 : a1 = (102 : Int32)
    · have hf := ifp hc10 hf
      refine lv_tableIn (off := 123) (tgt := 138) F.1 F.2.1 dX0_perform_15 (by rw [hc10]; decide) (by rw [hc10]; decide) (by rw [hc10]; rfl) rfl ?_
      refine lv_aload_n F.1 F.2.1 dX0_perform_138 rfl (lv_at hl 0 rfl) ?_
      refine lv_iload_n F.1 F.2.1 dX0_perform_139 rfl (lv_at hl 2 rfl) ?_
      refine lv_iload_n F.1 F.2.1 dX0_perform_140 rfl (lv_at hl 3 rfl) ?_
      obtain ⟨r11, hr12, hf⟩ := bnd hf
      refine x_callV F hK hG hP hS (o_G hi (c := 0) (by decide)) (kd_G i hi 0 (by decide)) (ci := 0) (fun _ => rfl) rfl (c_X0_buildFence hi a2 a3 hr12) (cwV 2 F.2.2.2.2 gX0_perform_X0_buildFence rfl rfl rfl ⟨rfl, hd_X0_buildFence⟩ ⟨(Nat.le_of_ble_eq_true rfl), (Nat.le_of_ble_eq_true rfl)⟩) rfl rfl hl.1 (Nat.le_of_ble_eq_true rfl) dX0_perform_141 ⟨(Nat.le_of_ble_eq_true rfl), (Nat.le_of_ble_eq_true rfl)⟩ (rest := []) (fun H locs hP hS => ?_)
      refine W.eq (g2 := F0 m 144 ls [.int r11.1]) rfl ?_
      obtain rfl := Option.some.inj hf
      exact x_iret F hr hlk hP hS rfl dX0_perform_144
    have hf := ifn hc10 hf
    by_cases hc13 : a1 = (112 : Int32)
    · have hf := ifp hc13 hf
      refine lv_tableIn (off := 116) (tgt := 131) F.1 F.2.1 dX0_perform_15 (by rw [hc13]; decide) (by rw [hc13]; decide) (by rw [hc13]; rfl) rfl ?_
      refine lv_aload_n F.1 F.2.1 dX0_perform_131 rfl (lv_at hl 0 rfl) ?_
      refine lv_iload_n F.1 F.2.1 dX0_perform_132 rfl (lv_at hl 2 rfl) ?_
      refine lv_iload_n F.1 F.2.1 dX0_perform_133 rfl (lv_at hl 3 rfl) ?_
      obtain ⟨r14, hr15, hf⟩ := bnd hf
      refine x_callV F hK hG hP hS (o_G hi (c := 0) (by decide)) (kd_G i hi 0 (by decide)) (ci := 0) (fun _ => rfl) rfl (c_X0_addPipe hi a2 a3 hr15) (cwV 2 F.2.2.2.2 gX0_perform_X0_addPipe rfl rfl rfl ⟨rfl, hd_X0_addPipe⟩ ⟨(Nat.le_of_ble_eq_true rfl), (Nat.le_of_ble_eq_true rfl)⟩) rfl rfl hl.1 (Nat.le_of_ble_eq_true rfl) dX0_perform_134 ⟨(Nat.le_of_ble_eq_true rfl), (Nat.le_of_ble_eq_true rfl)⟩ (rest := []) (fun H locs hP hS => ?_)
      refine W.eq (g2 := F0 m 137 ls [.int r14.1]) rfl ?_
      obtain rfl := Option.some.inj hf
      exact x_iret F hr hlk hP hS rfl dX0_perform_137
    have hf := ifn hc13 hf
    by_cases hc16 : a1 = (115 : Int32)
    · have hf := ifp hc16 hf
      refine lv_tableIn (off := 97) (tgt := 112) F.1 F.2.1 dX0_perform_15 (by rw [hc16]; decide) (by rw [hc16]; decide) (by rw [hc16]; rfl) rfl ?_
      refine lv_aload_n F.1 F.2.1 dX0_perform_112 rfl (lv_at hl 0 rfl) ?_
      refine lv_dup F.1 F.2.1 dX0_perform_113 rfl ?_
      refine gI_X0_siteCount F hK hP hi (mu_at _ _ _) (fun _ h => List.mem_cons_of_mem _ (List.mem_append_left _ (List.mem_append_right _ h))) (List.mem_of_getElem? (i := 1) rfl) dX0_perform_114 ?_
      refine lv_dup_x1 F.1 F.2.1 dX0_perform_117 rfl rfl ?_
      refine lv_iconst (v := (1 : Int32)) F.1 F.2.1 dX0_perform_118 (by decide) ?_
      refine lv_iadd F.1 F.2.1 dX0_perform_119 ?_
      refine pI_X0_siteCount F hK hi hP hS (fun _ h => List.mem_cons_of_mem _ (List.mem_append_left _ (List.mem_append_right _ h))) (List.mem_of_getElem? (i := 1) rfl) dX0_perform_120 (fun H locs hP hS => ?_)
      obtain rfl := Option.some.inj hf
      exact x_iret F hr hlk hP hS rfl dX0_perform_123
    have hf := ifn hc16 hf
    by_cases hc17 : a1 = (116 : Int32)
    · have hf := ifp hc17 hf
      refine lv_tableIn (off := 109) (tgt := 124) F.1 F.2.1 dX0_perform_15 (by rw [hc17]; decide) (by rw [hc17]; decide) (by rw [hc17]; rfl) rfl ?_
      refine lv_aload_n F.1 F.2.1 dX0_perform_124 rfl (lv_at hl 0 rfl) ?_
      refine lv_iload_n F.1 F.2.1 dX0_perform_125 rfl (lv_at hl 2 rfl) ?_
      refine lv_iload_n F.1 F.2.1 dX0_perform_126 rfl (lv_at hl 3 rfl) ?_
      obtain ⟨r18, hr19, hf⟩ := bnd hf
      refine x_callV F hK hG hP hS (o_G hi (c := 0) (by decide)) (kd_G i hi 0 (by decide)) (ci := 0) (fun _ => rfl) rfl (c_X0_addTube hi a2 a3 hr19) (cwV 2 F.2.2.2.2 gX0_perform_X0_addTube rfl rfl rfl ⟨rfl, hd_X0_addTube⟩ ⟨(Nat.le_of_ble_eq_true rfl), (Nat.le_of_ble_eq_true rfl)⟩) rfl rfl hl.1 (Nat.le_of_ble_eq_true rfl) dX0_perform_127 ⟨(Nat.le_of_ble_eq_true rfl), (Nat.le_of_ble_eq_true rfl)⟩ (rest := []) (fun H locs hP hS => ?_)
      refine W.eq (g2 := F0 m 130 ls [.int r18.1]) rfl ?_
      obtain rfl := Option.some.inj hf
      exact x_iret F hr hlk hP hS rfl dX0_perform_130
    have hf := ifn hc17 hf
    by_cases hc20 : a1 = (119 : Int32)
    · have hf := ifp hc20 hf
      refine lv_tableIn (off := 152) (tgt := 167) F.1 F.2.1 dX0_perform_15 (by rw [hc20]; decide) (by rw [hc20]; decide) (by rw [hc20]; rfl) rfl ?_
      refine lv_aload_n F.1 F.2.1 dX0_perform_167 rfl (lv_at hl 0 rfl) ?_
      obtain ⟨r21, hr22, hf⟩ := bnd hf
      refine x_callV F hK hG hP hS (o_G hi (c := 0) (by decide)) (kd_G i hi 0 (by decide)) (ci := 0) (fun _ => rfl) rfl (c_X0_beginWinter hi hr22) (cwV 0 F.2.2.2.2 gX0_perform_X0_beginWinter rfl rfl rfl ⟨rfl, hd_X0_beginWinter⟩ ⟨(Nat.le_of_ble_eq_true rfl), (Nat.le_of_ble_eq_true rfl)⟩) rfl rfl hl.1 (Nat.le_of_ble_eq_true rfl) dX0_perform_168 ⟨(Nat.le_of_ble_eq_true rfl), (Nat.le_of_ble_eq_true rfl)⟩ (rest := []) (fun H locs hP hS => ?_)
      refine W.eq (g2 := F0 m 171 ls [.int r21.1]) rfl ?_
      obtain rfl := Option.some.inj hf
      exact x_iret F hr hlk hP hS rfl dX0_perform_171
    have hf := ifn hc20 hf
    by_cases hc23 : a1 = (120 : Int32)
    · have hf := ifp hc23 hf
      refine lv_tableIn (off := 130) (tgt := 145) F.1 F.2.1 dX0_perform_15 (by rw [hc23]; decide) (by rw [hc23]; decide) (by rw [hc23]; rfl) rfl ?_
      refine lv_aload_n F.1 F.2.1 dX0_perform_145 rfl (lv_at hl 0 rfl) ?_
      refine lv_iload_n F.1 F.2.1 dX0_perform_146 rfl (lv_at hl 2 rfl) ?_
      obtain ⟨r24, hr25, hf⟩ := bnd hf
      refine x_callV F hK hG hP hS (o_G hi (c := 0) (by decide)) (kd_G i hi 0 (by decide)) (ci := 0) (fun _ => rfl) rfl (c_X0_clearSnow hi a2 hr25) (cwV 1 F.2.2.2.2 gX0_perform_X0_clearSnow rfl rfl rfl ⟨rfl, hd_X0_clearSnow⟩ ⟨(Nat.le_of_ble_eq_true rfl), (Nat.le_of_ble_eq_true rfl)⟩) rfl rfl hl.1 (Nat.le_of_ble_eq_true rfl) dX0_perform_147 ⟨(Nat.le_of_ble_eq_true rfl), (Nat.le_of_ble_eq_true rfl)⟩ (rest := []) (fun H locs hP hS => ?_)
      refine W.eq (g2 := F0 m 150 ls [.int r24.1]) rfl ?_
      obtain rfl := Option.some.inj hf
      exact x_iret F hr hlk hP hS rfl dX0_perform_150
    have hf := ifn hc23 hf
    have hc4i := i32_ne hc4
    have hc7i := i32_ne hc7
    have hc10i := i32_ne hc10
    have hc13i := i32_ne hc13
    have hc16i := i32_ne hc16
    have hc17i := i32_ne hc17
    have hc20i := i32_ne hc20
    have hc23i := i32_ne hc23
    have hgap : a1.toInt < 100 ∨ 120 < a1.toInt ∨ a1.toInt = 103 ∨ a1.toInt = 104 ∨ a1.toInt = 105 ∨ a1.toInt = 106 ∨ a1.toInt = 107 ∨ a1.toInt = 108 ∨ a1.toInt = 109 ∨ a1.toInt = 110 ∨ a1.toInt = 111 ∨ a1.toInt = 113 ∨ a1.toInt = 114 ∨ a1.toInt = 117 ∨ a1.toInt = 118 := by have : ((100 : Int32)).toInt = 100 := rfl; have : ((101 : Int32)).toInt = 101 := rfl; have : ((102 : Int32)).toInt = 102 := rfl; have : ((112 : Int32)).toInt = 112 := rfl; have : ((115 : Int32)).toInt = 115 := rfl; have : ((116 : Int32)).toInt = 116 := rfl; have : ((119 : Int32)).toInt = 119 := rfl; have : ((120 : Int32)).toInt = 120 := rfl; omega
    refine lv_tableG (tgt := 172) F.1 F.2.1 dX0_perform_15 (by rcases hgap with h | h | h | h | h | h | h | h | h | h | h | h | h | h | h <;> first | exact Or.inl h | exact Or.inr (Or.inl h) | (refine Or.inr (Or.inr ?_); rw [h]; rfl)) rfl ?_
    refine lv_iconst (v := (-1 : Int32)) F.1 F.2.1 dX0_perform_172 (by decide) ?_
    obtain rfl := Option.some.inj hf
    exact x_iret F hr hlk hP hS rfl dX0_perform_173
  · have hf := ifn hc3 hf
    refine lv_iconst (v := (-1 : Int32)) F.1 F.2.1 dX0_perform_12 (by decide) ?_
    obtain rfl := Option.some.inj hf
    exact x_iret F hr hlk hP hS rfl dX0_perform_13

-- FrostTubes$Ground.passDaysAt(IIII)V
def fb_X0_passDaysAt_1 (a1 : Int32) (a2 : Int32) (a3 : Int32) (a4 : Int32) (K : Row → Int32 → Option (Row)) (g : Row) (v5 : Int32) : Option (Row) := (if a4 ≤ v5 then some g else ((f_X0_passDay (upd g 199 ((g 199) + (1 : Int32))) a1 a2 a3).bind fun r2 => (K r2 (v5 + (1 : Int32)))))
def fl_X0_passDaysAt (a1 : Int32) (a2 : Int32) (a3 : Int32) (a4 : Int32) : Nat → Row → Int32 → Option (Row)
  | 0, _, _ => none
  | n + 1, g, v5 => fb_X0_passDaysAt_1 a1 a2 a3 a4 (fl_X0_passDaysAt a1 a2 a3 a4 n) g v5
def f_X0_passDaysAt (g : Row) (a1 : Int32) (a2 : Int32) (a3 : Int32) (a4 : Int32) : Option (Row) := (fl_X0_passDaysAt a1 a2 a3 a4 FU g (0 : Int32))
def rmX0_passDaysAt : Room := { frames := 3, cells := 0, slots := 0, locals := 70 }
theorem hd_X0_passDaysAt : yX0_passDaysAt.cls ≠ "java/lang/invoke/MethodHandle" ∧ yX0_passDaysAt.cls ≠ "java/lang/invoke/VarHandle" ∧ (parseMethodDescriptor yX0_passDaysAt.desc).map (fun d => d.parameters.length) = some 4 := by decide +kernel
set_option maxHeartbeats 8000000 in
set_option maxRecDepth 100000 in
theorem c_X0_passDaysAt {l : Launch} {D : va_G} {x : Nat} {μ : Mem} {i : Nat} (hi : i < 19) {g : Row} (a1 : Int32) (a2 : Int32) (a3 : Int32) (a4 : Int32) {r : Row} (hf : f_X0_passDaysAt g a1 a2 a3 a4 = some r) : CX l yX0_passDaysAt wsX0_passDaysAt rmX0_passDaysAt [.ref (x + gb i), .int a1, .int a2, .int a3, .int a4] D x (va_up μ i g) (none) (va_up μ i r) := by
  refine CX.of (cc := cX0_passDaysAt) (maxL := 6) (ret := none) pn_X0 rfl (Nat.le_of_ble_eq_true rfl) ?_
  intro p e s m args below meth c F hr hlk hK hG
  have KEY : ∀ n : Nat, (∀ (g : Row) (v5 : Int32) (ls : Array Slot) (H : Heap) (locs : List Loc), lv_has ls 6 [(0, .ref (x + gb i)), (1, .int a1), (2, .int a2), (3, .int a3), (4, .int a4), (5, .int v5)] → va_P D vwCl (WL D x (va_up μ i g)) H → va_S (rng x) s.heap H locs → fl_X0_passDaysAt a1 a2 a3 a4 n g v5 = some r → W p l e rmX0_passDaysAt s m args below meth c H locs 0 0 (MQ below (QX D x (va_up μ i r) (none)) args s 0 0 (rng x)) (F0 m 3 ls [])) := by
    intro n
    induction n with
    | zero => exact (fun _ _ _ _ _ _ _ _ h => nomatch h)
    | succ n ih =>
      skip
      intro g v5  ls H locs hl hP hS hf
      have hf : fb_X0_passDaysAt_1 a1 a2 a3 a4 (fl_X0_passDaysAt a1 a2 a3 a4 n) g v5 = some r := hf
      unfold fb_X0_passDaysAt_1 at hf
      refine lv_iload F.1 F.2.1 dX0_passDaysAt_3 (lv_at hl 5 rfl) ?_
      refine lv_iload F.1 F.2.1 dX0_passDaysAt_5 (lv_at hl 4 rfl) ?_
      refine lv_icmp_ge (tgt := 33) F.1 F.2.1 dX0_passDaysAt_7 rfl (fun hc1 => ?_) (fun hc1 => ?_)
      · have hf := ifp hc1 hf
        obtain rfl := Option.some.inj hf
        exact x_vret F hr hlk hP hS rfl dX0_passDaysAt_33
      · have hf := ifn hc1 hf
        refine lv_aload_n F.1 F.2.1 dX0_passDaysAt_10 rfl (lv_at hl 0 rfl) ?_
        refine lv_dup F.1 F.2.1 dX0_passDaysAt_11 rfl ?_
        refine gI_X0_dayCount F hK hP hi (mu_at _ _ _) (fun _ h => List.mem_cons_of_mem _ (List.mem_append_left _ (List.mem_append_right _ h))) (List.mem_of_getElem? (i := 1) rfl) dX0_passDaysAt_12 ?_
        refine lv_iconst (v := (1 : Int32)) F.1 F.2.1 dX0_passDaysAt_15 (by decide) ?_
        refine lv_iadd F.1 F.2.1 dX0_passDaysAt_16 ?_
        refine pI_X0_dayCount F hK hi hP hS (fun _ h => List.mem_cons_of_mem _ (List.mem_append_left _ (List.mem_append_right _ h))) (List.mem_of_getElem? (i := 1) rfl) dX0_passDaysAt_17 (fun H locs hP hS => ?_)
        refine lv_aload_n F.1 F.2.1 dX0_passDaysAt_20 rfl (lv_at hl 0 rfl) ?_
        refine lv_iload_n F.1 F.2.1 dX0_passDaysAt_21 rfl (lv_at hl 1 rfl) ?_
        refine lv_iload_n F.1 F.2.1 dX0_passDaysAt_22 rfl (lv_at hl 2 rfl) ?_
        refine lv_iload_n F.1 F.2.1 dX0_passDaysAt_23 rfl (lv_at hl 3 rfl) ?_
        obtain ⟨r2, hr3, hf⟩ := bnd hf
        refine x_callV F hK hG hP hS (o_G hi (c := 0) (by decide)) (kd_G i hi 0 (by decide)) (ci := 0) (fun _ => rfl) rfl (c_X0_passDay hi a1 a2 a3 hr3) (cwV 3 F.2.2.2.2 gX0_passDaysAt_X0_passDay rfl rfl rfl ⟨rfl, hd_X0_passDay⟩ ⟨(Nat.le_of_ble_eq_true rfl), (Nat.le_of_ble_eq_true rfl)⟩) rfl rfl hl.1 (Nat.le_of_ble_eq_true rfl) dX0_passDaysAt_24 ⟨(Nat.le_of_ble_eq_true rfl), (Nat.le_of_ble_eq_true rfl)⟩ (rest := []) (fun H locs hP hS => ?_)
        refine W.eq (g2 := F0 m 27 ls []) rfl ?_
        refine lv_iinc (v := (v5 + (1 : Int32))) F.1 F.2.1 dX0_passDaysAt_27 hl (k := 5) rfl rfl (Nat.le_of_ble_eq_true rfl) rfl (fun ls hl => ?_)
        have hl : lv_has ls 6 [(5, .int (v5 + (1 : Int32))), (0, .ref (x + gb i)), (1, .int a1), (2, .int a2), (3, .int a3), (4, .int a4)] := hl
        refine lv_goto (tgt := 3) F.1 F.2.1 dX0_passDaysAt_30 rfl ?_
        exact ih r2 (v5 + (1 : Int32)) _ _ _ (lv_sub hl [1, 2, 3, 4, 5, 0] rfl) hP hS hf
  intro ls H locs hl hP hS
  have hl : lv_has ls 6 [(0, .ref (x + gb i)), (1, .int a1), (2, .int a2), (3, .int a3), (4, .int a4)] := hl
  unfold f_X0_passDaysAt at hf
  refine lv_iconst (v := (0 : Int32)) F.1 F.2.1 dX0_passDaysAt_0 (by decide) ?_
  refine lv_istore F.1 F.2.1 dX0_passDaysAt_1 hl (Nat.le_of_ble_eq_true rfl) rfl (fun ls hl => ?_)
  have hl : lv_has ls 6 [(5, .int (0 : Int32)), (0, .ref (x + gb i)), (1, .int a1), (2, .int a2), (3, .int a3), (4, .int a4)] := hl
  exact (KEY FU) g (0 : Int32) _ _ _ (lv_sub hl [1, 2, 3, 4, 5, 0] rfl) hP hS hf
