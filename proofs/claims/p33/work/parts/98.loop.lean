section LQ
variable {p : Program} {l : Launch} {e : Env} {s : State} {m : MethodId} {below : List Frame} {meth : Method} {c : Code} {D : va_G} {b L : Nat} {xs : Nat → Int32}
set_option maxHeartbeats 4000000 in
set_option maxRecDepth 100000 in
theorem law_loop (F : CallFix p m c code 7 s #[Value.ref b] wsL_law RL) (hlt : l.stackTraces = false) (hK : va_K D vwCl (tyX D) s) (hG : SGA (bge s.heap.size) s s.heap) (hX : va_X b L xs s s.heap) (hbl : b < s.heap.size) (hLb : L ≤ 260) (hr : meth.sig.returnType = ret) (hlk : meth.locks = false) :
    ∀ (n k : Nat) (μ ν : Mem) (H : Heap) (locs : List Loc) (ls : Array Slot) (cells slots : Nat), k + n = 36 → PQ μ ν → va_P D vwCl (WL D s.heap.size μ) H → va_P D vwCl (WL D (s.heap.size + 349) ν) H → va_S (bge s.heap.size) s.heap H locs → lv_has ls 7 (lq s.heap.size b k) → cells ≤ bd k → slots ≤ 6 * bd k → W p l e room_1 s m #[Value.ref b] below meth c H locs cells slots (lw_Z below #[Value.ref b] s) (F0 m 52 ls []) := by
  have hbA : ¬ bge s.heap.size b := fun h => by
    have h2 : s.heap.size ≤ b := h
    omega
  intro n
  induction n with
  | zero =>
    intro k μ ν H locs ls cells slots hk hpq hP hR hS hl c1 c2
    have hk36 : k = 36 := by omega
    subst hk36
    have hbd : bd 36 = 393700 := by decide
    rw [hbd] at c1 c2
    refine lv_iload F.1 F.2.1 dL_law_52 (lv_at hl 0 rfl) ?_
    refine lv_bipush (v := (36 : Int32)) F.1 F.2.1 dL_law_54 (by decide) ?_
    refine lv_icmp_ge (tgt := 271) F.1 F.2.1 dL_law_56 rfl (fun _ => ?_) (fun h => absurd (Int32.le_refl _) h)
    refine lv_iload_n F.1 F.2.1 dL_law_271 rfl (lv_at hl 1 rfl) ?_
    refine lv_if_eq (tgt := 290) F.1 F.2.1 dL_law_272 rfl (fun h => absurd h i10) (fun _ => ?_)
    obtain ⟨μ', ν', hq, hM⟩ := c_L_alike hlt (D := D) (bx_d s.heap.size) (10847 : Int32) hpq
    refine lv_aload_n F.1 F.2.1 dL_law_275 rfl (lv_at hl 3 rfl) ?_
    refine lv_aload_n F.1 F.2.1 dL_law_276 rfl (lv_at hl 2 rfl) ?_
    refine lv_sipush (v := (10847 : Int32)) F.1 F.2.1 dL_law_277 (by decide) ?_
    refine a_A F hK hG (bx_2 _) hP hR hS hM (va_cwS 3 F.2.2.2.2 gW_alike rfl rfl rfl hd_L_alike ⟨(Nat.le_of_ble_eq_true rfl), (Nat.le_of_ble_eq_true rfl)⟩) rfl hl.1 (rest := []) (Nat.le_of_ble_eq_true rfl) dL_law_280 ⟨(by show _ ≤ 600104; omega), (by show _ ≤ 7301314; omega)⟩ (fun H locs hP hR hS => ?_)
    refine lv_if_eq (tgt := 290) F.1 F.2.1 dL_law_283 rfl (fun h => absurd h i10) (fun _ => ?_)
    refine lv_iconst (v := (1 : Int32)) F.1 F.2.1 dL_law_286 (by decide) ?_
    refine lv_goto (tgt := 291) F.1 F.2.1 dL_law_287 rfl ?_
    refine va_forget (fun z hz => hS.2.2 z hz) ?_
    refine W.widen (k := 600104) (n := 7301314) (by omega) (by omega) ?_
    exact lw_ret F.1 F.2.1 hr hlk dL_law_291
  | succ n ih =>
    intro k μ ν H locs ls cells slots hk hpq hP hR hS hl c1 c2
    have hb1 : bd (k + 1) = 60000 + 1000 * (k + 1) + 38700 * ((k + 1 + 4) / 8) + 31400 * ((k + 1) / 12) + 2500 * ((k + 1 + 9) / 10) := rfl
    have hb0 : bd k = 60000 + 1000 * k + 38700 * ((k + 4) / 8) + 31400 * (k / 12) + 2500 * ((k + 9) / 10) := rfl
    have hCB : bd (k + 1) ≤ 500000 := by omega
    refine lv_iload F.1 F.2.1 dL_law_52 (lv_at hl 0 rfl) ?_
    refine lv_bipush (v := (36 : Int32)) F.1 F.2.1 dL_law_54 (by decide) ?_
    refine lv_icmp_ge (tgt := 271) F.1 F.2.1 dL_law_56 rfl (fun h => ?_) (fun _ => ?_)
    · exfalso
      have h2 : nI 36 ≤ nI k := h
      rw [le_nI (by omega) (by omega)] at h2
      omega
    refine lv_iload_n F.1 F.2.1 dL_law_59 rfl (lv_at hl 1 rfl) ?_
    refine lv_if_eq (tgt := 271) F.1 F.2.1 dL_law_60 rfl (fun h => absurd h i10) (fun _ => ?_)
    have m2 : (2 : Int32) * nI k = nI (2 * k) := mul_nI 2 k
    have m3 : nI (2 * k) + (1 : Int32) = nI (2 * k + 1) := add_nI (2 * k) 1
    obtain ⟨u, hu, eu⟩ := dw_n xs L (2 * k)
    obtain ⟨v, hv, ev⟩ := dw_n xs L (2 * k + 1)
    refine lv_aload_n F.1 F.2.1 dL_law_63 rfl (lv_at hl 4 rfl) ?_
    refine lv_iconst (v := (2 : Int32)) F.1 F.2.1 dL_law_64 (by decide) ?_
    refine lv_iload F.1 F.2.1 dL_law_65 (lv_at hl 0 rfl) ?_
    refine lv_imul F.1 F.2.1 dL_law_67 ?_
    rw [m2]
    refine a_draw F hX hbl hbA hS (k := 2 * k) (by omega) hLb (va_cwS 2 F.2.2.2.2 gW_draw rfl rfl rfl hd_L_draw ⟨(Nat.le_of_ble_eq_true rfl), (Nat.le_of_ble_eq_true rfl)⟩) rfl hl.1 (rest := []) (Nat.le_of_ble_eq_true rfl) dL_law_68 ⟨(by show _ ≤ 600104; omega), (by show _ ≤ 7301314; omega)⟩ (fun H locs hS hk9 => ?_)
    have hP := w_keep (B := fun _ => False) (fun _ _ h => h) hP hk9
    have hR := w_keep (B := fun _ => False) (fun _ _ h => h) hR hk9
    clear hk9
    rw [eu]
    refine lv_istore F.1 F.2.1 dL_law_71 hl (Nat.le_of_ble_eq_true rfl) rfl (fun ls hl => ?_)
    refine lv_aload_n F.1 F.2.1 dL_law_73 rfl (lv_at hl 5 rfl) ?_
    refine lv_iconst (v := (2 : Int32)) F.1 F.2.1 dL_law_74 (by decide) ?_
    refine lv_iload F.1 F.2.1 dL_law_75 (lv_at hl 1 rfl) ?_
    refine lv_imul F.1 F.2.1 dL_law_77 ?_
    rw [m2]
    refine lv_iconst (v := (1 : Int32)) F.1 F.2.1 dL_law_78 (by decide) ?_
    refine lv_iadd F.1 F.2.1 dL_law_79 ?_
    rw [m3]
    refine a_draw F hX hbl hbA hS (k := 2 * k + 1) (by omega) hLb (va_cwS 2 F.2.2.2.2 gW_draw rfl rfl rfl hd_L_draw ⟨(Nat.le_of_ble_eq_true rfl), (Nat.le_of_ble_eq_true rfl)⟩) rfl hl.1 (rest := []) (Nat.le_of_ble_eq_true rfl) dL_law_80 ⟨(by show _ ≤ 600104; omega), (by show _ ≤ 7301314; omega)⟩ (fun H locs hS hk9 => ?_)
    have hP := w_keep (B := fun _ => False) (fun _ _ h => h) hP hk9
    have hR := w_keep (B := fun _ => False) (fun _ _ h => h) hR hk9
    clear hk9
    rw [ev]
    refine lv_istore F.1 F.2.1 dL_law_83 hl (Nat.le_of_ble_eq_true rfl) rfl (fun ls hl => ?_)
    have hl : lv_has ls 7 (lq6 s.heap.size b k (nI u) (nI v)) := lv_sub hl [3, 0, 1, 2, 4, 5, 6] rfl
    refine lv_iload F.1 F.2.1 dL_law_85 (lv_at hl 3 rfl) ?_
    refine lv_if_ne (tgt := 129) F.1 F.2.1 dL_law_87 rfl (fun h => ?_) (fun h => ?_)
    · have hk0 : 0 < k := Nat.pos_of_ne_zero fun h0 => h (by rw [h0]; rfl)
      obtain ⟨w, μ1, ν1, a1, a2, hq⟩ := pq_act (nI u) (nI v) hpq
      refine lv_aload_n F.1 F.2.1 dL_law_129 rfl (lv_at hl 5 rfl) ?_
      refine lv_iload F.1 F.2.1 dL_law_130 (lv_at hl 2 rfl) ?_
      refine lv_iload F.1 F.2.1 dL_law_132 (lv_at hl 1 rfl) ?_
      refine a_S F hK (a_sl hG hS (bx_x _)) (bx_x _) hP hS (c_L_act hlt _ _ a1) (va_cwS 3 F.2.2.2.2 gW_act rfl rfl rfl hd_L_act ⟨(Nat.le_of_ble_eq_true rfl), (Nat.le_of_ble_eq_true rfl)⟩) rfl rfl hl.1 (Nat.le_of_ble_eq_true rfl) dL_law_134 ⟨(by show _ ≤ 600104; omega), (by show _ ≤ 7301314; omega)⟩ (rest := []) (fun H locs hP hS hk => ?_)
      have hR := w_keep (bx_d' _) hR hk
      clear hk
      refine W.eq (g2 := F0 m 137 ls [.long w]) rfl ?_
      refine lv_aload_n F.1 F.2.1 dL_law_137 rfl (lv_at hl 4 rfl) ?_
      refine lv_iload F.1 F.2.1 dL_law_138 (lv_at hl 2 rfl) ?_
      refine lv_iload F.1 F.2.1 dL_law_140 (lv_at hl 1 rfl) ?_
      refine a_S F hK (a_sl hG hS (bx_y _)) (bx_y _) hR hS (c_L_act hlt _ _ a2) (va_cwS 3 F.2.2.2.2 gW_act rfl rfl rfl hd_L_act ⟨(Nat.le_of_ble_eq_true rfl), (Nat.le_of_ble_eq_true rfl)⟩) rfl rfl hl.1 (Nat.le_of_ble_eq_true rfl) dL_law_142 ⟨(by show _ ≤ 600104; omega), (by show _ ≤ 7301314; omega)⟩ (rest := [.long w]) (fun H locs hR hS hk => ?_)
      have hP := w_keep (bx_d _) hP hk
      clear hk
      refine W.eq (g2 := F0 m 145 ls [.long w, .long w]) rfl ?_
      refine W.lcmp F.1 F.2.1 dL_law_145 ?_
      refine lv_if_ne (tgt := 153) F.1 F.2.1 dL_law_146 rfl (fun h => absurd (ceq_s w) h) (fun _ => ?_)
      refine lv_iconst (v := (1 : Int32)) F.1 F.2.1 dL_law_149 (by decide) ?_
      refine lv_goto (tgt := 154) F.1 F.2.1 dL_law_150 rfl ?_
      refine lv_istore_n F.1 F.2.1 dL_law_154 rfl hl (Nat.le_of_ble_eq_true rfl) rfl (fun ls hl => ?_)
      have hl : lv_has ls 7 (lq6 s.heap.size b k (nI u) (nI v)) := lv_sub hl [0, 1, 2, 3, 4, 5, 6] rfl
      refine law_mid1 F hlt hK hG (CB := bd k + 1000 + 38700 * ((k + 1 + 4) / 8 - (k + 4) / 8)) (by omega) hq hP hR hS hl (fun h3 => ⟨by omega, by omega⟩) ⟨by omega, by omega⟩ (by omega) ?_
      intro μ ν H locs ls cells slots hpq hP hR hS hl d1 d2
      refine law_mid2 F hlt hK hG (CB := bd k + 1000 + 38700 * ((k + 1 + 4) / 8 - (k + 4) / 8) + 31400 * ((k + 1) / 12 - k / 12)) hv (by omega) hpq hP hR hS hl (fun h3 => ⟨by omega, by omega⟩) ⟨by omega, by omega⟩ (by omega) ?_
      intro μ ν H locs ls cells slots hpq hP hR hS hl d3 d4
      refine law_tail F hlt hK hG (CB := bd (k + 1)) (by omega) hpq hP hR hS hl (fun h3 => ⟨by omega, by omega⟩) ⟨by omega, by omega⟩ hCB ?_
      intro μ ν H locs ls cells slots hpq hP hR hS hl d5 d6
      exact ih (k + 1) μ ν H locs ls cells slots (by omega) hpq hP hR hS hl d5 d6
    · have hk0 : k = 0 := (eq_nI (b := 0) (by omega) (by omega)).mp h
      obtain ⟨p1, q1, a1, a2, hq⟩ := pq_told hu hpq
      obtain ⟨w, p2, q2, b1, b2, hq2⟩ := pq_load hq
      refine lv_aload_n F.1 F.2.1 dL_law_90 rfl (lv_at hl 5 rfl) ?_
      refine lv_iload F.1 F.2.1 dL_law_91 (lv_at hl 2 rfl) ?_
      refine a_S F hK (a_sl hG hS (bx_x _)) (bx_x _) hP hS (c_L_told hlt _ a1) (va_cwS 2 F.2.2.2.2 gW_told rfl rfl rfl hd_L_told ⟨(Nat.le_of_ble_eq_true rfl), (Nat.le_of_ble_eq_true rfl)⟩) rfl rfl hl.1 (Nat.le_of_ble_eq_true rfl) dL_law_93 ⟨(by show _ ≤ 600104; omega), (by show _ ≤ 7301314; omega)⟩ (rest := []) (fun H locs hP hS hk => ?_)
      have hR := w_keep (bx_d' _) hR hk
      clear hk
      refine W.eq (g2 := F0 m 96 ls [.int 1]) rfl ?_
      refine lv_if_eq (tgt := 124) F.1 F.2.1 dL_law_96 rfl (fun h => absurd h i10) (fun _ => ?_)
      refine lv_aload_n F.1 F.2.1 dL_law_99 rfl (lv_at hl 4 rfl) ?_
      refine lv_iload F.1 F.2.1 dL_law_100 (lv_at hl 2 rfl) ?_
      refine a_S F hK (a_sl hG hS (bx_y _)) (bx_y _) hR hS (c_L_told hlt _ a2) (va_cwS 2 F.2.2.2.2 gW_told rfl rfl rfl hd_L_told ⟨(Nat.le_of_ble_eq_true rfl), (Nat.le_of_ble_eq_true rfl)⟩) rfl rfl hl.1 (Nat.le_of_ble_eq_true rfl) dL_law_102 ⟨(by show _ ≤ 600104; omega), (by show _ ≤ 7301314; omega)⟩ (rest := []) (fun H locs hR hS hk => ?_)
      have hP := w_keep (bx_d _) hP hk
      clear hk
      refine W.eq (g2 := F0 m 105 ls [.int 1]) rfl ?_
      refine lv_if_eq (tgt := 124) F.1 F.2.1 dL_law_105 rfl (fun h => absurd h i10) (fun _ => ?_)
      refine lv_aload_n F.1 F.2.1 dL_law_108 rfl (lv_at hl 5 rfl) ?_
      refine a_H F hK (a_sl hG hS (bx_x _)) (bx_x _) hP hS (c_L_load hlt b1) (vx_cwSW 1 F.2.2.2.2 gW_load rfl rfl rfl hd_L_load ⟨(Nat.le_of_ble_eq_true rfl), (Nat.le_of_ble_eq_true rfl)⟩) rfl rfl hl.1 (Nat.le_of_ble_eq_true rfl) dL_law_109 ⟨(by show _ ≤ 600104; omega), (by show _ ≤ 7301314; omega)⟩ (rest := []) (fun H locs hP hS hk => ?_)
      have hR := w_keep (bx_d' _) hR hk
      clear hk
      refine W.eq (g2 := F0 m 112 ls [.long w]) rfl ?_
      refine lv_aload_n F.1 F.2.1 dL_law_112 rfl (lv_at hl 4 rfl) ?_
      refine a_H F hK (a_sl hG hS (bx_y _)) (bx_y _) hR hS (c_L_load hlt b2) (vx_cwSW 1 F.2.2.2.2 gW_load rfl rfl rfl hd_L_load ⟨(Nat.le_of_ble_eq_true rfl), (Nat.le_of_ble_eq_true rfl)⟩) rfl rfl hl.1 (Nat.le_of_ble_eq_true rfl) dL_law_113 ⟨(by show _ ≤ 600104; omega), (by show _ ≤ 7301314; omega)⟩ (rest := [.long w]) (fun H locs hR hS hk => ?_)
      have hP := w_keep (bx_d _) hP hk
      clear hk
      refine W.eq (g2 := F0 m 116 ls [.long w, .long w]) rfl ?_
      refine W.lcmp F.1 F.2.1 dL_law_116 ?_
      refine lv_if_ne (tgt := 124) F.1 F.2.1 dL_law_117 rfl (fun h => absurd (ceq_s w) h) (fun _ => ?_)
      refine lv_iconst (v := (1 : Int32)) F.1 F.2.1 dL_law_120 (by decide) ?_
      refine lv_goto (tgt := 125) F.1 F.2.1 dL_law_121 rfl ?_
      refine lv_istore_n F.1 F.2.1 dL_law_125 rfl hl (Nat.le_of_ble_eq_true rfl) rfl (fun ls hl => ?_)
      refine lv_goto (tgt := 265) F.1 F.2.1 dL_law_126 rfl ?_
      refine lv_iinc (v := nI (k + 1)) F.1 F.2.1 dL_law_265 hl (k := 3) rfl (add_nI k 1) (Nat.le_of_ble_eq_true rfl) rfl (fun ls hl => ?_)
      refine lv_goto (tgt := 52) F.1 F.2.1 dL_law_268 rfl ?_
      exact ih (k + 1) p2 q2 H locs ls _ _ (by omega) hq2 hP hR hS (lv_sub hl [0, 1, 4, 5, 6] rfl) (by omega) (by omega)
end LQ
