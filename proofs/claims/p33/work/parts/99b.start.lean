theorem s_trans {A B : Nat → Prop} {H0 H H1 : Heap} {locs : List Loc} (h1 : va_S A H0 H []) (h2 : va_S B H H1 locs) (hBA : ∀ q, B q → A q) : va_S A H0 H1 locs :=
  ⟨Nat.le_trans h1.1 h2.1, fun q hq hA => (h2.2.1 q (Nat.lt_of_lt_of_le hq h1.1) (fun z => hA (hBA q z))).trans (h1.2.1 q hq hA), fun z hz => hBA _ (h2.2.2 z hz)⟩
theorem s_nil {A : Nat → Prop} {H0 H : Heap} {locs : List Loc} (h : va_S A H0 H locs) : va_S A H0 H [] := ⟨h.1, h.2.1, fun z hz => by cases hz⟩
theorem lwd_n0 : Cond.instantiable RX0 15 ∈ wsL_law := (List.mem_of_getElem? (i := 14) rfl)
theorem lwd_n1 : Cond.instantiable RX1 3 ∈ wsL_law := (List.mem_of_getElem? (i := 20) rfl)
theorem lwd_n2 : Cond.instantiable RX2 6 ∈ wsL_law := (List.mem_of_getElem? (i := 45) rfl)
theorem lwd_n3 : Cond.instantiable RX3 8 ∈ wsL_law := (List.mem_of_getElem? (i := 10) rfl)
theorem lwd_n4 : Cond.instantiable RX4 7 ∈ wsL_law := (List.mem_of_getElem? (i := 1) rfl)
theorem lwd_i4 : Cond.initialized RX4 ∈ wsL_law := (List.mem_of_getElem? (i := 2) rfl)
theorem lwd_c4 : Cond.classLink RL 10 RX4 ∈ wsL_law := (List.mem_of_getElem? (i := 0) rfl)
theorem lwd_m4 : Cond.methodLink RL 213 yX4_init ∈ wsL_law := (List.mem_of_getElem? (i := 3) rfl)
theorem lwd_s4 : Cond.instanceMethod yX4_init ∈ wsL_law := (List.mem_of_getElem? (i := 4) rfl)
set_option maxRecDepth 20000 in
theorem ggB_X4_init : GoodIn wsL_law wsX4_init := (goodIn_r _ [5, 6, 7, 8, 9, 10, 11, 12, 13, 14, 15, 16, 17, 18, 19, 20, 21, 22, 23, 24, 25, 26, 27, 28, 29, 30, 31, 32, 33, 34, 35, 36, 37, 38, 39, 40, 41, 42, 43, 44, 45, 46, 47, 48, 49, 50, 51, 52, 53, 54, 55, 56, 57, 58, 59, 60, 61, 62, 659, 660, 661, 662, 663, 664, 665, 666, 652, 653, 654, 655, 656, 657, 658, 667, 668, 669, 670, 671, 672, 673, 674, 675, 676, 677, 678, 679, 680, 681, 682, 683, 684, 685, 686, 687, 688, 689, 690] (by decide +kernel) (by decide +kernel))
theorem mj0 : MJ mu0 := fun i hi _ => by
  rw [mu0_g hi]
  exact gg_frow
set_option maxHeartbeats 8000000 in
set_option maxRecDepth 100000 in
theorem whole_start {p : Program} {e : Env} {s : State} {m : MethodId} {below : List Frame} {meth : Method} {c : Code} (l : Launch) (hflags : l.flags = flags0) {b L : Nat} {xs : Nat → Int32} (hL : L ≤ 260) (C0 : lw_At p s m meth c b L xs) : W p l e room_1 s m #[Value.ref b] below meth c s.heap [] 0 0 (lw_Z below #[Value.ref b] s) (entryFrame m ([Value.ref b] : List Value).toArray 7) := by
  obtain ⟨hx, hb, hr, hml, hown, hts, hX, hbl, hlocks, hgv⟩ := id C0
  have hlt : l.stackTraces = false := by
    unfold Launch.stackTraces
    rw [hflags]
    decide
  have F : CallFix p m c code 7 s #[Value.ref b] wsL_law RL := ⟨hx, hb, hml, hown, fun w h => hts w (wsL_law_in w h)⟩
  have hT := F.2.2.2.2
  have hG := sga0 hts hgv
  obtain ⟨k0, i0, e0⟩ := u_known (C := RX0) (T := TX0) (N := 15) (n := 15) hT inlX0 (hT _ lwd_n0)
  obtain ⟨k1, i1, e1⟩ := u_known (C := RX1) (T := TX1) (N := 3) (n := 3) hT inlX1 (hT _ lwd_n1)
  obtain ⟨k2, i2, e2⟩ := u_known (C := RX2) (T := TX2) (N := 6) (n := 6) hT inlX2 (hT _ lwd_n2)
  obtain ⟨k3, i3, e3⟩ := u_known (C := RX3) (T := TX3) (N := 8) (n := 8) hT inlX3 (hT _ lwd_n3)
  obtain ⟨k4, i4, e4⟩ := u_known (C := RX4) (T := TX4) (N := 7) (n := 7) hT inlX4 (hT _ lwd_n4)
  obtain ⟨a6, f6⟩ := arrOf (hts _ tw_ai) (fun C h => by cases h)
  obtain ⟨a7, f7⟩ := arrOf (hts _ tw_az) (fun C h => by cases h)
  obtain ⟨a8, f8⟩ := arqOf (hts _ tw_ag)
  obtain ⟨a9, f9⟩ := arqOf (hts _ tw_as)
  obtain ⟨D, hK⟩ : ∃ D : va_G, va_K D vwCl (tyX D) s := by
    refine ⟨(fun k => match k with | 0 => k0 | 1 => k1 | 2 => k2 | 3 => k3 | 4 => k4 | 5 => k4 | 6 => a6 | 7 => a7 | 8 => a8 | _ => a9, fun k => match k with | 0 => i0 | 1 => i1 | 2 => i2 | 3 => i3 | _ => i4), fun k q hq => ?_, fun k q hq => ?_⟩
    · match k, hq with
      | 0, hq => cases hq; exact e0
      | 1, hq => cases hq; exact e1
      | 2, hq => cases hq; exact e2
      | 3, hq => cases hq; exact e3
      | 4, hq => cases hq; exact e4
      | k + 5, hq => simp [vwCl] at hq
    · match k, hq with
      | 0, hq => cases hq; exact f6
      | 1, hq => cases hq; exact f7
      | 2, hq => cases hq; exact f8
      | 3, hq => cases hq; exact f9
      | k + 4, hq => simp [tyX] at hq
  have hKC : KC D s := ⟨hK, va_AO.of (hts _ tw_ag), va_AO.of (hts _ tw_as), va_Nw.of rfl (hts _ tw_n3)⟩
  have hl := lv_entry ([.ref b]) (n := 7) (Nat.le_of_ble_eq_true rfl)
  rw [lg_entry_eq]
  generalize (lg_sl ([.ref b]) ++ List.replicate (7 - (lg_sl ([.ref b])).length) Slot.unset).toArray = ls at hl ⊢
  have hl : lv_has ls 7 [(0, .ref b)] := hl
  have hS0 : va_S (bge s.heap.size) s.heap s.heap [] := va_S.rf
  have hbA : ¬ bge s.heap.size b := fun h => by
    have h2 : s.heap.size ≤ b := h
    omega
  refine n_new (b := s.heap.size) (k := 0) (es := []) F hKC (N := 7) inlX4 tyX4 tyX4_ok lwd_c4 lwd_n4 lwd_i4 (ci := 4) rfl rfl rfl (fun j q hq => by simp [sq] at hq) hS0 (fs := [.null, .null, .null, .null, .null, .null, .null]) (fun j hj => by rcases (show j = 0 ∨ j = 1 ∨ j = 2 ∨ j = 3 ∨ j = 4 ∨ j = 5 ∨ j = 6 by omega) with rfl | rfl | rfl | rfl | rfl | rfl | rfl <;> rfl) (Nat.le_of_ble_eq_true rfl) (Nat.le_of_ble_eq_true rfl) dL_law_0 (fun H hz hP hS => ?_)
  refine lv_dup F.1 F.2.1 dL_law_3 rfl ?_
  refine n_callI F hKC (pre := []) (k1 := 0) (n := 349) hz rfl hP hS c_X4_init (cwI 0 hT ggB_X4_init rfl rfl rfl (hT _ lwd_i4) (hT _ lwd_m4) (hT _ lwd_s4) rfl hd_X4_init ⟨(Nat.le_of_ble_eq_true rfl), (Nat.le_of_ble_eq_true rfl)⟩) hl.1 (Nat.le_of_ble_eq_true rfl) dL_law_4 ⟨(Nat.le_of_ble_eq_true rfl), (Nat.le_of_ble_eq_true rfl)⟩ (fun H locs hz hP hS => ?_)
  have hP4 : va_P D vwCl (WL D s.heap.size mu0) H := world0 hP
  refine lv_astore_n F.1 F.2.1 dL_law_7 rfl hl (Nat.le_of_ble_eq_true rfl) rfl (fun ls hl => ?_)
  have hl : lv_has ls 7 [(1, .ref (s.heap.size + 0)), (0, .ref b)] := hl
  refine va_forget (fun z hz => hS.2.2 z hz) ?_
  have hS1 : va_S (bge s.heap.size) s.heap H [] := s_nil hS
  obtain ⟨y, hy⟩ : ∃ y, y = s.heap.size + 349 := ⟨_, rfl⟩
  have hzy : H.size = y + 0 := by omega
  refine n_new (b := y) (k := 0) (es := []) (H0 := H) F hKC (N := 7) inlX4 tyX4 tyX4_ok lwd_c4 lwd_n4 lwd_i4 (ci := 4) rfl hzy rfl (fun j q hq => by simp [sq] at hq) va_S.rf (fs := [.null, .null, .null, .null, .null, .null, .null]) (fun j hj => by rcases (show j = 0 ∨ j = 1 ∨ j = 2 ∨ j = 3 ∨ j = 4 ∨ j = 5 ∨ j = 6 by omega) with rfl | rfl | rfl | rfl | rfl | rfl | rfl <;> rfl) (Nat.le_of_ble_eq_true rfl) (Nat.le_of_ble_eq_true rfl) dL_law_8 (fun H2 hz2 hP2 hS2 => ?_)
  refine lv_dup F.1 F.2.1 dL_law_11 rfl ?_
  refine n_callI F hKC (pre := []) (k1 := 0) (n := 349) hz2 rfl hP2 hS2 c_X4_init (cwI 0 hT ggB_X4_init rfl rfl rfl (hT _ lwd_i4) (hT _ lwd_m4) (hT _ lwd_s4) rfl hd_X4_init ⟨(Nat.le_of_ble_eq_true rfl), (Nat.le_of_ble_eq_true rfl)⟩) hl.1 (Nat.le_of_ble_eq_true rfl) dL_law_12 ⟨(Nat.le_of_ble_eq_true rfl), (Nat.le_of_ble_eq_true rfl)⟩ (fun H3 locs3 hz3 hP3 hS3 => ?_)
  have hP5 : va_P D vwCl (WL D y mu0) H3 := world0 hP3
  refine lv_astore_n F.1 F.2.1 dL_law_15 rfl hl (Nat.le_of_ble_eq_true rfl) rfl (fun ls hl => ?_)
  have hl : lv_has ls 7 [(2, .ref (y + 0)), (1, .ref (s.heap.size + 0)), (0, .ref b)] := hl
  have hP4' : va_P D vwCl (WL D s.heap.size mu0) H3 := hP4.kept fun j r hr => hS3.2.1 r.1 (vx_lt hP4 hr) (fun z => by
    have h1 : y ≤ r.1 := z
    have h2 := ((WL_D D s.heap.size mu0).2 j r hr).2
    omega)
  have hSx : va_S (bge s.heap.size) s.heap H3 locs3 := s_trans hS1 hS3 (fun z h => by
    have h1 : y ≤ z := h
    show s.heap.size ≤ z
    omega)
  refine va_forget (fun z hz => hSx.2.2 z hz) ?_
  have hS : va_S (bge s.heap.size) s.heap H3 [] := s_nil hSx
  subst hy
  have hP := hP4'
  have hR := hP5
  have hpq : PQ mu0 mu0 := ⟨nu0, rel0, rel0, mj0, mj0⟩
  obtain ⟨u, hu, eu⟩ := dw_n xs L 0
  obtain ⟨μ, ν, hq, hM⟩ := c_L_alike hlt (D := D) (bx_d s.heap.size) (nI u) hpq
  obtain ⟨ρ, r1, r2, j1, j2⟩ := id hq
  have g1 := errors_1 r1
  have g2 := kept_1 (mj_0 j1)
  refine lv_aload_n F.1 F.2.1 dL_law_16 rfl (lv_at hl 1 rfl) ?_
  refine lv_aload_n F.1 F.2.1 dL_law_17 rfl (lv_at hl 0 rfl) ?_
  refine lv_aload_n F.1 F.2.1 dL_law_18 rfl (lv_at hl 2 rfl) ?_
  refine lv_iconst (v := nI 0) F.1 F.2.1 dL_law_19 (by decide) ?_
  refine a_draw F hX hbl hbA hS (k := 0) (by omega) hL (va_cwS 2 F.2.2.2.2 gW_draw rfl rfl rfl hd_L_draw ⟨(Nat.le_of_ble_eq_true rfl), (Nat.le_of_ble_eq_true rfl)⟩) rfl hl.1 (rest := [.ref (s.heap.size + 349 + 0), .ref (s.heap.size + 0)]) (Nat.le_of_ble_eq_true rfl) dL_law_20 ⟨(Nat.le_of_ble_eq_true rfl), (Nat.le_of_ble_eq_true rfl)⟩ (fun H locs hS hk9 => ?_)
  have hP := w_keep (B := fun _ => False) (fun _ _ h => h) hP hk9
  have hR := w_keep (B := fun _ => False) (fun _ _ h => h) hR hk9
  clear hk9
  rw [eu]
  refine a_A F hK hG (bx_2 _) hP hR hS hM (va_cwS 3 F.2.2.2.2 gW_alike rfl rfl rfl hd_L_alike ⟨(Nat.le_of_ble_eq_true rfl), (Nat.le_of_ble_eq_true rfl)⟩) rfl hl.1 (rest := []) (Nat.le_of_ble_eq_true rfl) dL_law_23 ⟨(Nat.le_of_ble_eq_true rfl), (Nat.le_of_ble_eq_true rfl)⟩ (fun H locs hP hR hS => ?_)
  refine lv_if_eq (tgt := 47) F.1 F.2.1 dL_law_26 rfl (fun h => absurd h i10) (fun _ => ?_)
  refine lv_aload_n F.1 F.2.1 dL_law_29 rfl (lv_at hl 1 rfl) ?_
  refine a_S F hK (a_sl hG hS (bx_x _)) (bx_x _) hP hS (c_L_errors hlt g1) (va_cwS 1 F.2.2.2.2 gW_errors rfl rfl rfl hd_L_errors ⟨(Nat.le_of_ble_eq_true rfl), (Nat.le_of_ble_eq_true rfl)⟩) rfl rfl hl.1 (Nat.le_of_ble_eq_true rfl) dL_law_30 ⟨(Nat.le_of_ble_eq_true rfl), (Nat.le_of_ble_eq_true rfl)⟩ (rest := []) (fun H locs hP hS hk => ?_)
  have hR := w_keep (bx_d' _) hR hk
  clear hk
  refine W.eq (g2 := F0 m 33 ls [.int 1]) rfl ?_
  refine lv_if_eq (tgt := 47) F.1 F.2.1 dL_law_33 rfl (fun h => absurd h i10) (fun _ => ?_)
  refine lv_aload_n F.1 F.2.1 dL_law_36 rfl (lv_at hl 1 rfl) ?_
  refine a_S F hK (a_sl hG hS (bx_x _)) (bx_x _) hP hS (c_L_kept hlt g2) (va_cwS 1 F.2.2.2.2 gW_kept rfl rfl rfl hd_L_kept ⟨(Nat.le_of_ble_eq_true rfl), (Nat.le_of_ble_eq_true rfl)⟩) rfl rfl hl.1 (Nat.le_of_ble_eq_true rfl) dL_law_37 ⟨(Nat.le_of_ble_eq_true rfl), (Nat.le_of_ble_eq_true rfl)⟩ (rest := []) (fun H locs hP hS hk => ?_)
  have hR := w_keep (bx_d' _) hR hk
  clear hk
  refine W.eq (g2 := F0 m 40 ls [.int 1]) rfl ?_
  refine lv_if_eq (tgt := 47) F.1 F.2.1 dL_law_40 rfl (fun h => absurd h i10) (fun _ => ?_)
  refine lv_iconst (v := (1 : Int32)) F.1 F.2.1 dL_law_43 (by decide) ?_
  refine lv_goto (tgt := 48) F.1 F.2.1 dL_law_44 rfl ?_
  refine lv_istore_n F.1 F.2.1 dL_law_48 rfl hl (Nat.le_of_ble_eq_true rfl) rfl (fun ls hl => ?_)
  refine lv_iconst (v := nI 0) F.1 F.2.1 dL_law_49 (by decide) ?_
  refine lv_istore F.1 F.2.1 dL_law_50 hl (Nat.le_of_ble_eq_true rfl) rfl (fun ls hl => ?_)
  exact law_loop F hlt hK hG hX hbl hL hr hlocks 36 0 μ ν H locs ls _ _ rfl hq hP hR hS (lv_sub hl [0, 1, 2, 3, 4] rfl) (Nat.le_of_ble_eq_true rfl) (Nat.le_of_ble_eq_true rfl)
set_option maxHeartbeats 4000000 in
theorem lw_walk (l : Launch) (hflags : l.flags = flags0) (b : Addr) (xs : List Int32) : MetFree l x (headSpec (Jvm.Cond.code x code maxLocals ret :: tables_1) room_1) (lw_P b xs) (fun _ _ _ _ _ => True) lw_Q := by
  refine MetFree.of_bodyS (code := code) (maxLocals := maxLocals) (ret := ret) (by decide) ?_ ?_
  · intro args s m h hn
    obtain ⟨meth, c, h1, h2, h3, h4, h5, h6, -, -⟩ := Cond.code_spec hn (atoms_spec (ws := Jvm.Cond.code x code maxLocals ret :: tables_1) h _ List.mem_cons_self)
    exact ⟨meth, c, h1, h2, h3, h4, h5, h6⟩
  · intro p e s m args below meth c s₁ B hml0 hP _
    obtain ⟨rfl, hx, hbd, hgv⟩ := hP
    obtain ⟨scr, harrAt, hlist, hof, hsmall⟩ := hx
    obtain ⟨hcb, hkn, -, -⟩ := State.arrayAt?_spec harrAt
    have hown : s.vm.findClass R_law = some m.cls := findClass_of_methodNamed B.named
    have hts0 : ∀ c ∈ (Jvm.Cond.code x code maxLocals ret :: tables_1), c.before #[Value.ref b] s = true := atoms_spec (ws := Jvm.Cond.code x code maxLocals ret :: tables_1) B.pre
    have hts : ∀ w ∈ lw_tbl, w.before #[Value.ref b] s = true := k2_hts_sels lw_privs (fun w hw => hts0 w (List.mem_cons_of_mem _ hw)) lw_privs_ok
    have hml : c.maxLocals = 7 := B.maxLocals_eq (hts0 _ List.mem_cons_self)
    have X₀ : Stand p l e room_1 s m #[Value.ref b] below meth c s₁ [] 0 0 := Stand.of_body B
    have hh0 : s₁.heap = s.heap := by rw [B.state]; rfl
    have hsz : scr.slots.size = xs.length := by rw [← Array.length_toList, hlist, List.length_map]
    have hval : ∀ j : Nat, j < xs.length → scr.slots[j]? = some (.int (xs.getD j 0)) := fun j hj => by
      rw [← Array.getElem?_toList, hlist]
      simp [hj]
    have hbl : b < s.heap.size := (Array.getElem?_eq_some_iff.mp hcb).1
    have hX : va_X b xs.length (fun j => xs.getD j 0) s s.heap := ⟨scr, hcb, hof, hkn, hsz, hval⟩
    have K : W p l e room_1 s m #[Value.ref b] below meth c s₁.heap [] 0 0 (lw_Z below #[Value.ref b] s) (entryFrame m ([Value.ref b] : List Value).toArray 7) := by
      rw [hh0]
      exact whole_start l hflags hbd ⟨B.exec, B.bytes, B.returns, hml, hown, hts, hX, hbl, B.notSynchronized, hgv⟩
    obtain ⟨t, a1, o, b1, b2, b3⟩ := K s₁ rfl X₀
    exact ⟨t, o, a1, b1, b2, b3⟩
theorem lw_pre_spec {args : Array Value} {s : State} (h : (Jvm.Cond.and given_1 narrow_1).before args s = true) (hr : rest_1_c.before args s = true) : ∃ (b : Addr) (xs : List Int32), lw_P b xs args s := by
  have hs := flat_of_before _ h
  have hq := flat_of_before _ hr
  have hc : (Cond.count 1).before args s = true := hs _ (by decide +kernel)
  have harr : (Cond.arrayOf (.arg 0) .int).before args s = true := hs _ (by decide +kernel)
  have hle : (Cond.le (.length (.arg 0)) (.int 260)).before args s = true := hs _ (by decide +kernel)
  have hlen : (Cond.isInt (.length (.arg 0))).before args s = true := hq _ (by decide +kernel)
  have hall : (Cond.all (.arg 0) (.isInt (.elem (.arg 0) (.index 0)))).before args s = true := hq _ (by decide +kernel)
  obtain ⟨b, xs, hb, hx⟩ := State.ints_of_pre rfl harr hlen hall
  have hsm : xs.length < 2 ^ 31 := hx.choose_spec.2.2.2
  have hev : (Term.length (.arg 0)).eval args s none [] s = some (.int xs.length.toInt32) := hx.length_eval hb
  have hv := Cond.le_ints hev (show (Term.int 260).eval args s none [] s = some (.int 260) from rfl)
  have hd : xs.length.toInt32 ≤ 260 := by
    simpa [Cond.before, Cond.holds, hv] using hle
  have hN : xs.length ≤ 260 := (Int32.ofNat_le_ofNat hsm (by decide)).mp (show Int32.ofNat xs.length ≤ Int32.ofNat 260 from hd)
  exact ⟨b, xs, Cond.one_arg hc (show args[0]? = some (.ref b) from hb), hx, hN, h⟩
theorem lw_comes (l : Launch) (hflags : l.flags = flags0) : Comes l x (Jvm.Cond.code x code maxLocals ret :: tables_1) room_1 (fun tb e args s => Calls_1 tb e args s ∧ rest_1 tb e args s ∧ Pre_1 tb e args s)
    (fun _ _ args s o t => lw_Q args s o t) := by
  intro p e ha hc hk s m args below hf hfit hheap happ hpre
  obtain ⟨b, xs, hP⟩ := lw_pre_spec hpre.2.2 hpre.2.1
  obtain ⟨k, o, h1, h2, h3, hQ⟩ := lw_walk l hflags b xs p e ha hc hk s m args below hf ((Spec.applies_iff_loose hf).mp happ).1 hP trivial
  exact ⟨k, o, h1, h2, h3, hQ⟩
theorem lw_frame {s t : State} {o : Outcome} {args : Array Value} (h : Framed s o t [] 600104 7301314) :
    Framed s o t (fieldLocs frame_1_writes args s ++ arrayLocs frame_1_arrays args s ++ staticLocs frame_1_statics s) 600104 7301314 := h
theorem lw_limb (L : Cond) (hL : ∀ (args : Array Value) (s t : State), L.after args s (.returned (some (.int 1))) t = true) :
    ArmFor flags0 classFile x code maxLocals ret World_1 tables_1 room_1 Calls_1 rest_1 Pre_1
      (fun tb e a s o t => postC L tb e a s o t ∧ Framed s o t (fieldLocs frame_1_writes a s ++ arrayLocs frame_1_arrays a s ++ staticLocs frame_1_statics s) 600104 7301314) := by
  intro l hflags _ _ p e ha hc hk s m args below hf hfit hheap happ hpre
  obtain ⟨k, o, h1, h2, h3, rfl, hF⟩ := lw_comes l hflags p e ha hc hk s m args below hf hfit hheap happ hpre
  exact ⟨k, _, h1, h2, h3, hL args s _, lw_frame hF⟩
theorem i_vc : Claimed_1_1 ∧ Claimed_1_2 := ⟨lw_limb limb_1_1 (fun args s t => by simp [limb_1_1, Cond.after, Cond.holds, Cond.value]), lw_limb limb_1_2 (fun args s t => Cond.after_iff.mpr (by
  first | (rw [show limb_1_2 = Cond.eq .result (.int 1) from rfl, Cond.eq_ints (x := 1) (y := 1) rfl rfl]; simp; done) | (simp [limb_1_2, Cond.value, Term.eval]; done)))⟩
