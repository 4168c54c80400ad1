theorem s_trans {A B : Nat → Prop} {H0 H H1 : Heap} {locs : List Loc} (h1 : va_S A H0 H []) (h2 : va_S B H H1 locs) (hBA : ∀ q, B q → A q) : va_S A H0 H1 locs :=
  ⟨Nat.le_trans h1.1 h2.1, fun q hq hA => (h2.2.1 q (Nat.lt_of_lt_of_le hq h1.1) (fun z => hA (hBA q z))).trans (h1.2.1 q hq hA), fun z hz => hBA _ (h2.2.2 z hz)⟩
theorem s_nil {A : Nat → Prop} {H0 H : Heap} {locs : List Loc} (h : va_S A H0 H locs) : va_S A H0 H [] := ⟨h.1, h.2.1, fun z hz => by cases hz⟩
section SI
variable {p : Program} {l : Launch} {e : Env} {R : Room} {s : State} {m : MethodId} {args : Array Value} {below : List Frame} {meth : Method} {c : Code} {H : Heap} {locs : List Loc} {cells slots : Nat} {Q : State → Prop}
variable {cc : ByteArray} {pc : Nat} {ls : Array Slot} {rest : List Value} {D : va_G} {b : Nat} {H0 : Heap} {own : String} {Ts : List Cond} {nL : Nat}
theorem g_init (F : CallFix p m c cc nL s args Ts own) (hK : KC D s) (hz : H.size = b + 1) (hP : va_P D vwCl (sq b 0 [.inr (5, [.int 0, .null, .null, .null, .null, .int 0, .null, .null, .null, .int 0, .int 0, .int 0, .int 0])]) H) (hS : va_S (bge b) H0 H locs) {index : Nat}
    (cw : CallB R s args own index yX5_init cX5_init 1 none wsX5_init rmX5_init 7 4017 0 ∧ yX5_init.name = "<init>" ∧ (Cond.instanceMethod yX5_init).before args s = true) (hsz : ls.size = nL) (hW : (rest.map fun v => v.category).sum ≤ 8) (hdg : decode cc pc = .ok (.invokespecial index, 3)) (hf : cells + 7 ≤ R.cells ∧ slots + 4017 ≤ R.slots)
    (kk : ∀ (H1 : Heap) (locs1 : List Loc), b + 8 ≤ H1.size → va_P D vwCl (WM D b nu0) H1 → va_S (bge b) H0 H1 locs1 → W p l e R s m args below meth c H1 locs1 (cells + 7) (slots + 4017) Q (F0 m (pc + 3) ls rest)) : W p l e R s m args below meth c H locs cells slots Q (F0 m pc ls (.ref b :: rest)) := by
  have hr := va_runI (As := []) (g := F0 m pc ls (.ref b :: rest)) (H := H) (locs := locs) (cells := cells) (slots := slots) (p := p) (l := l) (e := e) (R := R) (below := below) (meth := meth) (rest := rest) F (c_X5_init (l := l) (D := D) (b := b)) cw ⟨n_blind, fun U hU hW => ⟨rfl, by rw [hU]; exact hz, by rw [hU]; exact hP, KC.warm hW hK⟩⟩ rfl rfl hsz rfl (by show 2 * 0 + _ ≤ 8; omega) hdg hf
  intro T hT X
  obtain ⟨v2, st₀, t, T', L, h0, X', hL, e1, e2, ⟨hv, hz1, hb, hF⟩, st⟩ := hr T hT X
  cases hv
  obtain ⟨j1, j2, j3⟩ := vx_keep (A0 := bge b) (A1 := bge b) h0 e1 hS (fun q _ h => h) (fun q h => h) hL hF
  obtain ⟨t2, a1, b1⟩ := kk T'.heap (locs ++ L) (by rw [e1]; exact hz1) (by rw [e1]; exact hb) j3 T' rfl X'
  exact ⟨t2, st t2 a1, b1⟩
end SI
theorem oF0 : oF 0 = fun _ => 0 := by
  funext j
  unfold oF
  split <;> rfl
set_option maxHeartbeats 8000000 in
set_option maxRecDepth 100000 in
theorem whole_start {p : Program} {e : Env} {s : State} {m : MethodId} {below : List Frame} {meth : Method} {c : Code} (l : Launch) (hflags : l.flags = flags0) {b L : Nat} {xs : Nat → Int32} (hL : L ≤ 2560) (C0 : lw_At p s m meth c b L xs) : W p l e room_1 s m #[Value.ref b] below meth c s.heap [] 0 0 (lw_Z below #[Value.ref b] s) (entryFrame m ([Value.ref b] : List Value).toArray 7) := by
  obtain ⟨hx, hb, hr, hml, hown, hts, hX, hbl, hlocks, hgv⟩ := id C0
  have hlt : l.stackTraces = false := by
    unfold Launch.stackTraces
    rw [hflags]
    decide
  have F : CallFix p m c code 7 s #[Value.ref b] wsL_law RL := ⟨hx, hb, hml, hown, fun w h => hts w (wsL_law_in w h)⟩
  have hT := F.2.2.2.2
  have hG := sga0 hts hgv
  obtain ⟨k0, i0, e0⟩ := u_known (C := RX0) (T := TX0) (N := 15) (n := 15) hT inlX0 (hT _ lwd_n0)
  obtain ⟨k1, i1, e1⟩ := u_known (C := RX1) (T := TX1) (N := 3) (n := 3) hT inlX1 (hT _ lwd_n1)
  obtain ⟨k2, i2, e2⟩ := u_known (C := RX2) (T := TX2) (N := 6) (n := 6) hT inlX2 (hT _ lwd_n2)
  obtain ⟨k3, i3, e3⟩ := u_known (C := RX3) (T := TX3) (N := 8) (n := 8) hT inlX3 (hT _ lwd_n3)
  obtain ⟨k4, i4, e4⟩ := u_known (C := RX4) (T := TX4) (N := 7) (n := 7) hT inlX4 (hT _ lwd_n4)
  obtain ⟨k5, i5, e5⟩ := u_known (C := RX5) (T := TX5) (N := 13) (n := 13) hT inlX5 (hT _ lwd_n5)
  obtain ⟨a6, f6⟩ := arrOf (hts _ tw_ai) (fun C h => by cases h)
  obtain ⟨a7, f7⟩ := arrOf (hts _ tw_az) (fun C h => by cases h)
  obtain ⟨a8, f8⟩ := arqOf (hts _ tw_ag)
  obtain ⟨a9, f9⟩ := arqOf (hts _ tw_as)
  obtain ⟨a10, f10⟩ := arrOf (hts _ tw_al) (fun C h => by cases h)
  obtain ⟨D, hK⟩ : ∃ D : va_G, va_K D vwCl (tyX D) s := by
    refine ⟨(fun k => match k with | 0 => k0 | 1 => k1 | 2 => k2 | 3 => k3 | 4 => k4 | 5 => k5 | 6 => a6 | 7 => a7 | 8 => a8 | 9 => a9 | _ => a10, fun k => match k with | 0 => i0 | 1 => i1 | 2 => i2 | 3 => i3 | 4 => i4 | _ => i5), fun k q hq => ?_, fun k q hq => ?_⟩
    · match k, hq with
      | 0, hq => cases hq; exact e0
      | 1, hq => cases hq; exact e1
      | 2, hq => cases hq; exact e2
      | 3, hq => cases hq; exact e3
      | 4, hq => cases hq; exact e4
      | 5, hq => cases hq; exact e5
      | k + 6, hq => simp [vwCl] at hq
    · match k, hq with
      | 0, hq => cases hq; exact f6
      | 1, hq => cases hq; exact f7
      | 2, hq => cases hq; exact f8
      | 3, hq => cases hq; exact f9
      | 4, hq => cases hq; exact f10
      | k + 5, hq => simp [tyX] at hq
  have hKC : KC D s := ⟨hK, va_AO.of (hts _ tw_ag), va_AO.of (hts _ tw_as), va_Nw.of rfl (hts _ tw_n3)⟩
  have hl := lv_entry ([.ref b]) (n := 7) (Nat.le_of_ble_eq_true rfl)
  rw [lg_entry_eq]
  generalize (lg_sl ([.ref b]) ++ List.replicate (7 - (lg_sl ([.ref b])).length) Slot.unset).toArray = ls at hl ⊢
  have hl : lv_has ls 7 [(0, .ref b)] := hl
  have hS0 : va_S (bge s.heap.size) s.heap s.heap [] := va_S.rf
  refine n_new (b := s.heap.size) (k := 0) (es := []) F hKC (N := 7) inlX4 tyX4 tyX4_ok lwd_c4 lwd_n4 lwd_i4 (ci := 4) rfl rfl rfl (fun j q hq => by simp [sq] at hq) hS0 (fs := [.null, .null, .null, .null, .null, .null, .null]) (fun j hj => by rcases (show j = 0 ∨ j = 1 ∨ j = 2 ∨ j = 3 ∨ j = 4 ∨ j = 5 ∨ j = 6 by omega) with rfl | rfl | rfl | rfl | rfl | rfl | rfl <;> rfl) (Nat.le_of_ble_eq_true rfl) (Nat.le_of_ble_eq_true rfl) dL_law_0 (fun H hz hP hS => ?_)
  refine lv_dup F.1 F.2.1 dL_law_3 rfl ?_
  refine n_callI F hKC (pre := []) (k1 := 0) (n := 349) hz rfl hP hS c_X4_init (cwI 0 hT gL_law_X4_init rfl rfl rfl (hT _ lwd_i4) (hT _ lwd_m4) (hT _ lwd_s4) rfl hd_X4_init ⟨(Nat.le_of_ble_eq_true rfl), (Nat.le_of_ble_eq_true rfl)⟩) hl.1 (Nat.le_of_ble_eq_true rfl) dL_law_4 ⟨(Nat.le_of_ble_eq_true rfl), (Nat.le_of_ble_eq_true rfl)⟩ (fun H locs hz hP hS => ?_)
  have hP4 : va_P D vwCl (WL D s.heap.size mu0) H := world0 hP
  refine lv_astore_n F.1 F.2.1 dL_law_7 rfl hl (Nat.le_of_ble_eq_true rfl) rfl (fun ls hl => ?_)
  have hl : lv_has ls 7 [(1, .ref (s.heap.size + 0)), (0, .ref b)] := hl
  refine va_forget (fun z hz => hS.2.2 z hz) ?_
  have hS1 : va_S (bge s.heap.size) s.heap H [] := s_nil hS
  obtain ⟨y, hy⟩ : ∃ y, y = s.heap.size + 349 := ⟨_, rfl⟩
  have hzy : H.size = y + 0 := by omega
  refine n_new (b := y) (k := 0) (es := []) (H0 := H) F hKC (N := 13) inlX5 tyX5 tyX5_ok lwd_c5 lwd_n5 lwd_i5 (ci := 5) rfl hzy rfl (fun j q hq => by simp [sq] at hq) va_S.rf (fs := [.int 0, .null, .null, .null, .null, .int 0, .null, .null, .null, .int 0, .int 0, .int 0, .int 0]) (fun j hj => by rcases (show j = 0 ∨ j = 1 ∨ j = 2 ∨ j = 3 ∨ j = 4 ∨ j = 5 ∨ j = 6 ∨ j = 7 ∨ j = 8 ∨ j = 9 ∨ j = 10 ∨ j = 11 ∨ j = 12 by omega) with rfl | rfl | rfl | rfl | rfl | rfl | rfl | rfl | rfl | rfl | rfl | rfl | rfl <;> rfl) (Nat.le_of_ble_eq_true rfl) (Nat.le_of_ble_eq_true rfl) dL_law_8 (fun H2 hz2 hP2 hS2 => ?_)
  refine lv_dup F.1 F.2.1 dL_law_11 rfl ?_
  refine g_init F hKC hz2 hP2 hS2 (cwI 0 hT gL_law_X5_init rfl rfl rfl (hT _ lwd_i5) (hT _ lwd_m5) (hT _ lwd_s5) rfl hd_X5_init ⟨(Nat.le_of_ble_eq_true rfl), (Nat.le_of_ble_eq_true rfl)⟩) hl.1 (Nat.le_of_ble_eq_true rfl) dL_law_12 ⟨(Nat.le_of_ble_eq_true rfl), (Nat.le_of_ble_eq_true rfl)⟩ (fun H3 locs3 hz3 hP3 hS3 => ?_)
  refine lv_astore_n F.1 F.2.1 dL_law_15 rfl hl (Nat.le_of_ble_eq_true rfl) rfl (fun ls hl => ?_)
  have hl : lv_has ls 7 [(2, .ref (y + 0)), (1, .ref (s.heap.size + 0)), (0, .ref b)] := hl
  have hP4' : va_P D vwCl (WL D s.heap.size mu0) H3 := hP4.kept fun j r hr => hS3.2.1 r.1 (vx_lt hP4 hr) (fun z => by
    have h1 : y ≤ r.1 := z
    have h2 := ((WL_D D s.heap.size mu0).2 j r hr).2
    omega)
  have hSx : va_S (bge s.heap.size) s.heap H3 locs3 := s_trans hS1 hS3 (fun z h => by
    have h1 : y ≤ z := h
    show s.heap.size ≤ z
    omega)
  refine va_forget (fun z hz => hSx.2.2 z hz) ?_
  have hSx : va_S (bge s.heap.size) s.heap H3 [] := s_nil hSx
  refine lv_iconst (v := (1 : Int32)) F.1 F.2.1 dL_law_16 (by decide) ?_
  refine va_newaK (N := 1) F.1 F.2.1 (hts (Cond.arrayClass (newarray.typeOf .long)) tw_al) rfl dL_law_17 rfl (by decide) rfl (Nat.le_of_ble_eq_true rfl) (Nat.le_of_ble_eq_true rfl) (Nat.le_of_ble_eq_true rfl) (h := H3.size) rfl (fun H4 cA e1 z1 o1 hAr hNm => ?_)
  have hcA : cA = D.1 10 := Option.some.inj (hNm.symm.trans (hK.2 4 _ rfl).2)
  subst hcA
  refine lv_astore_n F.1 F.2.1 dL_law_19 rfl hl (Nat.le_of_ble_eq_true rfl) rfl (fun ls hl => ?_)
  have hl : lv_has ls 7 [(3, .ref H3.size), (2, .ref (y + 0)), (1, .ref (s.heap.size + 0)), (0, .ref b)] := hl
  refine lv_iconst (v := nI 0) F.1 F.2.1 dL_law_20 (by decide) ?_
  refine lv_istore F.1 F.2.1 dL_law_21 hl (Nat.le_of_ble_eq_true rfl) rfl (fun ls hl => ?_)
  have hl : lv_has ls 7 [(4, .int (nI 0)), (3, .ref H3.size), (2, .ref (y + 0)), (1, .ref (s.heap.size + 0)), (0, .ref b)] := hl
  subst hy
  have hP5 : va_P D vwCl (WL D s.heap.size mu0) H4 := hP4'.kept fun j r hr => o1 r.1 (vx_lt hP4' hr)
  have hP6 : va_P D vwCl (WM D (s.heap.size + 349) nu0) H4 := hP3.kept fun j r hr => o1 r.1 (vx_lt hP3 hr)
  have hP7 : va_P D vwCl (oC D H3.size 0) H4 := fun j r hr => by
    have h1 : j < 1 := (List.getElem?_eq_some_iff.mp hr).1
    have h2 : j = 0 := by omega
    subst h2
    cases hr
    show H4[H3.size]? = some (vp_cell (D.1 10) (1, .inr (.inl (oF 0))))
    rw [e1, vp_cell_l, oF0]
    rfl
  have hS4 : va_S (bge s.heap.size) s.heap H4 [] := ⟨Nat.le_trans hSx.1 (by omega), fun z h1 h2 => (o1 z (Nat.lt_of_lt_of_le h1 hSx.1)).trans (hSx.2.1 z h1 h2), fun z hz => by cases hz⟩
  exact law_loop F hlt hK hG hX hbl hL (by omega) hr hlocks (L + 1) 0 mu0 nu0 0 H4 [] ls _ _ (by omega) (by omega) (by omega) (by omega) ⟨WO_of hP5 hP7, hP6⟩ rel0 hS4 (lv_sub hl [4, 3, 2, 1, 0] rfl)
set_option maxHeartbeats 4000000 in
theorem lw_walk (l : Launch) (hflags : l.flags = flags0) (b : Addr) (xs : List Int32) : MetFree l x (headSpec (Jvm.Cond.code x code maxLocals ret :: tables_1) room_1) (lw_P b xs) (fun _ _ _ _ _ => True) lw_Q := by
  refine MetFree.of_bodyS (code := code) (maxLocals := maxLocals) (ret := ret) (by decide) ?_ ?_
  · intro args s m h hn
    obtain ⟨meth, c, h1, h2, h3, h4, h5, h6, -, -⟩ := Cond.code_spec hn (atoms_spec (ws := Jvm.Cond.code x code maxLocals ret :: tables_1) h _ List.mem_cons_self)
    exact ⟨meth, c, h1, h2, h3, h4, h5, h6⟩
  · intro p e s m args below meth c s₁ B hml0 hP _
    obtain ⟨rfl, hx, hbd, hgv⟩ := hP
    obtain ⟨scr, harrAt, hlist, hof, hsmall⟩ := hx
    obtain ⟨hcb, hkn, -, -⟩ := State.arrayAt?_spec harrAt
    have hown : s.vm.findClass R_law = some m.cls := findClass_of_methodNamed B.named
    have hts0 : ∀ c ∈ (Jvm.Cond.code x code maxLocals ret :: tables_1), c.before #[Value.ref b] s = true := atoms_spec (ws := Jvm.Cond.code x code maxLocals ret :: tables_1) B.pre
    have hts : ∀ w ∈ lw_tbl, w.before #[Value.ref b] s = true := k2_hts_sels lw_privs (fun w hw => hts0 w (List.mem_cons_of_mem _ hw)) lw_privs_ok
    have hml : c.maxLocals = 7 := B.maxLocals_eq (hts0 _ List.mem_cons_self)
    have X₀ : Stand p l e room_1 s m #[Value.ref b] below meth c s₁ [] 0 0 := Stand.of_body B
    have hh0 : s₁.heap = s.heap := by rw [B.state]; rfl
    have hsz : scr.slots.size = xs.length := by rw [← Array.length_toList, hlist, List.length_map]
    have hval : ∀ j : Nat, j < xs.length → scr.slots[j]? = some (.int (xs.getD j 0)) := fun j hj => by
      rw [← Array.getElem?_toList, hlist]
      simp [hj]
    have hbl : b < s.heap.size := (Array.getElem?_eq_some_iff.mp hcb).1
    have hX : va_X b xs.length (fun j => xs.getD j 0) s s.heap := ⟨scr, hcb, hof, hkn, hsz, hval⟩
    have K : W p l e room_1 s m #[Value.ref b] below meth c s₁.heap [] 0 0 (lw_Z below #[Value.ref b] s) (entryFrame m ([Value.ref b] : List Value).toArray 7) := by
      rw [hh0]
      exact whole_start l hflags hbd ⟨B.exec, B.bytes, B.returns, hml, hown, hts, hX, hbl, B.notSynchronized, hgv⟩
    obtain ⟨t, a1, o, b1, b2, b3⟩ := K s₁ rfl X₀
    exact ⟨t, o, a1, b1, b2, b3⟩
theorem lw_pre_spec {args : Array Value} {s : State} (h : (Jvm.Cond.and given_1 narrow_1).before args s = true) (hr : rest_1_c.before args s = true) : ∃ (b : Addr) (xs : List Int32), lw_P b xs args s := by
  have hs := flat_of_before _ h
  have hq := flat_of_before _ hr
  have hc : (Cond.count 1).before args s = true := hs _ (by decide +kernel)
  have harr : (Cond.arrayOf (.arg 0) .int).before args s = true := hs _ (by decide +kernel)
  have hle : (Cond.le (.length (.arg 0)) (.int 2560)).before args s = true := hs _ (by decide +kernel)
  have hlen : (Cond.isInt (.length (.arg 0))).before args s = true := hq _ (by decide +kernel)
  have hall : (Cond.all (.arg 0) (.isInt (.elem (.arg 0) (.index 0)))).before args s = true := hq _ (by decide +kernel)
  obtain ⟨b, xs, hb, hx⟩ := State.ints_of_pre rfl harr hlen hall
  have hsm : xs.length < 2 ^ 31 := hx.choose_spec.2.2.2
  have hev : (Term.length (.arg 0)).eval args s none [] s = some (.int xs.length.toInt32) := hx.length_eval hb
  have hv := Cond.le_ints hev (show (Term.int 2560).eval args s none [] s = some (.int 2560) from rfl)
  have hd : xs.length.toInt32 ≤ 2560 := by
    simpa [Cond.before, Cond.holds, hv] using hle
  have hN : xs.length ≤ 2560 := (Int32.ofNat_le_ofNat hsm (by decide)).mp (show Int32.ofNat xs.length ≤ Int32.ofNat 2560 from hd)
  exact ⟨b, xs, Cond.one_arg hc (show args[0]? = some (.ref b) from hb), hx, hN, h⟩
theorem lw_comes (l : Launch) (hflags : l.flags = flags0) : Comes l x (Jvm.Cond.code x code maxLocals ret :: tables_1) room_1 (fun tb e args s => Calls_1 tb e args s ∧ rest_1 tb e args s ∧ Pre_1 tb e args s)
    (fun _ _ args s o t => lw_Q args s o t) := by
  intro p e ha hc hk s m args below hf hfit hheap happ hpre
  obtain ⟨b, xs, hP⟩ := lw_pre_spec hpre.2.2 hpre.2.1
  obtain ⟨k, o, h1, h2, h3, hQ⟩ := lw_walk l hflags b xs p e ha hc hk s m args below hf ((Spec.applies_iff_loose hf).mp happ).1 hP trivial
  exact ⟨k, o, h1, h2, h3, hQ⟩
theorem lw_frame {s t : State} {o : Outcome} {args : Array Value} (h : Framed s o t [] 601024 7293034) :
    Framed s o t (fieldLocs frame_1_writes args s ++ arrayLocs frame_1_arrays args s ++ staticLocs frame_1_statics s) 601024 7293034 := h
theorem lw_limb (L : Cond) (hL : ∀ (args : Array Value) (s t : State), L.after args s (.returned (some (.int 1))) t = true) :
    ArmFor flags0 classFile x code maxLocals ret World_1 tables_1 room_1 Calls_1 rest_1 Pre_1
      (fun tb e a s o t => postC L tb e a s o t ∧ Framed s o t (fieldLocs frame_1_writes a s ++ arrayLocs frame_1_arrays a s ++ staticLocs frame_1_statics s) 601024 7293034) := by
  intro l hflags _ _ p e ha hc hk s m args below hf hfit hheap happ hpre
  obtain ⟨k, o, h1, h2, h3, rfl, hF⟩ := lw_comes l hflags p e ha hc hk s m args below hf hfit hheap happ hpre
  exact ⟨k, _, h1, h2, h3, hL args s _, lw_frame hF⟩
theorem i_vc : Claimed_1_1 ∧ Claimed_1_2 := ⟨lw_limb limb_1_1 (fun args s t => by simp [limb_1_1, Cond.after, Cond.holds, Cond.value]), lw_limb limb_1_2 (fun args s t => Cond.after_iff.mpr (by
  first | (rw [show limb_1_2 = Cond.eq .result (.int 1) from rfl, Cond.eq_ints (x := 1) (y := 1) rfl rfl]; simp; done) | (simp [limb_1_2, Cond.value, Term.eval]; done)))⟩
