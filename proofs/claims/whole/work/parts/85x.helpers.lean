def rmL_append : Room := { frames := 8, cells := 2, slots := 12, locals := 125 }
theorem hd_L_append : yL_append.cls ≠ "java/lang/invoke/MethodHandle" ∧ yL_append.cls ≠ "java/lang/invoke/VarHandle" ∧ (parseMethodDescriptor yL_append.desc).map (fun d => d.parameters.length) = some 3 := by decide +kernel
set_option maxHeartbeats 8000000 in
set_option maxRecDepth 100000 in
theorem c_L_append {l : Launch} (hlt : l.stackTraces = false) {D : va_G} {x q : Nat} {μ : Mem} {w w2 : Int64} (hq : ¬ rng x q) (a1 : Int32) {r : Nat × Int32 × Mem} (hf : f_X4_append μ a1 = some r) {cd : Int32} (hcd : (r.1 = 0 ∧ cd = 0 ∧ w2 = r.2.1.toInt64) ∨ (r.1 = 1 ∧ cd = 1 ∧ w2 = w) ∨ (r.1 = 2 ∧ cd = 2 ∧ w2 = w)) : LX l yL_append wsL_append rmL_append 2 12 [.ref (x + 0), .int a1, .ref q] D x μ q w cd r.2.2 w2 := by
  refine LX.of (cc := cL_append) (maxL := 4) (hh := [(0, 9, 12, 13), (0, 9, 15, 15)]) (by decide +kernel) rfl (Nat.le_of_ble_eq_true rfl) ?_
  intro p e s m args below meth c F hr hlk hT hK hL ls hl hP
  have hl : lv_has ls 4 [(0, .ref (x + 0)), (1, .int a1), (2, .ref q)] := hl
  refine lv_aload_n F.1 F.2.1 dL_append_0 rfl (lv_at hl 2 rfl) ?_
  refine lv_iconst (v := (0 : Int32)) F.1 F.2.1 dL_append_1 (by decide) ?_
  refine lv_aload_n F.1 F.2.1 dL_append_2 rfl (lv_at hl 0 rfl) ?_
  refine lv_iload_n F.1 F.2.1 dL_append_3 rfl (lv_at hl 1 rfl) ?_
  refine l_callV F hK hL hq hP (c_X4_append hlt a1 hf) (cwV 1 F.2.2.2.2 gL_append_X4_append rfl rfl rfl ⟨rfl, hd_X4_append⟩ ⟨(Nat.le_of_ble_eq_true rfl), (Nat.le_of_ble_eq_true rfl)⟩) rfl (rest := [.int 0, .ref q]) rfl hl.1 (Nat.le_of_ble_eq_true rfl) dL_append_4 ⟨(Nat.le_of_ble_eq_true rfl), (Nat.le_of_ble_eq_true rfl)⟩ (fun hk H locs hP hS => ?_) (fun hk H locs q9 ce hP hS h1 h2 h3 => ?_)
  · rcases hcd with ⟨_, rfl, rfl⟩ | ⟨z, _, _⟩ | ⟨z, _, _⟩
    · refine lv_i2l (v := r.2.1.toInt64) F.1 F.2.1 dL_append_7 rfl ?_
      refine l_last F hK hq hP hS dL_append_8 (fun H locs hP hS => ?_)
      refine lv_goto (tgt := 18) F.1 F.2.1 dL_append_9 rfl ?_
      refine lv_iconst (v := (0 : Int32)) F.1 F.2.1 dL_append_18 (by decide) ?_
      exact l_iret F hr hlk hP hS (Nat.le_of_ble_eq_true rfl) (Nat.le_of_ble_eq_true rfl) dL_append_19
    · exact absurd (hk.symm.trans z) (by decide)
    · exact absurd (hk.symm.trans z) (by decide)
  · rcases hcd with ⟨z, _, _⟩ | ⟨z, rfl, rfl⟩ | ⟨z, rfl, rfl⟩
    · exact absurd z hk
    · rw [z] at h3
      refine vx_catch (name := exN 1) F.2.2.2.1 [] ⟨0, 9, 12, 13⟩ [⟨0, 9, 15, 15⟩] (by rw [hT]; rfl) (fun _ h => nomatch h) (by decide) (by decide) (F.2.2.2.2 _ (List.mem_of_getElem? (i := 1) rfl)) (va_Nw.use rfl (hL.1.2.2.2.2.2.2.1 1)) h1 h2 h3 ?_
      refine lv_astore_n F.1 F.2.1 dL_append_12 rfl hl (Nat.le_of_ble_eq_true rfl) rfl (fun ls hl => ?_)
      refine lv_iconst (v := (1 : Int32)) F.1 F.2.1 dL_append_13 (by decide) ?_
      exact l_iret F hr hlk hP hS (Nat.le_of_ble_eq_true rfl) (Nat.le_of_ble_eq_true rfl) dL_append_14
    · rw [z] at h3
      refine vx_catch (name := exN 2) F.2.2.2.1 [⟨0, 9, 12, 13⟩] ⟨0, 9, 15, 15⟩ [] (by rw [hT]; rfl) (fun z9 hz9 => by simp only [List.mem_cons, List.not_mem_nil, or_false] at hz9; subst hz9; exact Or.inr ⟨by decide, _, F.2.2.2.2 _ (List.mem_of_getElem? (i := 1) rfl), hL.2 2 1 (by decide) (by decide) (by decide) (by decide) (by decide)⟩) (by decide) (by decide) (F.2.2.2.2 _ (List.mem_of_getElem? (i := 2) rfl)) (va_Nw.use rfl (hL.1.2.2.2.2.2.2.1 2)) h1 h2 h3 ?_
      refine lv_astore_n F.1 F.2.1 dL_append_15 rfl hl (Nat.le_of_ble_eq_true rfl) rfl (fun ls hl => ?_)
      refine lv_iconst (v := (2 : Int32)) F.1 F.2.1 dL_append_16 (by decide) ?_
      exact l_iret F hr hlk hP hS (Nat.le_of_ble_eq_true rfl) (Nat.le_of_ble_eq_true rfl) dL_append_17

def rmL_load : Room := { frames := 7, cells := 1, slots := 6, locals := 152 }
theorem hd_L_load : yL_load.cls ≠ "java/lang/invoke/MethodHandle" ∧ yL_load.cls ≠ "java/lang/invoke/VarHandle" ∧ (parseMethodDescriptor yL_load.desc).map (fun d => d.parameters.length) = some 2 := by decide +kernel
set_option maxHeartbeats 8000000 in
set_option maxRecDepth 100000 in
theorem c_L_load {l : Launch} (hlt : l.stackTraces = false) {D : va_G} {x q : Nat} {μ : Mem} {w w2 : Int64} (hq : ¬ rng x q) {r : Nat × Int32 × Mem} (hf : f_X4_load μ  = some r) {cd : Int32} (hcd : (r.1 = 0 ∧ cd = 0 ∧ w2 = r.2.1.toInt64) ∨ (r.1 = 2 ∧ cd = 1 ∧ w2 = w)) : LX l yL_load wsL_load rmL_load 1 6 [.ref (x + 0), .ref q] D x μ q w cd r.2.2 w2 := by
  refine LX.of (cc := cL_load) (maxL := 3) (hh := [(0, 8, 11, 15)]) (by decide +kernel) rfl (Nat.le_of_ble_eq_true rfl) ?_
  intro p e s m args below meth c F hr hlk hT hK hL ls hl hP
  have hl : lv_has ls 3 [(0, .ref (x + 0)), (1, .ref q)] := hl
  refine lv_aload_n F.1 F.2.1 dL_load_0 rfl (lv_at hl 1 rfl) ?_
  refine lv_iconst (v := (0 : Int32)) F.1 F.2.1 dL_load_1 (by decide) ?_
  refine lv_aload_n F.1 F.2.1 dL_load_2 rfl (lv_at hl 0 rfl) ?_
  refine l_callV F hK hL hq hP (c_X4_load hlt  hf) (cwV 0 F.2.2.2.2 gL_load_X4_load rfl rfl rfl ⟨rfl, hd_X4_load⟩ ⟨(Nat.le_of_ble_eq_true rfl), (Nat.le_of_ble_eq_true rfl)⟩) rfl (rest := [.int 0, .ref q]) rfl hl.1 (Nat.le_of_ble_eq_true rfl) dL_load_3 ⟨(Nat.le_of_ble_eq_true rfl), (Nat.le_of_ble_eq_true rfl)⟩ (fun hk H locs hP hS => ?_) (fun hk H locs q9 ce hP hS h1 h2 h3 => ?_)
  · rcases hcd with ⟨_, rfl, rfl⟩ | ⟨z, _, _⟩
    · refine lv_i2l (v := r.2.1.toInt64) F.1 F.2.1 dL_load_6 rfl ?_
      refine l_last F hK hq hP hS dL_load_7 (fun H locs hP hS => ?_)
      refine lv_goto (tgt := 14) F.1 F.2.1 dL_load_8 rfl ?_
      refine lv_iconst (v := (0 : Int32)) F.1 F.2.1 dL_load_14 (by decide) ?_
      exact l_iret F hr hlk hP hS (Nat.le_of_ble_eq_true rfl) (Nat.le_of_ble_eq_true rfl) dL_load_15
    · exact absurd (hk.symm.trans z) (by decide)
  · rcases hcd with ⟨z, _, _⟩ | ⟨z, rfl, rfl⟩
    · exact absurd z hk
    · rw [z] at h3
      refine vx_catch (name := exN 2) F.2.2.2.1 [] ⟨0, 8, 11, 15⟩ [] (by rw [hT]; rfl) (fun _ h => nomatch h) (by decide) (by decide) (F.2.2.2.2 _ (List.mem_of_getElem? (i := 1) rfl)) (va_Nw.use rfl (hL.1.2.2.2.2.2.2.1 2)) h1 h2 h3 ?_
      refine lv_astore_n F.1 F.2.1 dL_load_11 rfl hl (Nat.le_of_ble_eq_true rfl) rfl (fun ls hl => ?_)
      refine lv_iconst (v := (1 : Int32)) F.1 F.2.1 dL_load_12 (by decide) ?_
      exact l_iret F hr hlk hP hS (Nat.le_of_ble_eq_true rfl) (Nat.le_of_ble_eq_true rfl) dL_load_13

def rmL_about : Room := { frames := 8, cells := 1, slots := 6, locals := 129 }
theorem hd_L_about : yL_about.cls ≠ "java/lang/invoke/MethodHandle" ∧ yL_about.cls ≠ "java/lang/invoke/VarHandle" ∧ (parseMethodDescriptor yL_about.desc).map (fun d => d.parameters.length) = some 3 := by decide +kernel
set_option maxHeartbeats 8000000 in
set_option maxRecDepth 100000 in
theorem c_L_about {l : Launch} (hlt : l.stackTraces = false) {D : va_G} {x q : Nat} {μ : Mem} {w w2 : Int64} (hq : ¬ rng x q) (a1 : Int32) {r : Nat × Int32} (hf : f_X4_about μ a1 = some r) {cd : Int32} (hcd : (r.1 = 0 ∧ cd = 0 ∧ w2 = r.2.toInt64) ∨ (r.1 = 1 ∧ cd = 1 ∧ w2 = w)) : LX l yL_about wsL_about rmL_about 1 6 [.ref (x + 0), .int a1, .ref q] D x μ q w cd μ w2 := by
  refine LX.of (cc := cL_about) (maxL := 4) (hh := [(0, 9, 12, 13)]) (by decide +kernel) rfl (Nat.le_of_ble_eq_true rfl) ?_
  intro p e s m args below meth c F hr hlk hT hK hL ls hl hP
  have hl : lv_has ls 4 [(0, .ref (x + 0)), (1, .int a1), (2, .ref q)] := hl
  refine lv_aload_n F.1 F.2.1 dL_about_0 rfl (lv_at hl 2 rfl) ?_
  refine lv_iconst (v := (0 : Int32)) F.1 F.2.1 dL_about_1 (by decide) ?_
  refine lv_aload_n F.1 F.2.1 dL_about_2 rfl (lv_at hl 0 rfl) ?_
  refine lv_iload_n F.1 F.2.1 dL_about_3 rfl (lv_at hl 1 rfl) ?_
  refine l_callV F hK hL hq hP (c_X4_about hlt a1 hf) (cwV 1 F.2.2.2.2 gL_about_X4_about rfl rfl rfl ⟨rfl, hd_X4_about⟩ ⟨(Nat.le_of_ble_eq_true rfl), (Nat.le_of_ble_eq_true rfl)⟩) rfl (rest := [.int 0, .ref q]) rfl hl.1 (Nat.le_of_ble_eq_true rfl) dL_about_4 ⟨(Nat.le_of_ble_eq_true rfl), (Nat.le_of_ble_eq_true rfl)⟩ (fun hk H locs hP hS => ?_) (fun hk H locs q9 ce hP hS h1 h2 h3 => ?_)
  · rcases hcd with ⟨_, rfl, rfl⟩ | ⟨z, _, _⟩
    · refine lv_i2l (v := r.2.toInt64) F.1 F.2.1 dL_about_7 rfl ?_
      refine l_last F hK hq hP hS dL_about_8 (fun H locs hP hS => ?_)
      refine lv_goto (tgt := 15) F.1 F.2.1 dL_about_9 rfl ?_
      refine lv_iconst (v := (0 : Int32)) F.1 F.2.1 dL_about_15 (by decide) ?_
      exact l_iret F hr hlk hP hS (Nat.le_of_ble_eq_true rfl) (Nat.le_of_ble_eq_true rfl) dL_about_16
    · exact absurd (hk.symm.trans z) (by decide)
  · rcases hcd with ⟨z, _, _⟩ | ⟨z, rfl, rfl⟩
    · exact absurd z hk
    · rw [z] at h3
      refine vx_catch (name := exN 1) F.2.2.2.1 [] ⟨0, 9, 12, 13⟩ [] (by rw [hT]; rfl) (fun _ h => nomatch h) (by decide) (by decide) (F.2.2.2.2 _ (List.mem_of_getElem? (i := 1) rfl)) (va_Nw.use rfl (hL.1.2.2.2.2.2.2.1 1)) h1 h2 h3 ?_
      refine lv_astore_n F.1 F.2.1 dL_about_12 rfl hl (Nat.le_of_ble_eq_true rfl) rfl (fun ls hl => ?_)
      refine lv_iconst (v := (1 : Int32)) F.1 F.2.1 dL_about_13 (by decide) ?_
      exact l_iret F hr hlk hP hS (Nat.le_of_ble_eq_true rfl) (Nat.le_of_ble_eq_true rfl) dL_about_14

def rmL_siteOf : Room := { frames := 8, cells := 2, slots := 12, locals := 126 }
theorem hd_L_siteOf : yL_siteOf.cls ≠ "java/lang/invoke/MethodHandle" ∧ yL_siteOf.cls ≠ "java/lang/invoke/VarHandle" ∧ (parseMethodDescriptor yL_siteOf.desc).map (fun d => d.parameters.length) = some 4 := by decide +kernel
set_option maxHeartbeats 8000000 in
set_option maxRecDepth 100000 in
theorem c_L_siteOf {l : Launch} (hlt : l.stackTraces = false) {D : va_G} {x q : Nat} {μ : Mem} {w w2 : Int64} (hq : ¬ rng x q) (a1 : Int32) (a2 : Int32) {r : Nat × Int32} (hf : f_X4_siteOf μ a1 a2 = some r) {cd : Int32} (hcd : (r.1 = 0 ∧ cd = 0 ∧ w2 = r.2.toInt64) ∨ (r.1 = 3 ∧ cd = 1 ∧ w2 = w) ∨ (r.1 = 1 ∧ cd = 2 ∧ w2 = w)) : LX l yL_siteOf wsL_siteOf rmL_siteOf 2 12 [.ref (x + 0), .int a1, .int a2, .ref q] D x μ q w cd μ w2 := by
  refine LX.of (cc := cL_siteOf) (maxL := 5) (hh := [(0, 10, 13, 28), (0, 10, 17, 13)]) (by decide +kernel) rfl (Nat.le_of_ble_eq_true rfl) ?_
  intro p e s m args below meth c F hr hlk hT hK hL ls hl hP
  have hl : lv_has ls 5 [(0, .ref (x + 0)), (1, .int a1), (2, .int a2), (3, .ref q)] := hl
  refine lv_aload_n F.1 F.2.1 dL_siteOf_0 rfl (lv_at hl 3 rfl) ?_
  refine lv_iconst (v := (0 : Int32)) F.1 F.2.1 dL_siteOf_1 (by decide) ?_
  refine lv_aload_n F.1 F.2.1 dL_siteOf_2 rfl (lv_at hl 0 rfl) ?_
  refine lv_iload_n F.1 F.2.1 dL_siteOf_3 rfl (lv_at hl 1 rfl) ?_
  refine lv_iload_n F.1 F.2.1 dL_siteOf_4 rfl (lv_at hl 2 rfl) ?_
  refine l_callV F hK hL hq hP (c_X4_siteOf hlt a1 a2 hf) (cwV 2 F.2.2.2.2 gL_siteOf_X4_siteOf rfl rfl rfl ⟨rfl, hd_X4_siteOf⟩ ⟨(Nat.le_of_ble_eq_true rfl), (Nat.le_of_ble_eq_true rfl)⟩) rfl (rest := [.int 0, .ref q]) rfl hl.1 (Nat.le_of_ble_eq_true rfl) dL_siteOf_5 ⟨(Nat.le_of_ble_eq_true rfl), (Nat.le_of_ble_eq_true rfl)⟩ (fun hk H locs hP hS => ?_) (fun hk H locs q9 ce hP hS h1 h2 h3 => ?_)
  · rcases hcd with ⟨_, rfl, rfl⟩ | ⟨z, _, _⟩ | ⟨z, _, _⟩
    · refine lv_i2l (v := r.2.toInt64) F.1 F.2.1 dL_siteOf_8 rfl ?_
      refine l_last F hK hq hP hS dL_siteOf_9 (fun H locs hP hS => ?_)
      refine lv_goto (tgt := 21) F.1 F.2.1 dL_siteOf_10 rfl ?_
      refine lv_iconst (v := (0 : Int32)) F.1 F.2.1 dL_siteOf_21 (by decide) ?_
      exact l_iret F hr hlk hP hS (Nat.le_of_ble_eq_true rfl) (Nat.le_of_ble_eq_true rfl) dL_siteOf_22
    · exact absurd (hk.symm.trans z) (by decide)
    · exact absurd (hk.symm.trans z) (by decide)
  · rcases hcd with ⟨z, _, _⟩ | ⟨z, rfl, rfl⟩ | ⟨z, rfl, rfl⟩
    · exact absurd z hk
    · rw [z] at h3
      refine vx_catch (name := exN 3) F.2.2.2.1 [] ⟨0, 10, 13, 28⟩ [⟨0, 10, 17, 13⟩] (by rw [hT]; rfl) (fun _ h => nomatch h) (by decide) (by decide) (F.2.2.2.2 _ (List.mem_of_getElem? (i := 1) rfl)) (va_Nw.use rfl (hL.1.2.2.2.2.2.2.1 3)) h1 h2 h3 ?_
      refine lv_astore F.1 F.2.1 dL_siteOf_13 hl (Nat.le_of_ble_eq_true rfl) rfl (fun ls hl => ?_)
      refine lv_iconst (v := (1 : Int32)) F.1 F.2.1 dL_siteOf_15 (by decide) ?_
      exact l_iret F hr hlk hP hS (Nat.le_of_ble_eq_true rfl) (Nat.le_of_ble_eq_true rfl) dL_siteOf_16
    · rw [z] at h3
      refine vx_catch (name := exN 1) F.2.2.2.1 [⟨0, 10, 13, 28⟩] ⟨0, 10, 17, 13⟩ [] (by rw [hT]; rfl) (fun z9 hz9 => by simp only [List.mem_cons, List.not_mem_nil, or_false] at hz9; subst hz9; exact Or.inr ⟨by decide, _, F.2.2.2.2 _ (List.mem_of_getElem? (i := 1) rfl), hL.2 1 3 (by decide) (by decide) (by decide) (by decide) (by decide)⟩) (by decide) (by decide) (F.2.2.2.2 _ (List.mem_of_getElem? (i := 2) rfl)) (va_Nw.use rfl (hL.1.2.2.2.2.2.2.1 1)) h1 h2 h3 ?_
      refine lv_astore F.1 F.2.1 dL_siteOf_17 hl (Nat.le_of_ble_eq_true rfl) rfl (fun ls hl => ?_)
      refine lv_iconst (v := (2 : Int32)) F.1 F.2.1 dL_siteOf_19 (by decide) ?_
      exact l_iret F hr hlk hP hS (Nat.le_of_ble_eq_true rfl) (Nat.le_of_ble_eq_true rfl) dL_siteOf_20

def rmL_since : Room := { frames := 8, cells := 2, slots := 12, locals := 125 }
theorem hd_L_since : yL_since.cls ≠ "java/lang/invoke/MethodHandle" ∧ yL_since.cls ≠ "java/lang/invoke/VarHandle" ∧ (parseMethodDescriptor yL_since.desc).map (fun d => d.parameters.length) = some 4 := by decide +kernel
set_option maxHeartbeats 8000000 in
set_option maxRecDepth 100000 in
theorem c_L_since {l : Launch} (hlt : l.stackTraces = false) {D : va_G} {x q : Nat} {μ : Mem} {w w2 : Int64} (hq : ¬ rng x q) (a1 : Int32) (a2 : Int32) {r : Nat × Int32} (hf : f_X4_since μ a1 a2 = some r) {cd : Int32} (hcd : (r.1 = 0 ∧ cd = 0 ∧ w2 = r.2.toInt64) ∨ (r.1 = 3 ∧ cd = 1 ∧ w2 = w)) : LX l yL_since wsL_since rmL_since 2 12 [.ref (x + 0), .int a1, .int a2, .ref q] D x μ q w cd μ w2 := by
  refine LX.of (cc := cL_since) (maxL := 5) (hh := [(0, 10, 13, 28)]) (by decide +kernel) rfl (Nat.le_of_ble_eq_true rfl) ?_
  intro p e s m args below meth c F hr hlk hT hK hL ls hl hP
  have hl : lv_has ls 5 [(0, .ref (x + 0)), (1, .int a1), (2, .int a2), (3, .ref q)] := hl
  refine lv_aload_n F.1 F.2.1 dL_since_0 rfl (lv_at hl 3 rfl) ?_
  refine lv_iconst (v := (0 : Int32)) F.1 F.2.1 dL_since_1 (by decide) ?_
  refine lv_aload_n F.1 F.2.1 dL_since_2 rfl (lv_at hl 0 rfl) ?_
  refine lv_iload_n F.1 F.2.1 dL_since_3 rfl (lv_at hl 1 rfl) ?_
  refine lv_iload_n F.1 F.2.1 dL_since_4 rfl (lv_at hl 2 rfl) ?_
  refine l_callV F hK hL hq hP (c_X4_since hlt a1 a2 hf) (cwV 2 F.2.2.2.2 gL_since_X4_since rfl rfl rfl ⟨rfl, hd_X4_since⟩ ⟨(Nat.le_of_ble_eq_true rfl), (Nat.le_of_ble_eq_true rfl)⟩) rfl (rest := [.int 0, .ref q]) rfl hl.1 (Nat.le_of_ble_eq_true rfl) dL_since_5 ⟨(Nat.le_of_ble_eq_true rfl), (Nat.le_of_ble_eq_true rfl)⟩ (fun hk H locs hP hS => ?_) (fun hk H locs q9 ce hP hS h1 h2 h3 => ?_)
  · rcases hcd with ⟨_, rfl, rfl⟩ | ⟨z, _, _⟩
    · refine lv_i2l (v := r.2.toInt64) F.1 F.2.1 dL_since_8 rfl ?_
      refine l_last F hK hq hP hS dL_since_9 (fun H locs hP hS => ?_)
      refine lv_goto (tgt := 17) F.1 F.2.1 dL_since_10 rfl ?_
      refine lv_iconst (v := (0 : Int32)) F.1 F.2.1 dL_since_17 (by decide) ?_
      exact l_iret F hr hlk hP hS (Nat.le_of_ble_eq_true rfl) (Nat.le_of_ble_eq_true rfl) dL_since_18
    · exact absurd (hk.symm.trans z) (by decide)
  · rcases hcd with ⟨z, _, _⟩ | ⟨z, rfl, rfl⟩
    · exact absurd z hk
    · rw [z] at h3
      refine vx_catch (name := exN 3) F.2.2.2.1 [] ⟨0, 10, 13, 28⟩ [] (by rw [hT]; rfl) (fun _ h => nomatch h) (by decide) (by decide) (F.2.2.2.2 _ (List.mem_of_getElem? (i := 1) rfl)) (va_Nw.use rfl (hL.1.2.2.2.2.2.2.1 3)) h1 h2 h3 ?_
      refine lv_astore F.1 F.2.1 dL_since_13 hl (Nat.le_of_ble_eq_true rfl) rfl (fun ls hl => ?_)
      refine lv_iconst (v := (1 : Int32)) F.1 F.2.1 dL_since_15 (by decide) ?_
      exact l_iret F hr hlk hP hS (Nat.le_of_ble_eq_true rfl) (Nat.le_of_ble_eq_true rfl) dL_since_16

def rmL_layerOf : Room := { frames := 8, cells := 2, slots := 12, locals := 128 }
theorem hd_L_layerOf : yL_layerOf.cls ≠ "java/lang/invoke/MethodHandle" ∧ yL_layerOf.cls ≠ "java/lang/invoke/VarHandle" ∧ (parseMethodDescriptor yL_layerOf.desc).map (fun d => d.parameters.length) = some 5 := by decide +kernel
set_option maxHeartbeats 8000000 in
set_option maxRecDepth 100000 in
theorem c_L_layerOf {l : Launch} (hlt : l.stackTraces = false) {D : va_G} {x q : Nat} {μ : Mem} {w w2 : Int64} (hq : ¬ rng x q) (a1 : Int32) (a2 : Int32) (a3 : Int32) {r : Nat × Int32} (hf : f_X4_layerOf μ a1 a2 a3 = some r) {cd : Int32} (hcd : (r.1 = 0 ∧ cd = 0 ∧ w2 = r.2.toInt64) ∨ (r.1 = 3 ∧ cd = 1 ∧ w2 = w) ∨ (r.1 = 1 ∧ cd = 2 ∧ w2 = w)) : LX l yL_layerOf wsL_layerOf rmL_layerOf 2 12 [.ref (x + 0), .int a1, .int a2, .int a3, .ref q] D x μ q w cd μ w2 := by
  refine LX.of (cc := cL_layerOf) (maxL := 6) (hh := [(0, 12, 15, 28), (0, 12, 19, 13)]) (by decide +kernel) rfl (Nat.le_of_ble_eq_true rfl) ?_
  intro p e s m args below meth c F hr hlk hT hK hL ls hl hP
  have hl : lv_has ls 6 [(0, .ref (x + 0)), (1, .int a1), (2, .int a2), (3, .int a3), (4, .ref q)] := hl
  refine lv_aload F.1 F.2.1 dL_layerOf_0 (lv_at hl 4 rfl) ?_
  refine lv_iconst (v := (0 : Int32)) F.1 F.2.1 dL_layerOf_2 (by decide) ?_
  refine lv_aload_n F.1 F.2.1 dL_layerOf_3 rfl (lv_at hl 0 rfl) ?_
  refine lv_iload_n F.1 F.2.1 dL_layerOf_4 rfl (lv_at hl 1 rfl) ?_
  refine lv_iload_n F.1 F.2.1 dL_layerOf_5 rfl (lv_at hl 2 rfl) ?_
  refine lv_iload_n F.1 F.2.1 dL_layerOf_6 rfl (lv_at hl 3 rfl) ?_
  refine l_callV F hK hL hq hP (c_X4_layerOf hlt a1 a2 a3 hf) (cwV 3 F.2.2.2.2 gL_layerOf_X4_layerOf rfl rfl rfl ⟨rfl, hd_X4_layerOf⟩ ⟨(Nat.le_of_ble_eq_true rfl), (Nat.le_of_ble_eq_true rfl)⟩) rfl (rest := [.int 0, .ref q]) rfl hl.1 (Nat.le_of_ble_eq_true rfl) dL_layerOf_7 ⟨(Nat.le_of_ble_eq_true rfl), (Nat.le_of_ble_eq_true rfl)⟩ (fun hk H locs hP hS => ?_) (fun hk H locs q9 ce hP hS h1 h2 h3 => ?_)
  · rcases hcd with ⟨_, rfl, rfl⟩ | ⟨z, _, _⟩ | ⟨z, _, _⟩
    · refine lv_i2l (v := r.2.toInt64) F.1 F.2.1 dL_layerOf_10 rfl ?_
      refine l_last F hK hq hP hS dL_layerOf_11 (fun H locs hP hS => ?_)
      refine lv_goto (tgt := 23) F.1 F.2.1 dL_layerOf_12 rfl ?_
      refine lv_iconst (v := (0 : Int32)) F.1 F.2.1 dL_layerOf_23 (by decide) ?_
      exact l_iret F hr hlk hP hS (Nat.le_of_ble_eq_true rfl) (Nat.le_of_ble_eq_true rfl) dL_layerOf_24
    · exact absurd (hk.symm.trans z) (by decide)
    · exact absurd (hk.symm.trans z) (by decide)
  · rcases hcd with ⟨z, _, _⟩ | ⟨z, rfl, rfl⟩ | ⟨z, rfl, rfl⟩
    · exact absurd z hk
    · rw [z] at h3
      refine vx_catch (name := exN 3) F.2.2.2.1 [] ⟨0, 12, 15, 28⟩ [⟨0, 12, 19, 13⟩] (by rw [hT]; rfl) (fun _ h => nomatch h) (by decide) (by decide) (F.2.2.2.2 _ (List.mem_of_getElem? (i := 1) rfl)) (va_Nw.use rfl (hL.1.2.2.2.2.2.2.1 3)) h1 h2 h3 ?_
      refine lv_astore F.1 F.2.1 dL_layerOf_15 hl (Nat.le_of_ble_eq_true rfl) rfl (fun ls hl => ?_)
      refine lv_iconst (v := (1 : Int32)) F.1 F.2.1 dL_layerOf_17 (by decide) ?_
      exact l_iret F hr hlk hP hS (Nat.le_of_ble_eq_true rfl) (Nat.le_of_ble_eq_true rfl) dL_layerOf_18
    · rw [z] at h3
      refine vx_catch (name := exN 1) F.2.2.2.1 [⟨0, 12, 15, 28⟩] ⟨0, 12, 19, 13⟩ [] (by rw [hT]; rfl) (fun z9 hz9 => by simp only [List.mem_cons, List.not_mem_nil, or_false] at hz9; subst hz9; exact Or.inr ⟨by decide, _, F.2.2.2.2 _ (List.mem_of_getElem? (i := 1) rfl), hL.2 1 3 (by decide) (by decide) (by decide) (by decide) (by decide)⟩) (by decide) (by decide) (F.2.2.2.2 _ (List.mem_of_getElem? (i := 2) rfl)) (va_Nw.use rfl (hL.1.2.2.2.2.2.2.1 1)) h1 h2 h3 ?_
      refine lv_astore F.1 F.2.1 dL_layerOf_19 hl (Nat.le_of_ble_eq_true rfl) rfl (fun ls hl => ?_)
      refine lv_iconst (v := (2 : Int32)) F.1 F.2.1 dL_layerOf_21 (by decide) ?_
      exact l_iret F hr hlk hP hS (Nat.le_of_ble_eq_true rfl) (Nat.le_of_ble_eq_true rfl) dL_layerOf_22

def rmL_tubeOf : Room := { frames := 8, cells := 1, slots := 6, locals := 126 }
theorem hd_L_tubeOf : yL_tubeOf.cls ≠ "java/lang/invoke/MethodHandle" ∧ yL_tubeOf.cls ≠ "java/lang/invoke/VarHandle" ∧ (parseMethodDescriptor yL_tubeOf.desc).map (fun d => d.parameters.length) = some 4 := by decide +kernel
set_option maxHeartbeats 8000000 in
set_option maxRecDepth 100000 in
theorem c_L_tubeOf {l : Launch} (hlt : l.stackTraces = false) {D : va_G} {x q : Nat} {μ : Mem} {w w2 : Int64} (hq : ¬ rng x q) (a1 : Int32) (a2 : Int32) {r : Nat × Int32} (hf : f_X4_tubeOf μ a1 a2 = some r) {cd : Int32} (hcd : (r.1 = 0 ∧ cd = 0 ∧ w2 = r.2.toInt64) ∨ (r.1 = 3 ∧ cd = 1 ∧ w2 = w) ∨ (r.1 = 1 ∧ cd = 2 ∧ w2 = w)) : LX l yL_tubeOf wsL_tubeOf rmL_tubeOf 1 6 [.ref (x + 0), .int a1, .int a2, .ref q] D x μ q w cd μ w2 := by
  refine LX.of (cc := cL_tubeOf) (maxL := 5) (hh := [(0, 10, 13, 28), (0, 10, 17, 13)]) (by decide +kernel) rfl (Nat.le_of_ble_eq_true rfl) ?_
  intro p e s m args below meth c F hr hlk hT hK hL ls hl hP
  have hl : lv_has ls 5 [(0, .ref (x + 0)), (1, .int a1), (2, .int a2), (3, .ref q)] := hl
  refine lv_aload_n F.1 F.2.1 dL_tubeOf_0 rfl (lv_at hl 3 rfl) ?_
  refine lv_iconst (v := (0 : Int32)) F.1 F.2.1 dL_tubeOf_1 (by decide) ?_
  refine lv_aload_n F.1 F.2.1 dL_tubeOf_2 rfl (lv_at hl 0 rfl) ?_
  refine lv_iload_n F.1 F.2.1 dL_tubeOf_3 rfl (lv_at hl 1 rfl) ?_
  refine lv_iload_n F.1 F.2.1 dL_tubeOf_4 rfl (lv_at hl 2 rfl) ?_
  refine l_callV F hK hL hq hP (c_X4_tubeOf hlt a1 a2 hf) (cwV 2 F.2.2.2.2 gL_tubeOf_X4_tubeOf rfl rfl rfl ⟨rfl, hd_X4_tubeOf⟩ ⟨(Nat.le_of_ble_eq_true rfl), (Nat.le_of_ble_eq_true rfl)⟩) rfl (rest := [.int 0, .ref q]) rfl hl.1 (Nat.le_of_ble_eq_true rfl) dL_tubeOf_5 ⟨(Nat.le_of_ble_eq_true rfl), (Nat.le_of_ble_eq_true rfl)⟩ (fun hk H locs hP hS => ?_) (fun hk H locs q9 ce hP hS h1 h2 h3 => ?_)
  · rcases hcd with ⟨_, rfl, rfl⟩ | ⟨z, _, _⟩ | ⟨z, _, _⟩
    · refine lv_i2l (v := r.2.toInt64) F.1 F.2.1 dL_tubeOf_8 rfl ?_
      refine l_last F hK hq hP hS dL_tubeOf_9 (fun H locs hP hS => ?_)
      refine lv_goto (tgt := 21) F.1 F.2.1 dL_tubeOf_10 rfl ?_
      refine lv_iconst (v := (0 : Int32)) F.1 F.2.1 dL_tubeOf_21 (by decide) ?_
      exact l_iret F hr hlk hP hS (Nat.le_of_ble_eq_true rfl) (Nat.le_of_ble_eq_true rfl) dL_tubeOf_22
    · exact absurd (hk.symm.trans z) (by decide)
    · exact absurd (hk.symm.trans z) (by decide)
  · rcases hcd with ⟨z, _, _⟩ | ⟨z, rfl, rfl⟩ | ⟨z, rfl, rfl⟩
    · exact absurd z hk
    · rw [z] at h3
      refine vx_catch (name := exN 3) F.2.2.2.1 [] ⟨0, 10, 13, 28⟩ [⟨0, 10, 17, 13⟩] (by rw [hT]; rfl) (fun _ h => nomatch h) (by decide) (by decide) (F.2.2.2.2 _ (List.mem_of_getElem? (i := 1) rfl)) (va_Nw.use rfl (hL.1.2.2.2.2.2.2.1 3)) h1 h2 h3 ?_
      refine lv_astore F.1 F.2.1 dL_tubeOf_13 hl (Nat.le_of_ble_eq_true rfl) rfl (fun ls hl => ?_)
      refine lv_iconst (v := (1 : Int32)) F.1 F.2.1 dL_tubeOf_15 (by decide) ?_
      exact l_iret F hr hlk hP hS (Nat.le_of_ble_eq_true rfl) (Nat.le_of_ble_eq_true rfl) dL_tubeOf_16
    · rw [z] at h3
      refine vx_catch (name := exN 1) F.2.2.2.1 [⟨0, 10, 13, 28⟩] ⟨0, 10, 17, 13⟩ [] (by rw [hT]; rfl) (fun z9 hz9 => by simp only [List.mem_cons, List.not_mem_nil, or_false] at hz9; subst hz9; exact Or.inr ⟨by decide, _, F.2.2.2.2 _ (List.mem_of_getElem? (i := 1) rfl), hL.2 1 3 (by decide) (by decide) (by decide) (by decide) (by decide)⟩) (by decide) (by decide) (F.2.2.2.2 _ (List.mem_of_getElem? (i := 2) rfl)) (va_Nw.use rfl (hL.1.2.2.2.2.2.2.1 1)) h1 h2 h3 ?_
      refine lv_astore F.1 F.2.1 dL_tubeOf_17 hl (Nat.le_of_ble_eq_true rfl) rfl (fun ls hl => ?_)
      refine lv_iconst (v := (2 : Int32)) F.1 F.2.1 dL_tubeOf_19 (by decide) ?_
      exact l_iret F hr hlk hP hS (Nat.le_of_ble_eq_true rfl) (Nat.le_of_ble_eq_true rfl) dL_tubeOf_20

def rmL_pipeOf : Room := { frames := 8, cells := 2, slots := 12, locals := 126 }
theorem hd_L_pipeOf : yL_pipeOf.cls ≠ "java/lang/invoke/MethodHandle" ∧ yL_pipeOf.cls ≠ "java/lang/invoke/VarHandle" ∧ (parseMethodDescriptor yL_pipeOf.desc).map (fun d => d.parameters.length) = some 4 := by decide +kernel
set_option maxHeartbeats 8000000 in
set_option maxRecDepth 100000 in
theorem c_L_pipeOf {l : Launch} (hlt : l.stackTraces = false) {D : va_G} {x q : Nat} {μ : Mem} {w w2 : Int64} (hq : ¬ rng x q) (a1 : Int32) (a2 : Int32) {r : Nat × Int32} (hf : f_X4_pipeOf μ a1 a2 = some r) {cd : Int32} (hcd : (r.1 = 0 ∧ cd = 0 ∧ w2 = r.2.toInt64) ∨ (r.1 = 3 ∧ cd = 1 ∧ w2 = w) ∨ (r.1 = 1 ∧ cd = 2 ∧ w2 = w)) : LX l yL_pipeOf wsL_pipeOf rmL_pipeOf 2 12 [.ref (x + 0), .int a1, .int a2, .ref q] D x μ q w cd μ w2 := by
  refine LX.of (cc := cL_pipeOf) (maxL := 5) (hh := [(0, 10, 13, 28), (0, 10, 17, 13)]) (by decide +kernel) rfl (Nat.le_of_ble_eq_true rfl) ?_
  intro p e s m args below meth c F hr hlk hT hK hL ls hl hP
  have hl : lv_has ls 5 [(0, .ref (x + 0)), (1, .int a1), (2, .int a2), (3, .ref q)] := hl
  refine lv_aload_n F.1 F.2.1 dL_pipeOf_0 rfl (lv_at hl 3 rfl) ?_
  refine lv_iconst (v := (0 : Int32)) F.1 F.2.1 dL_pipeOf_1 (by decide) ?_
  refine lv_aload_n F.1 F.2.1 dL_pipeOf_2 rfl (lv_at hl 0 rfl) ?_
  refine lv_iload_n F.1 F.2.1 dL_pipeOf_3 rfl (lv_at hl 1 rfl) ?_
  refine lv_iload_n F.1 F.2.1 dL_pipeOf_4 rfl (lv_at hl 2 rfl) ?_
  refine l_callV F hK hL hq hP (c_X4_pipeOf hlt a1 a2 hf) (cwV 2 F.2.2.2.2 gL_pipeOf_X4_pipeOf rfl rfl rfl ⟨rfl, hd_X4_pipeOf⟩ ⟨(Nat.le_of_ble_eq_true rfl), (Nat.le_of_ble_eq_true rfl)⟩) rfl (rest := [.int 0, .ref q]) rfl hl.1 (Nat.le_of_ble_eq_true rfl) dL_pipeOf_5 ⟨(Nat.le_of_ble_eq_true rfl), (Nat.le_of_ble_eq_true rfl)⟩ (fun hk H locs hP hS => ?_) (fun hk H locs q9 ce hP hS h1 h2 h3 => ?_)
  · rcases hcd with ⟨_, rfl, rfl⟩ | ⟨z, _, _⟩ | ⟨z, _, _⟩
    · refine lv_i2l (v := r.2.toInt64) F.1 F.2.1 dL_pipeOf_8 rfl ?_
      refine l_last F hK hq hP hS dL_pipeOf_9 (fun H locs hP hS => ?_)
      refine lv_goto (tgt := 21) F.1 F.2.1 dL_pipeOf_10 rfl ?_
      refine lv_iconst (v := (0 : Int32)) F.1 F.2.1 dL_pipeOf_21 (by decide) ?_
      exact l_iret F hr hlk hP hS (Nat.le_of_ble_eq_true rfl) (Nat.le_of_ble_eq_true rfl) dL_pipeOf_22
    · exact absurd (hk.symm.trans z) (by decide)
    · exact absurd (hk.symm.trans z) (by decide)
  · rcases hcd with ⟨z, _, _⟩ | ⟨z, rfl, rfl⟩ | ⟨z, rfl, rfl⟩
    · exact absurd z hk
    · rw [z] at h3
      refine vx_catch (name := exN 3) F.2.2.2.1 [] ⟨0, 10, 13, 28⟩ [⟨0, 10, 17, 13⟩] (by rw [hT]; rfl) (fun _ h => nomatch h) (by decide) (by decide) (F.2.2.2.2 _ (List.mem_of_getElem? (i := 1) rfl)) (va_Nw.use rfl (hL.1.2.2.2.2.2.2.1 3)) h1 h2 h3 ?_
      refine lv_astore F.1 F.2.1 dL_pipeOf_13 hl (Nat.le_of_ble_eq_true rfl) rfl (fun ls hl => ?_)
      refine lv_iconst (v := (1 : Int32)) F.1 F.2.1 dL_pipeOf_15 (by decide) ?_
      exact l_iret F hr hlk hP hS (Nat.le_of_ble_eq_true rfl) (Nat.le_of_ble_eq_true rfl) dL_pipeOf_16
    · rw [z] at h3
      refine vx_catch (name := exN 1) F.2.2.2.1 [⟨0, 10, 13, 28⟩] ⟨0, 10, 17, 13⟩ [] (by rw [hT]; rfl) (fun z9 hz9 => by simp only [List.mem_cons, List.not_mem_nil, or_false] at hz9; subst hz9; exact Or.inr ⟨by decide, _, F.2.2.2.2 _ (List.mem_of_getElem? (i := 1) rfl), hL.2 1 3 (by decide) (by decide) (by decide) (by decide) (by decide)⟩) (by decide) (by decide) (F.2.2.2.2 _ (List.mem_of_getElem? (i := 2) rfl)) (va_Nw.use rfl (hL.1.2.2.2.2.2.2.1 1)) h1 h2 h3 ?_
      refine lv_astore F.1 F.2.1 dL_pipeOf_17 hl (Nat.le_of_ble_eq_true rfl) rfl (fun ls hl => ?_)
      refine lv_iconst (v := (2 : Int32)) F.1 F.2.1 dL_pipeOf_19 (by decide) ?_
      exact l_iret F hr hlk hP hS (Nat.le_of_ble_eq_true rfl) (Nat.le_of_ble_eq_true rfl) dL_pipeOf_20

def rmL_layers : Room := { frames := 8, cells := 2, slots := 12, locals := 126 }
theorem hd_L_layers : yL_layers.cls ≠ "java/lang/invoke/MethodHandle" ∧ yL_layers.cls ≠ "java/lang/invoke/VarHandle" ∧ (parseMethodDescriptor yL_layers.desc).map (fun d => d.parameters.length) = some 4 := by decide +kernel
set_option maxHeartbeats 8000000 in
set_option maxRecDepth 100000 in
theorem c_L_layers {l : Launch} (hlt : l.stackTraces = false) {D : va_G} {x q : Nat} {μ : Mem} {w w2 : Int64} (hq : ¬ rng x q) (a1 : Int32) (a2 : Int32) {r : Nat × Int32} (hf : f_X4_layers μ a1 a2 = some r) {cd : Int32} (hcd : (r.1 = 0 ∧ cd = 0 ∧ w2 = r.2.toInt64) ∨ (r.1 = 3 ∧ cd = 1 ∧ w2 = w) ∨ (r.1 = 1 ∧ cd = 2 ∧ w2 = w)) : LX l yL_layers wsL_layers rmL_layers 2 12 [.ref (x + 0), .int a1, .int a2, .ref q] D x μ q w cd μ w2 := by
  refine LX.of (cc := cL_layers) (maxL := 5) (hh := [(0, 10, 13, 28), (0, 10, 17, 13)]) (by decide +kernel) rfl (Nat.le_of_ble_eq_true rfl) ?_
  intro p e s m args below meth c F hr hlk hT hK hL ls hl hP
  have hl : lv_has ls 5 [(0, .ref (x + 0)), (1, .int a1), (2, .int a2), (3, .ref q)] := hl
  refine lv_aload_n F.1 F.2.1 dL_layers_0 rfl (lv_at hl 3 rfl) ?_
  refine lv_iconst (v := (0 : Int32)) F.1 F.2.1 dL_layers_1 (by decide) ?_
  refine lv_aload_n F.1 F.2.1 dL_layers_2 rfl (lv_at hl 0 rfl) ?_
  refine lv_iload_n F.1 F.2.1 dL_layers_3 rfl (lv_at hl 1 rfl) ?_
  refine lv_iload_n F.1 F.2.1 dL_layers_4 rfl (lv_at hl 2 rfl) ?_
  refine l_callV F hK hL hq hP (c_X4_layers hlt a1 a2 hf) (cwV 2 F.2.2.2.2 gL_layers_X4_layers rfl rfl rfl ⟨rfl, hd_X4_layers⟩ ⟨(Nat.le_of_ble_eq_true rfl), (Nat.le_of_ble_eq_true rfl)⟩) rfl (rest := [.int 0, .ref q]) rfl hl.1 (Nat.le_of_ble_eq_true rfl) dL_layers_5 ⟨(Nat.le_of_ble_eq_true rfl), (Nat.le_of_ble_eq_true rfl)⟩ (fun hk H locs hP hS => ?_) (fun hk H locs q9 ce hP hS h1 h2 h3 => ?_)
  · rcases hcd with ⟨_, rfl, rfl⟩ | ⟨z, _, _⟩ | ⟨z, _, _⟩
    · refine lv_i2l (v := r.2.toInt64) F.1 F.2.1 dL_layers_8 rfl ?_
      refine l_last F hK hq hP hS dL_layers_9 (fun H locs hP hS => ?_)
      refine lv_goto (tgt := 21) F.1 F.2.1 dL_layers_10 rfl ?_
      refine lv_iconst (v := (0 : Int32)) F.1 F.2.1 dL_layers_21 (by decide) ?_
      exact l_iret F hr hlk hP hS (Nat.le_of_ble_eq_true rfl) (Nat.le_of_ble_eq_true rfl) dL_layers_22
    · exact absurd (hk.symm.trans z) (by decide)
    · exact absurd (hk.symm.trans z) (by decide)
  · rcases hcd with ⟨z, _, _⟩ | ⟨z, rfl, rfl⟩ | ⟨z, rfl, rfl⟩
    · exact absurd z hk
    · rw [z] at h3
      refine vx_catch (name := exN 3) F.2.2.2.1 [] ⟨0, 10, 13, 28⟩ [⟨0, 10, 17, 13⟩] (by rw [hT]; rfl) (fun _ h => nomatch h) (by decide) (by decide) (F.2.2.2.2 _ (List.mem_of_getElem? (i := 1) rfl)) (va_Nw.use rfl (hL.1.2.2.2.2.2.2.1 3)) h1 h2 h3 ?_
      refine lv_astore F.1 F.2.1 dL_layers_13 hl (Nat.le_of_ble_eq_true rfl) rfl (fun ls hl => ?_)
      refine lv_iconst (v := (1 : Int32)) F.1 F.2.1 dL_layers_15 (by decide) ?_
      exact l_iret F hr hlk hP hS (Nat.le_of_ble_eq_true rfl) (Nat.le_of_ble_eq_true rfl) dL_layers_16
    · rw [z] at h3
      refine vx_catch (name := exN 1) F.2.2.2.1 [⟨0, 10, 13, 28⟩] ⟨0, 10, 17, 13⟩ [] (by rw [hT]; rfl) (fun z9 hz9 => by simp only [List.mem_cons, List.not_mem_nil, or_false] at hz9; subst hz9; exact Or.inr ⟨by decide, _, F.2.2.2.2 _ (List.mem_of_getElem? (i := 1) rfl), hL.2 1 3 (by decide) (by decide) (by decide) (by decide) (by decide)⟩) (by decide) (by decide) (F.2.2.2.2 _ (List.mem_of_getElem? (i := 2) rfl)) (va_Nw.use rfl (hL.1.2.2.2.2.2.2.1 1)) h1 h2 h3 ?_
      refine lv_astore F.1 F.2.1 dL_layers_17 hl (Nat.le_of_ble_eq_true rfl) rfl (fun ls hl => ?_)
      refine lv_iconst (v := (2 : Int32)) F.1 F.2.1 dL_layers_19 (by decide) ?_
      exact l_iret F hr hlk hP hS (Nat.le_of_ble_eq_true rfl) (Nat.le_of_ble_eq_true rfl) dL_layers_20

def rmL_oldest : Room := { frames := 7, cells := 1, slots := 6, locals := 105 }
theorem hd_L_oldest : yL_oldest.cls ≠ "java/lang/invoke/MethodHandle" ∧ yL_oldest.cls ≠ "java/lang/invoke/VarHandle" ∧ (parseMethodDescriptor yL_oldest.desc).map (fun d => d.parameters.length) = some 3 := by decide +kernel
set_option maxHeartbeats 8000000 in
set_option maxRecDepth 100000 in
theorem c_L_oldest {l : Launch} (hlt : l.stackTraces = false) {D : va_G} {x q : Nat} {μ : Mem} {w w2 : Int64} (hq : ¬ rng x q) (a1 : Int32) {r : Nat × Int32} (hf : f_X4_oldest μ a1 = some r) {cd : Int32} (hcd : (r.1 = 0 ∧ cd = 0 ∧ w2 = r.2.toInt64) ∨ (r.1 = 3 ∧ cd = 1 ∧ w2 = w)) : LX l yL_oldest wsL_oldest rmL_oldest 1 6 [.ref (x + 0), .int a1, .ref q] D x μ q w cd μ w2 := by
  refine LX.of (cc := cL_oldest) (maxL := 4) (hh := [(0, 9, 12, 28)]) (by decide +kernel) rfl (Nat.le_of_ble_eq_true rfl) ?_
  intro p e s m args below meth c F hr hlk hT hK hL ls hl hP
  have hl : lv_has ls 4 [(0, .ref (x + 0)), (1, .int a1), (2, .ref q)] := hl
  refine lv_aload_n F.1 F.2.1 dL_oldest_0 rfl (lv_at hl 2 rfl) ?_
  refine lv_iconst (v := (0 : Int32)) F.1 F.2.1 dL_oldest_1 (by decide) ?_
  refine lv_aload_n F.1 F.2.1 dL_oldest_2 rfl (lv_at hl 0 rfl) ?_
  refine lv_iload_n F.1 F.2.1 dL_oldest_3 rfl (lv_at hl 1 rfl) ?_
  refine l_callV F hK hL hq hP (c_X4_oldest hlt a1 hf) (cwV 1 F.2.2.2.2 gL_oldest_X4_oldest rfl rfl rfl ⟨rfl, hd_X4_oldest⟩ ⟨(Nat.le_of_ble_eq_true rfl), (Nat.le_of_ble_eq_true rfl)⟩) rfl (rest := [.int 0, .ref q]) rfl hl.1 (Nat.le_of_ble_eq_true rfl) dL_oldest_4 ⟨(Nat.le_of_ble_eq_true rfl), (Nat.le_of_ble_eq_true rfl)⟩ (fun hk H locs hP hS => ?_) (fun hk H locs q9 ce hP hS h1 h2 h3 => ?_)
  · rcases hcd with ⟨_, rfl, rfl⟩ | ⟨z, _, _⟩
    · refine lv_i2l (v := r.2.toInt64) F.1 F.2.1 dL_oldest_7 rfl ?_
      refine l_last F hK hq hP hS dL_oldest_8 (fun H locs hP hS => ?_)
      refine lv_goto (tgt := 15) F.1 F.2.1 dL_oldest_9 rfl ?_
      refine lv_iconst (v := (0 : Int32)) F.1 F.2.1 dL_oldest_15 (by decide) ?_
      exact l_iret F hr hlk hP hS (Nat.le_of_ble_eq_true rfl) (Nat.le_of_ble_eq_true rfl) dL_oldest_16
    · exact absurd (hk.symm.trans z) (by decide)
  · rcases hcd with ⟨z, _, _⟩ | ⟨z, rfl, rfl⟩
    · exact absurd z hk
    · rw [z] at h3
      refine vx_catch (name := exN 3) F.2.2.2.1 [] ⟨0, 9, 12, 28⟩ [] (by rw [hT]; rfl) (fun _ h => nomatch h) (by decide) (by decide) (F.2.2.2.2 _ (List.mem_of_getElem? (i := 1) rfl)) (va_Nw.use rfl (hL.1.2.2.2.2.2.2.1 3)) h1 h2 h3 ?_
      refine lv_astore_n F.1 F.2.1 dL_oldest_12 rfl hl (Nat.le_of_ble_eq_true rfl) rfl (fun ls hl => ?_)
      refine lv_iconst (v := (1 : Int32)) F.1 F.2.1 dL_oldest_13 (by decide) ?_
      exact l_iret F hr hlk hP hS (Nat.le_of_ble_eq_true rfl) (Nat.le_of_ble_eq_true rfl) dL_oldest_14

def rmL_site : Room := { frames := 8, cells := 1, slots := 6, locals := 189 }
theorem hd_L_site : yL_site.cls ≠ "java/lang/invoke/MethodHandle" ∧ yL_site.cls ≠ "java/lang/invoke/VarHandle" ∧ (parseMethodDescriptor yL_site.desc).map (fun d => d.parameters.length) = some 2 := by decide +kernel
set_option maxHeartbeats 8000000 in
set_option maxRecDepth 100000 in
theorem c_L_site {l : Launch} (hlt : l.stackTraces = false) {D : va_G} {x q : Nat} {μ : Mem} {w w2 : Int64} (hq : ¬ rng x q) {r : Nat × Int32 × Mem} (hf : f_X4_site μ  = some r) {cd : Int32} (hcd : (r.1 = 0 ∧ cd = 0 ∧ w2 = r.2.1.toInt64) ∨ (r.1 = 2 ∧ cd = 1 ∧ w2 = w)) : LX l yL_site wsL_site rmL_site 1 6 [.ref (x + 0), .ref q] D x μ q w cd r.2.2 w2 := by
  refine LX.of (cc := cL_site) (maxL := 3) (hh := [(0, 8, 11, 15)]) (by decide +kernel) rfl (Nat.le_of_ble_eq_true rfl) ?_
  intro p e s m args below meth c F hr hlk hT hK hL ls hl hP
  have hl : lv_has ls 3 [(0, .ref (x + 0)), (1, .ref q)] := hl
  refine lv_aload_n F.1 F.2.1 dL_site_0 rfl (lv_at hl 1 rfl) ?_
  refine lv_iconst (v := (0 : Int32)) F.1 F.2.1 dL_site_1 (by decide) ?_
  refine lv_aload_n F.1 F.2.1 dL_site_2 rfl (lv_at hl 0 rfl) ?_
  refine l_callV F hK hL hq hP (c_X4_site hlt  hf) (cwV 0 F.2.2.2.2 gL_site_X4_site rfl rfl rfl ⟨rfl, hd_X4_site⟩ ⟨(Nat.le_of_ble_eq_true rfl), (Nat.le_of_ble_eq_true rfl)⟩) rfl (rest := [.int 0, .ref q]) rfl hl.1 (Nat.le_of_ble_eq_true rfl) dL_site_3 ⟨(Nat.le_of_ble_eq_true rfl), (Nat.le_of_ble_eq_true rfl)⟩ (fun hk H locs hP hS => ?_) (fun hk H locs q9 ce hP hS h1 h2 h3 => ?_)
  · rcases hcd with ⟨_, rfl, rfl⟩ | ⟨z, _, _⟩
    · refine lv_i2l (v := r.2.1.toInt64) F.1 F.2.1 dL_site_6 rfl ?_
      refine l_last F hK hq hP hS dL_site_7 (fun H locs hP hS => ?_)
      refine lv_goto (tgt := 14) F.1 F.2.1 dL_site_8 rfl ?_
      refine lv_iconst (v := (0 : Int32)) F.1 F.2.1 dL_site_14 (by decide) ?_
      exact l_iret F hr hlk hP hS (Nat.le_of_ble_eq_true rfl) (Nat.le_of_ble_eq_true rfl) dL_site_15
    · exact absurd (hk.symm.trans z) (by decide)
  · rcases hcd with ⟨z, _, _⟩ | ⟨z, rfl, rfl⟩
    · exact absurd z hk
    · rw [z] at h3
      refine vx_catch (name := exN 2) F.2.2.2.1 [] ⟨0, 8, 11, 15⟩ [] (by rw [hT]; rfl) (fun _ h => nomatch h) (by decide) (by decide) (F.2.2.2.2 _ (List.mem_of_getElem? (i := 1) rfl)) (va_Nw.use rfl (hL.1.2.2.2.2.2.2.1 2)) h1 h2 h3 ?_
      refine lv_astore_n F.1 F.2.1 dL_site_11 rfl hl (Nat.le_of_ble_eq_true rfl) rfl (fun ls hl => ?_)
      refine lv_iconst (v := (1 : Int32)) F.1 F.2.1 dL_site_12 (by decide) ?_
      exact l_iret F hr hlk hP hS (Nat.le_of_ble_eq_true rfl) (Nat.le_of_ble_eq_true rfl) dL_site_13

def rmL_tube : Room := { frames := 8, cells := 1, slots := 6, locals := 191 }
theorem hd_L_tube : yL_tube.cls ≠ "java/lang/invoke/MethodHandle" ∧ yL_tube.cls ≠ "java/lang/invoke/VarHandle" ∧ (parseMethodDescriptor yL_tube.desc).map (fun d => d.parameters.length) = some 4 := by decide +kernel
set_option maxHeartbeats 8000000 in
set_option maxRecDepth 100000 in
theorem c_L_tube {l : Launch} (hlt : l.stackTraces = false) {D : va_G} {x q : Nat} {μ : Mem} {w w2 : Int64} (hq : ¬ rng x q) (a1 : Int32) (a2 : Int32) {r : Nat × Int32 × Mem} (hf : f_X4_tube μ a1 a2 = some r) {cd : Int32} (hcd : (r.1 = 0 ∧ cd = 0 ∧ w2 = r.2.1.toInt64) ∨ (r.1 = 3 ∧ cd = 1 ∧ w2 = w) ∨ (r.1 = 1 ∧ cd = 2 ∧ w2 = w) ∨ (r.1 = 2 ∧ cd = 3 ∧ w2 = w)) : LX l yL_tube wsL_tube rmL_tube 1 6 [.ref (x + 0), .int a1, .int a2, .ref q] D x μ q w cd r.2.2 w2 := by
  refine LX.of (cc := cL_tube) (maxL := 5) (hh := [(0, 10, 13, 28), (0, 10, 17, 13), (0, 10, 21, 15)]) (by decide +kernel) rfl (Nat.le_of_ble_eq_true rfl) ?_
  intro p e s m args below meth c F hr hlk hT hK hL ls hl hP
  have hl : lv_has ls 5 [(0, .ref (x + 0)), (1, .int a1), (2, .int a2), (3, .ref q)] := hl
  refine lv_aload_n F.1 F.2.1 dL_tube_0 rfl (lv_at hl 3 rfl) ?_
  refine lv_iconst (v := (0 : Int32)) F.1 F.2.1 dL_tube_1 (by decide) ?_
  refine lv_aload_n F.1 F.2.1 dL_tube_2 rfl (lv_at hl 0 rfl) ?_
  refine lv_iload_n F.1 F.2.1 dL_tube_3 rfl (lv_at hl 1 rfl) ?_
  refine lv_iload_n F.1 F.2.1 dL_tube_4 rfl (lv_at hl 2 rfl) ?_
  refine l_callV F hK hL hq hP (c_X4_tube hlt a1 a2 hf) (cwV 2 F.2.2.2.2 gL_tube_X4_tube rfl rfl rfl ⟨rfl, hd_X4_tube⟩ ⟨(Nat.le_of_ble_eq_true rfl), (Nat.le_of_ble_eq_true rfl)⟩) rfl (rest := [.int 0, .ref q]) rfl hl.1 (Nat.le_of_ble_eq_true rfl) dL_tube_5 ⟨(Nat.le_of_ble_eq_true rfl), (Nat.le_of_ble_eq_true rfl)⟩ (fun hk H locs hP hS => ?_) (fun hk H locs q9 ce hP hS h1 h2 h3 => ?_)
  · rcases hcd with ⟨_, rfl, rfl⟩ | ⟨z, _, _⟩ | ⟨z, _, _⟩ | ⟨z, _, _⟩
    · refine lv_i2l (v := r.2.1.toInt64) F.1 F.2.1 dL_tube_8 rfl ?_
      refine l_last F hK hq hP hS dL_tube_9 (fun H locs hP hS => ?_)
      refine lv_goto (tgt := 25) F.1 F.2.1 dL_tube_10 rfl ?_
      refine lv_iconst (v := (0 : Int32)) F.1 F.2.1 dL_tube_25 (by decide) ?_
      exact l_iret F hr hlk hP hS (Nat.le_of_ble_eq_true rfl) (Nat.le_of_ble_eq_true rfl) dL_tube_26
    · exact absurd (hk.symm.trans z) (by decide)
    · exact absurd (hk.symm.trans z) (by decide)
    · exact absurd (hk.symm.trans z) (by decide)
  · rcases hcd with ⟨z, _, _⟩ | ⟨z, rfl, rfl⟩ | ⟨z, rfl, rfl⟩ | ⟨z, rfl, rfl⟩
    · exact absurd z hk
    · rw [z] at h3
      refine vx_catch (name := exN 3) F.2.2.2.1 [] ⟨0, 10, 13, 28⟩ [⟨0, 10, 17, 13⟩, ⟨0, 10, 21, 15⟩] (by rw [hT]; rfl) (fun _ h => nomatch h) (by decide) (by decide) (F.2.2.2.2 _ (List.mem_of_getElem? (i := 1) rfl)) (va_Nw.use rfl (hL.1.2.2.2.2.2.2.1 3)) h1 h2 h3 ?_
      refine lv_astore F.1 F.2.1 dL_tube_13 hl (Nat.le_of_ble_eq_true rfl) rfl (fun ls hl => ?_)
      refine lv_iconst (v := (1 : Int32)) F.1 F.2.1 dL_tube_15 (by decide) ?_
      exact l_iret F hr hlk hP hS (Nat.le_of_ble_eq_true rfl) (Nat.le_of_ble_eq_true rfl) dL_tube_16
    · rw [z] at h3
      refine vx_catch (name := exN 1) F.2.2.2.1 [⟨0, 10, 13, 28⟩] ⟨0, 10, 17, 13⟩ [⟨0, 10, 21, 15⟩] (by rw [hT]; rfl) (fun z9 hz9 => by simp only [List.mem_cons, List.not_mem_nil, or_false] at hz9; subst hz9; exact Or.inr ⟨by decide, _, F.2.2.2.2 _ (List.mem_of_getElem? (i := 1) rfl), hL.2 1 3 (by decide) (by decide) (by decide) (by decide) (by decide)⟩) (by decide) (by decide) (F.2.2.2.2 _ (List.mem_of_getElem? (i := 2) rfl)) (va_Nw.use rfl (hL.1.2.2.2.2.2.2.1 1)) h1 h2 h3 ?_
      refine lv_astore F.1 F.2.1 dL_tube_17 hl (Nat.le_of_ble_eq_true rfl) rfl (fun ls hl => ?_)
      refine lv_iconst (v := (2 : Int32)) F.1 F.2.1 dL_tube_19 (by decide) ?_
      exact l_iret F hr hlk hP hS (Nat.le_of_ble_eq_true rfl) (Nat.le_of_ble_eq_true rfl) dL_tube_20
    · rw [z] at h3
      refine vx_catch (name := exN 2) F.2.2.2.1 [⟨0, 10, 13, 28⟩, ⟨0, 10, 17, 13⟩] ⟨0, 10, 21, 15⟩ [] (by rw [hT]; rfl) (fun z9 hz9 => by simp only [List.mem_cons, List.not_mem_nil, or_false] at hz9; rcases hz9 with rfl | rfl; exact Or.inr ⟨by decide, _, F.2.2.2.2 _ (List.mem_of_getElem? (i := 1) rfl), hL.2 2 3 (by decide) (by decide) (by decide) (by decide) (by decide)⟩; exact Or.inr ⟨by decide, _, F.2.2.2.2 _ (List.mem_of_getElem? (i := 2) rfl), hL.2 2 1 (by decide) (by decide) (by decide) (by decide) (by decide)⟩) (by decide) (by decide) (F.2.2.2.2 _ (List.mem_of_getElem? (i := 3) rfl)) (va_Nw.use rfl (hL.1.2.2.2.2.2.2.1 2)) h1 h2 h3 ?_
      refine lv_astore F.1 F.2.1 dL_tube_21 hl (Nat.le_of_ble_eq_true rfl) rfl (fun ls hl => ?_)
      refine lv_iconst (v := (3 : Int32)) F.1 F.2.1 dL_tube_23 (by decide) ?_
      exact l_iret F hr hlk hP hS (Nat.le_of_ble_eq_true rfl) (Nat.le_of_ble_eq_true rfl) dL_tube_24

def rmL_pipe : Room := { frames := 8, cells := 1, slots := 6, locals := 191 }
theorem hd_L_pipe : yL_pipe.cls ≠ "java/lang/invoke/MethodHandle" ∧ yL_pipe.cls ≠ "java/lang/invoke/VarHandle" ∧ (parseMethodDescriptor yL_pipe.desc).map (fun d => d.parameters.length) = some 4 := by decide +kernel
set_option maxHeartbeats 8000000 in
set_option maxRecDepth 100000 in
theorem c_L_pipe {l : Launch} (hlt : l.stackTraces = false) {D : va_G} {x q : Nat} {μ : Mem} {w w2 : Int64} (hq : ¬ rng x q) (a1 : Int32) (a2 : Int32) {r : Nat × Int32 × Mem} (hf : f_X4_pipe μ a1 a2 = some r) {cd : Int32} (hcd : (r.1 = 0 ∧ cd = 0 ∧ w2 = r.2.1.toInt64) ∨ (r.1 = 3 ∧ cd = 1 ∧ w2 = w) ∨ (r.1 = 2 ∧ cd = 2 ∧ w2 = w)) : LX l yL_pipe wsL_pipe rmL_pipe 1 6 [.ref (x + 0), .int a1, .int a2, .ref q] D x μ q w cd r.2.2 w2 := by
  refine LX.of (cc := cL_pipe) (maxL := 5) (hh := [(0, 10, 13, 28), (0, 10, 17, 15)]) (by decide +kernel) rfl (Nat.le_of_ble_eq_true rfl) ?_
  intro p e s m args below meth c F hr hlk hT hK hL ls hl hP
  have hl : lv_has ls 5 [(0, .ref (x + 0)), (1, .int a1), (2, .int a2), (3, .ref q)] := hl
  refine lv_aload_n F.1 F.2.1 dL_pipe_0 rfl (lv_at hl 3 rfl) ?_
  refine lv_iconst (v := (0 : Int32)) F.1 F.2.1 dL_pipe_1 (by decide) ?_
  refine lv_aload_n F.1 F.2.1 dL_pipe_2 rfl (lv_at hl 0 rfl) ?_
  refine lv_iload_n F.1 F.2.1 dL_pipe_3 rfl (lv_at hl 1 rfl) ?_
  refine lv_iload_n F.1 F.2.1 dL_pipe_4 rfl (lv_at hl 2 rfl) ?_
  refine l_callV F hK hL hq hP (c_X4_pipe hlt a1 a2 hf) (cwV 2 F.2.2.2.2 gL_pipe_X4_pipe rfl rfl rfl ⟨rfl, hd_X4_pipe⟩ ⟨(Nat.le_of_ble_eq_true rfl), (Nat.le_of_ble_eq_true rfl)⟩) rfl (rest := [.int 0, .ref q]) rfl hl.1 (Nat.le_of_ble_eq_true rfl) dL_pipe_5 ⟨(Nat.le_of_ble_eq_true rfl), (Nat.le_of_ble_eq_true rfl)⟩ (fun hk H locs hP hS => ?_) (fun hk H locs q9 ce hP hS h1 h2 h3 => ?_)
  · rcases hcd with ⟨_, rfl, rfl⟩ | ⟨z, _, _⟩ | ⟨z, _, _⟩
    · refine lv_i2l (v := r.2.1.toInt64) F.1 F.2.1 dL_pipe_8 rfl ?_
      refine l_last F hK hq hP hS dL_pipe_9 (fun H locs hP hS => ?_)
      refine lv_goto (tgt := 21) F.1 F.2.1 dL_pipe_10 rfl ?_
      refine lv_iconst (v := (0 : Int32)) F.1 F.2.1 dL_pipe_21 (by decide) ?_
      exact l_iret F hr hlk hP hS (Nat.le_of_ble_eq_true rfl) (Nat.le_of_ble_eq_true rfl) dL_pipe_22
    · exact absurd (hk.symm.trans z) (by decide)
    · exact absurd (hk.symm.trans z) (by decide)
  · rcases hcd with ⟨z, _, _⟩ | ⟨z, rfl, rfl⟩ | ⟨z, rfl, rfl⟩
    · exact absurd z hk
    · rw [z] at h3
      refine vx_catch (name := exN 3) F.2.2.2.1 [] ⟨0, 10, 13, 28⟩ [⟨0, 10, 17, 15⟩] (by rw [hT]; rfl) (fun _ h => nomatch h) (by decide) (by decide) (F.2.2.2.2 _ (List.mem_of_getElem? (i := 1) rfl)) (va_Nw.use rfl (hL.1.2.2.2.2.2.2.1 3)) h1 h2 h3 ?_
      refine lv_astore F.1 F.2.1 dL_pipe_13 hl (Nat.le_of_ble_eq_true rfl) rfl (fun ls hl => ?_)
      refine lv_iconst (v := (1 : Int32)) F.1 F.2.1 dL_pipe_15 (by decide) ?_
      exact l_iret F hr hlk hP hS (Nat.le_of_ble_eq_true rfl) (Nat.le_of_ble_eq_true rfl) dL_pipe_16
    · rw [z] at h3
      refine vx_catch (name := exN 2) F.2.2.2.1 [⟨0, 10, 13, 28⟩] ⟨0, 10, 17, 15⟩ [] (by rw [hT]; rfl) (fun z9 hz9 => by simp only [List.mem_cons, List.not_mem_nil, or_false] at hz9; subst hz9; exact Or.inr ⟨by decide, _, F.2.2.2.2 _ (List.mem_of_getElem? (i := 1) rfl), hL.2 2 3 (by decide) (by decide) (by decide) (by decide) (by decide)⟩) (by decide) (by decide) (F.2.2.2.2 _ (List.mem_of_getElem? (i := 2) rfl)) (va_Nw.use rfl (hL.1.2.2.2.2.2.2.1 2)) h1 h2 h3 ?_
      refine lv_astore F.1 F.2.1 dL_pipe_17 hl (Nat.le_of_ble_eq_true rfl) rfl (fun ls hl => ?_)
      refine lv_iconst (v := (2 : Int32)) F.1 F.2.1 dL_pipe_19 (by decide) ?_
      exact l_iret F hr hlk hP hS (Nat.le_of_ble_eq_true rfl) (Nat.le_of_ble_eq_true rfl) dL_pipe_20

def rmL_fence : Room := { frames := 8, cells := 1, slots := 6, locals := 191 }
theorem hd_L_fence : yL_fence.cls ≠ "java/lang/invoke/MethodHandle" ∧ yL_fence.cls ≠ "java/lang/invoke/VarHandle" ∧ (parseMethodDescriptor yL_fence.desc).map (fun d => d.parameters.length) = some 4 := by decide +kernel
set_option maxHeartbeats 8000000 in
set_option maxRecDepth 100000 in
theorem c_L_fence {l : Launch} (hlt : l.stackTraces = false) {D : va_G} {x q : Nat} {μ : Mem} {w w2 : Int64} (hq : ¬ rng x q) (a1 : Int32) (a2 : Int32) {r : Nat × Int32 × Mem} (hf : f_X4_fence μ a1 a2 = some r) {cd : Int32} (hcd : (r.1 = 0 ∧ cd = 0 ∧ w2 = r.2.1.toInt64) ∨ (r.1 = 3 ∧ cd = 1 ∧ w2 = w) ∨ (r.1 = 1 ∧ cd = 2 ∧ w2 = w)) : LX l yL_fence wsL_fence rmL_fence 1 6 [.ref (x + 0), .int a1, .int a2, .ref q] D x μ q w cd r.2.2 w2 := by
  refine LX.of (cc := cL_fence) (maxL := 5) (hh := [(0, 10, 13, 28), (0, 10, 17, 13)]) (by decide +kernel) rfl (Nat.le_of_ble_eq_true rfl) ?_
  intro p e s m args below meth c F hr hlk hT hK hL ls hl hP
  have hl : lv_has ls 5 [(0, .ref (x + 0)), (1, .int a1), (2, .int a2), (3, .ref q)] := hl
  refine lv_aload_n F.1 F.2.1 dL_fence_0 rfl (lv_at hl 3 rfl) ?_
  refine lv_iconst (v := (0 : Int32)) F.1 F.2.1 dL_fence_1 (by decide) ?_
  refine lv_aload_n F.1 F.2.1 dL_fence_2 rfl (lv_at hl 0 rfl) ?_
  refine lv_iload_n F.1 F.2.1 dL_fence_3 rfl (lv_at hl 1 rfl) ?_
  refine lv_iload_n F.1 F.2.1 dL_fence_4 rfl (lv_at hl 2 rfl) ?_
  refine l_callV F hK hL hq hP (c_X4_fence hlt a1 a2 hf) (cwV 2 F.2.2.2.2 gL_fence_X4_fence rfl rfl rfl ⟨rfl, hd_X4_fence⟩ ⟨(Nat.le_of_ble_eq_true rfl), (Nat.le_of_ble_eq_true rfl)⟩) rfl (rest := [.int 0, .ref q]) rfl hl.1 (Nat.le_of_ble_eq_true rfl) dL_fence_5 ⟨(Nat.le_of_ble_eq_true rfl), (Nat.le_of_ble_eq_true rfl)⟩ (fun hk H locs hP hS => ?_) (fun hk H locs q9 ce hP hS h1 h2 h3 => ?_)
  · rcases hcd with ⟨_, rfl, rfl⟩ | ⟨z, _, _⟩ | ⟨z, _, _⟩
    · refine lv_i2l (v := r.2.1.toInt64) F.1 F.2.1 dL_fence_8 rfl ?_
      refine l_last F hK hq hP hS dL_fence_9 (fun H locs hP hS => ?_)
      refine lv_goto (tgt := 21) F.1 F.2.1 dL_fence_10 rfl ?_
      refine lv_iconst (v := (0 : Int32)) F.1 F.2.1 dL_fence_21 (by decide) ?_
      exact l_iret F hr hlk hP hS (Nat.le_of_ble_eq_true rfl) (Nat.le_of_ble_eq_true rfl) dL_fence_22
    · exact absurd (hk.symm.trans z) (by decide)
    · exact absurd (hk.symm.trans z) (by decide)
  · rcases hcd with ⟨z, _, _⟩ | ⟨z, rfl, rfl⟩ | ⟨z, rfl, rfl⟩
    · exact absurd z hk
    · rw [z] at h3
      refine vx_catch (name := exN 3) F.2.2.2.1 [] ⟨0, 10, 13, 28⟩ [⟨0, 10, 17, 13⟩] (by rw [hT]; rfl) (fun _ h => nomatch h) (by decide) (by decide) (F.2.2.2.2 _ (List.mem_of_getElem? (i := 1) rfl)) (va_Nw.use rfl (hL.1.2.2.2.2.2.2.1 3)) h1 h2 h3 ?_
      refine lv_astore F.1 F.2.1 dL_fence_13 hl (Nat.le_of_ble_eq_true rfl) rfl (fun ls hl => ?_)
      refine lv_iconst (v := (1 : Int32)) F.1 F.2.1 dL_fence_15 (by decide) ?_
      exact l_iret F hr hlk hP hS (Nat.le_of_ble_eq_true rfl) (Nat.le_of_ble_eq_true rfl) dL_fence_16
    · rw [z] at h3
      refine vx_catch (name := exN 1) F.2.2.2.1 [⟨0, 10, 13, 28⟩] ⟨0, 10, 17, 13⟩ [] (by rw [hT]; rfl) (fun z9 hz9 => by simp only [List.mem_cons, List.not_mem_nil, or_false] at hz9; subst hz9; exact Or.inr ⟨by decide, _, F.2.2.2.2 _ (List.mem_of_getElem? (i := 1) rfl), hL.2 1 3 (by decide) (by decide) (by decide) (by decide) (by decide)⟩) (by decide) (by decide) (F.2.2.2.2 _ (List.mem_of_getElem? (i := 2) rfl)) (va_Nw.use rfl (hL.1.2.2.2.2.2.2.1 1)) h1 h2 h3 ?_
      refine lv_astore F.1 F.2.1 dL_fence_17 hl (Nat.le_of_ble_eq_true rfl) rfl (fun ls hl => ?_)
      refine lv_iconst (v := (2 : Int32)) F.1 F.2.1 dL_fence_19 (by decide) ?_
      exact l_iret F hr hlk hP hS (Nat.le_of_ble_eq_true rfl) (Nat.le_of_ble_eq_true rfl) dL_fence_20

def rmL_shovel : Room := { frames := 8, cells := 1, slots := 6, locals := 190 }
theorem hd_L_shovel : yL_shovel.cls ≠ "java/lang/invoke/MethodHandle" ∧ yL_shovel.cls ≠ "java/lang/invoke/VarHandle" ∧ (parseMethodDescriptor yL_shovel.desc).map (fun d => d.parameters.length) = some 3 := by decide +kernel
set_option maxHeartbeats 8000000 in
set_option maxRecDepth 100000 in
theorem c_L_shovel {l : Launch} (hlt : l.stackTraces = false) {D : va_G} {x q : Nat} {μ : Mem} {w w2 : Int64} (hq : ¬ rng x q) (a1 : Int32) {r : Nat × Int32 × Mem} (hf : f_X4_shovel μ a1 = some r) {cd : Int32} (hcd : (r.1 = 0 ∧ cd = 0 ∧ w2 = r.2.1.toInt64) ∨ (r.1 = 3 ∧ cd = 1 ∧ w2 = w)) : LX l yL_shovel wsL_shovel rmL_shovel 1 6 [.ref (x + 0), .int a1, .ref q] D x μ q w cd r.2.2 w2 := by
  refine LX.of (cc := cL_shovel) (maxL := 4) (hh := [(0, 9, 12, 28)]) (by decide +kernel) rfl (Nat.le_of_ble_eq_true rfl) ?_
  intro p e s m args below meth c F hr hlk hT hK hL ls hl hP
  have hl : lv_has ls 4 [(0, .ref (x + 0)), (1, .int a1), (2, .ref q)] := hl
  refine lv_aload_n F.1 F.2.1 dL_shovel_0 rfl (lv_at hl 2 rfl) ?_
  refine lv_iconst (v := (0 : Int32)) F.1 F.2.1 dL_shovel_1 (by decide) ?_
  refine lv_aload_n F.1 F.2.1 dL_shovel_2 rfl (lv_at hl 0 rfl) ?_
  refine lv_iload_n F.1 F.2.1 dL_shovel_3 rfl (lv_at hl 1 rfl) ?_
  refine l_callV F hK hL hq hP (c_X4_shovel hlt a1 hf) (cwV 1 F.2.2.2.2 gL_shovel_X4_shovel rfl rfl rfl ⟨rfl, hd_X4_shovel⟩ ⟨(Nat.le_of_ble_eq_true rfl), (Nat.le_of_ble_eq_true rfl)⟩) rfl (rest := [.int 0, .ref q]) rfl hl.1 (Nat.le_of_ble_eq_true rfl) dL_shovel_4 ⟨(Nat.le_of_ble_eq_true rfl), (Nat.le_of_ble_eq_true rfl)⟩ (fun hk H locs hP hS => ?_) (fun hk H locs q9 ce hP hS h1 h2 h3 => ?_)
  · rcases hcd with ⟨_, rfl, rfl⟩ | ⟨z, _, _⟩
    · refine lv_i2l (v := r.2.1.toInt64) F.1 F.2.1 dL_shovel_7 rfl ?_
      refine l_last F hK hq hP hS dL_shovel_8 (fun H locs hP hS => ?_)
      refine lv_goto (tgt := 15) F.1 F.2.1 dL_shovel_9 rfl ?_
      refine lv_iconst (v := (0 : Int32)) F.1 F.2.1 dL_shovel_15 (by decide) ?_
      exact l_iret F hr hlk hP hS (Nat.le_of_ble_eq_true rfl) (Nat.le_of_ble_eq_true rfl) dL_shovel_16
    · exact absurd (hk.symm.trans z) (by decide)
  · rcases hcd with ⟨z, _, _⟩ | ⟨z, rfl, rfl⟩
    · exact absurd z hk
    · rw [z] at h3
      refine vx_catch (name := exN 3) F.2.2.2.1 [] ⟨0, 9, 12, 28⟩ [] (by rw [hT]; rfl) (fun _ h => nomatch h) (by decide) (by decide) (F.2.2.2.2 _ (List.mem_of_getElem? (i := 1) rfl)) (va_Nw.use rfl (hL.1.2.2.2.2.2.2.1 3)) h1 h2 h3 ?_
      refine lv_astore_n F.1 F.2.1 dL_shovel_12 rfl hl (Nat.le_of_ble_eq_true rfl) rfl (fun ls hl => ?_)
      refine lv_iconst (v := (1 : Int32)) F.1 F.2.1 dL_shovel_13 (by decide) ?_
      exact l_iret F hr hlk hP hS (Nat.le_of_ble_eq_true rfl) (Nat.le_of_ble_eq_true rfl) dL_shovel_14

def rmL_days : Room := { frames := 8, cells := 1, slots := 6, locals := 192 }
theorem hd_L_days : yL_days.cls ≠ "java/lang/invoke/MethodHandle" ∧ yL_days.cls ≠ "java/lang/invoke/VarHandle" ∧ (parseMethodDescriptor yL_days.desc).map (fun d => d.parameters.length) = some 5 := by decide +kernel
set_option maxHeartbeats 8000000 in
set_option maxRecDepth 100000 in
theorem c_L_days {l : Launch} (hlt : l.stackTraces = false) {D : va_G} {x q : Nat} {μ : Mem} {w w2 : Int64} (hq : ¬ rng x q) (a1 : Int32) (a2 : Int32) (a3 : Int32) {r : Nat × Int32 × Mem} (hf : f_X4_days μ a1 a2 a3 = some r) {cd : Int32} (hcd : (r.1 = 0 ∧ cd = 0 ∧ w2 = r.2.1.toInt64) ∨ (r.1 = 1 ∧ cd = 1 ∧ w2 = w) ∨ (r.1 = 2 ∧ cd = 2 ∧ w2 = w)) : LX l yL_days wsL_days rmL_days 1 6 [.ref (x + 0), .int a1, .int a2, .int a3, .ref q] D x μ q w cd r.2.2 w2 := by
  refine LX.of (cc := cL_days) (maxL := 6) (hh := [(0, 12, 15, 13), (0, 12, 19, 15)]) (by decide +kernel) rfl (Nat.le_of_ble_eq_true rfl) ?_
  intro p e s m args below meth c F hr hlk hT hK hL ls hl hP
  have hl : lv_has ls 6 [(0, .ref (x + 0)), (1, .int a1), (2, .int a2), (3, .int a3), (4, .ref q)] := hl
  refine lv_aload F.1 F.2.1 dL_days_0 (lv_at hl 4 rfl) ?_
  refine lv_iconst (v := (0 : Int32)) F.1 F.2.1 dL_days_2 (by decide) ?_
  refine lv_aload_n F.1 F.2.1 dL_days_3 rfl (lv_at hl 0 rfl) ?_
  refine lv_iload_n F.1 F.2.1 dL_days_4 rfl (lv_at hl 1 rfl) ?_
  refine lv_iload_n F.1 F.2.1 dL_days_5 rfl (lv_at hl 2 rfl) ?_
  refine lv_iload_n F.1 F.2.1 dL_days_6 rfl (lv_at hl 3 rfl) ?_
  refine l_callV F hK hL hq hP (c_X4_days hlt a1 a2 a3 hf) (cwV 3 F.2.2.2.2 gL_days_X4_days rfl rfl rfl ⟨rfl, hd_X4_days⟩ ⟨(Nat.le_of_ble_eq_true rfl), (Nat.le_of_ble_eq_true rfl)⟩) rfl (rest := [.int 0, .ref q]) rfl hl.1 (Nat.le_of_ble_eq_true rfl) dL_days_7 ⟨(Nat.le_of_ble_eq_true rfl), (Nat.le_of_ble_eq_true rfl)⟩ (fun hk H locs hP hS => ?_) (fun hk H locs q9 ce hP hS h1 h2 h3 => ?_)
  · rcases hcd with ⟨_, rfl, rfl⟩ | ⟨z, _, _⟩ | ⟨z, _, _⟩
    · refine lv_i2l (v := r.2.1.toInt64) F.1 F.2.1 dL_days_10 rfl ?_
      refine l_last F hK hq hP hS dL_days_11 (fun H locs hP hS => ?_)
      refine lv_goto (tgt := 23) F.1 F.2.1 dL_days_12 rfl ?_
      refine lv_iconst (v := (0 : Int32)) F.1 F.2.1 dL_days_23 (by decide) ?_
      exact l_iret F hr hlk hP hS (Nat.le_of_ble_eq_true rfl) (Nat.le_of_ble_eq_true rfl) dL_days_24
    · exact absurd (hk.symm.trans z) (by decide)
    · exact absurd (hk.symm.trans z) (by decide)
  · rcases hcd with ⟨z, _, _⟩ | ⟨z, rfl, rfl⟩ | ⟨z, rfl, rfl⟩
    · exact absurd z hk
    · rw [z] at h3
      refine vx_catch (name := exN 1) F.2.2.2.1 [] ⟨0, 12, 15, 13⟩ [⟨0, 12, 19, 15⟩] (by rw [hT]; rfl) (fun _ h => nomatch h) (by decide) (by decide) (F.2.2.2.2 _ (List.mem_of_getElem? (i := 1) rfl)) (va_Nw.use rfl (hL.1.2.2.2.2.2.2.1 1)) h1 h2 h3 ?_
      refine lv_astore F.1 F.2.1 dL_days_15 hl (Nat.le_of_ble_eq_true rfl) rfl (fun ls hl => ?_)
      refine lv_iconst (v := (1 : Int32)) F.1 F.2.1 dL_days_17 (by decide) ?_
      exact l_iret F hr hlk hP hS (Nat.le_of_ble_eq_true rfl) (Nat.le_of_ble_eq_true rfl) dL_days_18
    · rw [z] at h3
      refine vx_catch (name := exN 2) F.2.2.2.1 [⟨0, 12, 15, 13⟩] ⟨0, 12, 19, 15⟩ [] (by rw [hT]; rfl) (fun z9 hz9 => by simp only [List.mem_cons, List.not_mem_nil, or_false] at hz9; subst hz9; exact Or.inr ⟨by decide, _, F.2.2.2.2 _ (List.mem_of_getElem? (i := 1) rfl), hL.2 2 1 (by decide) (by decide) (by decide) (by decide) (by decide)⟩) (by decide) (by decide) (F.2.2.2.2 _ (List.mem_of_getElem? (i := 2) rfl)) (va_Nw.use rfl (hL.1.2.2.2.2.2.2.1 2)) h1 h2 h3 ?_
      refine lv_astore F.1 F.2.1 dL_days_19 hl (Nat.le_of_ble_eq_true rfl) rfl (fun ls hl => ?_)
      refine lv_iconst (v := (2 : Int32)) F.1 F.2.1 dL_days_21 (by decide) ?_
      exact l_iret F hr hlk hP hS (Nat.le_of_ble_eq_true rfl) (Nat.le_of_ble_eq_true rfl) dL_days_22

def rmL_set : Room := { frames := 8, cells := 1, slots := 6, locals := 191 }
theorem hd_L_set : yL_set.cls ≠ "java/lang/invoke/MethodHandle" ∧ yL_set.cls ≠ "java/lang/invoke/VarHandle" ∧ (parseMethodDescriptor yL_set.desc).map (fun d => d.parameters.length) = some 4 := by decide +kernel
set_option maxHeartbeats 8000000 in
set_option maxRecDepth 100000 in
theorem c_L_set {l : Launch} (hlt : l.stackTraces = false) {D : va_G} {x q : Nat} {μ : Mem} {w w2 : Int64} (hq : ¬ rng x q) (a1 : Int32) (a2 : Int32) {r : Nat × Int32 × Mem} (hf : f_X4_set μ a1 a2 = some r) {cd : Int32} (hcd : (r.1 = 0 ∧ cd = 0 ∧ w2 = r.2.1.toInt64) ∨ (r.1 = 1 ∧ cd = 1 ∧ w2 = w)) : LX l yL_set wsL_set rmL_set 1 6 [.ref (x + 0), .int a1, .int a2, .ref q] D x μ q w cd r.2.2 w2 := by
  refine LX.of (cc := cL_set) (maxL := 5) (hh := [(0, 10, 13, 13)]) (by decide +kernel) rfl (Nat.le_of_ble_eq_true rfl) ?_
  intro p e s m args below meth c F hr hlk hT hK hL ls hl hP
  have hl : lv_has ls 5 [(0, .ref (x + 0)), (1, .int a1), (2, .int a2), (3, .ref q)] := hl
  refine lv_aload_n F.1 F.2.1 dL_set_0 rfl (lv_at hl 3 rfl) ?_
  refine lv_iconst (v := (0 : Int32)) F.1 F.2.1 dL_set_1 (by decide) ?_
  refine lv_aload_n F.1 F.2.1 dL_set_2 rfl (lv_at hl 0 rfl) ?_
  refine lv_iload_n F.1 F.2.1 dL_set_3 rfl (lv_at hl 1 rfl) ?_
  refine lv_iload_n F.1 F.2.1 dL_set_4 rfl (lv_at hl 2 rfl) ?_
  refine l_callV F hK hL hq hP (c_X4_set hlt a1 a2 hf) (cwV 2 F.2.2.2.2 gL_set_X4_set rfl rfl rfl ⟨rfl, hd_X4_set⟩ ⟨(Nat.le_of_ble_eq_true rfl), (Nat.le_of_ble_eq_true rfl)⟩) rfl (rest := [.int 0, .ref q]) rfl hl.1 (Nat.le_of_ble_eq_true rfl) dL_set_5 ⟨(Nat.le_of_ble_eq_true rfl), (Nat.le_of_ble_eq_true rfl)⟩ (fun hk H locs hP hS => ?_) (fun hk H locs q9 ce hP hS h1 h2 h3 => ?_)
  · rcases hcd with ⟨_, rfl, rfl⟩ | ⟨z, _, _⟩
    · refine lv_i2l (v := r.2.1.toInt64) F.1 F.2.1 dL_set_8 rfl ?_
      refine l_last F hK hq hP hS dL_set_9 (fun H locs hP hS => ?_)
      refine lv_goto (tgt := 17) F.1 F.2.1 dL_set_10 rfl ?_
      refine lv_iconst (v := (0 : Int32)) F.1 F.2.1 dL_set_17 (by decide) ?_
      exact l_iret F hr hlk hP hS (Nat.le_of_ble_eq_true rfl) (Nat.le_of_ble_eq_true rfl) dL_set_18
    · exact absurd (hk.symm.trans z) (by decide)
  · rcases hcd with ⟨z, _, _⟩ | ⟨z, rfl, rfl⟩
    · exact absurd z hk
    · rw [z] at h3
      refine vx_catch (name := exN 1) F.2.2.2.1 [] ⟨0, 10, 13, 13⟩ [] (by rw [hT]; rfl) (fun _ h => nomatch h) (by decide) (by decide) (F.2.2.2.2 _ (List.mem_of_getElem? (i := 1) rfl)) (va_Nw.use rfl (hL.1.2.2.2.2.2.2.1 1)) h1 h2 h3 ?_
      refine lv_astore F.1 F.2.1 dL_set_13 hl (Nat.le_of_ble_eq_true rfl) rfl (fun ls hl => ?_)
      refine lv_iconst (v := (1 : Int32)) F.1 F.2.1 dL_set_15 (by decide) ?_
      exact l_iret F hr hlk hP hS (Nat.le_of_ble_eq_true rfl) (Nat.le_of_ble_eq_true rfl) dL_set_16

def rmL_undo : Room := { frames := 7, cells := 1, slots := 6, locals := 164 }
theorem hd_L_undo : yL_undo.cls ≠ "java/lang/invoke/MethodHandle" ∧ yL_undo.cls ≠ "java/lang/invoke/VarHandle" ∧ (parseMethodDescriptor yL_undo.desc).map (fun d => d.parameters.length) = some 2 := by decide +kernel
set_option maxHeartbeats 8000000 in
set_option maxRecDepth 100000 in
theorem c_L_undo {l : Launch} (hlt : l.stackTraces = false) {D : va_G} {x q : Nat} {μ : Mem} {w w2 : Int64} (hq : ¬ rng x q) {r : Nat × Int32 × Mem} (hf : f_X4_undo μ  = some r) {cd : Int32} (hcd : (r.1 = 0 ∧ cd = 0 ∧ w2 = r.2.1.toInt64) ∨ (r.1 = 2 ∧ cd = 1 ∧ w2 = w)) : LX l yL_undo wsL_undo rmL_undo 1 6 [.ref (x + 0), .ref q] D x μ q w cd r.2.2 w2 := by
  refine LX.of (cc := cL_undo) (maxL := 3) (hh := [(0, 8, 11, 15)]) (by decide +kernel) rfl (Nat.le_of_ble_eq_true rfl) ?_
  intro p e s m args below meth c F hr hlk hT hK hL ls hl hP
  have hl : lv_has ls 3 [(0, .ref (x + 0)), (1, .ref q)] := hl
  refine lv_aload_n F.1 F.2.1 dL_undo_0 rfl (lv_at hl 1 rfl) ?_
  refine lv_iconst (v := (0 : Int32)) F.1 F.2.1 dL_undo_1 (by decide) ?_
  refine lv_aload_n F.1 F.2.1 dL_undo_2 rfl (lv_at hl 0 rfl) ?_
  refine l_callV F hK hL hq hP (c_X4_undo hlt  hf) (cwV 0 F.2.2.2.2 gL_undo_X4_undo rfl rfl rfl ⟨rfl, hd_X4_undo⟩ ⟨(Nat.le_of_ble_eq_true rfl), (Nat.le_of_ble_eq_true rfl)⟩) rfl (rest := [.int 0, .ref q]) rfl hl.1 (Nat.le_of_ble_eq_true rfl) dL_undo_3 ⟨(Nat.le_of_ble_eq_true rfl), (Nat.le_of_ble_eq_true rfl)⟩ (fun hk H locs hP hS => ?_) (fun hk H locs q9 ce hP hS h1 h2 h3 => ?_)
  · rcases hcd with ⟨_, rfl, rfl⟩ | ⟨z, _, _⟩
    · refine lv_i2l (v := r.2.1.toInt64) F.1 F.2.1 dL_undo_6 rfl ?_
      refine l_last F hK hq hP hS dL_undo_7 (fun H locs hP hS => ?_)
      refine lv_goto (tgt := 14) F.1 F.2.1 dL_undo_8 rfl ?_
      refine lv_iconst (v := (0 : Int32)) F.1 F.2.1 dL_undo_14 (by decide) ?_
      exact l_iret F hr hlk hP hS (Nat.le_of_ble_eq_true rfl) (Nat.le_of_ble_eq_true rfl) dL_undo_15
    · exact absurd (hk.symm.trans z) (by decide)
  · rcases hcd with ⟨z, _, _⟩ | ⟨z, rfl, rfl⟩
    · exact absurd z hk
    · rw [z] at h3
      refine vx_catch (name := exN 2) F.2.2.2.1 [] ⟨0, 8, 11, 15⟩ [] (by rw [hT]; rfl) (fun _ h => nomatch h) (by decide) (by decide) (F.2.2.2.2 _ (List.mem_of_getElem? (i := 1) rfl)) (va_Nw.use rfl (hL.1.2.2.2.2.2.2.1 2)) h1 h2 h3 ?_
      refine lv_astore_n F.1 F.2.1 dL_undo_11 rfl hl (Nat.le_of_ble_eq_true rfl) rfl (fun ls hl => ?_)
      refine lv_iconst (v := (1 : Int32)) F.1 F.2.1 dL_undo_12 (by decide) ?_
      exact l_iret F hr hlk hP hS (Nat.le_of_ble_eq_true rfl) (Nat.le_of_ble_eq_true rfl) dL_undo_13

def rmL_goneIn : Room := { frames := 8, cells := 2, slots := 12, locals := 147 }
theorem hd_L_goneIn : yL_goneIn.cls ≠ "java/lang/invoke/MethodHandle" ∧ yL_goneIn.cls ≠ "java/lang/invoke/VarHandle" ∧ (parseMethodDescriptor yL_goneIn.desc).map (fun d => d.parameters.length) = some 4 := by decide +kernel
set_option maxHeartbeats 8000000 in
set_option maxRecDepth 100000 in
theorem c_L_goneIn {l : Launch} (hlt : l.stackTraces = false) {D : va_G} {x q : Nat} {μ : Mem} {w w2 : Int64} (hq : ¬ rng x q) (a1 : Int32) (a2 : Int32) {r : Nat × Int32 × Mem} (hf : f_X4_goneIn μ a1 a2 = some r) {cd : Int32} (hcd : (r.1 = 0 ∧ cd = 0 ∧ w2 = r.2.1.toInt64) ∨ (r.1 = 3 ∧ cd = 1 ∧ w2 = w) ∨ (r.1 = 1 ∧ cd = 2 ∧ w2 = w)) : LX l yL_goneIn wsL_goneIn rmL_goneIn 2 12 [.ref (x + 0), .int a1, .int a2, .ref q] D x μ q w cd r.2.2 w2 := by
  refine LX.of (cc := cL_goneIn) (maxL := 5) (hh := [(0, 10, 13, 28), (0, 10, 17, 13)]) (by decide +kernel) rfl (Nat.le_of_ble_eq_true rfl) ?_
  intro p e s m args below meth c F hr hlk hT hK hL ls hl hP
  have hl : lv_has ls 5 [(0, .ref (x + 0)), (1, .int a1), (2, .int a2), (3, .ref q)] := hl
  refine lv_aload_n F.1 F.2.1 dL_goneIn_0 rfl (lv_at hl 3 rfl) ?_
  refine lv_iconst (v := (0 : Int32)) F.1 F.2.1 dL_goneIn_1 (by decide) ?_
  refine lv_aload_n F.1 F.2.1 dL_goneIn_2 rfl (lv_at hl 0 rfl) ?_
  refine lv_iload_n F.1 F.2.1 dL_goneIn_3 rfl (lv_at hl 1 rfl) ?_
  refine lv_iload_n F.1 F.2.1 dL_goneIn_4 rfl (lv_at hl 2 rfl) ?_
  refine l_callV F hK hL hq hP (c_X4_goneIn hlt a1 a2 hf) (cwV 2 F.2.2.2.2 gL_goneIn_X4_goneIn rfl rfl rfl ⟨rfl, hd_X4_goneIn⟩ ⟨(Nat.le_of_ble_eq_true rfl), (Nat.le_of_ble_eq_true rfl)⟩) rfl (rest := [.int 0, .ref q]) rfl hl.1 (Nat.le_of_ble_eq_true rfl) dL_goneIn_5 ⟨(Nat.le_of_ble_eq_true rfl), (Nat.le_of_ble_eq_true rfl)⟩ (fun hk H locs hP hS => ?_) (fun hk H locs q9 ce hP hS h1 h2 h3 => ?_)
  · rcases hcd with ⟨_, rfl, rfl⟩ | ⟨z, _, _⟩ | ⟨z, _, _⟩
    · refine lv_i2l (v := r.2.1.toInt64) F.1 F.2.1 dL_goneIn_8 rfl ?_
      refine l_last F hK hq hP hS dL_goneIn_9 (fun H locs hP hS => ?_)
      refine lv_goto (tgt := 21) F.1 F.2.1 dL_goneIn_10 rfl ?_
      refine lv_iconst (v := (0 : Int32)) F.1 F.2.1 dL_goneIn_21 (by decide) ?_
      exact l_iret F hr hlk hP hS (Nat.le_of_ble_eq_true rfl) (Nat.le_of_ble_eq_true rfl) dL_goneIn_22
    · exact absurd (hk.symm.trans z) (by decide)
    · exact absurd (hk.symm.trans z) (by decide)
  · rcases hcd with ⟨z, _, _⟩ | ⟨z, rfl, rfl⟩ | ⟨z, rfl, rfl⟩
    · exact absurd z hk
    · rw [z] at h3
      refine vx_catch (name := exN 3) F.2.2.2.1 [] ⟨0, 10, 13, 28⟩ [⟨0, 10, 17, 13⟩] (by rw [hT]; rfl) (fun _ h => nomatch h) (by decide) (by decide) (F.2.2.2.2 _ (List.mem_of_getElem? (i := 1) rfl)) (va_Nw.use rfl (hL.1.2.2.2.2.2.2.1 3)) h1 h2 h3 ?_
      refine lv_astore F.1 F.2.1 dL_goneIn_13 hl (Nat.le_of_ble_eq_true rfl) rfl (fun ls hl => ?_)
      refine lv_iconst (v := (1 : Int32)) F.1 F.2.1 dL_goneIn_15 (by decide) ?_
      exact l_iret F hr hlk hP hS (Nat.le_of_ble_eq_true rfl) (Nat.le_of_ble_eq_true rfl) dL_goneIn_16
    · rw [z] at h3
      refine vx_catch (name := exN 1) F.2.2.2.1 [⟨0, 10, 13, 28⟩] ⟨0, 10, 17, 13⟩ [] (by rw [hT]; rfl) (fun z9 hz9 => by simp only [List.mem_cons, List.not_mem_nil, or_false] at hz9; subst hz9; exact Or.inr ⟨by decide, _, F.2.2.2.2 _ (List.mem_of_getElem? (i := 1) rfl), hL.2 1 3 (by decide) (by decide) (by decide) (by decide) (by decide)⟩) (by decide) (by decide) (F.2.2.2.2 _ (List.mem_of_getElem? (i := 2) rfl)) (va_Nw.use rfl (hL.1.2.2.2.2.2.2.1 1)) h1 h2 h3 ?_
      refine lv_astore F.1 F.2.1 dL_goneIn_17 hl (Nat.le_of_ble_eq_true rfl) rfl (fun ls hl => ?_)
      refine lv_iconst (v := (2 : Int32)) F.1 F.2.1 dL_goneIn_19 (by decide) ?_
      exact l_iret F hr hlk hP hS (Nat.le_of_ble_eq_true rfl) (Nat.le_of_ble_eq_true rfl) dL_goneIn_20

def rmL_reachedIn : Room := { frames := 8, cells := 3, slots := 18, locals := 148 }
theorem hd_L_reachedIn : yL_reachedIn.cls ≠ "java/lang/invoke/MethodHandle" ∧ yL_reachedIn.cls ≠ "java/lang/invoke/VarHandle" ∧ (parseMethodDescriptor yL_reachedIn.desc).map (fun d => d.parameters.length) = some 5 := by decide +kernel
set_option maxHeartbeats 8000000 in
set_option maxRecDepth 100000 in
theorem c_L_reachedIn {l : Launch} (hlt : l.stackTraces = false) {D : va_G} {x q : Nat} {μ : Mem} {w w2 : Int64} (hq : ¬ rng x q) (a1 : Int32) (a2 : Int32) (a3 : Int32) {r : Nat × Int32 × Mem} (hf : f_X4_reachedIn μ a1 a2 a3 = some r) {cd : Int32} (hcd : (r.1 = 0 ∧ cd = 0 ∧ w2 = r.2.1.toInt64) ∨ (r.1 = 3 ∧ cd = 1 ∧ w2 = w) ∨ (r.1 = 1 ∧ cd = 2 ∧ w2 = w)) : LX l yL_reachedIn wsL_reachedIn rmL_reachedIn 3 18 [.ref (x + 0), .int a1, .int a2, .int a3, .ref q] D x μ q w cd r.2.2 w2 := by
  refine LX.of (cc := cL_reachedIn) (maxL := 6) (hh := [(0, 12, 15, 28), (0, 12, 19, 13)]) (by decide +kernel) rfl (Nat.le_of_ble_eq_true rfl) ?_
  intro p e s m args below meth c F hr hlk hT hK hL ls hl hP
  have hl : lv_has ls 6 [(0, .ref (x + 0)), (1, .int a1), (2, .int a2), (3, .int a3), (4, .ref q)] := hl
  refine lv_aload F.1 F.2.1 dL_reachedIn_0 (lv_at hl 4 rfl) ?_
  refine lv_iconst (v := (0 : Int32)) F.1 F.2.1 dL_reachedIn_2 (by decide) ?_
  refine lv_aload_n F.1 F.2.1 dL_reachedIn_3 rfl (lv_at hl 0 rfl) ?_
  refine lv_iload_n F.1 F.2.1 dL_reachedIn_4 rfl (lv_at hl 1 rfl) ?_
  refine lv_iload_n F.1 F.2.1 dL_reachedIn_5 rfl (lv_at hl 2 rfl) ?_
  refine lv_iload_n F.1 F.2.1 dL_reachedIn_6 rfl (lv_at hl 3 rfl) ?_
  refine l_callV F hK hL hq hP (c_X4_reachedIn hlt a1 a2 a3 hf) (cwV 3 F.2.2.2.2 gL_reachedIn_X4_reachedIn rfl rfl rfl ⟨rfl, hd_X4_reachedIn⟩ ⟨(Nat.le_of_ble_eq_true rfl), (Nat.le_of_ble_eq_true rfl)⟩) rfl (rest := [.int 0, .ref q]) rfl hl.1 (Nat.le_of_ble_eq_true rfl) dL_reachedIn_7 ⟨(Nat.le_of_ble_eq_true rfl), (Nat.le_of_ble_eq_true rfl)⟩ (fun hk H locs hP hS => ?_) (fun hk H locs q9 ce hP hS h1 h2 h3 => ?_)
  · rcases hcd with ⟨_, rfl, rfl⟩ | ⟨z, _, _⟩ | ⟨z, _, _⟩
    · refine lv_i2l (v := r.2.1.toInt64) F.1 F.2.1 dL_reachedIn_10 rfl ?_
      refine l_last F hK hq hP hS dL_reachedIn_11 (fun H locs hP hS => ?_)
      refine lv_goto (tgt := 23) F.1 F.2.1 dL_reachedIn_12 rfl ?_
      refine lv_iconst (v := (0 : Int32)) F.1 F.2.1 dL_reachedIn_23 (by decide) ?_
      exact l_iret F hr hlk hP hS (Nat.le_of_ble_eq_true rfl) (Nat.le_of_ble_eq_true rfl) dL_reachedIn_24
    · exact absurd (hk.symm.trans z) (by decide)
    · exact absurd (hk.symm.trans z) (by decide)
  · rcases hcd with ⟨z, _, _⟩ | ⟨z, rfl, rfl⟩ | ⟨z, rfl, rfl⟩
    · exact absurd z hk
    · rw [z] at h3
      refine vx_catch (name := exN 3) F.2.2.2.1 [] ⟨0, 12, 15, 28⟩ [⟨0, 12, 19, 13⟩] (by rw [hT]; rfl) (fun _ h => nomatch h) (by decide) (by decide) (F.2.2.2.2 _ (List.mem_of_getElem? (i := 1) rfl)) (va_Nw.use rfl (hL.1.2.2.2.2.2.2.1 3)) h1 h2 h3 ?_
      refine lv_astore F.1 F.2.1 dL_reachedIn_15 hl (Nat.le_of_ble_eq_true rfl) rfl (fun ls hl => ?_)
      refine lv_iconst (v := (1 : Int32)) F.1 F.2.1 dL_reachedIn_17 (by decide) ?_
      exact l_iret F hr hlk hP hS (Nat.le_of_ble_eq_true rfl) (Nat.le_of_ble_eq_true rfl) dL_reachedIn_18
    · rw [z] at h3
      refine vx_catch (name := exN 1) F.2.2.2.1 [⟨0, 12, 15, 28⟩] ⟨0, 12, 19, 13⟩ [] (by rw [hT]; rfl) (fun z9 hz9 => by simp only [List.mem_cons, List.not_mem_nil, or_false] at hz9; subst hz9; exact Or.inr ⟨by decide, _, F.2.2.2.2 _ (List.mem_of_getElem? (i := 1) rfl), hL.2 1 3 (by decide) (by decide) (by decide) (by decide) (by decide)⟩) (by decide) (by decide) (F.2.2.2.2 _ (List.mem_of_getElem? (i := 2) rfl)) (va_Nw.use rfl (hL.1.2.2.2.2.2.2.1 1)) h1 h2 h3 ?_
      refine lv_astore F.1 F.2.1 dL_reachedIn_19 hl (Nat.le_of_ble_eq_true rfl) rfl (fun ls hl => ?_)
      refine lv_iconst (v := (2 : Int32)) F.1 F.2.1 dL_reachedIn_21 (by decide) ?_
      exact l_iret F hr hlk hP hS (Nat.le_of_ble_eq_true rfl) (Nat.le_of_ble_eq_true rfl) dL_reachedIn_22

def rmL_bestFence : Room := { frames := 8, cells := 4, slots := 24, locals := 151 }
theorem hd_L_bestFence : yL_bestFence.cls ≠ "java/lang/invoke/MethodHandle" ∧ yL_bestFence.cls ≠ "java/lang/invoke/VarHandle" ∧ (parseMethodDescriptor yL_bestFence.desc).map (fun d => d.parameters.length) = some 6 := by decide +kernel
set_option maxHeartbeats 8000000 in
set_option maxRecDepth 100000 in
theorem c_L_bestFence {l : Launch} (hlt : l.stackTraces = false) {D : va_G} {x q : Nat} {μ : Mem} {w w2 : Int64} (hq : ¬ rng x q) (a1 : Int32) (a2 : Int32) (a3 : Int32) (a4 : Int32) {r : Nat × Int32 × Mem} (hf : f_X4_bestFence μ a1 a2 a3 a4 = some r) {cd : Int32} (hcd : (r.1 = 0 ∧ cd = 0 ∧ w2 = r.2.1.toInt64) ∨ (r.1 = 3 ∧ cd = 1 ∧ w2 = w) ∨ (r.1 = 1 ∧ cd = 2 ∧ w2 = w)) : LX l yL_bestFence wsL_bestFence rmL_bestFence 4 24 [.ref (x + 0), .int a1, .int a2, .int a3, .int a4, .ref q] D x μ q w cd r.2.2 w2 := by
  refine LX.of (cc := cL_bestFence) (maxL := 7) (hh := [(0, 14, 17, 28), (0, 14, 21, 13)]) (by decide +kernel) rfl (Nat.le_of_ble_eq_true rfl) ?_
  intro p e s m args below meth c F hr hlk hT hK hL ls hl hP
  have hl : lv_has ls 7 [(0, .ref (x + 0)), (1, .int a1), (2, .int a2), (3, .int a3), (4, .int a4), (5, .ref q)] := hl
  refine lv_aload F.1 F.2.1 dL_bestFence_0 (lv_at hl 5 rfl) ?_
  refine lv_iconst (v := (0 : Int32)) F.1 F.2.1 dL_bestFence_2 (by decide) ?_
  refine lv_aload_n F.1 F.2.1 dL_bestFence_3 rfl (lv_at hl 0 rfl) ?_
  refine lv_iload_n F.1 F.2.1 dL_bestFence_4 rfl (lv_at hl 1 rfl) ?_
  refine lv_iload_n F.1 F.2.1 dL_bestFence_5 rfl (lv_at hl 2 rfl) ?_
  refine lv_iload_n F.1 F.2.1 dL_bestFence_6 rfl (lv_at hl 3 rfl) ?_
  refine lv_iload F.1 F.2.1 dL_bestFence_7 (lv_at hl 4 rfl) ?_
  refine l_callV F hK hL hq hP (c_X4_bestFence hlt a1 a2 a3 a4 hf) (cwV 4 F.2.2.2.2 gL_bestFence_X4_bestFence rfl rfl rfl ⟨rfl, hd_X4_bestFence⟩ ⟨(Nat.le_of_ble_eq_true rfl), (Nat.le_of_ble_eq_true rfl)⟩) rfl (rest := [.int 0, .ref q]) rfl hl.1 (Nat.le_of_ble_eq_true rfl) dL_bestFence_9 ⟨(Nat.le_of_ble_eq_true rfl), (Nat.le_of_ble_eq_true rfl)⟩ (fun hk H locs hP hS => ?_) (fun hk H locs q9 ce hP hS h1 h2 h3 => ?_)
  · rcases hcd with ⟨_, rfl, rfl⟩ | ⟨z, _, _⟩ | ⟨z, _, _⟩
    · refine lv_i2l (v := r.2.1.toInt64) F.1 F.2.1 dL_bestFence_12 rfl ?_
      refine l_last F hK hq hP hS dL_bestFence_13 (fun H locs hP hS => ?_)
      refine lv_goto (tgt := 25) F.1 F.2.1 dL_bestFence_14 rfl ?_
      refine lv_iconst (v := (0 : Int32)) F.1 F.2.1 dL_bestFence_25 (by decide) ?_
      exact l_iret F hr hlk hP hS (Nat.le_of_ble_eq_true rfl) (Nat.le_of_ble_eq_true rfl) dL_bestFence_26
    · exact absurd (hk.symm.trans z) (by decide)
    · exact absurd (hk.symm.trans z) (by decide)
  · rcases hcd with ⟨z, _, _⟩ | ⟨z, rfl, rfl⟩ | ⟨z, rfl, rfl⟩
    · exact absurd z hk
    · rw [z] at h3
      refine vx_catch (name := exN 3) F.2.2.2.1 [] ⟨0, 14, 17, 28⟩ [⟨0, 14, 21, 13⟩] (by rw [hT]; rfl) (fun _ h => nomatch h) (by decide) (by decide) (F.2.2.2.2 _ (List.mem_of_getElem? (i := 1) rfl)) (va_Nw.use rfl (hL.1.2.2.2.2.2.2.1 3)) h1 h2 h3 ?_
      refine lv_astore F.1 F.2.1 dL_bestFence_17 hl (Nat.le_of_ble_eq_true rfl) rfl (fun ls hl => ?_)
      refine lv_iconst (v := (1 : Int32)) F.1 F.2.1 dL_bestFence_19 (by decide) ?_
      exact l_iret F hr hlk hP hS (Nat.le_of_ble_eq_true rfl) (Nat.le_of_ble_eq_true rfl) dL_bestFence_20
    · rw [z] at h3
      refine vx_catch (name := exN 1) F.2.2.2.1 [⟨0, 14, 17, 28⟩] ⟨0, 14, 21, 13⟩ [] (by rw [hT]; rfl) (fun z9 hz9 => by simp only [List.mem_cons, List.not_mem_nil, or_false] at hz9; subst hz9; exact Or.inr ⟨by decide, _, F.2.2.2.2 _ (List.mem_of_getElem? (i := 1) rfl), hL.2 1 3 (by decide) (by decide) (by decide) (by decide) (by decide)⟩) (by decide) (by decide) (F.2.2.2.2 _ (List.mem_of_getElem? (i := 2) rfl)) (va_Nw.use rfl (hL.1.2.2.2.2.2.2.1 1)) h1 h2 h3 ?_
      refine lv_astore F.1 F.2.1 dL_bestFence_21 hl (Nat.le_of_ble_eq_true rfl) rfl (fun ls hl => ?_)
      refine lv_iconst (v := (2 : Int32)) F.1 F.2.1 dL_bestFence_23 (by decide) ?_
      exact l_iret F hr hlk hP hS (Nat.le_of_ble_eq_true rfl) (Nat.le_of_ble_eq_true rfl) dL_bestFence_24

def rmL_heaveIn : Room := { frames := 8, cells := 3, slots := 18, locals := 146 }
theorem hd_L_heaveIn : yL_heaveIn.cls ≠ "java/lang/invoke/MethodHandle" ∧ yL_heaveIn.cls ≠ "java/lang/invoke/VarHandle" ∧ (parseMethodDescriptor yL_heaveIn.desc).map (fun d => d.parameters.length) = some 5 := by decide +kernel
set_option maxHeartbeats 8000000 in
set_option maxRecDepth 100000 in
theorem c_L_heaveIn {l : Launch} (hlt : l.stackTraces = false) {D : va_G} {x q : Nat} {μ : Mem} {w w2 : Int64} (hq : ¬ rng x q) (a1 : Int32) (a2 : Int32) (a3 : Int32) {r : Nat × Int32 × Mem} (hf : f_X4_heaveIn μ a1 a2 a3 = some r) {cd : Int32} (hcd : (r.1 = 0 ∧ cd = 0 ∧ w2 = r.2.1.toInt64) ∨ (r.1 = 3 ∧ cd = 1 ∧ w2 = w) ∨ (r.1 = 1 ∧ cd = 2 ∧ w2 = w)) : LX l yL_heaveIn wsL_heaveIn rmL_heaveIn 3 18 [.ref (x + 0), .int a1, .int a2, .int a3, .ref q] D x μ q w cd r.2.2 w2 := by
  refine LX.of (cc := cL_heaveIn) (maxL := 6) (hh := [(0, 12, 15, 28), (0, 12, 19, 13)]) (by decide +kernel) rfl (Nat.le_of_ble_eq_true rfl) ?_
  intro p e s m args below meth c F hr hlk hT hK hL ls hl hP
  have hl : lv_has ls 6 [(0, .ref (x + 0)), (1, .int a1), (2, .int a2), (3, .int a3), (4, .ref q)] := hl
  refine lv_aload F.1 F.2.1 dL_heaveIn_0 (lv_at hl 4 rfl) ?_
  refine lv_iconst (v := (0 : Int32)) F.1 F.2.1 dL_heaveIn_2 (by decide) ?_
  refine lv_aload_n F.1 F.2.1 dL_heaveIn_3 rfl (lv_at hl 0 rfl) ?_
  refine lv_iload_n F.1 F.2.1 dL_heaveIn_4 rfl (lv_at hl 1 rfl) ?_
  refine lv_iload_n F.1 F.2.1 dL_heaveIn_5 rfl (lv_at hl 2 rfl) ?_
  refine lv_iload_n F.1 F.2.1 dL_heaveIn_6 rfl (lv_at hl 3 rfl) ?_
  refine l_callV F hK hL hq hP (c_X4_heaveIn hlt a1 a2 a3 hf) (cwV 3 F.2.2.2.2 gL_heaveIn_X4_heaveIn rfl rfl rfl ⟨rfl, hd_X4_heaveIn⟩ ⟨(Nat.le_of_ble_eq_true rfl), (Nat.le_of_ble_eq_true rfl)⟩) rfl (rest := [.int 0, .ref q]) rfl hl.1 (Nat.le_of_ble_eq_true rfl) dL_heaveIn_7 ⟨(Nat.le_of_ble_eq_true rfl), (Nat.le_of_ble_eq_true rfl)⟩ (fun hk H locs hP hS => ?_) (fun hk H locs q9 ce hP hS h1 h2 h3 => ?_)
  · rcases hcd with ⟨_, rfl, rfl⟩ | ⟨z, _, _⟩ | ⟨z, _, _⟩
    · refine lv_i2l (v := r.2.1.toInt64) F.1 F.2.1 dL_heaveIn_10 rfl ?_
      refine l_last F hK hq hP hS dL_heaveIn_11 (fun H locs hP hS => ?_)
      refine lv_goto (tgt := 23) F.1 F.2.1 dL_heaveIn_12 rfl ?_
      refine lv_iconst (v := (0 : Int32)) F.1 F.2.1 dL_heaveIn_23 (by decide) ?_
      exact l_iret F hr hlk hP hS (Nat.le_of_ble_eq_true rfl) (Nat.le_of_ble_eq_true rfl) dL_heaveIn_24
    · exact absurd (hk.symm.trans z) (by decide)
    · exact absurd (hk.symm.trans z) (by decide)
  · rcases hcd with ⟨z, _, _⟩ | ⟨z, rfl, rfl⟩ | ⟨z, rfl, rfl⟩
    · exact absurd z hk
    · rw [z] at h3
      refine vx_catch (name := exN 3) F.2.2.2.1 [] ⟨0, 12, 15, 28⟩ [⟨0, 12, 19, 13⟩] (by rw [hT]; rfl) (fun _ h => nomatch h) (by decide) (by decide) (F.2.2.2.2 _ (List.mem_of_getElem? (i := 1) rfl)) (va_Nw.use rfl (hL.1.2.2.2.2.2.2.1 3)) h1 h2 h3 ?_
      refine lv_astore F.1 F.2.1 dL_heaveIn_15 hl (Nat.le_of_ble_eq_true rfl) rfl (fun ls hl => ?_)
      refine lv_iconst (v := (1 : Int32)) F.1 F.2.1 dL_heaveIn_17 (by decide) ?_
      exact l_iret F hr hlk hP hS (Nat.le_of_ble_eq_true rfl) (Nat.le_of_ble_eq_true rfl) dL_heaveIn_18
    · rw [z] at h3
      refine vx_catch (name := exN 1) F.2.2.2.1 [⟨0, 12, 15, 28⟩] ⟨0, 12, 19, 13⟩ [] (by rw [hT]; rfl) (fun z9 hz9 => by simp only [List.mem_cons, List.not_mem_nil, or_false] at hz9; subst hz9; exact Or.inr ⟨by decide, _, F.2.2.2.2 _ (List.mem_of_getElem? (i := 1) rfl), hL.2 1 3 (by decide) (by decide) (by decide) (by decide) (by decide)⟩) (by decide) (by decide) (F.2.2.2.2 _ (List.mem_of_getElem? (i := 2) rfl)) (va_Nw.use rfl (hL.1.2.2.2.2.2.2.1 1)) h1 h2 h3 ?_
      refine lv_astore F.1 F.2.1 dL_heaveIn_19 hl (Nat.le_of_ble_eq_true rfl) rfl (fun ls hl => ?_)
      refine lv_iconst (v := (2 : Int32)) F.1 F.2.1 dL_heaveIn_21 (by decide) ?_
      exact l_iret F hr hlk hP hS (Nat.le_of_ble_eq_true rfl) (Nat.le_of_ble_eq_true rfl) dL_heaveIn_22

def rmL_runScript : Room := { frames := 8, cells := 2, slots := 12, locals := 172 }
theorem hd_L_runScript : yL_runScript.cls ≠ "java/lang/invoke/MethodHandle" ∧ yL_runScript.cls ≠ "java/lang/invoke/VarHandle" ∧ (parseMethodDescriptor yL_runScript.desc).map (fun d => d.parameters.length) = some 4 := by decide +kernel
set_option maxHeartbeats 8000000 in
set_option maxRecDepth 100000 in
theorem c_L_runScript {l : Launch} (hlt : l.stackTraces = false) {D : va_G} {x q : Nat} {μ : Mem} {w w2 : Int64} (hq : ¬ rng x q) (a1 : Int32) (a2 : Int64) {r : Nat × Int32 × Mem} (hf : f_X4_runScript μ a1 a2 = some r) {cd : Int32} (hcd : (r.1 = 0 ∧ cd = 0 ∧ w2 = r.2.1.toInt64) ∨ (r.1 = 1 ∧ cd = 1 ∧ w2 = w)) : LX l yL_runScript wsL_runScript rmL_runScript 2 12 [.ref (x + 0), .int a1, .long a2, .ref q] D x μ q w cd r.2.2 w2 := by
  refine LX.of (cc := cL_runScript) (maxL := 6) (hh := [(0, 11, 14, 13)]) (by decide +kernel) rfl (Nat.le_of_ble_eq_true rfl) ?_
  intro p e s m args below meth c F hr hlk hT hK hL ls hl hP
  have hl : lv_has ls 6 [(0, .ref (x + 0)), (1, .int a1), (2, .long a2), (4, .ref q)] := hl
  refine lv_aload F.1 F.2.1 dL_runScript_0 (lv_at hl 3 rfl) ?_
  refine lv_iconst (v := (0 : Int32)) F.1 F.2.1 dL_runScript_2 (by decide) ?_
  refine lv_aload_n F.1 F.2.1 dL_runScript_3 rfl (lv_at hl 0 rfl) ?_
  refine lv_iload_n F.1 F.2.1 dL_runScript_4 rfl (lv_at hl 1 rfl) ?_
  refine lv_lload_n F.1 F.2.1 dL_runScript_5 rfl (lv_at hl 2 rfl) ?_
  refine l_callV F hK hL hq hP (c_X4_runScript hlt a1 a2 hf) (cwV 2 F.2.2.2.2 gL_runScript_X4_runScript rfl rfl rfl ⟨rfl, hd_X4_runScript⟩ ⟨(Nat.le_of_ble_eq_true rfl), (Nat.le_of_ble_eq_true rfl)⟩) rfl (rest := [.int 0, .ref q]) rfl hl.1 (Nat.le_of_ble_eq_true rfl) dL_runScript_6 ⟨(Nat.le_of_ble_eq_true rfl), (Nat.le_of_ble_eq_true rfl)⟩ (fun hk H locs hP hS => ?_) (fun hk H locs q9 ce hP hS h1 h2 h3 => ?_)
  · rcases hcd with ⟨_, rfl, rfl⟩ | ⟨z, _, _⟩
    · refine lv_i2l (v := r.2.1.toInt64) F.1 F.2.1 dL_runScript_9 rfl ?_
      refine l_last F hK hq hP hS dL_runScript_10 (fun H locs hP hS => ?_)
      refine lv_goto (tgt := 18) F.1 F.2.1 dL_runScript_11 rfl ?_
      refine lv_iconst (v := (0 : Int32)) F.1 F.2.1 dL_runScript_18 (by decide) ?_
      exact l_iret F hr hlk hP hS (Nat.le_of_ble_eq_true rfl) (Nat.le_of_ble_eq_true rfl) dL_runScript_19
    · exact absurd (hk.symm.trans z) (by decide)
  · rcases hcd with ⟨z, _, _⟩ | ⟨z, rfl, rfl⟩
    · exact absurd z hk
    · rw [z] at h3
      refine vx_catch (name := exN 1) F.2.2.2.1 [] ⟨0, 11, 14, 13⟩ [] (by rw [hT]; rfl) (fun _ h => nomatch h) (by decide) (by decide) (F.2.2.2.2 _ (List.mem_of_getElem? (i := 1) rfl)) (va_Nw.use rfl (hL.1.2.2.2.2.2.2.1 1)) h1 h2 h3 ?_
      refine lv_astore F.1 F.2.1 dL_runScript_14 hl (Nat.le_of_ble_eq_true rfl) rfl (fun ls hl => ?_)
      refine lv_iconst (v := (1 : Int32)) F.1 F.2.1 dL_runScript_16 (by decide) ?_
      exact l_iret F hr hlk hP hS (Nat.le_of_ble_eq_true rfl) (Nat.le_of_ble_eq_true rfl) dL_runScript_17

def rmL_simulate : Room := { frames := 8, cells := 1, slots := 6, locals := 167 }
theorem hd_L_simulate : yL_simulate.cls ≠ "java/lang/invoke/MethodHandle" ∧ yL_simulate.cls ≠ "java/lang/invoke/VarHandle" ∧ (parseMethodDescriptor yL_simulate.desc).map (fun d => d.parameters.length) = some 4 := by decide +kernel
set_option maxHeartbeats 8000000 in
set_option maxRecDepth 100000 in
theorem c_L_simulate {l : Launch} (hlt : l.stackTraces = false) {D : va_G} {x q : Nat} {μ : Mem} {w w2 : Int64} (hq : ¬ rng x q) (a1 : Int64) (a3 : Int32) {r : Nat × Int32 × Mem} (hf : f_X4_simulate μ a1 a3 = some r) {cd : Int32} (hcd : (r.1 = 0 ∧ cd = 0 ∧ w2 = r.2.1.toInt64) ∨ (r.1 = 1 ∧ cd = 1 ∧ w2 = w)) : LX l yL_simulate wsL_simulate rmL_simulate 1 6 [.ref (x + 0), .long a1, .int a3, .ref q] D x μ q w cd r.2.2 w2 := by
  refine LX.of (cc := cL_simulate) (maxL := 6) (hh := [(0, 11, 14, 13)]) (by decide +kernel) rfl (Nat.le_of_ble_eq_true rfl) ?_
  intro p e s m args below meth c F hr hlk hT hK hL ls hl hP
  have hl : lv_has ls 6 [(0, .ref (x + 0)), (1, .long a1), (3, .int a3), (4, .ref q)] := hl
  refine lv_aload F.1 F.2.1 dL_simulate_0 (lv_at hl 3 rfl) ?_
  refine lv_iconst (v := (0 : Int32)) F.1 F.2.1 dL_simulate_2 (by decide) ?_
  refine lv_aload_n F.1 F.2.1 dL_simulate_3 rfl (lv_at hl 0 rfl) ?_
  refine lv_lload_n F.1 F.2.1 dL_simulate_4 rfl (lv_at hl 1 rfl) ?_
  refine lv_iload_n F.1 F.2.1 dL_simulate_5 rfl (lv_at hl 2 rfl) ?_
  refine l_callV F hK hL hq hP (c_X4_simulate hlt a1 a3 hf) (cwV 2 F.2.2.2.2 gL_simulate_X4_simulate rfl rfl rfl ⟨rfl, hd_X4_simulate⟩ ⟨(Nat.le_of_ble_eq_true rfl), (Nat.le_of_ble_eq_true rfl)⟩) rfl (rest := [.int 0, .ref q]) rfl hl.1 (Nat.le_of_ble_eq_true rfl) dL_simulate_6 ⟨(Nat.le_of_ble_eq_true rfl), (Nat.le_of_ble_eq_true rfl)⟩ (fun hk H locs hP hS => ?_) (fun hk H locs q9 ce hP hS h1 h2 h3 => ?_)
  · rcases hcd with ⟨_, rfl, rfl⟩ | ⟨z, _, _⟩
    · refine lv_i2l (v := r.2.1.toInt64) F.1 F.2.1 dL_simulate_9 rfl ?_
      refine l_last F hK hq hP hS dL_simulate_10 (fun H locs hP hS => ?_)
      refine lv_goto (tgt := 18) F.1 F.2.1 dL_simulate_11 rfl ?_
      refine lv_iconst (v := (0 : Int32)) F.1 F.2.1 dL_simulate_18 (by decide) ?_
      exact l_iret F hr hlk hP hS (Nat.le_of_ble_eq_true rfl) (Nat.le_of_ble_eq_true rfl) dL_simulate_19
    · exact absurd (hk.symm.trans z) (by decide)
  · rcases hcd with ⟨z, _, _⟩ | ⟨z, rfl, rfl⟩
    · exact absurd z hk
    · rw [z] at h3
      refine vx_catch (name := exN 1) F.2.2.2.1 [] ⟨0, 11, 14, 13⟩ [] (by rw [hT]; rfl) (fun _ h => nomatch h) (by decide) (by decide) (F.2.2.2.2 _ (List.mem_of_getElem? (i := 1) rfl)) (va_Nw.use rfl (hL.1.2.2.2.2.2.2.1 1)) h1 h2 h3 ?_
      refine lv_astore F.1 F.2.1 dL_simulate_14 hl (Nat.le_of_ble_eq_true rfl) rfl (fun ls hl => ?_)
      refine lv_iconst (v := (1 : Int32)) F.1 F.2.1 dL_simulate_16 (by decide) ?_
      exact l_iret F hr hlk hP hS (Nat.le_of_ble_eq_true rfl) (Nat.le_of_ble_eq_true rfl) dL_simulate_17

def rmL_save : Room := { frames := 8, cells := 1, slots := 6, locals := 144 }
theorem hd_L_save : yL_save.cls ≠ "java/lang/invoke/MethodHandle" ∧ yL_save.cls ≠ "java/lang/invoke/VarHandle" ∧ (parseMethodDescriptor yL_save.desc).map (fun d => d.parameters.length) = some 3 := by decide +kernel
set_option maxHeartbeats 8000000 in
set_option maxRecDepth 100000 in
theorem c_L_save {l : Launch} (hlt : l.stackTraces = false) {D : va_G} {x q : Nat} {μ : Mem} {w w2 : Int64} (hq : ¬ rng x q) (a1 : Int32) {r : Nat × Int32 × Mem} (hf : f_X4_save μ a1 = some r) {cd : Int32} (hcd : (r.1 = 0 ∧ cd = 0 ∧ w2 = r.2.1.toInt64) ∨ (r.1 = 3 ∧ cd = 1 ∧ w2 = w)) : LX l yL_save wsL_save rmL_save 1 6 [.ref (x + 0), .int a1, .ref q] D x μ q w cd r.2.2 w2 := by
  refine LX.of (cc := cL_save) (maxL := 4) (hh := [(0, 9, 12, 28)]) (by decide +kernel) rfl (Nat.le_of_ble_eq_true rfl) ?_
  intro p e s m args below meth c F hr hlk hT hK hL ls hl hP
  have hl : lv_has ls 4 [(0, .ref (x + 0)), (1, .int a1), (2, .ref q)] := hl
  refine lv_aload_n F.1 F.2.1 dL_save_0 rfl (lv_at hl 2 rfl) ?_
  refine lv_iconst (v := (0 : Int32)) F.1 F.2.1 dL_save_1 (by decide) ?_
  refine lv_aload_n F.1 F.2.1 dL_save_2 rfl (lv_at hl 0 rfl) ?_
  refine lv_iload_n F.1 F.2.1 dL_save_3 rfl (lv_at hl 1 rfl) ?_
  refine l_callV F hK hL hq hP (c_X4_save hlt a1 hf) (cwV 1 F.2.2.2.2 gL_save_X4_save rfl rfl rfl ⟨rfl, hd_X4_save⟩ ⟨(Nat.le_of_ble_eq_true rfl), (Nat.le_of_ble_eq_true rfl)⟩) rfl (rest := [.int 0, .ref q]) rfl hl.1 (Nat.le_of_ble_eq_true rfl) dL_save_4 ⟨(Nat.le_of_ble_eq_true rfl), (Nat.le_of_ble_eq_true rfl)⟩ (fun hk H locs hP hS => ?_) (fun hk H locs q9 ce hP hS h1 h2 h3 => ?_)
  · rcases hcd with ⟨_, rfl, rfl⟩ | ⟨z, _, _⟩
    · refine lv_i2l (v := r.2.1.toInt64) F.1 F.2.1 dL_save_7 rfl ?_
      refine l_last F hK hq hP hS dL_save_8 (fun H locs hP hS => ?_)
      refine lv_goto (tgt := 15) F.1 F.2.1 dL_save_9 rfl ?_
      refine lv_iconst (v := (0 : Int32)) F.1 F.2.1 dL_save_15 (by decide) ?_
      exact l_iret F hr hlk hP hS (Nat.le_of_ble_eq_true rfl) (Nat.le_of_ble_eq_true rfl) dL_save_16
    · exact absurd (hk.symm.trans z) (by decide)
  · rcases hcd with ⟨z, _, _⟩ | ⟨z, rfl, rfl⟩
    · exact absurd z hk
    · rw [z] at h3
      refine vx_catch (name := exN 3) F.2.2.2.1 [] ⟨0, 9, 12, 28⟩ [] (by rw [hT]; rfl) (fun _ h => nomatch h) (by decide) (by decide) (F.2.2.2.2 _ (List.mem_of_getElem? (i := 1) rfl)) (va_Nw.use rfl (hL.1.2.2.2.2.2.2.1 3)) h1 h2 h3 ?_
      refine lv_astore_n F.1 F.2.1 dL_save_12 rfl hl (Nat.le_of_ble_eq_true rfl) rfl (fun ls hl => ?_)
      refine lv_iconst (v := (1 : Int32)) F.1 F.2.1 dL_save_13 (by decide) ?_
      exact l_iret F hr hlk hP hS (Nat.le_of_ble_eq_true rfl) (Nat.le_of_ble_eq_true rfl) dL_save_14

def rmL_restore : Room := { frames := 8, cells := 2, slots := 12, locals := 144 }
theorem hd_L_restore : yL_restore.cls ≠ "java/lang/invoke/MethodHandle" ∧ yL_restore.cls ≠ "java/lang/invoke/VarHandle" ∧ (parseMethodDescriptor yL_restore.desc).map (fun d => d.parameters.length) = some 3 := by decide +kernel
set_option maxHeartbeats 8000000 in
set_option maxRecDepth 100000 in
theorem c_L_restore {l : Launch} (hlt : l.stackTraces = false) {D : va_G} {x q : Nat} {μ : Mem} {w w2 : Int64} (hq : ¬ rng x q) (a1 : Int32) {r : Nat × Int32 × Mem} (hf : f_X4_restore μ a1 = some r) {cd : Int32} (hcd : (r.1 = 0 ∧ cd = 0 ∧ w2 = r.2.1.toInt64) ∨ (r.1 = 3 ∧ cd = 1 ∧ w2 = w) ∨ (r.1 = 2 ∧ cd = 2 ∧ w2 = w)) : LX l yL_restore wsL_restore rmL_restore 2 12 [.ref (x + 0), .int a1, .ref q] D x μ q w cd r.2.2 w2 := by
  refine LX.of (cc := cL_restore) (maxL := 4) (hh := [(0, 9, 12, 28), (0, 9, 15, 15)]) (by decide +kernel) rfl (Nat.le_of_ble_eq_true rfl) ?_
  intro p e s m args below meth c F hr hlk hT hK hL ls hl hP
  have hl : lv_has ls 4 [(0, .ref (x + 0)), (1, .int a1), (2, .ref q)] := hl
  refine lv_aload_n F.1 F.2.1 dL_restore_0 rfl (lv_at hl 2 rfl) ?_
  refine lv_iconst (v := (0 : Int32)) F.1 F.2.1 dL_restore_1 (by decide) ?_
  refine lv_aload_n F.1 F.2.1 dL_restore_2 rfl (lv_at hl 0 rfl) ?_
  refine lv_iload_n F.1 F.2.1 dL_restore_3 rfl (lv_at hl 1 rfl) ?_
  refine l_callV F hK hL hq hP (c_X4_restore hlt a1 hf) (cwV 1 F.2.2.2.2 gL_restore_X4_restore rfl rfl rfl ⟨rfl, hd_X4_restore⟩ ⟨(Nat.le_of_ble_eq_true rfl), (Nat.le_of_ble_eq_true rfl)⟩) rfl (rest := [.int 0, .ref q]) rfl hl.1 (Nat.le_of_ble_eq_true rfl) dL_restore_4 ⟨(Nat.le_of_ble_eq_true rfl), (Nat.le_of_ble_eq_true rfl)⟩ (fun hk H locs hP hS => ?_) (fun hk H locs q9 ce hP hS h1 h2 h3 => ?_)
  · rcases hcd with ⟨_, rfl, rfl⟩ | ⟨z, _, _⟩ | ⟨z, _, _⟩
    · refine lv_i2l (v := r.2.1.toInt64) F.1 F.2.1 dL_restore_7 rfl ?_
      refine l_last F hK hq hP hS dL_restore_8 (fun H locs hP hS => ?_)
      refine lv_goto (tgt := 18) F.1 F.2.1 dL_restore_9 rfl ?_
      refine lv_iconst (v := (0 : Int32)) F.1 F.2.1 dL_restore_18 (by decide) ?_
      exact l_iret F hr hlk hP hS (Nat.le_of_ble_eq_true rfl) (Nat.le_of_ble_eq_true rfl) dL_restore_19
    · exact absurd (hk.symm.trans z) (by decide)
    · exact absurd (hk.symm.trans z) (by decide)
  · rcases hcd with ⟨z, _, _⟩ | ⟨z, rfl, rfl⟩ | ⟨z, rfl, rfl⟩
    · exact absurd z hk
    · rw [z] at h3
      refine vx_catch (name := exN 3) F.2.2.2.1 [] ⟨0, 9, 12, 28⟩ [⟨0, 9, 15, 15⟩] (by rw [hT]; rfl) (fun _ h => nomatch h) (by decide) (by decide) (F.2.2.2.2 _ (List.mem_of_getElem? (i := 1) rfl)) (va_Nw.use rfl (hL.1.2.2.2.2.2.2.1 3)) h1 h2 h3 ?_
      refine lv_astore_n F.1 F.2.1 dL_restore_12 rfl hl (Nat.le_of_ble_eq_true rfl) rfl (fun ls hl => ?_)
      refine lv_iconst (v := (1 : Int32)) F.1 F.2.1 dL_restore_13 (by decide) ?_
      exact l_iret F hr hlk hP hS (Nat.le_of_ble_eq_true rfl) (Nat.le_of_ble_eq_true rfl) dL_restore_14
    · rw [z] at h3
      refine vx_catch (name := exN 2) F.2.2.2.1 [⟨0, 9, 12, 28⟩] ⟨0, 9, 15, 15⟩ [] (by rw [hT]; rfl) (fun z9 hz9 => by simp only [List.mem_cons, List.not_mem_nil, or_false] at hz9; subst hz9; exact Or.inr ⟨by decide, _, F.2.2.2.2 _ (List.mem_of_getElem? (i := 1) rfl), hL.2 2 3 (by decide) (by decide) (by decide) (by decide) (by decide)⟩) (by decide) (by decide) (F.2.2.2.2 _ (List.mem_of_getElem? (i := 2) rfl)) (va_Nw.use rfl (hL.1.2.2.2.2.2.2.1 2)) h1 h2 h3 ?_
      refine lv_astore_n F.1 F.2.1 dL_restore_15 rfl hl (Nat.le_of_ble_eq_true rfl) rfl (fun ls hl => ?_)
      refine lv_iconst (v := (2 : Int32)) F.1 F.2.1 dL_restore_16 (by decide) ?_
      exact l_iret F hr hlk hP hS (Nat.le_of_ble_eq_true rfl) (Nat.le_of_ble_eq_true rfl) dL_restore_17
