def rmL_append : Room := { frames := 8, cells := 2, slots := 12, locals := 125 }
theorem hd_L_append : yL_append.cls ≠ "java/lang/invoke/MethodHandle" ∧ yL_append.cls ≠ "java/lang/invoke/VarHandle" ∧ (parseMethodDescriptor yL_append.desc).map (fun d => d.parameters.length) = some 2 := by decide +kernel
set_option maxHeartbeats 8000000 in
set_option maxRecDepth 100000 in
theorem c_L_append {l : Launch} (hlt : l.stackTraces = false) {D : va_G} {x : Nat} {μ : Mem} (a1 : Int32) {q : Int64 × Mem} (hq : f_L_append μ a1 = some q) : LC l yL_append wsB_append rmL_append 2 12 [.ref (x + 0), .int a1] D x μ (some (.long q.1)) q.2 := by
  unfold f_L_append at hq
  obtain ⟨r, hf, hq⟩ := bnd hq
  refine LC.ofH (cc := cL_append) (maxL := 3) (hh := [(0, 6, 7, 15), (0, 6, 12, 19)]) (by decide +kernel) rfl (Nat.le_of_ble_eq_true rfl) ?_
  intro p e s m args below meth c F hr hlk hT hK hL ls hl hP
  have hl : lv_has ls 3 [(0, .ref (x + 0)), (1, .int a1)] := hl
  refine lv_aload_n F.1 F.2.1 dL_append_0 rfl (lv_at hl 0 rfl) ?_
  refine lv_iload_n F.1 F.2.1 dL_append_1 rfl (lv_at hl 1 rfl) ?_
  refine h_V F hK hL hP (c_X4_append hlt a1 hf) (cwV 1 F.2.2.2.2 gB_append_X4_append rfl rfl rfl ⟨rfl, hd_X4_append⟩ ⟨(Nat.le_of_ble_eq_true rfl), (Nat.le_of_ble_eq_true rfl)⟩) rfl (rest := []) rfl hl.1 (Nat.le_of_ble_eq_true rfl) dL_append_2 ⟨(Nat.le_of_ble_eq_true rfl), (Nat.le_of_ble_eq_true rfl)⟩ (fun hk H locs hP hS => ?_) (fun hk H locs q9 ce hP hS h1 h2 h3 => ?_)
  · have hq := ifp hk hq
    obtain rfl := Option.some.inj hq
    refine lv_i2l (v := r.2.1.toInt64) F.1 F.2.1 dL_append_5 rfl ?_
    exact s_lret F hr hlk hP hS rfl (Nat.le_of_ble_eq_true rfl) (Nat.le_of_ble_eq_true rfl) dL_append_6
  · have hq := ifn hk hq
    by_cases z0 : r.1 = 1
    · have hq := ifp z0 hq
      obtain rfl := Option.some.inj hq
      rw [z0] at h3
      refine vx_catch (name := exN 1) F.2.2.2.1 [] ⟨0, 6, 7, 15⟩ [⟨0, 6, 12, 19⟩] (by rw [hT]; rfl) (fun _ h => nomatch h) (by decide) (by decide) (F.2.2.2.2 _ (List.mem_of_getElem? (i := 83) rfl)) (va_Nw.use rfl (hL.1.2.2.2.2.2.2.1 1)) h1 h2 h3 ?_
      refine lv_astore_n F.1 F.2.1 dL_append_7 rfl hl (Nat.le_of_ble_eq_true rfl) rfl (fun ls hl => ?_)
      refine lv_ldc2 (v := (-9000000000000000002 : Int64)) F.1 F.2.1 F.2.2.2.1 (F.2.2.2.2 _ (List.mem_of_getElem? (i := 84) rfl)) dL_append_8 ?_
      exact s_lret F hr hlk hP hS rfl (Nat.le_of_ble_eq_true rfl) (Nat.le_of_ble_eq_true rfl) dL_append_11
    have hq := ifn z0 hq
    by_cases z1 : r.1 = 2
    · have hq := ifp z1 hq
      obtain rfl := Option.some.inj hq
      rw [z1] at h3
      refine vx_catch (name := exN 2) F.2.2.2.1 [⟨0, 6, 7, 15⟩] ⟨0, 6, 12, 19⟩ [] (by rw [hT]; rfl) (fun z9 hz9 => by simp only [List.mem_cons, List.not_mem_nil, or_false] at hz9; subst hz9; exact Or.inr ⟨by decide, _, F.2.2.2.2 _ (List.mem_of_getElem? (i := 83) rfl), hL.2 2 1 (by decide) (by decide) (by decide) (by decide) (by decide)⟩) (by decide) (by decide) (F.2.2.2.2 _ (List.mem_of_getElem? (i := 465) rfl)) (va_Nw.use rfl (hL.1.2.2.2.2.2.2.1 2)) h1 h2 h3 ?_
      refine lv_astore_n F.1 F.2.1 dL_append_12 rfl hl (Nat.le_of_ble_eq_true rfl) rfl (fun ls hl => ?_)
      refine lv_ldc2 (v := (-9000000000000000003 : Int64)) F.1 F.2.1 F.2.2.2.1 (F.2.2.2.2 _ (List.mem_of_getElem? (i := 418) rfl)) dL_append_13 ?_
      exact s_lret F hr hlk hP hS rfl (Nat.le_of_ble_eq_true rfl) (Nat.le_of_ble_eq_true rfl) dL_append_16
    have hq := ifn z1 hq
    cases hq

def rmL_load : Room := { frames := 7, cells := 1, slots := 6, locals := 152 }
theorem hd_L_load : yL_load.cls ≠ "java/lang/invoke/MethodHandle" ∧ yL_load.cls ≠ "java/lang/invoke/VarHandle" ∧ (parseMethodDescriptor yL_load.desc).map (fun d => d.parameters.length) = some 1 := by decide +kernel
set_option maxHeartbeats 8000000 in
set_option maxRecDepth 100000 in
theorem c_L_load {l : Launch} (hlt : l.stackTraces = false) {D : va_G} {x : Nat} {μ : Mem} {q : Int64 × Mem} (hq : f_L_load μ  = some q) : LC l yL_load wsB_load rmL_load 1 6 [.ref (x + 0)] D x μ (some (.long q.1)) q.2 := by
  unfold f_L_load at hq
  obtain ⟨r, hf, hq⟩ := bnd hq
  refine LC.ofH (cc := cL_load) (maxL := 2) (hh := [(0, 5, 6, 19)]) (by decide +kernel) rfl (Nat.le_of_ble_eq_true rfl) ?_
  intro p e s m args below meth c F hr hlk hT hK hL ls hl hP
  have hl : lv_has ls 2 [(0, .ref (x + 0))] := hl
  refine lv_aload_n F.1 F.2.1 dL_load_0 rfl (lv_at hl 0 rfl) ?_
  refine h_V F hK hL hP (c_X4_load hlt  hf) (cwV 0 F.2.2.2.2 gB_load_X4_load rfl rfl rfl ⟨rfl, hd_X4_load⟩ ⟨(Nat.le_of_ble_eq_true rfl), (Nat.le_of_ble_eq_true rfl)⟩) rfl (rest := []) rfl hl.1 (Nat.le_of_ble_eq_true rfl) dL_load_1 ⟨(Nat.le_of_ble_eq_true rfl), (Nat.le_of_ble_eq_true rfl)⟩ (fun hk H locs hP hS => ?_) (fun hk H locs q9 ce hP hS h1 h2 h3 => ?_)
  · have hq := ifp hk hq
    obtain rfl := Option.some.inj hq
    refine lv_i2l (v := r.2.1.toInt64) F.1 F.2.1 dL_load_4 rfl ?_
    exact s_lret F hr hlk hP hS rfl (Nat.le_of_ble_eq_true rfl) (Nat.le_of_ble_eq_true rfl) dL_load_5
  · have hq := ifn hk hq
    by_cases z0 : r.1 = 2
    · have hq := ifp z0 hq
      obtain rfl := Option.some.inj hq
      rw [z0] at h3
      refine vx_catch (name := exN 2) F.2.2.2.1 [] ⟨0, 5, 6, 19⟩ [] (by rw [hT]; rfl) (fun _ h => nomatch h) (by decide) (by decide) (F.2.2.2.2 _ (List.mem_of_getElem? (i := 465) rfl)) (va_Nw.use rfl (hL.1.2.2.2.2.2.2.1 2)) h1 h2 h3 ?_
      refine lv_astore_n F.1 F.2.1 dL_load_6 rfl hl (Nat.le_of_ble_eq_true rfl) rfl (fun ls hl => ?_)
      refine lv_ldc2 (v := (-9000000000000000003 : Int64)) F.1 F.2.1 F.2.2.2.1 (F.2.2.2.2 _ (List.mem_of_getElem? (i := 418) rfl)) dL_load_7 ?_
      exact s_lret F hr hlk hP hS rfl (Nat.le_of_ble_eq_true rfl) (Nat.le_of_ble_eq_true rfl) dL_load_10
    have hq := ifn z0 hq
    cases hq

def rmL_about : Room := { frames := 8, cells := 1, slots := 6, locals := 129 }
theorem hd_L_about : yL_about.cls ≠ "java/lang/invoke/MethodHandle" ∧ yL_about.cls ≠ "java/lang/invoke/VarHandle" ∧ (parseMethodDescriptor yL_about.desc).map (fun d => d.parameters.length) = some 2 := by decide +kernel
set_option maxHeartbeats 8000000 in
set_option maxRecDepth 100000 in
theorem c_L_about {l : Launch} (hlt : l.stackTraces = false) {D : va_G} {x : Nat} {μ : Mem} (a1 : Int32) {q : Int64} (hq : f_L_about μ a1 = some q) : LC l yL_about wsB_about rmL_about 1 6 [.ref (x + 0), .int a1] D x μ (some (.long q)) μ := by
  unfold f_L_about at hq
  obtain ⟨r, hf, hq⟩ := bnd hq
  refine LC.ofH (cc := cL_about) (maxL := 3) (hh := [(0, 6, 7, 15)]) (by decide +kernel) rfl (Nat.le_of_ble_eq_true rfl) ?_
  intro p e s m args below meth c F hr hlk hT hK hL ls hl hP
  have hl : lv_has ls 3 [(0, .ref (x + 0)), (1, .int a1)] := hl
  refine lv_aload_n F.1 F.2.1 dL_about_0 rfl (lv_at hl 0 rfl) ?_
  refine lv_iload_n F.1 F.2.1 dL_about_1 rfl (lv_at hl 1 rfl) ?_
  refine h_V F hK hL hP (c_X4_about hlt a1 hf) (cwV 1 F.2.2.2.2 gB_about_X4_about rfl rfl rfl ⟨rfl, hd_X4_about⟩ ⟨(Nat.le_of_ble_eq_true rfl), (Nat.le_of_ble_eq_true rfl)⟩) rfl (rest := []) rfl hl.1 (Nat.le_of_ble_eq_true rfl) dL_about_2 ⟨(Nat.le_of_ble_eq_true rfl), (Nat.le_of_ble_eq_true rfl)⟩ (fun hk H locs hP hS => ?_) (fun hk H locs q9 ce hP hS h1 h2 h3 => ?_)
  · have hq := ifp hk hq
    obtain rfl := Option.some.inj hq
    refine lv_i2l (v := r.2.toInt64) F.1 F.2.1 dL_about_5 rfl ?_
    exact s_lret F hr hlk hP hS rfl (Nat.le_of_ble_eq_true rfl) (Nat.le_of_ble_eq_true rfl) dL_about_6
  · have hq := ifn hk hq
    by_cases z0 : r.1 = 1
    · have hq := ifp z0 hq
      obtain rfl := Option.some.inj hq
      rw [z0] at h3
      refine vx_catch (name := exN 1) F.2.2.2.1 [] ⟨0, 6, 7, 15⟩ [] (by rw [hT]; rfl) (fun _ h => nomatch h) (by decide) (by decide) (F.2.2.2.2 _ (List.mem_of_getElem? (i := 83) rfl)) (va_Nw.use rfl (hL.1.2.2.2.2.2.2.1 1)) h1 h2 h3 ?_
      refine lv_astore_n F.1 F.2.1 dL_about_7 rfl hl (Nat.le_of_ble_eq_true rfl) rfl (fun ls hl => ?_)
      refine lv_ldc2 (v := (-9000000000000000002 : Int64)) F.1 F.2.1 F.2.2.2.1 (F.2.2.2.2 _ (List.mem_of_getElem? (i := 84) rfl)) dL_about_8 ?_
      exact s_lret F hr hlk hP hS rfl (Nat.le_of_ble_eq_true rfl) (Nat.le_of_ble_eq_true rfl) dL_about_11
    have hq := ifn z0 hq
    cases hq

def rmL_siteOf : Room := { frames := 8, cells := 2, slots := 12, locals := 126 }
theorem hd_L_siteOf : yL_siteOf.cls ≠ "java/lang/invoke/MethodHandle" ∧ yL_siteOf.cls ≠ "java/lang/invoke/VarHandle" ∧ (parseMethodDescriptor yL_siteOf.desc).map (fun d => d.parameters.length) = some 3 := by decide +kernel
set_option maxHeartbeats 8000000 in
set_option maxRecDepth 100000 in
theorem c_L_siteOf {l : Launch} (hlt : l.stackTraces = false) {D : va_G} {x : Nat} {μ : Mem} (a1 : Int32) (a2 : Int32) {q : Int64} (hq : f_L_siteOf μ a1 a2 = some q) : LC l yL_siteOf wsB_siteOf rmL_siteOf 2 12 [.ref (x + 0), .int a1, .int a2] D x μ (some (.long q)) μ := by
  unfold f_L_siteOf at hq
  obtain ⟨r, hf, hq⟩ := bnd hq
  refine LC.ofH (cc := cL_siteOf) (maxL := 4) (hh := [(0, 7, 8, 34), (0, 7, 13, 15)]) (by decide +kernel) rfl (Nat.le_of_ble_eq_true rfl) ?_
  intro p e s m args below meth c F hr hlk hT hK hL ls hl hP
  have hl : lv_has ls 4 [(0, .ref (x + 0)), (1, .int a1), (2, .int a2)] := hl
  refine lv_aload_n F.1 F.2.1 dL_siteOf_0 rfl (lv_at hl 0 rfl) ?_
  refine lv_iload_n F.1 F.2.1 dL_siteOf_1 rfl (lv_at hl 1 rfl) ?_
  refine lv_iload_n F.1 F.2.1 dL_siteOf_2 rfl (lv_at hl 2 rfl) ?_
  refine h_V F hK hL hP (c_X4_siteOf hlt a1 a2 hf) (cwV 2 F.2.2.2.2 gB_siteOf_X4_siteOf rfl rfl rfl ⟨rfl, hd_X4_siteOf⟩ ⟨(Nat.le_of_ble_eq_true rfl), (Nat.le_of_ble_eq_true rfl)⟩) rfl (rest := []) rfl hl.1 (Nat.le_of_ble_eq_true rfl) dL_siteOf_3 ⟨(Nat.le_of_ble_eq_true rfl), (Nat.le_of_ble_eq_true rfl)⟩ (fun hk H locs hP hS => ?_) (fun hk H locs q9 ce hP hS h1 h2 h3 => ?_)
  · have hq := ifp hk hq
    obtain rfl := Option.some.inj hq
    refine lv_i2l (v := r.2.toInt64) F.1 F.2.1 dL_siteOf_6 rfl ?_
    exact s_lret F hr hlk hP hS rfl (Nat.le_of_ble_eq_true rfl) (Nat.le_of_ble_eq_true rfl) dL_siteOf_7
  · have hq := ifn hk hq
    by_cases z0 : r.1 = 3
    · have hq := ifp z0 hq
      obtain rfl := Option.some.inj hq
      rw [z0] at h3
      refine vx_catch (name := exN 3) F.2.2.2.1 [] ⟨0, 7, 8, 34⟩ [⟨0, 7, 13, 15⟩] (by rw [hT]; rfl) (fun _ h => nomatch h) (by decide) (by decide) (F.2.2.2.2 _ (List.mem_of_getElem? (i := 135) rfl)) (va_Nw.use rfl (hL.1.2.2.2.2.2.2.1 3)) h1 h2 h3 ?_
      refine lv_astore_n F.1 F.2.1 dL_siteOf_8 rfl hl (Nat.le_of_ble_eq_true rfl) rfl (fun ls hl => ?_)
      refine lv_ldc2 (v := (-9000000000000000001 : Int64)) F.1 F.2.1 F.2.2.2.1 (F.2.2.2.2 _ (List.mem_of_getElem? (i := 136) rfl)) dL_siteOf_9 ?_
      exact s_lret F hr hlk hP hS rfl (Nat.le_of_ble_eq_true rfl) (Nat.le_of_ble_eq_true rfl) dL_siteOf_12
    have hq := ifn z0 hq
    by_cases z1 : r.1 = 1
    · have hq := ifp z1 hq
      obtain rfl := Option.some.inj hq
      rw [z1] at h3
      refine vx_catch (name := exN 1) F.2.2.2.1 [⟨0, 7, 8, 34⟩] ⟨0, 7, 13, 15⟩ [] (by rw [hT]; rfl) (fun z9 hz9 => by simp only [List.mem_cons, List.not_mem_nil, or_false] at hz9; subst hz9; exact Or.inr ⟨by decide, _, F.2.2.2.2 _ (List.mem_of_getElem? (i := 135) rfl), hL.2 1 3 (by decide) (by decide) (by decide) (by decide) (by decide)⟩) (by decide) (by decide) (F.2.2.2.2 _ (List.mem_of_getElem? (i := 83) rfl)) (va_Nw.use rfl (hL.1.2.2.2.2.2.2.1 1)) h1 h2 h3 ?_
      refine lv_astore_n F.1 F.2.1 dL_siteOf_13 rfl hl (Nat.le_of_ble_eq_true rfl) rfl (fun ls hl => ?_)
      refine lv_ldc2 (v := (-9000000000000000002 : Int64)) F.1 F.2.1 F.2.2.2.1 (F.2.2.2.2 _ (List.mem_of_getElem? (i := 84) rfl)) dL_siteOf_14 ?_
      exact s_lret F hr hlk hP hS rfl (Nat.le_of_ble_eq_true rfl) (Nat.le_of_ble_eq_true rfl) dL_siteOf_17
    have hq := ifn z1 hq
    cases hq

def rmL_since : Room := { frames := 8, cells := 2, slots := 12, locals := 125 }
theorem hd_L_since : yL_since.cls ≠ "java/lang/invoke/MethodHandle" ∧ yL_since.cls ≠ "java/lang/invoke/VarHandle" ∧ (parseMethodDescriptor yL_since.desc).map (fun d => d.parameters.length) = some 3 := by decide +kernel
set_option maxHeartbeats 8000000 in
set_option maxRecDepth 100000 in
theorem c_L_since {l : Launch} (hlt : l.stackTraces = false) {D : va_G} {x : Nat} {μ : Mem} (a1 : Int32) (a2 : Int32) {q : Int64} (hq : f_L_since μ a1 a2 = some q) : LC l yL_since wsB_since rmL_since 2 12 [.ref (x + 0), .int a1, .int a2] D x μ (some (.long q)) μ := by
  unfold f_L_since at hq
  obtain ⟨r, hf, hq⟩ := bnd hq
  refine LC.ofH (cc := cL_since) (maxL := 4) (hh := [(0, 7, 8, 34)]) (by decide +kernel) rfl (Nat.le_of_ble_eq_true rfl) ?_
  intro p e s m args below meth c F hr hlk hT hK hL ls hl hP
  have hl : lv_has ls 4 [(0, .ref (x + 0)), (1, .int a1), (2, .int a2)] := hl
  refine lv_aload_n F.1 F.2.1 dL_since_0 rfl (lv_at hl 0 rfl) ?_
  refine lv_iload_n F.1 F.2.1 dL_since_1 rfl (lv_at hl 1 rfl) ?_
  refine lv_iload_n F.1 F.2.1 dL_since_2 rfl (lv_at hl 2 rfl) ?_
  refine h_V F hK hL hP (c_X4_since hlt a1 a2 hf) (cwV 2 F.2.2.2.2 gB_since_X4_since rfl rfl rfl ⟨rfl, hd_X4_since⟩ ⟨(Nat.le_of_ble_eq_true rfl), (Nat.le_of_ble_eq_true rfl)⟩) rfl (rest := []) rfl hl.1 (Nat.le_of_ble_eq_true rfl) dL_since_3 ⟨(Nat.le_of_ble_eq_true rfl), (Nat.le_of_ble_eq_true rfl)⟩ (fun hk H locs hP hS => ?_) (fun hk H locs q9 ce hP hS h1 h2 h3 => ?_)
  · have hq := ifp hk hq
    obtain rfl := Option.some.inj hq
    refine lv_i2l (v := r.2.toInt64) F.1 F.2.1 dL_since_6 rfl ?_
    exact s_lret F hr hlk hP hS rfl (Nat.le_of_ble_eq_true rfl) (Nat.le_of_ble_eq_true rfl) dL_since_7
  · have hq := ifn hk hq
    by_cases z0 : r.1 = 3
    · have hq := ifp z0 hq
      obtain rfl := Option.some.inj hq
      rw [z0] at h3
      refine vx_catch (name := exN 3) F.2.2.2.1 [] ⟨0, 7, 8, 34⟩ [] (by rw [hT]; rfl) (fun _ h => nomatch h) (by decide) (by decide) (F.2.2.2.2 _ (List.mem_of_getElem? (i := 135) rfl)) (va_Nw.use rfl (hL.1.2.2.2.2.2.2.1 3)) h1 h2 h3 ?_
      refine lv_astore_n F.1 F.2.1 dL_since_8 rfl hl (Nat.le_of_ble_eq_true rfl) rfl (fun ls hl => ?_)
      refine lv_ldc2 (v := (-9000000000000000001 : Int64)) F.1 F.2.1 F.2.2.2.1 (F.2.2.2.2 _ (List.mem_of_getElem? (i := 136) rfl)) dL_since_9 ?_
      exact s_lret F hr hlk hP hS rfl (Nat.le_of_ble_eq_true rfl) (Nat.le_of_ble_eq_true rfl) dL_since_12
    have hq := ifn z0 hq
    cases hq

def rmL_layerOf : Room := { frames := 8, cells := 2, slots := 12, locals := 128 }
theorem hd_L_layerOf : yL_layerOf.cls ≠ "java/lang/invoke/MethodHandle" ∧ yL_layerOf.cls ≠ "java/lang/invoke/VarHandle" ∧ (parseMethodDescriptor yL_layerOf.desc).map (fun d => d.parameters.length) = some 4 := by decide +kernel
set_option maxHeartbeats 8000000 in
set_option maxRecDepth 100000 in
theorem c_L_layerOf {l : Launch} (hlt : l.stackTraces = false) {D : va_G} {x : Nat} {μ : Mem} (a1 : Int32) (a2 : Int32) (a3 : Int32) {q : Int64} (hq : f_L_layerOf μ a1 a2 a3 = some q) : LC l yL_layerOf wsB_layerOf rmL_layerOf 2 12 [.ref (x + 0), .int a1, .int a2, .int a3] D x μ (some (.long q)) μ := by
  unfold f_L_layerOf at hq
  obtain ⟨r, hf, hq⟩ := bnd hq
  refine LC.ofH (cc := cL_layerOf) (maxL := 5) (hh := [(0, 8, 9, 34), (0, 8, 15, 15)]) (by decide +kernel) rfl (Nat.le_of_ble_eq_true rfl) ?_
  intro p e s m args below meth c F hr hlk hT hK hL ls hl hP
  have hl : lv_has ls 5 [(0, .ref (x + 0)), (1, .int a1), (2, .int a2), (3, .int a3)] := hl
  refine lv_aload_n F.1 F.2.1 dL_layerOf_0 rfl (lv_at hl 0 rfl) ?_
  refine lv_iload_n F.1 F.2.1 dL_layerOf_1 rfl (lv_at hl 1 rfl) ?_
  refine lv_iload_n F.1 F.2.1 dL_layerOf_2 rfl (lv_at hl 2 rfl) ?_
  refine lv_iload_n F.1 F.2.1 dL_layerOf_3 rfl (lv_at hl 3 rfl) ?_
  refine h_V F hK hL hP (c_X4_layerOf hlt a1 a2 a3 hf) (cwV 3 F.2.2.2.2 gB_layerOf_X4_layerOf rfl rfl rfl ⟨rfl, hd_X4_layerOf⟩ ⟨(Nat.le_of_ble_eq_true rfl), (Nat.le_of_ble_eq_true rfl)⟩) rfl (rest := []) rfl hl.1 (Nat.le_of_ble_eq_true rfl) dL_layerOf_4 ⟨(Nat.le_of_ble_eq_true rfl), (Nat.le_of_ble_eq_true rfl)⟩ (fun hk H locs hP hS => ?_) (fun hk H locs q9 ce hP hS h1 h2 h3 => ?_)
  · have hq := ifp hk hq
    obtain rfl := Option.some.inj hq
    refine lv_i2l (v := r.2.toInt64) F.1 F.2.1 dL_layerOf_7 rfl ?_
    exact s_lret F hr hlk hP hS rfl (Nat.le_of_ble_eq_true rfl) (Nat.le_of_ble_eq_true rfl) dL_layerOf_8
  · have hq := ifn hk hq
    by_cases z0 : r.1 = 3
    · have hq := ifp z0 hq
      obtain rfl := Option.some.inj hq
      rw [z0] at h3
      refine vx_catch (name := exN 3) F.2.2.2.1 [] ⟨0, 8, 9, 34⟩ [⟨0, 8, 15, 15⟩] (by rw [hT]; rfl) (fun _ h => nomatch h) (by decide) (by decide) (F.2.2.2.2 _ (List.mem_of_getElem? (i := 135) rfl)) (va_Nw.use rfl (hL.1.2.2.2.2.2.2.1 3)) h1 h2 h3 ?_
      refine lv_astore F.1 F.2.1 dL_layerOf_9 hl (Nat.le_of_ble_eq_true rfl) rfl (fun ls hl => ?_)
      refine lv_ldc2 (v := (-9000000000000000001 : Int64)) F.1 F.2.1 F.2.2.2.1 (F.2.2.2.2 _ (List.mem_of_getElem? (i := 136) rfl)) dL_layerOf_11 ?_
      exact s_lret F hr hlk hP hS rfl (Nat.le_of_ble_eq_true rfl) (Nat.le_of_ble_eq_true rfl) dL_layerOf_14
    have hq := ifn z0 hq
    by_cases z1 : r.1 = 1
    · have hq := ifp z1 hq
      obtain rfl := Option.some.inj hq
      rw [z1] at h3
      refine vx_catch (name := exN 1) F.2.2.2.1 [⟨0, 8, 9, 34⟩] ⟨0, 8, 15, 15⟩ [] (by rw [hT]; rfl) (fun z9 hz9 => by simp only [List.mem_cons, List.not_mem_nil, or_false] at hz9; subst hz9; exact Or.inr ⟨by decide, _, F.2.2.2.2 _ (List.mem_of_getElem? (i := 135) rfl), hL.2 1 3 (by decide) (by decide) (by decide) (by decide) (by decide)⟩) (by decide) (by decide) (F.2.2.2.2 _ (List.mem_of_getElem? (i := 83) rfl)) (va_Nw.use rfl (hL.1.2.2.2.2.2.2.1 1)) h1 h2 h3 ?_
      refine lv_astore F.1 F.2.1 dL_layerOf_15 hl (Nat.le_of_ble_eq_true rfl) rfl (fun ls hl => ?_)
      refine lv_ldc2 (v := (-9000000000000000002 : Int64)) F.1 F.2.1 F.2.2.2.1 (F.2.2.2.2 _ (List.mem_of_getElem? (i := 84) rfl)) dL_layerOf_17 ?_
      exact s_lret F hr hlk hP hS rfl (Nat.le_of_ble_eq_true rfl) (Nat.le_of_ble_eq_true rfl) dL_layerOf_20
    have hq := ifn z1 hq
    cases hq

def rmL_tubeOf : Room := { frames := 8, cells := 1, slots := 6, locals := 126 }
theorem hd_L_tubeOf : yL_tubeOf.cls ≠ "java/lang/invoke/MethodHandle" ∧ yL_tubeOf.cls ≠ "java/lang/invoke/VarHandle" ∧ (parseMethodDescriptor yL_tubeOf.desc).map (fun d => d.parameters.length) = some 3 := by decide +kernel
set_option maxHeartbeats 8000000 in
set_option maxRecDepth 100000 in
theorem c_L_tubeOf {l : Launch} (hlt : l.stackTraces = false) {D : va_G} {x : Nat} {μ : Mem} (a1 : Int32) (a2 : Int32) {q : Int64} (hq : f_L_tubeOf μ a1 a2 = some q) : LC l yL_tubeOf wsB_tubeOf rmL_tubeOf 1 6 [.ref (x + 0), .int a1, .int a2] D x μ (some (.long q)) μ := by
  unfold f_L_tubeOf at hq
  obtain ⟨r, hf, hq⟩ := bnd hq
  refine LC.ofH (cc := cL_tubeOf) (maxL := 4) (hh := [(0, 7, 8, 34), (0, 7, 13, 15)]) (by decide +kernel) rfl (Nat.le_of_ble_eq_true rfl) ?_
  intro p e s m args below meth c F hr hlk hT hK hL ls hl hP
  have hl : lv_has ls 4 [(0, .ref (x + 0)), (1, .int a1), (2, .int a2)] := hl
  refine lv_aload_n F.1 F.2.1 dL_tubeOf_0 rfl (lv_at hl 0 rfl) ?_
  refine lv_iload_n F.1 F.2.1 dL_tubeOf_1 rfl (lv_at hl 1 rfl) ?_
  refine lv_iload_n F.1 F.2.1 dL_tubeOf_2 rfl (lv_at hl 2 rfl) ?_
  refine h_V F hK hL hP (c_X4_tubeOf hlt a1 a2 hf) (cwV 2 F.2.2.2.2 gB_tubeOf_X4_tubeOf rfl rfl rfl ⟨rfl, hd_X4_tubeOf⟩ ⟨(Nat.le_of_ble_eq_true rfl), (Nat.le_of_ble_eq_true rfl)⟩) rfl (rest := []) rfl hl.1 (Nat.le_of_ble_eq_true rfl) dL_tubeOf_3 ⟨(Nat.le_of_ble_eq_true rfl), (Nat.le_of_ble_eq_true rfl)⟩ (fun hk H locs hP hS => ?_) (fun hk H locs q9 ce hP hS h1 h2 h3 => ?_)
  · have hq := ifp hk hq
    obtain rfl := Option.some.inj hq
    refine lv_i2l (v := r.2.toInt64) F.1 F.2.1 dL_tubeOf_6 rfl ?_
    exact s_lret F hr hlk hP hS rfl (Nat.le_of_ble_eq_true rfl) (Nat.le_of_ble_eq_true rfl) dL_tubeOf_7
  · have hq := ifn hk hq
    by_cases z0 : r.1 = 3
    · have hq := ifp z0 hq
      obtain rfl := Option.some.inj hq
      rw [z0] at h3
      refine vx_catch (name := exN 3) F.2.2.2.1 [] ⟨0, 7, 8, 34⟩ [⟨0, 7, 13, 15⟩] (by rw [hT]; rfl) (fun _ h => nomatch h) (by decide) (by decide) (F.2.2.2.2 _ (List.mem_of_getElem? (i := 135) rfl)) (va_Nw.use rfl (hL.1.2.2.2.2.2.2.1 3)) h1 h2 h3 ?_
      refine lv_astore_n F.1 F.2.1 dL_tubeOf_8 rfl hl (Nat.le_of_ble_eq_true rfl) rfl (fun ls hl => ?_)
      refine lv_ldc2 (v := (-9000000000000000001 : Int64)) F.1 F.2.1 F.2.2.2.1 (F.2.2.2.2 _ (List.mem_of_getElem? (i := 136) rfl)) dL_tubeOf_9 ?_
      exact s_lret F hr hlk hP hS rfl (Nat.le_of_ble_eq_true rfl) (Nat.le_of_ble_eq_true rfl) dL_tubeOf_12
    have hq := ifn z0 hq
    by_cases z1 : r.1 = 1
    · have hq := ifp z1 hq
      obtain rfl := Option.some.inj hq
      rw [z1] at h3
      refine vx_catch (name := exN 1) F.2.2.2.1 [⟨0, 7, 8, 34⟩] ⟨0, 7, 13, 15⟩ [] (by rw [hT]; rfl) (fun z9 hz9 => by simp only [List.mem_cons, List.not_mem_nil, or_false] at hz9; subst hz9; exact Or.inr ⟨by decide, _, F.2.2.2.2 _ (List.mem_of_getElem? (i := 135) rfl), hL.2 1 3 (by decide) (by decide) (by decide) (by decide) (by decide)⟩) (by decide) (by decide) (F.2.2.2.2 _ (List.mem_of_getElem? (i := 83) rfl)) (va_Nw.use rfl (hL.1.2.2.2.2.2.2.1 1)) h1 h2 h3 ?_
      refine lv_astore_n F.1 F.2.1 dL_tubeOf_13 rfl hl (Nat.le_of_ble_eq_true rfl) rfl (fun ls hl => ?_)
      refine lv_ldc2 (v := (-9000000000000000002 : Int64)) F.1 F.2.1 F.2.2.2.1 (F.2.2.2.2 _ (List.mem_of_getElem? (i := 84) rfl)) dL_tubeOf_14 ?_
      exact s_lret F hr hlk hP hS rfl (Nat.le_of_ble_eq_true rfl) (Nat.le_of_ble_eq_true rfl) dL_tubeOf_17
    have hq := ifn z1 hq
    cases hq

def rmL_pipeOf : Room := { frames := 8, cells := 2, slots := 12, locals := 126 }
theorem hd_L_pipeOf : yL_pipeOf.cls ≠ "java/lang/invoke/MethodHandle" ∧ yL_pipeOf.cls ≠ "java/lang/invoke/VarHandle" ∧ (parseMethodDescriptor yL_pipeOf.desc).map (fun d => d.parameters.length) = some 3 := by decide +kernel
set_option maxHeartbeats 8000000 in
set_option maxRecDepth 100000 in
theorem c_L_pipeOf {l : Launch} (hlt : l.stackTraces = false) {D : va_G} {x : Nat} {μ : Mem} (a1 : Int32) (a2 : Int32) {q : Int64} (hq : f_L_pipeOf μ a1 a2 = some q) : LC l yL_pipeOf wsB_pipeOf rmL_pipeOf 2 12 [.ref (x + 0), .int a1, .int a2] D x μ (some (.long q)) μ := by
  unfold f_L_pipeOf at hq
  obtain ⟨r, hf, hq⟩ := bnd hq
  refine LC.ofH (cc := cL_pipeOf) (maxL := 4) (hh := [(0, 7, 8, 34), (0, 7, 13, 15)]) (by decide +kernel) rfl (Nat.le_of_ble_eq_true rfl) ?_
  intro p e s m args below meth c F hr hlk hT hK hL ls hl hP
  have hl : lv_has ls 4 [(0, .ref (x + 0)), (1, .int a1), (2, .int a2)] := hl
  refine lv_aload_n F.1 F.2.1 dL_pipeOf_0 rfl (lv_at hl 0 rfl) ?_
  refine lv_iload_n F.1 F.2.1 dL_pipeOf_1 rfl (lv_at hl 1 rfl) ?_
  refine lv_iload_n F.1 F.2.1 dL_pipeOf_2 rfl (lv_at hl 2 rfl) ?_
  refine h_V F hK hL hP (c_X4_pipeOf hlt a1 a2 hf) (cwV 2 F.2.2.2.2 gB_pipeOf_X4_pipeOf rfl rfl rfl ⟨rfl, hd_X4_pipeOf⟩ ⟨(Nat.le_of_ble_eq_true rfl), (Nat.le_of_ble_eq_true rfl)⟩) rfl (rest := []) rfl hl.1 (Nat.le_of_ble_eq_true rfl) dL_pipeOf_3 ⟨(Nat.le_of_ble_eq_true rfl), (Nat.le_of_ble_eq_true rfl)⟩ (fun hk H locs hP hS => ?_) (fun hk H locs q9 ce hP hS h1 h2 h3 => ?_)
  · have hq := ifp hk hq
    obtain rfl := Option.some.inj hq
    refine lv_i2l (v := r.2.toInt64) F.1 F.2.1 dL_pipeOf_6 rfl ?_
    exact s_lret F hr hlk hP hS rfl (Nat.le_of_ble_eq_true rfl) (Nat.le_of_ble_eq_true rfl) dL_pipeOf_7
  · have hq := ifn hk hq
    by_cases z0 : r.1 = 3
    · have hq := ifp z0 hq
      obtain rfl := Option.some.inj hq
      rw [z0] at h3
      refine vx_catch (name := exN 3) F.2.2.2.1 [] ⟨0, 7, 8, 34⟩ [⟨0, 7, 13, 15⟩] (by rw [hT]; rfl) (fun _ h => nomatch h) (by decide) (by decide) (F.2.2.2.2 _ (List.mem_of_getElem? (i := 135) rfl)) (va_Nw.use rfl (hL.1.2.2.2.2.2.2.1 3)) h1 h2 h3 ?_
      refine lv_astore_n F.1 F.2.1 dL_pipeOf_8 rfl hl (Nat.le_of_ble_eq_true rfl) rfl (fun ls hl => ?_)
      refine lv_ldc2 (v := (-9000000000000000001 : Int64)) F.1 F.2.1 F.2.2.2.1 (F.2.2.2.2 _ (List.mem_of_getElem? (i := 136) rfl)) dL_pipeOf_9 ?_
      exact s_lret F hr hlk hP hS rfl (Nat.le_of_ble_eq_true rfl) (Nat.le_of_ble_eq_true rfl) dL_pipeOf_12
    have hq := ifn z0 hq
    by_cases z1 : r.1 = 1
    · have hq := ifp z1 hq
      obtain rfl := Option.some.inj hq
      rw [z1] at h3
      refine vx_catch (name := exN 1) F.2.2.2.1 [⟨0, 7, 8, 34⟩] ⟨0, 7, 13, 15⟩ [] (by rw [hT]; rfl) (fun z9 hz9 => by simp only [List.mem_cons, List.not_mem_nil, or_false] at hz9; subst hz9; exact Or.inr ⟨by decide, _, F.2.2.2.2 _ (List.mem_of_getElem? (i := 135) rfl), hL.2 1 3 (by decide) (by decide) (by decide) (by decide) (by decide)⟩) (by decide) (by decide) (F.2.2.2.2 _ (List.mem_of_getElem? (i := 83) rfl)) (va_Nw.use rfl (hL.1.2.2.2.2.2.2.1 1)) h1 h2 h3 ?_
      refine lv_astore_n F.1 F.2.1 dL_pipeOf_13 rfl hl (Nat.le_of_ble_eq_true rfl) rfl (fun ls hl => ?_)
      refine lv_ldc2 (v := (-9000000000000000002 : Int64)) F.1 F.2.1 F.2.2.2.1 (F.2.2.2.2 _ (List.mem_of_getElem? (i := 84) rfl)) dL_pipeOf_14 ?_
      exact s_lret F hr hlk hP hS rfl (Nat.le_of_ble_eq_true rfl) (Nat.le_of_ble_eq_true rfl) dL_pipeOf_17
    have hq := ifn z1 hq
    cases hq

def rmL_layers : Room := { frames := 8, cells := 2, slots := 12, locals := 126 }
theorem hd_L_layers : yL_layers.cls ≠ "java/lang/invoke/MethodHandle" ∧ yL_layers.cls ≠ "java/lang/invoke/VarHandle" ∧ (parseMethodDescriptor yL_layers.desc).map (fun d => d.parameters.length) = some 3 := by decide +kernel
set_option maxHeartbeats 8000000 in
set_option maxRecDepth 100000 in
theorem c_L_layers {l : Launch} (hlt : l.stackTraces = false) {D : va_G} {x : Nat} {μ : Mem} (a1 : Int32) (a2 : Int32) {q : Int64} (hq : f_L_layers μ a1 a2 = some q) : LC l yL_layers wsB_layers rmL_layers 2 12 [.ref (x + 0), .int a1, .int a2] D x μ (some (.long q)) μ := by
  unfold f_L_layers at hq
  obtain ⟨r, hf, hq⟩ := bnd hq
  refine LC.ofH (cc := cL_layers) (maxL := 4) (hh := [(0, 7, 8, 34), (0, 7, 13, 15)]) (by decide +kernel) rfl (Nat.le_of_ble_eq_true rfl) ?_
  intro p e s m args below meth c F hr hlk hT hK hL ls hl hP
  have hl : lv_has ls 4 [(0, .ref (x + 0)), (1, .int a1), (2, .int a2)] := hl
  refine lv_aload_n F.1 F.2.1 dL_layers_0 rfl (lv_at hl 0 rfl) ?_
  refine lv_iload_n F.1 F.2.1 dL_layers_1 rfl (lv_at hl 1 rfl) ?_
  refine lv_iload_n F.1 F.2.1 dL_layers_2 rfl (lv_at hl 2 rfl) ?_
  refine h_V F hK hL hP (c_X4_layers hlt a1 a2 hf) (cwV 2 F.2.2.2.2 gB_layers_X4_layers rfl rfl rfl ⟨rfl, hd_X4_layers⟩ ⟨(Nat.le_of_ble_eq_true rfl), (Nat.le_of_ble_eq_true rfl)⟩) rfl (rest := []) rfl hl.1 (Nat.le_of_ble_eq_true rfl) dL_layers_3 ⟨(Nat.le_of_ble_eq_true rfl), (Nat.le_of_ble_eq_true rfl)⟩ (fun hk H locs hP hS => ?_) (fun hk H locs q9 ce hP hS h1 h2 h3 => ?_)
  · have hq := ifp hk hq
    obtain rfl := Option.some.inj hq
    refine lv_i2l (v := r.2.toInt64) F.1 F.2.1 dL_layers_6 rfl ?_
    exact s_lret F hr hlk hP hS rfl (Nat.le_of_ble_eq_true rfl) (Nat.le_of_ble_eq_true rfl) dL_layers_7
  · have hq := ifn hk hq
    by_cases z0 : r.1 = 3
    · have hq := ifp z0 hq
      obtain rfl := Option.some.inj hq
      rw [z0] at h3
      refine vx_catch (name := exN 3) F.2.2.2.1 [] ⟨0, 7, 8, 34⟩ [⟨0, 7, 13, 15⟩] (by rw [hT]; rfl) (fun _ h => nomatch h) (by decide) (by decide) (F.2.2.2.2 _ (List.mem_of_getElem? (i := 135) rfl)) (va_Nw.use rfl (hL.1.2.2.2.2.2.2.1 3)) h1 h2 h3 ?_
      refine lv_astore_n F.1 F.2.1 dL_layers_8 rfl hl (Nat.le_of_ble_eq_true rfl) rfl (fun ls hl => ?_)
      refine lv_ldc2 (v := (-9000000000000000001 : Int64)) F.1 F.2.1 F.2.2.2.1 (F.2.2.2.2 _ (List.mem_of_getElem? (i := 136) rfl)) dL_layers_9 ?_
      exact s_lret F hr hlk hP hS rfl (Nat.le_of_ble_eq_true rfl) (Nat.le_of_ble_eq_true rfl) dL_layers_12
    have hq := ifn z0 hq
    by_cases z1 : r.1 = 1
    · have hq := ifp z1 hq
      obtain rfl := Option.some.inj hq
      rw [z1] at h3
      refine vx_catch (name := exN 1) F.2.2.2.1 [⟨0, 7, 8, 34⟩] ⟨0, 7, 13, 15⟩ [] (by rw [hT]; rfl) (fun z9 hz9 => by simp only [List.mem_cons, List.not_mem_nil, or_false] at hz9; subst hz9; exact Or.inr ⟨by decide, _, F.2.2.2.2 _ (List.mem_of_getElem? (i := 135) rfl), hL.2 1 3 (by decide) (by decide) (by decide) (by decide) (by decide)⟩) (by decide) (by decide) (F.2.2.2.2 _ (List.mem_of_getElem? (i := 83) rfl)) (va_Nw.use rfl (hL.1.2.2.2.2.2.2.1 1)) h1 h2 h3 ?_
      refine lv_astore_n F.1 F.2.1 dL_layers_13 rfl hl (Nat.le_of_ble_eq_true rfl) rfl (fun ls hl => ?_)
      refine lv_ldc2 (v := (-9000000000000000002 : Int64)) F.1 F.2.1 F.2.2.2.1 (F.2.2.2.2 _ (List.mem_of_getElem? (i := 84) rfl)) dL_layers_14 ?_
      exact s_lret F hr hlk hP hS rfl (Nat.le_of_ble_eq_true rfl) (Nat.le_of_ble_eq_true rfl) dL_layers_17
    have hq := ifn z1 hq
    cases hq

def rmL_oldest : Room := { frames := 7, cells := 1, slots := 6, locals := 105 }
theorem hd_L_oldest : yL_oldest.cls ≠ "java/lang/invoke/MethodHandle" ∧ yL_oldest.cls ≠ "java/lang/invoke/VarHandle" ∧ (parseMethodDescriptor yL_oldest.desc).map (fun d => d.parameters.length) = some 2 := by decide +kernel
set_option maxHeartbeats 8000000 in
set_option maxRecDepth 100000 in
theorem c_L_oldest {l : Launch} (hlt : l.stackTraces = false) {D : va_G} {x : Nat} {μ : Mem} (a1 : Int32) {q : Int64} (hq : f_L_oldest μ a1 = some q) : LC l yL_oldest wsB_oldest rmL_oldest 1 6 [.ref (x + 0), .int a1] D x μ (some (.long q)) μ := by
  unfold f_L_oldest at hq
  obtain ⟨r, hf, hq⟩ := bnd hq
  refine LC.ofH (cc := cL_oldest) (maxL := 3) (hh := [(0, 6, 7, 34)]) (by decide +kernel) rfl (Nat.le_of_ble_eq_true rfl) ?_
  intro p e s m args below meth c F hr hlk hT hK hL ls hl hP
  have hl : lv_has ls 3 [(0, .ref (x + 0)), (1, .int a1)] := hl
  refine lv_aload_n F.1 F.2.1 dL_oldest_0 rfl (lv_at hl 0 rfl) ?_
  refine lv_iload_n F.1 F.2.1 dL_oldest_1 rfl (lv_at hl 1 rfl) ?_
  refine h_V F hK hL hP (c_X4_oldest hlt a1 hf) (cwV 1 F.2.2.2.2 gB_oldest_X4_oldest rfl rfl rfl ⟨rfl, hd_X4_oldest⟩ ⟨(Nat.le_of_ble_eq_true rfl), (Nat.le_of_ble_eq_true rfl)⟩) rfl (rest := []) rfl hl.1 (Nat.le_of_ble_eq_true rfl) dL_oldest_2 ⟨(Nat.le_of_ble_eq_true rfl), (Nat.le_of_ble_eq_true rfl)⟩ (fun hk H locs hP hS => ?_) (fun hk H locs q9 ce hP hS h1 h2 h3 => ?_)
  · have hq := ifp hk hq
    obtain rfl := Option.some.inj hq
    refine lv_i2l (v := r.2.toInt64) F.1 F.2.1 dL_oldest_5 rfl ?_
    exact s_lret F hr hlk hP hS rfl (Nat.le_of_ble_eq_true rfl) (Nat.le_of_ble_eq_true rfl) dL_oldest_6
  · have hq := ifn hk hq
    by_cases z0 : r.1 = 3
    · have hq := ifp z0 hq
      obtain rfl := Option.some.inj hq
      rw [z0] at h3
      refine vx_catch (name := exN 3) F.2.2.2.1 [] ⟨0, 6, 7, 34⟩ [] (by rw [hT]; rfl) (fun _ h => nomatch h) (by decide) (by decide) (F.2.2.2.2 _ (List.mem_of_getElem? (i := 135) rfl)) (va_Nw.use rfl (hL.1.2.2.2.2.2.2.1 3)) h1 h2 h3 ?_
      refine lv_astore_n F.1 F.2.1 dL_oldest_7 rfl hl (Nat.le_of_ble_eq_true rfl) rfl (fun ls hl => ?_)
      refine lv_ldc2 (v := (-9000000000000000001 : Int64)) F.1 F.2.1 F.2.2.2.1 (F.2.2.2.2 _ (List.mem_of_getElem? (i := 136) rfl)) dL_oldest_8 ?_
      exact s_lret F hr hlk hP hS rfl (Nat.le_of_ble_eq_true rfl) (Nat.le_of_ble_eq_true rfl) dL_oldest_11
    have hq := ifn z0 hq
    cases hq

def rmL_site : Room := { frames := 8, cells := 1, slots := 6, locals := 189 }
theorem hd_L_site : yL_site.cls ≠ "java/lang/invoke/MethodHandle" ∧ yL_site.cls ≠ "java/lang/invoke/VarHandle" ∧ (parseMethodDescriptor yL_site.desc).map (fun d => d.parameters.length) = some 1 := by decide +kernel
set_option maxHeartbeats 8000000 in
set_option maxRecDepth 100000 in
theorem c_L_site {l : Launch} (hlt : l.stackTraces = false) {D : va_G} {x : Nat} {μ : Mem} {q : Int64 × Mem} (hq : f_L_site μ  = some q) : LC l yL_site wsB_site rmL_site 1 6 [.ref (x + 0)] D x μ (some (.long q.1)) q.2 := by
  unfold f_L_site at hq
  obtain ⟨r, hf, hq⟩ := bnd hq
  refine LC.ofH (cc := cL_site) (maxL := 2) (hh := [(0, 5, 6, 19)]) (by decide +kernel) rfl (Nat.le_of_ble_eq_true rfl) ?_
  intro p e s m args below meth c F hr hlk hT hK hL ls hl hP
  have hl : lv_has ls 2 [(0, .ref (x + 0))] := hl
  refine lv_aload_n F.1 F.2.1 dL_site_0 rfl (lv_at hl 0 rfl) ?_
  refine h_V F hK hL hP (c_X4_site hlt  hf) (cwV 0 F.2.2.2.2 gB_site_X4_site rfl rfl rfl ⟨rfl, hd_X4_site⟩ ⟨(Nat.le_of_ble_eq_true rfl), (Nat.le_of_ble_eq_true rfl)⟩) rfl (rest := []) rfl hl.1 (Nat.le_of_ble_eq_true rfl) dL_site_1 ⟨(Nat.le_of_ble_eq_true rfl), (Nat.le_of_ble_eq_true rfl)⟩ (fun hk H locs hP hS => ?_) (fun hk H locs q9 ce hP hS h1 h2 h3 => ?_)
  · have hq := ifp hk hq
    obtain rfl := Option.some.inj hq
    refine lv_i2l (v := r.2.1.toInt64) F.1 F.2.1 dL_site_4 rfl ?_
    exact s_lret F hr hlk hP hS rfl (Nat.le_of_ble_eq_true rfl) (Nat.le_of_ble_eq_true rfl) dL_site_5
  · have hq := ifn hk hq
    by_cases z0 : r.1 = 2
    · have hq := ifp z0 hq
      obtain rfl := Option.some.inj hq
      rw [z0] at h3
      refine vx_catch (name := exN 2) F.2.2.2.1 [] ⟨0, 5, 6, 19⟩ [] (by rw [hT]; rfl) (fun _ h => nomatch h) (by decide) (by decide) (F.2.2.2.2 _ (List.mem_of_getElem? (i := 465) rfl)) (va_Nw.use rfl (hL.1.2.2.2.2.2.2.1 2)) h1 h2 h3 ?_
      refine lv_astore_n F.1 F.2.1 dL_site_6 rfl hl (Nat.le_of_ble_eq_true rfl) rfl (fun ls hl => ?_)
      refine lv_ldc2 (v := (-9000000000000000003 : Int64)) F.1 F.2.1 F.2.2.2.1 (F.2.2.2.2 _ (List.mem_of_getElem? (i := 418) rfl)) dL_site_7 ?_
      exact s_lret F hr hlk hP hS rfl (Nat.le_of_ble_eq_true rfl) (Nat.le_of_ble_eq_true rfl) dL_site_10
    have hq := ifn z0 hq
    cases hq

def rmL_tube : Room := { frames := 8, cells := 1, slots := 6, locals := 191 }
theorem hd_L_tube : yL_tube.cls ≠ "java/lang/invoke/MethodHandle" ∧ yL_tube.cls ≠ "java/lang/invoke/VarHandle" ∧ (parseMethodDescriptor yL_tube.desc).map (fun d => d.parameters.length) = some 3 := by decide +kernel
set_option maxHeartbeats 8000000 in
set_option maxRecDepth 100000 in
theorem c_L_tube {l : Launch} (hlt : l.stackTraces = false) {D : va_G} {x : Nat} {μ : Mem} (a1 : Int32) (a2 : Int32) {q : Int64 × Mem} (hq : f_L_tube μ a1 a2 = some q) : LC l yL_tube wsB_tube rmL_tube 1 6 [.ref (x + 0), .int a1, .int a2] D x μ (some (.long q.1)) q.2 := by
  unfold f_L_tube at hq
  obtain ⟨r, hf, hq⟩ := bnd hq
  refine LC.ofH (cc := cL_tube) (maxL := 4) (hh := [(0, 7, 8, 34), (0, 7, 13, 15), (0, 7, 18, 19)]) (by decide +kernel) rfl (Nat.le_of_ble_eq_true rfl) ?_
  intro p e s m args below meth c F hr hlk hT hK hL ls hl hP
  have hl : lv_has ls 4 [(0, .ref (x + 0)), (1, .int a1), (2, .int a2)] := hl
  refine lv_aload_n F.1 F.2.1 dL_tube_0 rfl (lv_at hl 0 rfl) ?_
  refine lv_iload_n F.1 F.2.1 dL_tube_1 rfl (lv_at hl 1 rfl) ?_
  refine lv_iload_n F.1 F.2.1 dL_tube_2 rfl (lv_at hl 2 rfl) ?_
  refine h_V F hK hL hP (c_X4_tube hlt a1 a2 hf) (cwV 2 F.2.2.2.2 gB_tube_X4_tube rfl rfl rfl ⟨rfl, hd_X4_tube⟩ ⟨(Nat.le_of_ble_eq_true rfl), (Nat.le_of_ble_eq_true rfl)⟩) rfl (rest := []) rfl hl.1 (Nat.le_of_ble_eq_true rfl) dL_tube_3 ⟨(Nat.le_of_ble_eq_true rfl), (Nat.le_of_ble_eq_true rfl)⟩ (fun hk H locs hP hS => ?_) (fun hk H locs q9 ce hP hS h1 h2 h3 => ?_)
  · have hq := ifp hk hq
    obtain rfl := Option.some.inj hq
    refine lv_i2l (v := r.2.1.toInt64) F.1 F.2.1 dL_tube_6 rfl ?_
    exact s_lret F hr hlk hP hS rfl (Nat.le_of_ble_eq_true rfl) (Nat.le_of_ble_eq_true rfl) dL_tube_7
  · have hq := ifn hk hq
    by_cases z0 : r.1 = 3
    · have hq := ifp z0 hq
      obtain rfl := Option.some.inj hq
      rw [z0] at h3
      refine vx_catch (name := exN 3) F.2.2.2.1 [] ⟨0, 7, 8, 34⟩ [⟨0, 7, 13, 15⟩, ⟨0, 7, 18, 19⟩] (by rw [hT]; rfl) (fun _ h => nomatch h) (by decide) (by decide) (F.2.2.2.2 _ (List.mem_of_getElem? (i := 135) rfl)) (va_Nw.use rfl (hL.1.2.2.2.2.2.2.1 3)) h1 h2 h3 ?_
      refine lv_astore_n F.1 F.2.1 dL_tube_8 rfl hl (Nat.le_of_ble_eq_true rfl) rfl (fun ls hl => ?_)
      refine lv_ldc2 (v := (-9000000000000000001 : Int64)) F.1 F.2.1 F.2.2.2.1 (F.2.2.2.2 _ (List.mem_of_getElem? (i := 136) rfl)) dL_tube_9 ?_
      exact s_lret F hr hlk hP hS rfl (Nat.le_of_ble_eq_true rfl) (Nat.le_of_ble_eq_true rfl) dL_tube_12
    have hq := ifn z0 hq
    by_cases z1 : r.1 = 1
    · have hq := ifp z1 hq
      obtain rfl := Option.some.inj hq
      rw [z1] at h3
      refine vx_catch (name := exN 1) F.2.2.2.1 [⟨0, 7, 8, 34⟩] ⟨0, 7, 13, 15⟩ [⟨0, 7, 18, 19⟩] (by rw [hT]; rfl) (fun z9 hz9 => by simp only [List.mem_cons, List.not_mem_nil, or_false] at hz9; subst hz9; exact Or.inr ⟨by decide, _, F.2.2.2.2 _ (List.mem_of_getElem? (i := 135) rfl), hL.2 1 3 (by decide) (by decide) (by decide) (by decide) (by decide)⟩) (by decide) (by decide) (F.2.2.2.2 _ (List.mem_of_getElem? (i := 83) rfl)) (va_Nw.use rfl (hL.1.2.2.2.2.2.2.1 1)) h1 h2 h3 ?_
      refine lv_astore_n F.1 F.2.1 dL_tube_13 rfl hl (Nat.le_of_ble_eq_true rfl) rfl (fun ls hl => ?_)
      refine lv_ldc2 (v := (-9000000000000000002 : Int64)) F.1 F.2.1 F.2.2.2.1 (F.2.2.2.2 _ (List.mem_of_getElem? (i := 84) rfl)) dL_tube_14 ?_
      exact s_lret F hr hlk hP hS rfl (Nat.le_of_ble_eq_true rfl) (Nat.le_of_ble_eq_true rfl) dL_tube_17
    have hq := ifn z1 hq
    by_cases z2 : r.1 = 2
    · have hq := ifp z2 hq
      obtain rfl := Option.some.inj hq
      rw [z2] at h3
      refine vx_catch (name := exN 2) F.2.2.2.1 [⟨0, 7, 8, 34⟩, ⟨0, 7, 13, 15⟩] ⟨0, 7, 18, 19⟩ [] (by rw [hT]; rfl) (fun z9 hz9 => by simp only [List.mem_cons, List.not_mem_nil, or_false] at hz9; rcases hz9 with rfl | rfl; exact Or.inr ⟨by decide, _, F.2.2.2.2 _ (List.mem_of_getElem? (i := 135) rfl), hL.2 2 3 (by decide) (by decide) (by decide) (by decide) (by decide)⟩; exact Or.inr ⟨by decide, _, F.2.2.2.2 _ (List.mem_of_getElem? (i := 83) rfl), hL.2 2 1 (by decide) (by decide) (by decide) (by decide) (by decide)⟩) (by decide) (by decide) (F.2.2.2.2 _ (List.mem_of_getElem? (i := 465) rfl)) (va_Nw.use rfl (hL.1.2.2.2.2.2.2.1 2)) h1 h2 h3 ?_
      refine lv_astore_n F.1 F.2.1 dL_tube_18 rfl hl (Nat.le_of_ble_eq_true rfl) rfl (fun ls hl => ?_)
      refine lv_ldc2 (v := (-9000000000000000003 : Int64)) F.1 F.2.1 F.2.2.2.1 (F.2.2.2.2 _ (List.mem_of_getElem? (i := 418) rfl)) dL_tube_19 ?_
      exact s_lret F hr hlk hP hS rfl (Nat.le_of_ble_eq_true rfl) (Nat.le_of_ble_eq_true rfl) dL_tube_22
    have hq := ifn z2 hq
    cases hq

def rmL_pipe : Room := { frames := 8, cells := 1, slots := 6, locals := 191 }
theorem hd_L_pipe : yL_pipe.cls ≠ "java/lang/invoke/MethodHandle" ∧ yL_pipe.cls ≠ "java/lang/invoke/VarHandle" ∧ (parseMethodDescriptor yL_pipe.desc).map (fun d => d.parameters.length) = some 3 := by decide +kernel
set_option maxHeartbeats 8000000 in
set_option maxRecDepth 100000 in
theorem c_L_pipe {l : Launch} (hlt : l.stackTraces = false) {D : va_G} {x : Nat} {μ : Mem} (a1 : Int32) (a2 : Int32) {q : Int64 × Mem} (hq : f_L_pipe μ a1 a2 = some q) : LC l yL_pipe wsB_pipe rmL_pipe 1 6 [.ref (x + 0), .int a1, .int a2] D x μ (some (.long q.1)) q.2 := by
  unfold f_L_pipe at hq
  obtain ⟨r, hf, hq⟩ := bnd hq
  refine LC.ofH (cc := cL_pipe) (maxL := 4) (hh := [(0, 7, 8, 34), (0, 7, 13, 19)]) (by decide +kernel) rfl (Nat.le_of_ble_eq_true rfl) ?_
  intro p e s m args below meth c F hr hlk hT hK hL ls hl hP
  have hl : lv_has ls 4 [(0, .ref (x + 0)), (1, .int a1), (2, .int a2)] := hl
  refine lv_aload_n F.1 F.2.1 dL_pipe_0 rfl (lv_at hl 0 rfl) ?_
  refine lv_iload_n F.1 F.2.1 dL_pipe_1 rfl (lv_at hl 1 rfl) ?_
  refine lv_iload_n F.1 F.2.1 dL_pipe_2 rfl (lv_at hl 2 rfl) ?_
  refine h_V F hK hL hP (c_X4_pipe hlt a1 a2 hf) (cwV 2 F.2.2.2.2 gB_pipe_X4_pipe rfl rfl rfl ⟨rfl, hd_X4_pipe⟩ ⟨(Nat.le_of_ble_eq_true rfl), (Nat.le_of_ble_eq_true rfl)⟩) rfl (rest := []) rfl hl.1 (Nat.le_of_ble_eq_true rfl) dL_pipe_3 ⟨(Nat.le_of_ble_eq_true rfl), (Nat.le_of_ble_eq_true rfl)⟩ (fun hk H locs hP hS => ?_) (fun hk H locs q9 ce hP hS h1 h2 h3 => ?_)
  · have hq := ifp hk hq
    obtain rfl := Option.some.inj hq
    refine lv_i2l (v := r.2.1.toInt64) F.1 F.2.1 dL_pipe_6 rfl ?_
    exact s_lret F hr hlk hP hS rfl (Nat.le_of_ble_eq_true rfl) (Nat.le_of_ble_eq_true rfl) dL_pipe_7
  · have hq := ifn hk hq
    by_cases z0 : r.1 = 3
    · have hq := ifp z0 hq
      obtain rfl := Option.some.inj hq
      rw [z0] at h3
      refine vx_catch (name := exN 3) F.2.2.2.1 [] ⟨0, 7, 8, 34⟩ [⟨0, 7, 13, 19⟩] (by rw [hT]; rfl) (fun _ h => nomatch h) (by decide) (by decide) (F.2.2.2.2 _ (List.mem_of_getElem? (i := 135) rfl)) (va_Nw.use rfl (hL.1.2.2.2.2.2.2.1 3)) h1 h2 h3 ?_
      refine lv_astore_n F.1 F.2.1 dL_pipe_8 rfl hl (Nat.le_of_ble_eq_true rfl) rfl (fun ls hl => ?_)
      refine lv_ldc2 (v := (-9000000000000000001 : Int64)) F.1 F.2.1 F.2.2.2.1 (F.2.2.2.2 _ (List.mem_of_getElem? (i := 136) rfl)) dL_pipe_9 ?_
      exact s_lret F hr hlk hP hS rfl (Nat.le_of_ble_eq_true rfl) (Nat.le_of_ble_eq_true rfl) dL_pipe_12
    have hq := ifn z0 hq
    by_cases z1 : r.1 = 2
    · have hq := ifp z1 hq
      obtain rfl := Option.some.inj hq
      rw [z1] at h3
      refine vx_catch (name := exN 2) F.2.2.2.1 [⟨0, 7, 8, 34⟩] ⟨0, 7, 13, 19⟩ [] (by rw [hT]; rfl) (fun z9 hz9 => by simp only [List.mem_cons, List.not_mem_nil, or_false] at hz9; subst hz9; exact Or.inr ⟨by decide, _, F.2.2.2.2 _ (List.mem_of_getElem? (i := 135) rfl), hL.2 2 3 (by decide) (by decide) (by decide) (by decide) (by decide)⟩) (by decide) (by decide) (F.2.2.2.2 _ (List.mem_of_getElem? (i := 465) rfl)) (va_Nw.use rfl (hL.1.2.2.2.2.2.2.1 2)) h1 h2 h3 ?_
      refine lv_astore_n F.1 F.2.1 dL_pipe_13 rfl hl (Nat.le_of_ble_eq_true rfl) rfl (fun ls hl => ?_)
      refine lv_ldc2 (v := (-9000000000000000003 : Int64)) F.1 F.2.1 F.2.2.2.1 (F.2.2.2.2 _ (List.mem_of_getElem? (i := 418) rfl)) dL_pipe_14 ?_
      exact s_lret F hr hlk hP hS rfl (Nat.le_of_ble_eq_true rfl) (Nat.le_of_ble_eq_true rfl) dL_pipe_17
    have hq := ifn z1 hq
    cases hq

def rmL_fence : Room := { frames := 8, cells := 1, slots := 6, locals := 191 }
theorem hd_L_fence : yL_fence.cls ≠ "java/lang/invoke/MethodHandle" ∧ yL_fence.cls ≠ "java/lang/invoke/VarHandle" ∧ (parseMethodDescriptor yL_fence.desc).map (fun d => d.parameters.length) = some 3 := by decide +kernel
set_option maxHeartbeats 8000000 in
set_option maxRecDepth 100000 in
theorem c_L_fence {l : Launch} (hlt : l.stackTraces = false) {D : va_G} {x : Nat} {μ : Mem} (a1 : Int32) (a2 : Int32) {q : Int64 × Mem} (hq : f_L_fence μ a1 a2 = some q) : LC l yL_fence wsB_fence rmL_fence 1 6 [.ref (x + 0), .int a1, .int a2] D x μ (some (.long q.1)) q.2 := by
  unfold f_L_fence at hq
  obtain ⟨r, hf, hq⟩ := bnd hq
  refine LC.ofH (cc := cL_fence) (maxL := 4) (hh := [(0, 7, 8, 34), (0, 7, 13, 15)]) (by decide +kernel) rfl (Nat.le_of_ble_eq_true rfl) ?_
  intro p e s m args below meth c F hr hlk hT hK hL ls hl hP
  have hl : lv_has ls 4 [(0, .ref (x + 0)), (1, .int a1), (2, .int a2)] := hl
  refine lv_aload_n F.1 F.2.1 dL_fence_0 rfl (lv_at hl 0 rfl) ?_
  refine lv_iload_n F.1 F.2.1 dL_fence_1 rfl (lv_at hl 1 rfl) ?_
  refine lv_iload_n F.1 F.2.1 dL_fence_2 rfl (lv_at hl 2 rfl) ?_
  refine h_V F hK hL hP (c_X4_fence hlt a1 a2 hf) (cwV 2 F.2.2.2.2 gB_fence_X4_fence rfl rfl rfl ⟨rfl, hd_X4_fence⟩ ⟨(Nat.le_of_ble_eq_true rfl), (Nat.le_of_ble_eq_true rfl)⟩) rfl (rest := []) rfl hl.1 (Nat.le_of_ble_eq_true rfl) dL_fence_3 ⟨(Nat.le_of_ble_eq_true rfl), (Nat.le_of_ble_eq_true rfl)⟩ (fun hk H locs hP hS => ?_) (fun hk H locs q9 ce hP hS h1 h2 h3 => ?_)
  · have hq := ifp hk hq
    obtain rfl := Option.some.inj hq
    refine lv_i2l (v := r.2.1.toInt64) F.1 F.2.1 dL_fence_6 rfl ?_
    exact s_lret F hr hlk hP hS rfl (Nat.le_of_ble_eq_true rfl) (Nat.le_of_ble_eq_true rfl) dL_fence_7
  · have hq := ifn hk hq
    by_cases z0 : r.1 = 3
    · have hq := ifp z0 hq
      obtain rfl := Option.some.inj hq
      rw [z0] at h3
      refine vx_catch (name := exN 3) F.2.2.2.1 [] ⟨0, 7, 8, 34⟩ [⟨0, 7, 13, 15⟩] (by rw [hT]; rfl) (fun _ h => nomatch h) (by decide) (by decide) (F.2.2.2.2 _ (List.mem_of_getElem? (i := 135) rfl)) (va_Nw.use rfl (hL.1.2.2.2.2.2.2.1 3)) h1 h2 h3 ?_
      refine lv_astore_n F.1 F.2.1 dL_fence_8 rfl hl (Nat.le_of_ble_eq_true rfl) rfl (fun ls hl => ?_)
      refine lv_ldc2 (v := (-9000000000000000001 : Int64)) F.1 F.2.1 F.2.2.2.1 (F.2.2.2.2 _ (List.mem_of_getElem? (i := 136) rfl)) dL_fence_9 ?_
      exact s_lret F hr hlk hP hS rfl (Nat.le_of_ble_eq_true rfl) (Nat.le_of_ble_eq_true rfl) dL_fence_12
    have hq := ifn z0 hq
    by_cases z1 : r.1 = 1
    · have hq := ifp z1 hq
      obtain rfl := Option.some.inj hq
      rw [z1] at h3
      refine vx_catch (name := exN 1) F.2.2.2.1 [⟨0, 7, 8, 34⟩] ⟨0, 7, 13, 15⟩ [] (by rw [hT]; rfl) (fun z9 hz9 => by simp only [List.mem_cons, List.not_mem_nil, or_false] at hz9; subst hz9; exact Or.inr ⟨by decide, _, F.2.2.2.2 _ (List.mem_of_getElem? (i := 135) rfl), hL.2 1 3 (by decide) (by decide) (by decide) (by decide) (by decide)⟩) (by decide) (by decide) (F.2.2.2.2 _ (List.mem_of_getElem? (i := 83) rfl)) (va_Nw.use rfl (hL.1.2.2.2.2.2.2.1 1)) h1 h2 h3 ?_
      refine lv_astore_n F.1 F.2.1 dL_fence_13 rfl hl (Nat.le_of_ble_eq_true rfl) rfl (fun ls hl => ?_)
      refine lv_ldc2 (v := (-9000000000000000002 : Int64)) F.1 F.2.1 F.2.2.2.1 (F.2.2.2.2 _ (List.mem_of_getElem? (i := 84) rfl)) dL_fence_14 ?_
      exact s_lret F hr hlk hP hS rfl (Nat.le_of_ble_eq_true rfl) (Nat.le_of_ble_eq_true rfl) dL_fence_17
    have hq := ifn z1 hq
    cases hq

def rmL_shovel : Room := { frames := 8, cells := 1, slots := 6, locals := 190 }
theorem hd_L_shovel : yL_shovel.cls ≠ "java/lang/invoke/MethodHandle" ∧ yL_shovel.cls ≠ "java/lang/invoke/VarHandle" ∧ (parseMethodDescriptor yL_shovel.desc).map (fun d => d.parameters.length) = some 2 := by decide +kernel
set_option maxHeartbeats 8000000 in
set_option maxRecDepth 100000 in
theorem c_L_shovel {l : Launch} (hlt : l.stackTraces = false) {D : va_G} {x : Nat} {μ : Mem} (a1 : Int32) {q : Int64 × Mem} (hq : f_L_shovel μ a1 = some q) : LC l yL_shovel wsB_shovel rmL_shovel 1 6 [.ref (x + 0), .int a1] D x μ (some (.long q.1)) q.2 := by
  unfold f_L_shovel at hq
  obtain ⟨r, hf, hq⟩ := bnd hq
  refine LC.ofH (cc := cL_shovel) (maxL := 3) (hh := [(0, 6, 7, 34)]) (by decide +kernel) rfl (Nat.le_of_ble_eq_true rfl) ?_
  intro p e s m args below meth c F hr hlk hT hK hL ls hl hP
  have hl : lv_has ls 3 [(0, .ref (x + 0)), (1, .int a1)] := hl
  refine lv_aload_n F.1 F.2.1 dL_shovel_0 rfl (lv_at hl 0 rfl) ?_
  refine lv_iload_n F.1 F.2.1 dL_shovel_1 rfl (lv_at hl 1 rfl) ?_
  refine h_V F hK hL hP (c_X4_shovel hlt a1 hf) (cwV 1 F.2.2.2.2 gB_shovel_X4_shovel rfl rfl rfl ⟨rfl, hd_X4_shovel⟩ ⟨(Nat.le_of_ble_eq_true rfl), (Nat.le_of_ble_eq_true rfl)⟩) rfl (rest := []) rfl hl.1 (Nat.le_of_ble_eq_true rfl) dL_shovel_2 ⟨(Nat.le_of_ble_eq_true rfl), (Nat.le_of_ble_eq_true rfl)⟩ (fun hk H locs hP hS => ?_) (fun hk H locs q9 ce hP hS h1 h2 h3 => ?_)
  · have hq := ifp hk hq
    obtain rfl := Option.some.inj hq
    refine lv_i2l (v := r.2.1.toInt64) F.1 F.2.1 dL_shovel_5 rfl ?_
    exact s_lret F hr hlk hP hS rfl (Nat.le_of_ble_eq_true rfl) (Nat.le_of_ble_eq_true rfl) dL_shovel_6
  · have hq := ifn hk hq
    by_cases z0 : r.1 = 3
    · have hq := ifp z0 hq
      obtain rfl := Option.some.inj hq
      rw [z0] at h3
      refine vx_catch (name := exN 3) F.2.2.2.1 [] ⟨0, 6, 7, 34⟩ [] (by rw [hT]; rfl) (fun _ h => nomatch h) (by decide) (by decide) (F.2.2.2.2 _ (List.mem_of_getElem? (i := 135) rfl)) (va_Nw.use rfl (hL.1.2.2.2.2.2.2.1 3)) h1 h2 h3 ?_
      refine lv_astore_n F.1 F.2.1 dL_shovel_7 rfl hl (Nat.le_of_ble_eq_true rfl) rfl (fun ls hl => ?_)
      refine lv_ldc2 (v := (-9000000000000000001 : Int64)) F.1 F.2.1 F.2.2.2.1 (F.2.2.2.2 _ (List.mem_of_getElem? (i := 136) rfl)) dL_shovel_8 ?_
      exact s_lret F hr hlk hP hS rfl (Nat.le_of_ble_eq_true rfl) (Nat.le_of_ble_eq_true rfl) dL_shovel_11
    have hq := ifn z0 hq
    cases hq

def rmL_days : Room := { frames := 8, cells := 1, slots := 6, locals := 192 }
theorem hd_L_days : yL_days.cls ≠ "java/lang/invoke/MethodHandle" ∧ yL_days.cls ≠ "java/lang/invoke/VarHandle" ∧ (parseMethodDescriptor yL_days.desc).map (fun d => d.parameters.length) = some 4 := by decide +kernel
set_option maxHeartbeats 8000000 in
set_option maxRecDepth 100000 in
theorem c_L_days {l : Launch} (hlt : l.stackTraces = false) {D : va_G} {x : Nat} {μ : Mem} (a1 : Int32) (a2 : Int32) (a3 : Int32) {q : Int64 × Mem} (hq : f_L_days μ a1 a2 a3 = some q) : LC l yL_days wsB_days rmL_days 1 6 [.ref (x + 0), .int a1, .int a2, .int a3] D x μ (some (.long q.1)) q.2 := by
  unfold f_L_days at hq
  obtain ⟨r, hf, hq⟩ := bnd hq
  refine LC.ofH (cc := cL_days) (maxL := 5) (hh := [(0, 8, 9, 15), (0, 8, 15, 19)]) (by decide +kernel) rfl (Nat.le_of_ble_eq_true rfl) ?_
  intro p e s m args below meth c F hr hlk hT hK hL ls hl hP
  have hl : lv_has ls 5 [(0, .ref (x + 0)), (1, .int a1), (2, .int a2), (3, .int a3)] := hl
  refine lv_aload_n F.1 F.2.1 dL_days_0 rfl (lv_at hl 0 rfl) ?_
  refine lv_iload_n F.1 F.2.1 dL_days_1 rfl (lv_at hl 1 rfl) ?_
  refine lv_iload_n F.1 F.2.1 dL_days_2 rfl (lv_at hl 2 rfl) ?_
  refine lv_iload_n F.1 F.2.1 dL_days_3 rfl (lv_at hl 3 rfl) ?_
  refine h_V F hK hL hP (c_X4_days hlt a1 a2 a3 hf) (cwV 3 F.2.2.2.2 gB_days_X4_days rfl rfl rfl ⟨rfl, hd_X4_days⟩ ⟨(Nat.le_of_ble_eq_true rfl), (Nat.le_of_ble_eq_true rfl)⟩) rfl (rest := []) rfl hl.1 (Nat.le_of_ble_eq_true rfl) dL_days_4 ⟨(Nat.le_of_ble_eq_true rfl), (Nat.le_of_ble_eq_true rfl)⟩ (fun hk H locs hP hS => ?_) (fun hk H locs q9 ce hP hS h1 h2 h3 => ?_)
  · have hq := ifp hk hq
    obtain rfl := Option.some.inj hq
    refine lv_i2l (v := r.2.1.toInt64) F.1 F.2.1 dL_days_7 rfl ?_
    exact s_lret F hr hlk hP hS rfl (Nat.le_of_ble_eq_true rfl) (Nat.le_of_ble_eq_true rfl) dL_days_8
  · have hq := ifn hk hq
    by_cases z0 : r.1 = 1
    · have hq := ifp z0 hq
      obtain rfl := Option.some.inj hq
      rw [z0] at h3
      refine vx_catch (name := exN 1) F.2.2.2.1 [] ⟨0, 8, 9, 15⟩ [⟨0, 8, 15, 19⟩] (by rw [hT]; rfl) (fun _ h => nomatch h) (by decide) (by decide) (F.2.2.2.2 _ (List.mem_of_getElem? (i := 83) rfl)) (va_Nw.use rfl (hL.1.2.2.2.2.2.2.1 1)) h1 h2 h3 ?_
      refine lv_astore F.1 F.2.1 dL_days_9 hl (Nat.le_of_ble_eq_true rfl) rfl (fun ls hl => ?_)
      refine lv_ldc2 (v := (-9000000000000000002 : Int64)) F.1 F.2.1 F.2.2.2.1 (F.2.2.2.2 _ (List.mem_of_getElem? (i := 84) rfl)) dL_days_11 ?_
      exact s_lret F hr hlk hP hS rfl (Nat.le_of_ble_eq_true rfl) (Nat.le_of_ble_eq_true rfl) dL_days_14
    have hq := ifn z0 hq
    by_cases z1 : r.1 = 2
    · have hq := ifp z1 hq
      obtain rfl := Option.some.inj hq
      rw [z1] at h3
      refine vx_catch (name := exN 2) F.2.2.2.1 [⟨0, 8, 9, 15⟩] ⟨0, 8, 15, 19⟩ [] (by rw [hT]; rfl) (fun z9 hz9 => by simp only [List.mem_cons, List.not_mem_nil, or_false] at hz9; subst hz9; exact Or.inr ⟨by decide, _, F.2.2.2.2 _ (List.mem_of_getElem? (i := 83) rfl), hL.2 2 1 (by decide) (by decide) (by decide) (by decide) (by decide)⟩) (by decide) (by decide) (F.2.2.2.2 _ (List.mem_of_getElem? (i := 465) rfl)) (va_Nw.use rfl (hL.1.2.2.2.2.2.2.1 2)) h1 h2 h3 ?_
      refine lv_astore F.1 F.2.1 dL_days_15 hl (Nat.le_of_ble_eq_true rfl) rfl (fun ls hl => ?_)
      refine lv_ldc2 (v := (-9000000000000000003 : Int64)) F.1 F.2.1 F.2.2.2.1 (F.2.2.2.2 _ (List.mem_of_getElem? (i := 418) rfl)) dL_days_17 ?_
      exact s_lret F hr hlk hP hS rfl (Nat.le_of_ble_eq_true rfl) (Nat.le_of_ble_eq_true rfl) dL_days_20
    have hq := ifn z1 hq
    cases hq

def rmL_set : Room := { frames := 8, cells := 1, slots := 6, locals := 191 }
theorem hd_L_set : yL_set.cls ≠ "java/lang/invoke/MethodHandle" ∧ yL_set.cls ≠ "java/lang/invoke/VarHandle" ∧ (parseMethodDescriptor yL_set.desc).map (fun d => d.parameters.length) = some 3 := by decide +kernel
set_option maxHeartbeats 8000000 in
set_option maxRecDepth 100000 in
theorem c_L_set {l : Launch} (hlt : l.stackTraces = false) {D : va_G} {x : Nat} {μ : Mem} (a1 : Int32) (a2 : Int32) {q : Int64 × Mem} (hq : f_L_set μ a1 a2 = some q) : LC l yL_set wsB_set rmL_set 1 6 [.ref (x + 0), .int a1, .int a2] D x μ (some (.long q.1)) q.2 := by
  unfold f_L_set at hq
  obtain ⟨r, hf, hq⟩ := bnd hq
  refine LC.ofH (cc := cL_set) (maxL := 4) (hh := [(0, 7, 8, 15)]) (by decide +kernel) rfl (Nat.le_of_ble_eq_true rfl) ?_
  intro p e s m args below meth c F hr hlk hT hK hL ls hl hP
  have hl : lv_has ls 4 [(0, .ref (x + 0)), (1, .int a1), (2, .int a2)] := hl
  refine lv_aload_n F.1 F.2.1 dL_set_0 rfl (lv_at hl 0 rfl) ?_
  refine lv_iload_n F.1 F.2.1 dL_set_1 rfl (lv_at hl 1 rfl) ?_
  refine lv_iload_n F.1 F.2.1 dL_set_2 rfl (lv_at hl 2 rfl) ?_
  refine h_V F hK hL hP (c_X4_set hlt a1 a2 hf) (cwV 2 F.2.2.2.2 gB_set_X4_set rfl rfl rfl ⟨rfl, hd_X4_set⟩ ⟨(Nat.le_of_ble_eq_true rfl), (Nat.le_of_ble_eq_true rfl)⟩) rfl (rest := []) rfl hl.1 (Nat.le_of_ble_eq_true rfl) dL_set_3 ⟨(Nat.le_of_ble_eq_true rfl), (Nat.le_of_ble_eq_true rfl)⟩ (fun hk H locs hP hS => ?_) (fun hk H locs q9 ce hP hS h1 h2 h3 => ?_)
  · have hq := ifp hk hq
    obtain rfl := Option.some.inj hq
    refine lv_i2l (v := r.2.1.toInt64) F.1 F.2.1 dL_set_6 rfl ?_
    exact s_lret F hr hlk hP hS rfl (Nat.le_of_ble_eq_true rfl) (Nat.le_of_ble_eq_true rfl) dL_set_7
  · have hq := ifn hk hq
    by_cases z0 : r.1 = 1
    · have hq := ifp z0 hq
      obtain rfl := Option.some.inj hq
      rw [z0] at h3
      refine vx_catch (name := exN 1) F.2.2.2.1 [] ⟨0, 7, 8, 15⟩ [] (by rw [hT]; rfl) (fun _ h => nomatch h) (by decide) (by decide) (F.2.2.2.2 _ (List.mem_of_getElem? (i := 83) rfl)) (va_Nw.use rfl (hL.1.2.2.2.2.2.2.1 1)) h1 h2 h3 ?_
      refine lv_astore_n F.1 F.2.1 dL_set_8 rfl hl (Nat.le_of_ble_eq_true rfl) rfl (fun ls hl => ?_)
      refine lv_ldc2 (v := (-9000000000000000002 : Int64)) F.1 F.2.1 F.2.2.2.1 (F.2.2.2.2 _ (List.mem_of_getElem? (i := 84) rfl)) dL_set_9 ?_
      exact s_lret F hr hlk hP hS rfl (Nat.le_of_ble_eq_true rfl) (Nat.le_of_ble_eq_true rfl) dL_set_12
    have hq := ifn z0 hq
    cases hq

def rmL_undo : Room := { frames := 7, cells := 1, slots := 6, locals := 164 }
theorem hd_L_undo : yL_undo.cls ≠ "java/lang/invoke/MethodHandle" ∧ yL_undo.cls ≠ "java/lang/invoke/VarHandle" ∧ (parseMethodDescriptor yL_undo.desc).map (fun d => d.parameters.length) = some 1 := by decide +kernel
set_option maxHeartbeats 8000000 in
set_option maxRecDepth 100000 in
theorem c_L_undo {l : Launch} (hlt : l.stackTraces = false) {D : va_G} {x : Nat} {μ : Mem} {q : Int64 × Mem} (hq : f_L_undo μ  = some q) : LC l yL_undo wsB_undo rmL_undo 1 6 [.ref (x + 0)] D x μ (some (.long q.1)) q.2 := by
  unfold f_L_undo at hq
  obtain ⟨r, hf, hq⟩ := bnd hq
  refine LC.ofH (cc := cL_undo) (maxL := 2) (hh := [(0, 5, 6, 19)]) (by decide +kernel) rfl (Nat.le_of_ble_eq_true rfl) ?_
  intro p e s m args below meth c F hr hlk hT hK hL ls hl hP
  have hl : lv_has ls 2 [(0, .ref (x + 0))] := hl
  refine lv_aload_n F.1 F.2.1 dL_undo_0 rfl (lv_at hl 0 rfl) ?_
  refine h_V F hK hL hP (c_X4_undo hlt  hf) (cwV 0 F.2.2.2.2 gB_undo_X4_undo rfl rfl rfl ⟨rfl, hd_X4_undo⟩ ⟨(Nat.le_of_ble_eq_true rfl), (Nat.le_of_ble_eq_true rfl)⟩) rfl (rest := []) rfl hl.1 (Nat.le_of_ble_eq_true rfl) dL_undo_1 ⟨(Nat.le_of_ble_eq_true rfl), (Nat.le_of_ble_eq_true rfl)⟩ (fun hk H locs hP hS => ?_) (fun hk H locs q9 ce hP hS h1 h2 h3 => ?_)
  · have hq := ifp hk hq
    obtain rfl := Option.some.inj hq
    refine lv_i2l (v := r.2.1.toInt64) F.1 F.2.1 dL_undo_4 rfl ?_
    exact s_lret F hr hlk hP hS rfl (Nat.le_of_ble_eq_true rfl) (Nat.le_of_ble_eq_true rfl) dL_undo_5
  · have hq := ifn hk hq
    by_cases z0 : r.1 = 2
    · have hq := ifp z0 hq
      obtain rfl := Option.some.inj hq
      rw [z0] at h3
      refine vx_catch (name := exN 2) F.2.2.2.1 [] ⟨0, 5, 6, 19⟩ [] (by rw [hT]; rfl) (fun _ h => nomatch h) (by decide) (by decide) (F.2.2.2.2 _ (List.mem_of_getElem? (i := 465) rfl)) (va_Nw.use rfl (hL.1.2.2.2.2.2.2.1 2)) h1 h2 h3 ?_
      refine lv_astore_n F.1 F.2.1 dL_undo_6 rfl hl (Nat.le_of_ble_eq_true rfl) rfl (fun ls hl => ?_)
      refine lv_ldc2 (v := (-9000000000000000003 : Int64)) F.1 F.2.1 F.2.2.2.1 (F.2.2.2.2 _ (List.mem_of_getElem? (i := 418) rfl)) dL_undo_7 ?_
      exact s_lret F hr hlk hP hS rfl (Nat.le_of_ble_eq_true rfl) (Nat.le_of_ble_eq_true rfl) dL_undo_10
    have hq := ifn z0 hq
    cases hq

def rmL_goneIn : Room := { frames := 8, cells := 2, slots := 12, locals := 147 }
theorem hd_L_goneIn : yL_goneIn.cls ≠ "java/lang/invoke/MethodHandle" ∧ yL_goneIn.cls ≠ "java/lang/invoke/VarHandle" ∧ (parseMethodDescriptor yL_goneIn.desc).map (fun d => d.parameters.length) = some 3 := by decide +kernel
set_option maxHeartbeats 8000000 in
set_option maxRecDepth 100000 in
theorem c_L_goneIn {l : Launch} (hlt : l.stackTraces = false) {D : va_G} {x : Nat} {μ : Mem} (a1 : Int32) (a2 : Int32) {q : Int64 × Mem} (hq : f_L_goneIn μ a1 a2 = some q) : LC l yL_goneIn wsB_goneIn rmL_goneIn 2 12 [.ref (x + 0), .int a1, .int a2] D x μ (some (.long q.1)) q.2 := by
  unfold f_L_goneIn at hq
  obtain ⟨r, hf, hq⟩ := bnd hq
  refine LC.ofH (cc := cL_goneIn) (maxL := 4) (hh := [(0, 7, 8, 34), (0, 7, 13, 15)]) (by decide +kernel) rfl (Nat.le_of_ble_eq_true rfl) ?_
  intro p e s m args below meth c F hr hlk hT hK hL ls hl hP
  have hl : lv_has ls 4 [(0, .ref (x + 0)), (1, .int a1), (2, .int a2)] := hl
  refine lv_aload_n F.1 F.2.1 dL_goneIn_0 rfl (lv_at hl 0 rfl) ?_
  refine lv_iload_n F.1 F.2.1 dL_goneIn_1 rfl (lv_at hl 1 rfl) ?_
  refine lv_iload_n F.1 F.2.1 dL_goneIn_2 rfl (lv_at hl 2 rfl) ?_
  refine h_V F hK hL hP (c_X4_goneIn hlt a1 a2 hf) (cwV 2 F.2.2.2.2 gB_goneIn_X4_goneIn rfl rfl rfl ⟨rfl, hd_X4_goneIn⟩ ⟨(Nat.le_of_ble_eq_true rfl), (Nat.le_of_ble_eq_true rfl)⟩) rfl (rest := []) rfl hl.1 (Nat.le_of_ble_eq_true rfl) dL_goneIn_3 ⟨(Nat.le_of_ble_eq_true rfl), (Nat.le_of_ble_eq_true rfl)⟩ (fun hk H locs hP hS => ?_) (fun hk H locs q9 ce hP hS h1 h2 h3 => ?_)
  · have hq := ifp hk hq
    obtain rfl := Option.some.inj hq
    refine lv_i2l (v := r.2.1.toInt64) F.1 F.2.1 dL_goneIn_6 rfl ?_
    exact s_lret F hr hlk hP hS rfl (Nat.le_of_ble_eq_true rfl) (Nat.le_of_ble_eq_true rfl) dL_goneIn_7
  · have hq := ifn hk hq
    by_cases z0 : r.1 = 3
    · have hq := ifp z0 hq
      obtain rfl := Option.some.inj hq
      rw [z0] at h3
      refine vx_catch (name := exN 3) F.2.2.2.1 [] ⟨0, 7, 8, 34⟩ [⟨0, 7, 13, 15⟩] (by rw [hT]; rfl) (fun _ h => nomatch h) (by decide) (by decide) (F.2.2.2.2 _ (List.mem_of_getElem? (i := 135) rfl)) (va_Nw.use rfl (hL.1.2.2.2.2.2.2.1 3)) h1 h2 h3 ?_
      refine lv_astore_n F.1 F.2.1 dL_goneIn_8 rfl hl (Nat.le_of_ble_eq_true rfl) rfl (fun ls hl => ?_)
      refine lv_ldc2 (v := (-9000000000000000001 : Int64)) F.1 F.2.1 F.2.2.2.1 (F.2.2.2.2 _ (List.mem_of_getElem? (i := 136) rfl)) dL_goneIn_9 ?_
      exact s_lret F hr hlk hP hS rfl (Nat.le_of_ble_eq_true rfl) (Nat.le_of_ble_eq_true rfl) dL_goneIn_12
    have hq := ifn z0 hq
    by_cases z1 : r.1 = 1
    · have hq := ifp z1 hq
      obtain rfl := Option.some.inj hq
      rw [z1] at h3
      refine vx_catch (name := exN 1) F.2.2.2.1 [⟨0, 7, 8, 34⟩] ⟨0, 7, 13, 15⟩ [] (by rw [hT]; rfl) (fun z9 hz9 => by simp only [List.mem_cons, List.not_mem_nil, or_false] at hz9; subst hz9; exact Or.inr ⟨by decide, _, F.2.2.2.2 _ (List.mem_of_getElem? (i := 135) rfl), hL.2 1 3 (by decide) (by decide) (by decide) (by decide) (by decide)⟩) (by decide) (by decide) (F.2.2.2.2 _ (List.mem_of_getElem? (i := 83) rfl)) (va_Nw.use rfl (hL.1.2.2.2.2.2.2.1 1)) h1 h2 h3 ?_
      refine lv_astore_n F.1 F.2.1 dL_goneIn_13 rfl hl (Nat.le_of_ble_eq_true rfl) rfl (fun ls hl => ?_)
      refine lv_ldc2 (v := (-9000000000000000002 : Int64)) F.1 F.2.1 F.2.2.2.1 (F.2.2.2.2 _ (List.mem_of_getElem? (i := 84) rfl)) dL_goneIn_14 ?_
      exact s_lret F hr hlk hP hS rfl (Nat.le_of_ble_eq_true rfl) (Nat.le_of_ble_eq_true rfl) dL_goneIn_17
    have hq := ifn z1 hq
    cases hq

def rmL_reachedIn : Room := { frames := 8, cells := 3, slots := 18, locals := 148 }
theorem hd_L_reachedIn : yL_reachedIn.cls ≠ "java/lang/invoke/MethodHandle" ∧ yL_reachedIn.cls ≠ "java/lang/invoke/VarHandle" ∧ (parseMethodDescriptor yL_reachedIn.desc).map (fun d => d.parameters.length) = some 4 := by decide +kernel
set_option maxHeartbeats 8000000 in
set_option maxRecDepth 100000 in
theorem c_L_reachedIn {l : Launch} (hlt : l.stackTraces = false) {D : va_G} {x : Nat} {μ : Mem} (a1 : Int32) (a2 : Int32) (a3 : Int32) {q : Int64 × Mem} (hq : f_L_reachedIn μ a1 a2 a3 = some q) : LC l yL_reachedIn wsB_reachedIn rmL_reachedIn 3 18 [.ref (x + 0), .int a1, .int a2, .int a3] D x μ (some (.long q.1)) q.2 := by
  unfold f_L_reachedIn at hq
  obtain ⟨r, hf, hq⟩ := bnd hq
  refine LC.ofH (cc := cL_reachedIn) (maxL := 5) (hh := [(0, 8, 9, 34), (0, 8, 15, 15)]) (by decide +kernel) rfl (Nat.le_of_ble_eq_true rfl) ?_
  intro p e s m args below meth c F hr hlk hT hK hL ls hl hP
  have hl : lv_has ls 5 [(0, .ref (x + 0)), (1, .int a1), (2, .int a2), (3, .int a3)] := hl
  refine lv_aload_n F.1 F.2.1 dL_reachedIn_0 rfl (lv_at hl 0 rfl) ?_
  refine lv_iload_n F.1 F.2.1 dL_reachedIn_1 rfl (lv_at hl 1 rfl) ?_
  refine lv_iload_n F.1 F.2.1 dL_reachedIn_2 rfl (lv_at hl 2 rfl) ?_
  refine lv_iload_n F.1 F.2.1 dL_reachedIn_3 rfl (lv_at hl 3 rfl) ?_
  refine h_V F hK hL hP (c_X4_reachedIn hlt a1 a2 a3 hf) (cwV 3 F.2.2.2.2 gB_reachedIn_X4_reachedIn rfl rfl rfl ⟨rfl, hd_X4_reachedIn⟩ ⟨(Nat.le_of_ble_eq_true rfl), (Nat.le_of_ble_eq_true rfl)⟩) rfl (rest := []) rfl hl.1 (Nat.le_of_ble_eq_true rfl) dL_reachedIn_4 ⟨(Nat.le_of_ble_eq_true rfl), (Nat.le_of_ble_eq_true rfl)⟩ (fun hk H locs hP hS => ?_) (fun hk H locs q9 ce hP hS h1 h2 h3 => ?_)
  · have hq := ifp hk hq
    obtain rfl := Option.some.inj hq
    refine lv_i2l (v := r.2.1.toInt64) F.1 F.2.1 dL_reachedIn_7 rfl ?_
    exact s_lret F hr hlk hP hS rfl (Nat.le_of_ble_eq_true rfl) (Nat.le_of_ble_eq_true rfl) dL_reachedIn_8
  · have hq := ifn hk hq
    by_cases z0 : r.1 = 3
    · have hq := ifp z0 hq
      obtain rfl := Option.some.inj hq
      rw [z0] at h3
      refine vx_catch (name := exN 3) F.2.2.2.1 [] ⟨0, 8, 9, 34⟩ [⟨0, 8, 15, 15⟩] (by rw [hT]; rfl) (fun _ h => nomatch h) (by decide) (by decide) (F.2.2.2.2 _ (List.mem_of_getElem? (i := 135) rfl)) (va_Nw.use rfl (hL.1.2.2.2.2.2.2.1 3)) h1 h2 h3 ?_
      refine lv_astore F.1 F.2.1 dL_reachedIn_9 hl (Nat.le_of_ble_eq_true rfl) rfl (fun ls hl => ?_)
      refine lv_ldc2 (v := (-9000000000000000001 : Int64)) F.1 F.2.1 F.2.2.2.1 (F.2.2.2.2 _ (List.mem_of_getElem? (i := 136) rfl)) dL_reachedIn_11 ?_
      exact s_lret F hr hlk hP hS rfl (Nat.le_of_ble_eq_true rfl) (Nat.le_of_ble_eq_true rfl) dL_reachedIn_14
    have hq := ifn z0 hq
    by_cases z1 : r.1 = 1
    · have hq := ifp z1 hq
      obtain rfl := Option.some.inj hq
      rw [z1] at h3
      refine vx_catch (name := exN 1) F.2.2.2.1 [⟨0, 8, 9, 34⟩] ⟨0, 8, 15, 15⟩ [] (by rw [hT]; rfl) (fun z9 hz9 => by simp only [List.mem_cons, List.not_mem_nil, or_false] at hz9; subst hz9; exact Or.inr ⟨by decide, _, F.2.2.2.2 _ (List.mem_of_getElem? (i := 135) rfl), hL.2 1 3 (by decide) (by decide) (by decide) (by decide) (by decide)⟩) (by decide) (by decide) (F.2.2.2.2 _ (List.mem_of_getElem? (i := 83) rfl)) (va_Nw.use rfl (hL.1.2.2.2.2.2.2.1 1)) h1 h2 h3 ?_
      refine lv_astore F.1 F.2.1 dL_reachedIn_15 hl (Nat.le_of_ble_eq_true rfl) rfl (fun ls hl => ?_)
      refine lv_ldc2 (v := (-9000000000000000002 : Int64)) F.1 F.2.1 F.2.2.2.1 (F.2.2.2.2 _ (List.mem_of_getElem? (i := 84) rfl)) dL_reachedIn_17 ?_
      exact s_lret F hr hlk hP hS rfl (Nat.le_of_ble_eq_true rfl) (Nat.le_of_ble_eq_true rfl) dL_reachedIn_20
    have hq := ifn z1 hq
    cases hq

def rmL_bestFence : Room := { frames := 8, cells := 4, slots := 24, locals := 151 }
theorem hd_L_bestFence : yL_bestFence.cls ≠ "java/lang/invoke/MethodHandle" ∧ yL_bestFence.cls ≠ "java/lang/invoke/VarHandle" ∧ (parseMethodDescriptor yL_bestFence.desc).map (fun d => d.parameters.length) = some 5 := by decide +kernel
set_option maxHeartbeats 8000000 in
set_option maxRecDepth 100000 in
theorem c_L_bestFence {l : Launch} (hlt : l.stackTraces = false) {D : va_G} {x : Nat} {μ : Mem} (a1 : Int32) (a2 : Int32) (a3 : Int32) (a4 : Int32) {q : Int64 × Mem} (hq : f_L_bestFence μ a1 a2 a3 a4 = some q) : LC l yL_bestFence wsB_bestFence rmL_bestFence 4 24 [.ref (x + 0), .int a1, .int a2, .int a3, .int a4] D x μ (some (.long q.1)) q.2 := by
  unfold f_L_bestFence at hq
  obtain ⟨r, hf, hq⟩ := bnd hq
  refine LC.ofH (cc := cL_bestFence) (maxL := 6) (hh := [(0, 10, 11, 34), (0, 10, 17, 15)]) (by decide +kernel) rfl (Nat.le_of_ble_eq_true rfl) ?_
  intro p e s m args below meth c F hr hlk hT hK hL ls hl hP
  have hl : lv_has ls 6 [(0, .ref (x + 0)), (1, .int a1), (2, .int a2), (3, .int a3), (4, .int a4)] := hl
  refine lv_aload_n F.1 F.2.1 dL_bestFence_0 rfl (lv_at hl 0 rfl) ?_
  refine lv_iload_n F.1 F.2.1 dL_bestFence_1 rfl (lv_at hl 1 rfl) ?_
  refine lv_iload_n F.1 F.2.1 dL_bestFence_2 rfl (lv_at hl 2 rfl) ?_
  refine lv_iload_n F.1 F.2.1 dL_bestFence_3 rfl (lv_at hl 3 rfl) ?_
  refine lv_iload F.1 F.2.1 dL_bestFence_4 (lv_at hl 4 rfl) ?_
  refine h_V F hK hL hP (c_X4_bestFence hlt a1 a2 a3 a4 hf) (cwV 4 F.2.2.2.2 gB_bestFence_X4_bestFence rfl rfl rfl ⟨rfl, hd_X4_bestFence⟩ ⟨(Nat.le_of_ble_eq_true rfl), (Nat.le_of_ble_eq_true rfl)⟩) rfl (rest := []) rfl hl.1 (Nat.le_of_ble_eq_true rfl) dL_bestFence_6 ⟨(Nat.le_of_ble_eq_true rfl), (Nat.le_of_ble_eq_true rfl)⟩ (fun hk H locs hP hS => ?_) (fun hk H locs q9 ce hP hS h1 h2 h3 => ?_)
  · have hq := ifp hk hq
    obtain rfl := Option.some.inj hq
    refine lv_i2l (v := r.2.1.toInt64) F.1 F.2.1 dL_bestFence_9 rfl ?_
    exact s_lret F hr hlk hP hS rfl (Nat.le_of_ble_eq_true rfl) (Nat.le_of_ble_eq_true rfl) dL_bestFence_10
  · have hq := ifn hk hq
    by_cases z0 : r.1 = 3
    · have hq := ifp z0 hq
      obtain rfl := Option.some.inj hq
      rw [z0] at h3
      refine vx_catch (name := exN 3) F.2.2.2.1 [] ⟨0, 10, 11, 34⟩ [⟨0, 10, 17, 15⟩] (by rw [hT]; rfl) (fun _ h => nomatch h) (by decide) (by decide) (F.2.2.2.2 _ (List.mem_of_getElem? (i := 135) rfl)) (va_Nw.use rfl (hL.1.2.2.2.2.2.2.1 3)) h1 h2 h3 ?_
      refine lv_astore F.1 F.2.1 dL_bestFence_11 hl (Nat.le_of_ble_eq_true rfl) rfl (fun ls hl => ?_)
      refine lv_ldc2 (v := (-9000000000000000001 : Int64)) F.1 F.2.1 F.2.2.2.1 (F.2.2.2.2 _ (List.mem_of_getElem? (i := 136) rfl)) dL_bestFence_13 ?_
      exact s_lret F hr hlk hP hS rfl (Nat.le_of_ble_eq_true rfl) (Nat.le_of_ble_eq_true rfl) dL_bestFence_16
    have hq := ifn z0 hq
    by_cases z1 : r.1 = 1
    · have hq := ifp z1 hq
      obtain rfl := Option.some.inj hq
      rw [z1] at h3
      refine vx_catch (name := exN 1) F.2.2.2.1 [⟨0, 10, 11, 34⟩] ⟨0, 10, 17, 15⟩ [] (by rw [hT]; rfl) (fun z9 hz9 => by simp only [List.mem_cons, List.not_mem_nil, or_false] at hz9; subst hz9; exact Or.inr ⟨by decide, _, F.2.2.2.2 _ (List.mem_of_getElem? (i := 135) rfl), hL.2 1 3 (by decide) (by decide) (by decide) (by decide) (by decide)⟩) (by decide) (by decide) (F.2.2.2.2 _ (List.mem_of_getElem? (i := 83) rfl)) (va_Nw.use rfl (hL.1.2.2.2.2.2.2.1 1)) h1 h2 h3 ?_
      refine lv_astore F.1 F.2.1 dL_bestFence_17 hl (Nat.le_of_ble_eq_true rfl) rfl (fun ls hl => ?_)
      refine lv_ldc2 (v := (-9000000000000000002 : Int64)) F.1 F.2.1 F.2.2.2.1 (F.2.2.2.2 _ (List.mem_of_getElem? (i := 84) rfl)) dL_bestFence_19 ?_
      exact s_lret F hr hlk hP hS rfl (Nat.le_of_ble_eq_true rfl) (Nat.le_of_ble_eq_true rfl) dL_bestFence_22
    have hq := ifn z1 hq
    cases hq

def rmL_heaveIn : Room := { frames := 8, cells := 3, slots := 18, locals := 146 }
theorem hd_L_heaveIn : yL_heaveIn.cls ≠ "java/lang/invoke/MethodHandle" ∧ yL_heaveIn.cls ≠ "java/lang/invoke/VarHandle" ∧ (parseMethodDescriptor yL_heaveIn.desc).map (fun d => d.parameters.length) = some 4 := by decide +kernel
set_option maxHeartbeats 8000000 in
set_option maxRecDepth 100000 in
theorem c_L_heaveIn {l : Launch} (hlt : l.stackTraces = false) {D : va_G} {x : Nat} {μ : Mem} (a1 : Int32) (a2 : Int32) (a3 : Int32) {q : Int64 × Mem} (hq : f_L_heaveIn μ a1 a2 a3 = some q) : LC l yL_heaveIn wsB_heaveIn rmL_heaveIn 3 18 [.ref (x + 0), .int a1, .int a2, .int a3] D x μ (some (.long q.1)) q.2 := by
  unfold f_L_heaveIn at hq
  obtain ⟨r, hf, hq⟩ := bnd hq
  refine LC.ofH (cc := cL_heaveIn) (maxL := 5) (hh := [(0, 8, 9, 34), (0, 8, 15, 15)]) (by decide +kernel) rfl (Nat.le_of_ble_eq_true rfl) ?_
  intro p e s m args below meth c F hr hlk hT hK hL ls hl hP
  have hl : lv_has ls 5 [(0, .ref (x + 0)), (1, .int a1), (2, .int a2), (3, .int a3)] := hl
  refine lv_aload_n F.1 F.2.1 dL_heaveIn_0 rfl (lv_at hl 0 rfl) ?_
  refine lv_iload_n F.1 F.2.1 dL_heaveIn_1 rfl (lv_at hl 1 rfl) ?_
  refine lv_iload_n F.1 F.2.1 dL_heaveIn_2 rfl (lv_at hl 2 rfl) ?_
  refine lv_iload_n F.1 F.2.1 dL_heaveIn_3 rfl (lv_at hl 3 rfl) ?_
  refine h_V F hK hL hP (c_X4_heaveIn hlt a1 a2 a3 hf) (cwV 3 F.2.2.2.2 gB_heaveIn_X4_heaveIn rfl rfl rfl ⟨rfl, hd_X4_heaveIn⟩ ⟨(Nat.le_of_ble_eq_true rfl), (Nat.le_of_ble_eq_true rfl)⟩) rfl (rest := []) rfl hl.1 (Nat.le_of_ble_eq_true rfl) dL_heaveIn_4 ⟨(Nat.le_of_ble_eq_true rfl), (Nat.le_of_ble_eq_true rfl)⟩ (fun hk H locs hP hS => ?_) (fun hk H locs q9 ce hP hS h1 h2 h3 => ?_)
  · have hq := ifp hk hq
    obtain rfl := Option.some.inj hq
    refine lv_i2l (v := r.2.1.toInt64) F.1 F.2.1 dL_heaveIn_7 rfl ?_
    exact s_lret F hr hlk hP hS rfl (Nat.le_of_ble_eq_true rfl) (Nat.le_of_ble_eq_true rfl) dL_heaveIn_8
  · have hq := ifn hk hq
    by_cases z0 : r.1 = 3
    · have hq := ifp z0 hq
      obtain rfl := Option.some.inj hq
      rw [z0] at h3
      refine vx_catch (name := exN 3) F.2.2.2.1 [] ⟨0, 8, 9, 34⟩ [⟨0, 8, 15, 15⟩] (by rw [hT]; rfl) (fun _ h => nomatch h) (by decide) (by decide) (F.2.2.2.2 _ (List.mem_of_getElem? (i := 135) rfl)) (va_Nw.use rfl (hL.1.2.2.2.2.2.2.1 3)) h1 h2 h3 ?_
      refine lv_astore F.1 F.2.1 dL_heaveIn_9 hl (Nat.le_of_ble_eq_true rfl) rfl (fun ls hl => ?_)
      refine lv_ldc2 (v := (-9000000000000000001 : Int64)) F.1 F.2.1 F.2.2.2.1 (F.2.2.2.2 _ (List.mem_of_getElem? (i := 136) rfl)) dL_heaveIn_11 ?_
      exact s_lret F hr hlk hP hS rfl (Nat.le_of_ble_eq_true rfl) (Nat.le_of_ble_eq_true rfl) dL_heaveIn_14
    have hq := ifn z0 hq
    by_cases z1 : r.1 = 1
    · have hq := ifp z1 hq
      obtain rfl := Option.some.inj hq
      rw [z1] at h3
      refine vx_catch (name := exN 1) F.2.2.2.1 [⟨0, 8, 9, 34⟩] ⟨0, 8, 15, 15⟩ [] (by rw [hT]; rfl) (fun z9 hz9 => by simp only [List.mem_cons, List.not_mem_nil, or_false] at hz9; subst hz9; exact Or.inr ⟨by decide, _, F.2.2.2.2 _ (List.mem_of_getElem? (i := 135) rfl), hL.2 1 3 (by decide) (by decide) (by decide) (by decide) (by decide)⟩) (by decide) (by decide) (F.2.2.2.2 _ (List.mem_of_getElem? (i := 83) rfl)) (va_Nw.use rfl (hL.1.2.2.2.2.2.2.1 1)) h1 h2 h3 ?_
      refine lv_astore F.1 F.2.1 dL_heaveIn_15 hl (Nat.le_of_ble_eq_true rfl) rfl (fun ls hl => ?_)
      refine lv_ldc2 (v := (-9000000000000000002 : Int64)) F.1 F.2.1 F.2.2.2.1 (F.2.2.2.2 _ (List.mem_of_getElem? (i := 84) rfl)) dL_heaveIn_17 ?_
      exact s_lret F hr hlk hP hS rfl (Nat.le_of_ble_eq_true rfl) (Nat.le_of_ble_eq_true rfl) dL_heaveIn_20
    have hq := ifn z1 hq
    cases hq

def rmL_script : Room := { frames := 8, cells := 2, slots := 12, locals := 172 }
theorem hd_L_script : yL_script.cls ≠ "java/lang/invoke/MethodHandle" ∧ yL_script.cls ≠ "java/lang/invoke/VarHandle" ∧ (parseMethodDescriptor yL_script.desc).map (fun d => d.parameters.length) = some 3 := by decide +kernel
set_option maxHeartbeats 8000000 in
set_option maxRecDepth 100000 in
theorem c_L_script {l : Launch} (hlt : l.stackTraces = false) {D : va_G} {x : Nat} {μ : Mem} (a1 : Int32) (a2 : Int64) {q : Int64 × Mem} (hq : f_L_script μ a1 a2 = some q) : LC l yL_script wsB_script rmL_script 2 12 [.ref (x + 0), .int a1, .long a2] D x μ (some (.long q.1)) q.2 := by
  unfold f_L_script at hq
  obtain ⟨r, hf, hq⟩ := bnd hq
  refine LC.ofH (cc := cL_script) (maxL := 5) (hh := [(0, 7, 8, 15)]) (by decide +kernel) rfl (Nat.le_of_ble_eq_true rfl) ?_
  intro p e s m args below meth c F hr hlk hT hK hL ls hl hP
  have hl : lv_has ls 5 [(0, .ref (x + 0)), (1, .int a1), (2, .long a2)] := hl
  refine lv_aload_n F.1 F.2.1 dL_script_0 rfl (lv_at hl 0 rfl) ?_
  refine lv_iload_n F.1 F.2.1 dL_script_1 rfl (lv_at hl 1 rfl) ?_
  refine lv_lload_n F.1 F.2.1 dL_script_2 rfl (lv_at hl 2 rfl) ?_
  refine h_V F hK hL hP (c_X4_runScript hlt a1 a2 hf) (cwV 2 F.2.2.2.2 gB_script_X4_runScript rfl rfl rfl ⟨rfl, hd_X4_runScript⟩ ⟨(Nat.le_of_ble_eq_true rfl), (Nat.le_of_ble_eq_true rfl)⟩) rfl (rest := []) rfl hl.1 (Nat.le_of_ble_eq_true rfl) dL_script_3 ⟨(Nat.le_of_ble_eq_true rfl), (Nat.le_of_ble_eq_true rfl)⟩ (fun hk H locs hP hS => ?_) (fun hk H locs q9 ce hP hS h1 h2 h3 => ?_)
  · have hq := ifp hk hq
    obtain rfl := Option.some.inj hq
    refine lv_i2l (v := r.2.1.toInt64) F.1 F.2.1 dL_script_6 rfl ?_
    exact s_lret F hr hlk hP hS rfl (Nat.le_of_ble_eq_true rfl) (Nat.le_of_ble_eq_true rfl) dL_script_7
  · have hq := ifn hk hq
    by_cases z0 : r.1 = 1
    · have hq := ifp z0 hq
      obtain rfl := Option.some.inj hq
      rw [z0] at h3
      refine vx_catch (name := exN 1) F.2.2.2.1 [] ⟨0, 7, 8, 15⟩ [] (by rw [hT]; rfl) (fun _ h => nomatch h) (by decide) (by decide) (F.2.2.2.2 _ (List.mem_of_getElem? (i := 83) rfl)) (va_Nw.use rfl (hL.1.2.2.2.2.2.2.1 1)) h1 h2 h3 ?_
      refine lv_astore F.1 F.2.1 dL_script_8 hl (Nat.le_of_ble_eq_true rfl) rfl (fun ls hl => ?_)
      refine lv_ldc2 (v := (-9000000000000000002 : Int64)) F.1 F.2.1 F.2.2.2.1 (F.2.2.2.2 _ (List.mem_of_getElem? (i := 84) rfl)) dL_script_10 ?_
      exact s_lret F hr hlk hP hS rfl (Nat.le_of_ble_eq_true rfl) (Nat.le_of_ble_eq_true rfl) dL_script_13
    have hq := ifn z0 hq
    cases hq

def rmL_simulate : Room := { frames := 8, cells := 1, slots := 6, locals := 167 }
theorem hd_L_simulate : yL_simulate.cls ≠ "java/lang/invoke/MethodHandle" ∧ yL_simulate.cls ≠ "java/lang/invoke/VarHandle" ∧ (parseMethodDescriptor yL_simulate.desc).map (fun d => d.parameters.length) = some 3 := by decide +kernel
set_option maxHeartbeats 8000000 in
set_option maxRecDepth 100000 in
theorem c_L_simulate {l : Launch} (hlt : l.stackTraces = false) {D : va_G} {x : Nat} {μ : Mem} (a1 : Int64) (a3 : Int32) {q : Int64 × Mem} (hq : f_L_simulate μ a1 a3 = some q) : LC l yL_simulate wsB_simulate rmL_simulate 1 6 [.ref (x + 0), .long a1, .int a3] D x μ (some (.long q.1)) q.2 := by
  unfold f_L_simulate at hq
  obtain ⟨r, hf, hq⟩ := bnd hq
  refine LC.ofH (cc := cL_simulate) (maxL := 5) (hh := [(0, 7, 8, 15)]) (by decide +kernel) rfl (Nat.le_of_ble_eq_true rfl) ?_
  intro p e s m args below meth c F hr hlk hT hK hL ls hl hP
  have hl : lv_has ls 5 [(0, .ref (x + 0)), (1, .long a1), (3, .int a3)] := hl
  refine lv_aload_n F.1 F.2.1 dL_simulate_0 rfl (lv_at hl 0 rfl) ?_
  refine lv_lload_n F.1 F.2.1 dL_simulate_1 rfl (lv_at hl 1 rfl) ?_
  refine lv_iload_n F.1 F.2.1 dL_simulate_2 rfl (lv_at hl 2 rfl) ?_
  refine h_V F hK hL hP (c_X4_simulate hlt a1 a3 hf) (cwV 2 F.2.2.2.2 gB_simulate_X4_simulate rfl rfl rfl ⟨rfl, hd_X4_simulate⟩ ⟨(Nat.le_of_ble_eq_true rfl), (Nat.le_of_ble_eq_true rfl)⟩) rfl (rest := []) rfl hl.1 (Nat.le_of_ble_eq_true rfl) dL_simulate_3 ⟨(Nat.le_of_ble_eq_true rfl), (Nat.le_of_ble_eq_true rfl)⟩ (fun hk H locs hP hS => ?_) (fun hk H locs q9 ce hP hS h1 h2 h3 => ?_)
  · have hq := ifp hk hq
    obtain rfl := Option.some.inj hq
    refine lv_i2l (v := r.2.1.toInt64) F.1 F.2.1 dL_simulate_6 rfl ?_
    exact s_lret F hr hlk hP hS rfl (Nat.le_of_ble_eq_true rfl) (Nat.le_of_ble_eq_true rfl) dL_simulate_7
  · have hq := ifn hk hq
    by_cases z0 : r.1 = 1
    · have hq := ifp z0 hq
      obtain rfl := Option.some.inj hq
      rw [z0] at h3
      refine vx_catch (name := exN 1) F.2.2.2.1 [] ⟨0, 7, 8, 15⟩ [] (by rw [hT]; rfl) (fun _ h => nomatch h) (by decide) (by decide) (F.2.2.2.2 _ (List.mem_of_getElem? (i := 83) rfl)) (va_Nw.use rfl (hL.1.2.2.2.2.2.2.1 1)) h1 h2 h3 ?_
      refine lv_astore F.1 F.2.1 dL_simulate_8 hl (Nat.le_of_ble_eq_true rfl) rfl (fun ls hl => ?_)
      refine lv_ldc2 (v := (-9000000000000000002 : Int64)) F.1 F.2.1 F.2.2.2.1 (F.2.2.2.2 _ (List.mem_of_getElem? (i := 84) rfl)) dL_simulate_10 ?_
      exact s_lret F hr hlk hP hS rfl (Nat.le_of_ble_eq_true rfl) (Nat.le_of_ble_eq_true rfl) dL_simulate_13
    have hq := ifn z0 hq
    cases hq

def rmL_save : Room := { frames := 8, cells := 1, slots := 6, locals := 144 }
theorem hd_L_save : yL_save.cls ≠ "java/lang/invoke/MethodHandle" ∧ yL_save.cls ≠ "java/lang/invoke/VarHandle" ∧ (parseMethodDescriptor yL_save.desc).map (fun d => d.parameters.length) = some 2 := by decide +kernel
set_option maxHeartbeats 8000000 in
set_option maxRecDepth 100000 in
theorem c_L_save {l : Launch} (hlt : l.stackTraces = false) {D : va_G} {x : Nat} {μ : Mem} (a1 : Int32) {q : Int64 × Mem} (hq : f_L_save μ a1 = some q) : LC l yL_save wsB_save rmL_save 1 6 [.ref (x + 0), .int a1] D x μ (some (.long q.1)) q.2 := by
  unfold f_L_save at hq
  obtain ⟨r, hf, hq⟩ := bnd hq
  refine LC.ofH (cc := cL_save) (maxL := 3) (hh := [(0, 6, 7, 34)]) (by decide +kernel) rfl (Nat.le_of_ble_eq_true rfl) ?_
  intro p e s m args below meth c F hr hlk hT hK hL ls hl hP
  have hl : lv_has ls 3 [(0, .ref (x + 0)), (1, .int a1)] := hl
  refine lv_aload_n F.1 F.2.1 dL_save_0 rfl (lv_at hl 0 rfl) ?_
  refine lv_iload_n F.1 F.2.1 dL_save_1 rfl (lv_at hl 1 rfl) ?_
  refine h_V F hK hL hP (c_X4_save hlt a1 hf) (cwV 1 F.2.2.2.2 gB_save_X4_save rfl rfl rfl ⟨rfl, hd_X4_save⟩ ⟨(Nat.le_of_ble_eq_true rfl), (Nat.le_of_ble_eq_true rfl)⟩) rfl (rest := []) rfl hl.1 (Nat.le_of_ble_eq_true rfl) dL_save_2 ⟨(Nat.le_of_ble_eq_true rfl), (Nat.le_of_ble_eq_true rfl)⟩ (fun hk H locs hP hS => ?_) (fun hk H locs q9 ce hP hS h1 h2 h3 => ?_)
  · have hq := ifp hk hq
    obtain rfl := Option.some.inj hq
    refine lv_i2l (v := r.2.1.toInt64) F.1 F.2.1 dL_save_5 rfl ?_
    exact s_lret F hr hlk hP hS rfl (Nat.le_of_ble_eq_true rfl) (Nat.le_of_ble_eq_true rfl) dL_save_6
  · have hq := ifn hk hq
    by_cases z0 : r.1 = 3
    · have hq := ifp z0 hq
      obtain rfl := Option.some.inj hq
      rw [z0] at h3
      refine vx_catch (name := exN 3) F.2.2.2.1 [] ⟨0, 6, 7, 34⟩ [] (by rw [hT]; rfl) (fun _ h => nomatch h) (by decide) (by decide) (F.2.2.2.2 _ (List.mem_of_getElem? (i := 135) rfl)) (va_Nw.use rfl (hL.1.2.2.2.2.2.2.1 3)) h1 h2 h3 ?_
      refine lv_astore_n F.1 F.2.1 dL_save_7 rfl hl (Nat.le_of_ble_eq_true rfl) rfl (fun ls hl => ?_)
      refine lv_ldc2 (v := (-9000000000000000001 : Int64)) F.1 F.2.1 F.2.2.2.1 (F.2.2.2.2 _ (List.mem_of_getElem? (i := 136) rfl)) dL_save_8 ?_
      exact s_lret F hr hlk hP hS rfl (Nat.le_of_ble_eq_true rfl) (Nat.le_of_ble_eq_true rfl) dL_save_11
    have hq := ifn z0 hq
    cases hq

def rmL_restore : Room := { frames := 8, cells := 2, slots := 12, locals := 144 }
theorem hd_L_restore : yL_restore.cls ≠ "java/lang/invoke/MethodHandle" ∧ yL_restore.cls ≠ "java/lang/invoke/VarHandle" ∧ (parseMethodDescriptor yL_restore.desc).map (fun d => d.parameters.length) = some 2 := by decide +kernel
set_option maxHeartbeats 8000000 in
set_option maxRecDepth 100000 in
theorem c_L_restore {l : Launch} (hlt : l.stackTraces = false) {D : va_G} {x : Nat} {μ : Mem} (a1 : Int32) {q : Int64 × Mem} (hq : f_L_restore μ a1 = some q) : LC l yL_restore wsB_restore rmL_restore 2 12 [.ref (x + 0), .int a1] D x μ (some (.long q.1)) q.2 := by
  unfold f_L_restore at hq
  obtain ⟨r, hf, hq⟩ := bnd hq
  refine LC.ofH (cc := cL_restore) (maxL := 3) (hh := [(0, 6, 7, 34), (0, 6, 12, 19)]) (by decide +kernel) rfl (Nat.le_of_ble_eq_true rfl) ?_
  intro p e s m args below meth c F hr hlk hT hK hL ls hl hP
  have hl : lv_has ls 3 [(0, .ref (x + 0)), (1, .int a1)] := hl
  refine lv_aload_n F.1 F.2.1 dL_restore_0 rfl (lv_at hl 0 rfl) ?_
  refine lv_iload_n F.1 F.2.1 dL_restore_1 rfl (lv_at hl 1 rfl) ?_
  refine h_V F hK hL hP (c_X4_restore hlt a1 hf) (cwV 1 F.2.2.2.2 gB_restore_X4_restore rfl rfl rfl ⟨rfl, hd_X4_restore⟩ ⟨(Nat.le_of_ble_eq_true rfl), (Nat.le_of_ble_eq_true rfl)⟩) rfl (rest := []) rfl hl.1 (Nat.le_of_ble_eq_true rfl) dL_restore_2 ⟨(Nat.le_of_ble_eq_true rfl), (Nat.le_of_ble_eq_true rfl)⟩ (fun hk H locs hP hS => ?_) (fun hk H locs q9 ce hP hS h1 h2 h3 => ?_)
  · have hq := ifp hk hq
    obtain rfl := Option.some.inj hq
    refine lv_i2l (v := r.2.1.toInt64) F.1 F.2.1 dL_restore_5 rfl ?_
    exact s_lret F hr hlk hP hS rfl (Nat.le_of_ble_eq_true rfl) (Nat.le_of_ble_eq_true rfl) dL_restore_6
  · have hq := ifn hk hq
    by_cases z0 : r.1 = 3
    · have hq := ifp z0 hq
      obtain rfl := Option.some.inj hq
      rw [z0] at h3
      refine vx_catch (name := exN 3) F.2.2.2.1 [] ⟨0, 6, 7, 34⟩ [⟨0, 6, 12, 19⟩] (by rw [hT]; rfl) (fun _ h => nomatch h) (by decide) (by decide) (F.2.2.2.2 _ (List.mem_of_getElem? (i := 135) rfl)) (va_Nw.use rfl (hL.1.2.2.2.2.2.2.1 3)) h1 h2 h3 ?_
      refine lv_astore_n F.1 F.2.1 dL_restore_7 rfl hl (Nat.le_of_ble_eq_true rfl) rfl (fun ls hl => ?_)
      refine lv_ldc2 (v := (-9000000000000000001 : Int64)) F.1 F.2.1 F.2.2.2.1 (F.2.2.2.2 _ (List.mem_of_getElem? (i := 136) rfl)) dL_restore_8 ?_
      exact s_lret F hr hlk hP hS rfl (Nat.le_of_ble_eq_true rfl) (Nat.le_of_ble_eq_true rfl) dL_restore_11
    have hq := ifn z0 hq
    by_cases z1 : r.1 = 2
    · have hq := ifp z1 hq
      obtain rfl := Option.some.inj hq
      rw [z1] at h3
      refine vx_catch (name := exN 2) F.2.2.2.1 [⟨0, 6, 7, 34⟩] ⟨0, 6, 12, 19⟩ [] (by rw [hT]; rfl) (fun z9 hz9 => by simp only [List.mem_cons, List.not_mem_nil, or_false] at hz9; subst hz9; exact Or.inr ⟨by decide, _, F.2.2.2.2 _ (List.mem_of_getElem? (i := 135) rfl), hL.2 2 3 (by decide) (by decide) (by decide) (by decide) (by decide)⟩) (by decide) (by decide) (F.2.2.2.2 _ (List.mem_of_getElem? (i := 465) rfl)) (va_Nw.use rfl (hL.1.2.2.2.2.2.2.1 2)) h1 h2 h3 ?_
      refine lv_astore_n F.1 F.2.1 dL_restore_12 rfl hl (Nat.le_of_ble_eq_true rfl) rfl (fun ls hl => ?_)
      refine lv_ldc2 (v := (-9000000000000000003 : Int64)) F.1 F.2.1 F.2.2.2.1 (F.2.2.2.2 _ (List.mem_of_getElem? (i := 418) rfl)) dL_restore_13 ?_
      exact s_lret F hr hlk hP hS rfl (Nat.le_of_ble_eq_true rfl) (Nat.le_of_ble_eq_true rfl) dL_restore_16
    have hq := ifn z1 hq
    cases hq
