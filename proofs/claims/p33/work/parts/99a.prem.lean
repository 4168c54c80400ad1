/-! what the statement gives of the start: the statics, the texts, the exceptions' classes -/
set_option maxRecDepth 20000 in
theorem tw_nl : Cond.fieldLinkNest RX0 128 "FrostTubes" "LEAST_SETTING" "[I" "FrostTubes" ∈ lw_tbl := tb_in 372 (by decide +kernel)
set_option maxRecDepth 20000 in
theorem tw_nm : Cond.fieldLinkNest RX0 131 "FrostTubes" "MOST_SETTING" "[I" "FrostTubes" ∈ lw_tbl := tb_in 374 (by decide +kernel)
set_option maxRecDepth 20000 in
theorem tw_ll : Cond.laysStatic "FrostTubes" "LEAST_SETTING" "[I" ∈ lw_tbl := tb_in 373 (by decide +kernel)
set_option maxRecDepth 20000 in
theorem tw_lm : Cond.laysStatic "FrostTubes" "MOST_SETTING" "[I" ∈ lw_tbl := tb_in 375 (by decide +kernel)
set_option maxRecDepth 20000 in
theorem tw_i4 : Cond.initialized "FrostTubes" ∈ lw_tbl := tb_in 1 (by decide +kernel)
set_option maxRecDepth 20000 in
theorem tw_it : Cond.initialized "java/lang/Throwable" ∈ lw_tbl := tb_in 7 (by decide +kernel)
set_option maxRecDepth 20000 in
theorem tw_lu : Cond.laysStatic "java/lang/Throwable" "UNASSIGNED_STACK" "[Ljava/lang/StackTraceElement;" ∈ lw_tbl := tb_in 276 (by decide +kernel)
set_option maxRecDepth 20000 in
theorem tw_lp : Cond.laysStatic "java/lang/Throwable" "SUPPRESSED_SENTINEL" "Ljava/util/List;" ∈ lw_tbl := tb_in 278 (by decide +kernel)
set_option maxRecDepth 20000 in
theorem tw_c1 : Cond.castable "java/lang/IllegalArgumentException" "java/lang/IllegalArgumentException" ∈ lw_tbl := tb_in 501 (by decide +kernel)
set_option maxRecDepth 20000 in
theorem tw_c2 : Cond.castable "java/lang/IllegalStateException" "java/lang/IllegalStateException" ∈ lw_tbl := tb_in 251 (by decide +kernel)
set_option maxRecDepth 20000 in
theorem tw_c3 : Cond.castable "java/lang/IndexOutOfBoundsException" "java/lang/IndexOutOfBoundsException" ∈ lw_tbl := tb_in 457 (by decide +kernel)
set_option maxRecDepth 20000 in
theorem tw_d0 : Cond.declares ⟨"java/lang/Throwable", "<init>", "(Ljava/lang/String;)V"⟩ ∈ lw_tbl := tb_in 257 (by decide +kernel)
set_option maxRecDepth 20000 in
theorem tw_d1 : Cond.declares ⟨"java/lang/RuntimeException", "<init>", "(Ljava/lang/String;)V"⟩ ∈ lw_tbl := tb_in 253 (by decide +kernel)
set_option maxRecDepth 20000 in
theorem tw_d2 : Cond.declares ⟨"java/lang/Exception", "<init>", "(Ljava/lang/String;)V"⟩ ∈ lw_tbl := tb_in 255 (by decide +kernel)
set_option maxRecDepth 20000 in
theorem tw_s235 : Cond.stringRef "FrostTubes" 235 "no such site or cell" ∈ lw_tbl := tb_in 656 (by decide +kernel)
set_option maxRecDepth 20000 in
theorem tw_s237 : Cond.stringRef "FrostTubes" 237 "an argument is out of its range" ∈ lw_tbl := tb_in 508 (by decide +kernel)
set_option maxRecDepth 20000 in
theorem tw_s239 : Cond.stringRef "FrostTubes" 239 "not possible now" ∈ lw_tbl := tb_in 657 (by decide +kernel)
set_option maxRecDepth 20000 in
theorem tw_s54 : Cond.stringRef "FrostTubes" 54 "the text is full" ∈ lw_tbl := tb_in 793 (by decide +kernel)
set_option maxRecDepth 20000 in
theorem tw_s67 : Cond.stringRef "FrostTubes" 67 "the text is not a winter" ∈ lw_tbl := tb_in 290 (by decide +kernel)
set_option maxRecDepth 20000 in
theorem tw_s251 : Cond.stringRef "FrostTubes" 251 "no such site" ∈ lw_tbl := tb_in 548 (by decide +kernel)
set_option maxRecDepth 20000 in
theorem tw_s244 : Cond.stringRef "FrostTubes" 244 "no such cell" ∈ lw_tbl := tb_in 566 (by decide +kernel)
set_option maxRecDepth 20000 in
theorem tw_s128 : Cond.stringRef "FrostTubes" 128 "no such layer" ∈ lw_tbl := tb_in 611 (by decide +kernel)
set_option maxRecDepth 20000 in
theorem tw_s138 : Cond.stringRef "FrostTubes" 138 "no such tube" ∈ lw_tbl := tb_in 574 (by decide +kernel)
set_option maxRecDepth 20000 in
theorem tw_s256 : Cond.stringRef "FrostTubes" 256 "no such pipe" ∈ lw_tbl := tb_in 595 (by decide +kernel)
set_option maxRecDepth 20000 in
theorem tw_s158 : Cond.stringRef "FrostTubes" 158 "not so many frozen cells" ∈ lw_tbl := tb_in 713 (by decide +kernel)
set_option maxRecDepth 20000 in
theorem tw_s169 : Cond.stringRef "FrostTubes" 169 "nothing is remembered" ∈ lw_tbl := tb_in 823 (by decide +kernel)
set_option maxRecDepth 20000 in
theorem tw_s204 : Cond.stringRef "FrostTubes" 204 "not a script of so many commands" ∈ lw_tbl := tb_in 762 (by decide +kernel)
set_option maxRecDepth 20000 in
theorem tw_s246 : Cond.stringRef "FrostTubes" 246 "no such save slot" ∈ lw_tbl := tb_in 464 (by decide +kernel)
set_option maxRecDepth 20000 in
theorem tw_s230 : Cond.stringRef "FrostTubes" 230 "nothing is saved there" ∈ lw_tbl := tb_in 479 (by decide +kernel)
set_option maxRecDepth 20000 in
theorem tw_ai : Cond.arrayClass .int ∈ lw_tbl := tb_in 59 (by decide +kernel)
set_option maxRecDepth 20000 in
theorem tw_az : Cond.arrayClass .boolean ∈ lw_tbl := tb_in 197 (by decide +kernel)
set_option maxRecDepth 20000 in
theorem tw_ag : Cond.arrayOver (.object "FrostTubes$Ground") ∈ lw_tbl := tb_in 162 (by decide +kernel)
set_option maxRecDepth 20000 in
theorem tw_as : Cond.arrayOver (.object "FrostTubes$Site") ∈ lw_tbl := tb_in 67 (by decide +kernel)
set_option maxRecDepth 20000 in
theorem tw_n3 : Cond.methodLinkNest "FrostTubes" 9 ⟨"FrostTubes$Text", "<init>", "()V"⟩ "FrostTubes" ∈ lw_tbl := tb_in 25 (by decide +kernel)
section PR
variable {args : Array Value} {s : State}
theorem pr_al (h : (Jvm.Cond.and given_1 narrow_1).before args s = true) : (Cond.arrayOf (.static "FrostTubes" "LEAST_SETTING" "[I") .int).before args s = true := flat_of_before _ h _ (by decide +kernel)
theorem pr_nl (h : (Jvm.Cond.and given_1 narrow_1).before args s = true) : (Cond.eq (.length (.static "FrostTubes" "LEAST_SETTING" "[I")) (.int 3)).before args s = true := flat_of_before _ h _ (by decide +kernel)
theorem pr_el0 (h : (Jvm.Cond.and given_1 narrow_1).before args s = true) : (Cond.eq (.elem (.static "FrostTubes" "LEAST_SETTING" "[I") (.int 0)) (.int 0)).before args s = true := flat_of_before _ h _ (by decide +kernel)
theorem pr_el1 (h : (Jvm.Cond.and given_1 narrow_1).before args s = true) : (Cond.eq (.elem (.static "FrostTubes" "LEAST_SETTING" "[I") (.int 1)) (.int 1)).before args s = true := flat_of_before _ h _ (by decide +kernel)
theorem pr_el2 (h : (Jvm.Cond.and given_1 narrow_1).before args s = true) : (Cond.eq (.elem (.static "FrostTubes" "LEAST_SETTING" "[I") (.int 2)) (.int 0)).before args s = true := flat_of_before _ h _ (by decide +kernel)
theorem pr_am (h : (Jvm.Cond.and given_1 narrow_1).before args s = true) : (Cond.arrayOf (.static "FrostTubes" "MOST_SETTING" "[I") .int).before args s = true := flat_of_before _ h _ (by decide +kernel)
theorem pr_nm (h : (Jvm.Cond.and given_1 narrow_1).before args s = true) : (Cond.eq (.length (.static "FrostTubes" "MOST_SETTING" "[I")) (.int 3)).before args s = true := flat_of_before _ h _ (by decide +kernel)
theorem pr_em0 (h : (Jvm.Cond.and given_1 narrow_1).before args s = true) : (Cond.eq (.elem (.static "FrostTubes" "MOST_SETTING" "[I") (.int 0)) (.int 30)).before args s = true := flat_of_before _ h _ (by decide +kernel)
theorem pr_em1 (h : (Jvm.Cond.and given_1 narrow_1).before args s = true) : (Cond.eq (.elem (.static "FrostTubes" "MOST_SETTING" "[I") (.int 1)) (.int 9)).before args s = true := flat_of_before _ h _ (by decide +kernel)
theorem pr_em2 (h : (Jvm.Cond.and given_1 narrow_1).before args s = true) : (Cond.eq (.elem (.static "FrostTubes" "MOST_SETTING" "[I") (.int 2)) (.int 50)).before args s = true := flat_of_before _ h _ (by decide +kernel)
theorem pr_u (h : (Jvm.Cond.and given_1 narrow_1).before args s = true) : (Cond.isRef (.static "java/lang/Throwable" "UNASSIGNED_STACK" "[Ljava/lang/StackTraceElement;")).before args s = true := flat_of_before _ h _ (by decide +kernel)
theorem pr_p (h : (Jvm.Cond.and given_1 narrow_1).before args s = true) : (Cond.isRef (.static "java/lang/Throwable" "SUPPRESSED_SENTINEL" "Ljava/util/List;")).before args s = true := flat_of_before _ h _ (by decide +kernel)
theorem pr_x235 (h : (Jvm.Cond.and given_1 narrow_1).before args s = true) : (Cond.exactly (.string "FrostTubes" 235) "java/lang/String").before args s = true := flat_of_before _ h _ (by decide +kernel)
theorem pr_x237 (h : (Jvm.Cond.and given_1 narrow_1).before args s = true) : (Cond.exactly (.string "FrostTubes" 237) "java/lang/String").before args s = true := flat_of_before _ h _ (by decide +kernel)
theorem pr_x239 (h : (Jvm.Cond.and given_1 narrow_1).before args s = true) : (Cond.exactly (.string "FrostTubes" 239) "java/lang/String").before args s = true := flat_of_before _ h _ (by decide +kernel)
theorem pr_x54 (h : (Jvm.Cond.and given_1 narrow_1).before args s = true) : (Cond.exactly (.string "FrostTubes" 54) "java/lang/String").before args s = true := flat_of_before _ h _ (by decide +kernel)
theorem pr_x67 (h : (Jvm.Cond.and given_1 narrow_1).before args s = true) : (Cond.exactly (.string "FrostTubes" 67) "java/lang/String").before args s = true := flat_of_before _ h _ (by decide +kernel)
theorem pr_x251 (h : (Jvm.Cond.and given_1 narrow_1).before args s = true) : (Cond.exactly (.string "FrostTubes" 251) "java/lang/String").before args s = true := flat_of_before _ h _ (by decide +kernel)
theorem pr_x244 (h : (Jvm.Cond.and given_1 narrow_1).before args s = true) : (Cond.exactly (.string "FrostTubes" 244) "java/lang/String").before args s = true := flat_of_before _ h _ (by decide +kernel)
theorem pr_x128 (h : (Jvm.Cond.and given_1 narrow_1).before args s = true) : (Cond.exactly (.string "FrostTubes" 128) "java/lang/String").before args s = true := flat_of_before _ h _ (by decide +kernel)
theorem pr_x138 (h : (Jvm.Cond.and given_1 narrow_1).before args s = true) : (Cond.exactly (.string "FrostTubes" 138) "java/lang/String").before args s = true := flat_of_before _ h _ (by decide +kernel)
theorem pr_x256 (h : (Jvm.Cond.and given_1 narrow_1).before args s = true) : (Cond.exactly (.string "FrostTubes" 256) "java/lang/String").before args s = true := flat_of_before _ h _ (by decide +kernel)
theorem pr_x158 (h : (Jvm.Cond.and given_1 narrow_1).before args s = true) : (Cond.exactly (.string "FrostTubes" 158) "java/lang/String").before args s = true := flat_of_before _ h _ (by decide +kernel)
theorem pr_x169 (h : (Jvm.Cond.and given_1 narrow_1).before args s = true) : (Cond.exactly (.string "FrostTubes" 169) "java/lang/String").before args s = true := flat_of_before _ h _ (by decide +kernel)
theorem pr_x204 (h : (Jvm.Cond.and given_1 narrow_1).before args s = true) : (Cond.exactly (.string "FrostTubes" 204) "java/lang/String").before args s = true := flat_of_before _ h _ (by decide +kernel)
theorem pr_x246 (h : (Jvm.Cond.and given_1 narrow_1).before args s = true) : (Cond.exactly (.string "FrostTubes" 246) "java/lang/String").before args s = true := flat_of_before _ h _ (by decide +kernel)
theorem pr_x230 (h : (Jvm.Cond.and given_1 narrow_1).before args s = true) : (Cond.exactly (.string "FrostTubes" 230) "java/lang/String").before args s = true := flat_of_before _ h _ (by decide +kernel)
theorem pr_c12 (h : (Jvm.Cond.and given_1 narrow_1).before args s = true) : (Cond.not (.castable "java/lang/IllegalArgumentException" "java/lang/IllegalStateException")).before args s = true := flat_of_before _ h _ (by decide +kernel)
theorem pr_c13 (h : (Jvm.Cond.and given_1 narrow_1).before args s = true) : (Cond.not (.castable "java/lang/IllegalArgumentException" "java/lang/IndexOutOfBoundsException")).before args s = true := flat_of_before _ h _ (by decide +kernel)
theorem pr_c21 (h : (Jvm.Cond.and given_1 narrow_1).before args s = true) : (Cond.not (.castable "java/lang/IllegalStateException" "java/lang/IllegalArgumentException")).before args s = true := flat_of_before _ h _ (by decide +kernel)
theorem pr_c23 (h : (Jvm.Cond.and given_1 narrow_1).before args s = true) : (Cond.not (.castable "java/lang/IllegalStateException" "java/lang/IndexOutOfBoundsException")).before args s = true := flat_of_before _ h _ (by decide +kernel)
theorem pr_c31 (h : (Jvm.Cond.and given_1 narrow_1).before args s = true) : (Cond.not (.castable "java/lang/IndexOutOfBoundsException" "java/lang/IllegalArgumentException")).before args s = true := flat_of_before _ h _ (by decide +kernel)
theorem pr_c32 (h : (Jvm.Cond.and given_1 narrow_1).before args s = true) : (Cond.not (.castable "java/lang/IndexOutOfBoundsException" "java/lang/IllegalStateException")).before args s = true := flat_of_before _ h _ (by decide +kernel)
theorem vkof {k : Nat} {tx : String} (h1 : (Cond.stringRef "FrostTubes" k tx).before args s = true) (h2 : (Cond.exactly (.string "FrostTubes" k) "java/lang/String").before args s = true) : ∃ a, vk_R RX4 k tx a s := by
  obtain ⟨a, c, cA, kA, q1, -⟩ := Cond.exactly_spec (args := args) (first := s) (o := none) (s := s) (idx := []) h2
  exact ⟨a, vk_R.of (A := args) h1 q1⟩
theorem sga0 (hts : ∀ w ∈ lw_tbl, w.before args s = true) (hg : (Jvm.Cond.and given_1 narrow_1).before args s = true) : SGA (bge s.heap.size) s s.heap := by
  have hA : ∀ a : Nat, a < s.heap.size → ¬ bge s.heap.size a := fun a h h2 => by
    have : s.heap.size ≤ a := h2
    omega
  obtain ⟨t1, h1, hT1⟩ := va_Tof (args := args) (N := 3) (f := lstV) (A := bge s.heap.size) (by decide) (pr_al hg) (va_eqt (pr_nl hg)) (fun j hj => by
    have : j = 0 ∨ j = 1 ∨ j = 2 := by omega
    rcases this with e | e | e <;> subst e
    · exact va_eqt (pr_el0 hg)
    · exact va_eqt (pr_el1 hg)
    · exact va_eqt (pr_el2 hg)) hA
  obtain ⟨t2, h2, hT2⟩ := va_Tof (args := args) (N := 3) (f := mstV) (A := bge s.heap.size) (by decide) (pr_am hg) (va_eqt (pr_nm hg)) (fun j hj => by
    have : j = 0 ∨ j = 1 ∨ j = 2 := by omega
    rcases this with e | e | e <;> subst e
    · exact va_eqt (pr_em0 hg)
    · exact va_eqt (pr_em1 hg)
    · exact va_eqt (pr_em2 hg)) hA
  refine ⟨⟨va_Nw.of rfl (hts _ tw_nl), va_Nw.of rfl (hts _ tw_nm)⟩, ⟨t1, va_Zof (hts _ tw_ll) (hts _ tw_i4) h1 hA, hT1⟩, ⟨t2, va_Zof (hts _ tw_lm) (hts _ tw_i4) h2 hA, hT2⟩, vx_Zqof (hts _ tw_lu) (hts _ tw_it) (pr_u hg) hA, vx_Zqof (hts _ tw_lp) (hts _ tw_it) (pr_p hg) hA, fun q hq => ?_, fun k => ?_, fun k => ?_, fun i j h1 h2 h3 h4 h5 => ?_⟩
  · simp only [strs, List.mem_cons, List.not_mem_nil, or_false] at hq
    rcases hq with rfl | rfl | rfl | rfl | rfl | rfl | rfl | rfl | rfl | rfl | rfl | rfl | rfl | rfl | rfl
    · exact vkof (hts _ tw_s235) (pr_x235 hg)
    · exact vkof (hts _ tw_s237) (pr_x237 hg)
    · exact vkof (hts _ tw_s239) (pr_x239 hg)
    · exact vkof (hts _ tw_s54) (pr_x54 hg)
    · exact vkof (hts _ tw_s67) (pr_x67 hg)
    · exact vkof (hts _ tw_s251) (pr_x251 hg)
    · exact vkof (hts _ tw_s244) (pr_x244 hg)
    · exact vkof (hts _ tw_s128) (pr_x128 hg)
    · exact vkof (hts _ tw_s138) (pr_x138 hg)
    · exact vkof (hts _ tw_s256) (pr_x256 hg)
    · exact vkof (hts _ tw_s158) (pr_x158 hg)
    · exact vkof (hts _ tw_s169) (pr_x169 hg)
    · exact vkof (hts _ tw_s204) (pr_x204 hg)
    · exact vkof (hts _ tw_s246) (pr_x246 hg)
    · exact vkof (hts _ tw_s230) (pr_x230 hg)
  · match k with
    | 0 => exact va_Nw.of rfl (hts _ tw_c3)
    | 1 => exact va_Nw.of rfl (hts _ tw_c1)
    | 2 => exact va_Nw.of rfl (hts _ tw_c2)
    | k + 3 => exact va_Nw.of rfl (hts _ tw_c3)
  · match k with
    | 0 => exact va_Nw.of rfl (hts _ tw_d0)
    | 1 => exact va_Nw.of rfl (hts _ tw_d1)
    | k + 2 => exact va_Nw.of rfl (hts _ tw_d2)
  · have hi : i = 1 ∨ i = 2 ∨ i = 3 := by omega
    have hj : j = 1 ∨ j = 2 ∨ j = 3 := by omega
    rcases hi with rfl | rfl | rfl <;> rcases hj with rfl | rfl | rfl
    · exact absurd rfl h5
    · exact va_Nc.of (pr_c12 hg)
    · exact va_Nc.of (pr_c13 hg)
    · exact va_Nc.of (pr_c21 hg)
    · exact absurd rfl h5
    · exact va_Nc.of (pr_c23 hg)
    · exact va_Nc.of (pr_c31 hg)
    · exact va_Nc.of (pr_c32 hg)
    · exact absurd rfl h5
/-- the classes and arrays of the two worlds -/
theorem arrOf {ty : FieldType} (h : (Cond.arrayClass ty).before args s = true) (hn : ∀ C, ty ≠ .object C) : ∃ c, ArrOfT s c ty ∧ va_RA s c ty := by
  obtain ⟨c, k, comp, h1, h2, h3⟩ := Cond.arrayClass_spec (args := args) (first := s) (o := none) (s := s) (idx := []) h
  refine ⟨c, fun n z => ⟨fun k h => (by cases h), k, h2, comp, h3⟩, ?_⟩
  cases ty with
  | object C => exact absurd rfl (hn C)
  | _ => exact h1
theorem arqOf {C : String} (h : (Cond.arrayOver (.object C)).before args s = true) : ∃ c, ArrOfT s c (.object C) ∧ va_RA s c (.object C) := by
  obtain ⟨comp, c, k, h1, h2, h3, h4, h5⟩ := Cond.arrayOver_spec (args := args) (first := s) (o := none) (s := s) (idx := []) h
  exact ⟨c, fun n z => ⟨fun k h => (by cases h), k, h3, comp, h4⟩, k, comp, h3, h4, h1, h5⟩
end PR
