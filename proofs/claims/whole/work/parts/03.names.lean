/-- the words of the tables that a call's warming leaves -/
def lc_big : List Cond := lw_tbl.filter goodWord
theorem lc_bigI {w : Cond} {i : Nat} (h : lw_tbl[i]? = some w) (g : goodWord w = true) : w ∈ lc_big := List.mem_filter.mpr ⟨List.mem_of_getElem? h, g⟩
theorem lc_bigL {L : List Cond} (h : ∀ w ∈ L, w ∈ lw_tbl) (g : ∀ w ∈ L, goodWord w = true) : ∀ w ∈ L, w ∈ lc_big := fun w hw => List.mem_filter.mpr ⟨h w hw, g w hw⟩
theorem lc_bigF {L : List Cond} (h : ∀ w ∈ L.filter goodWord, w ∈ lw_tbl) : ∀ w ∈ L.filter goodWord, w ∈ lc_big := fun w hw => List.mem_filter.mpr ⟨h w hw, (List.mem_filter.mp hw).2⟩
theorem lc_gW {h : Cond} {ws : List Cond} (h1 : ∀ w ∈ ws, w ∈ lc_big) : GoodIn (h :: lc_big) ws := fun w hw => ⟨List.mem_cons_of_mem _ (h1 w hw), good_of_word (List.mem_filter.mp (h1 w hw)).2⟩
theorem lc_gI {h cw : Cond} (a5 : cw ∈ lc_big) : GoodIn (h :: lc_big) (cw :: lc_big) := lc_gW fun w hw => (List.mem_cons.mp hw).elim (fun e => by rw [e]; exact a5) (fun h => h)
theorem lc_g4 {a b c d cw : Cond} (a1 : a ∈ lc_big) (a2 : b ∈ lc_big) (a3 : c ∈ lc_big) (a4 : d ∈ lc_big) (a5 : cw ∈ lc_big) : ∀ w ∈ [a, b, c, d] ++ (cw :: lc_big), w ∈ lc_big := by
  intro w hw
  simp only [List.cons_append, List.nil_append, List.mem_cons] at hw
  rcases hw with rfl | rfl | rfl | rfl | rfl | hw <;> assumption
theorem lc_g3 {a b c cw : Cond} (a1 : a ∈ lc_big) (a2 : b ∈ lc_big) (a3 : c ∈ lc_big) (a5 : cw ∈ lc_big) : ∀ w ∈ [a, b, c] ++ (cw :: lc_big), w ∈ lc_big := by
  intro w hw
  simp only [List.cons_append, List.nil_append, List.mem_cons] at hw
  rcases hw with rfl | rfl | rfl | rfl | hw <;> assumption
theorem lc_gV {h cw : Cond} {own C : String} {idx : Nat} {y : MethodName} (a1 : Cond.methodLink own idx y ∈ lc_big) (a2 : Cond.instanceMethod y ∈ lc_big) (a3 : Cond.selects C y y ∈ lc_big) (a4 : Cond.initialized C ∈ lc_big) (a5 : cw ∈ lc_big) : GoodIn (h :: lc_big) (wsV own idx C y (cw :: lc_big)) := lc_gW (lc_g4 a1 a2 a3 a4 a5)
theorem lc_gS {h cw : Cond} {own : String} {idx : Nat} {y : MethodName} (a1 : Cond.methodLink own idx y ∈ lc_big) (a2 : Cond.static y ∈ lc_big) (a3 : Cond.initialized own ∈ lc_big) (a5 : cw ∈ lc_big) : GoodIn (h :: lc_big) (wsS own idx y (cw :: lc_big)) := lc_gW (lc_g3 a1 a2 a3 a5)
theorem lc_gT {h cw : Cond} {own : String} {idx : Nat} {y : MethodName} (a1 : Cond.methodLink own idx y ∈ lc_big) (a2 : Cond.static y ∈ lc_big) (a3 : Cond.initialized y.cls ∈ lc_big) (a5 : cw ∈ lc_big) : GoodIn (h :: lc_big) (va_wsS own idx y (cw :: lc_big)) := lc_gW (lc_g3 a1 a2 a3 a5)
abbrev RX0 : String := "LineChunks"
def TX0 : u_T := fun k => match k with
  | 0 => ("LineChunks", "elements", "[I", false)
  | 1 => ("LineChunks", "count", "I", false)
  | _ => ("LineChunks", "lineEnds", "I", false)
def tyX0 : Nat → FieldType := fun k => match k with
  | 0 => .array .int
  | 1 => .int
  | _ => .int
theorem nmX0 : ∀ a, a < 3 → ∀ b, b < 3 → a ≠ b → (TX0 a).2.1 ≠ (TX0 b).2.1 := by decide +kernel
theorem tyX0_ok : ∀ k, k < 3 → parseFieldDescriptor (TX0 k).2.2.1 = some (tyX0 k) := by decide +kernel
abbrev RX1 : String := "LineChunksModel"
def TX1 : u_T := fun k => match k with
  | 0 => ("LineChunksModel", "row", "[I", true)
  | 1 => ("LineChunksModel", "many", "I", false)
  | _ => ("LineChunksModel", "thrown", "I", false)
def tyX1 : Nat → FieldType := fun k => match k with
  | 0 => .array .int
  | 1 => .int
  | _ => .int
theorem nmX1 : ∀ a, a < 3 → ∀ b, b < 3 → a ≠ b → (TX1 a).2.1 ≠ (TX1 b).2.1 := by decide +kernel
theorem tyX1_ok : ∀ k, k < 3 → parseFieldDescriptor (TX1 k).2.2.1 = some (tyX1 k) := by decide +kernel
abbrev RL : String := "LineChunksLaw"
abbrev RJ : String := "java/util/Arrays"
abbrev vwCl : List vw_C := [(RX0, TX0, 3), (RX1, TX1, 3)]
theorem lb_X0 : ∀ w ∈ u_ws RX0 TX0 3, w ∈ lc_big := lc_bigL (by decide +kernel) (by decide +kernel)
theorem lb_X1 : ∀ w ∈ u_ws RX1 TX1 3, w ∈ lc_big := lc_bigL (by decide +kernel) (by decide +kernel)
theorem lb_at_X0_22 : ∀ w ∈ (vx_at0 RX0 22 "java/lang/IllegalArgumentException" ["java/lang/RuntimeException", "java/lang/Exception"]).filter goodWord, w ∈ lc_big := lc_bigF (by decide +kernel)
theorem lb_at_X0_25 : ∀ w ∈ (vx_at0 RX0 25 "java/lang/IllegalStateException" ["java/lang/RuntimeException", "java/lang/Exception"]).filter goodWord, w ∈ lc_big := lc_bigF (by decide +kernel)
theorem lb_at_X0_44 : ∀ w ∈ (vx_at0 RX0 44 "java/util/NoSuchElementException" ["java/lang/RuntimeException", "java/lang/Exception"]).filter goodWord, w ∈ lc_big := lc_bigF (by decide +kernel)
theorem lb_at_X1_15 : ∀ w ∈ (vx_at0 RX1 15 "java/lang/IllegalArgumentException" ["java/lang/RuntimeException", "java/lang/Exception"]).filter goodWord, w ∈ lc_big := lc_bigF (by decide +kernel)
theorem lb_at_X1_26 : ∀ w ∈ (vx_at0 RX1 26 "java/lang/IllegalStateException" ["java/lang/RuntimeException", "java/lang/Exception"]).filter goodWord, w ∈ lc_big := lc_bigF (by decide +kernel)
theorem lb_at_X1_29 : ∀ w ∈ (vx_at0 RX1 29 "java/util/NoSuchElementException" ["java/lang/RuntimeException", "java/lang/Exception"]).filter goodWord, w ∈ lc_big := lc_bigF (by decide +kernel)
abbrev cX0_init : ByteArray := prog_1_method_1_code
abbrev yX0_init : MethodName := ⟨"LineChunks", "<init>", "()V"⟩
abbrev wsX0_init : List Cond := Cond.code yX0_init cX0_init 1 none :: lc_big
abbrev cX0_length : ByteArray := prog_1_method_5_code
abbrev yX0_length : MethodName := ⟨"LineChunks", "length", "()I"⟩
abbrev wsX0_length : List Cond := Cond.code yX0_length cX0_length 1 (some .int) :: lc_big
abbrev cX0_lines : ByteArray := prog_1_method_6_code
abbrev yX0_lines : MethodName := ⟨"LineChunks", "lines", "()I"⟩
abbrev wsX0_lines : List Cond := Cond.code yX0_lines cX0_lines 1 (some .int) :: lc_big
abbrev cX0_digest : ByteArray := prog_1_method_9_code
abbrev yX0_digest : MethodName := ⟨"LineChunks", "digest", "()I"⟩
abbrev wsX0_digest : List Cond := Cond.code yX0_digest cX0_digest 3 (some .int) :: lc_big
abbrev cL_insert : ByteArray := method_3_code
abbrev yL_insert : MethodName := ⟨"LineChunksLaw", "insert", "(LLineChunks;IIII[J)I"⟩
abbrev wsL_insert : List Cond := Cond.codeWith yL_insert cL_insert 7 (some .int) [(0, 14, 17, 13), (0, 14, 21, 15)] :: lc_big
abbrev cX0_insert : ByteArray := prog_1_method_2_code
abbrev yX0_insert : MethodName := ⟨"LineChunks", "insert", "(IIII)I"⟩
abbrev wsX0_insert : List Cond := Cond.code yX0_insert cX0_insert 5 (some .int) :: lc_big
abbrev cX0_makeRoomFor : ByteArray := prog_1_method_10_code
abbrev yX0_makeRoomFor : MethodName := ⟨"LineChunks", "makeRoomFor", "(I)V"⟩
abbrev wsX0_makeRoomFor : List Cond := Cond.code yX0_makeRoomFor cX0_makeRoomFor 3 none :: lc_big
abbrev cJ_copyOf : ByteArray := prog_12_method_123_code
abbrev yJ_copyOf : MethodName := ⟨"java/util/Arrays", "copyOf", "([II)[I"⟩
abbrev wsJ_copyOf : List Cond := Cond.code yJ_copyOf cJ_copyOf 3 (some (.array .int)) :: lc_big
abbrev cX0_moveTail : ByteArray := prog_1_method_11_code
abbrev yX0_moveTail : MethodName := ⟨"LineChunks", "moveTail", "(II)V"⟩
abbrev wsX0_moveTail : List Cond := Cond.code yX0_moveTail cX0_moveTail 3 none :: lc_big
abbrev cX0_fill : ByteArray := prog_1_method_12_code
abbrev yX0_fill : MethodName := ⟨"LineChunks", "fill", "(IIII)V"⟩
abbrev wsX0_fill : List Cond := Cond.code yX0_fill cX0_fill 7 none :: lc_big
abbrev cX0_lineEndsIn : ByteArray := prog_1_method_13_code
abbrev yX0_lineEndsIn : MethodName := ⟨"LineChunks", "lineEndsIn", "(II)I"⟩
abbrev wsX0_lineEndsIn : List Cond := Cond.code yX0_lineEndsIn cX0_lineEndsIn 5 (some .int) :: lc_big
abbrev cL_delete : ByteArray := method_4_code
abbrev yL_delete : MethodName := ⟨"LineChunksLaw", "delete", "(LLineChunks;II[J)I"⟩
abbrev wsL_delete : List Cond := Cond.codeWith yL_delete cL_delete 5 (some .int) [(0, 10, 13, 13)] :: lc_big
abbrev cX0_delete : ByteArray := prog_1_method_3_code
abbrev yX0_delete : MethodName := ⟨"LineChunks", "delete", "(II)I"⟩
abbrev wsX0_delete : List Cond := Cond.code yX0_delete cX0_delete 3 (some .int) :: lc_big
abbrev cL_get : ByteArray := method_5_code
abbrev yL_get : MethodName := ⟨"LineChunksLaw", "get", "(LLineChunks;I[J)I"⟩
abbrev wsL_get : List Cond := Cond.codeWith yL_get cL_get 4 (some .int) [(0, 9, 12, 25)] :: lc_big
abbrev cX0_get : ByteArray := prog_1_method_4_code
abbrev yX0_get : MethodName := ⟨"LineChunks", "get", "(I)I"⟩
abbrev wsX0_get : List Cond := Cond.code yX0_get cX0_get 2 (some .int) :: lc_big
abbrev cL_line : ByteArray := method_6_code
abbrev yL_line : MethodName := ⟨"LineChunksLaw", "line", "(LLineChunks;I[J)I"⟩
abbrev wsL_line : List Cond := Cond.codeWith yL_line cL_line 4 (some .int) [(0, 9, 12, 25)] :: lc_big
abbrev cX0_line : ByteArray := prog_1_method_7_code
abbrev yX0_line : MethodName := ⟨"LineChunks", "line", "(I)I"⟩
abbrev wsX0_line : List Cond := Cond.code yX0_line cX0_line 2 (some .int) :: lc_big
abbrev cX0_indexBehindLineEnds : ByteArray := prog_1_method_14_code
abbrev yX0_indexBehindLineEnds : MethodName := ⟨"LineChunks", "indexBehindLineEnds", "(I)I"⟩
abbrev wsX0_indexBehindLineEnds : List Cond := Cond.code yX0_indexBehindLineEnds cX0_indexBehindLineEnds 4 (some .int) :: lc_big
abbrev cL_lineOf : ByteArray := method_7_code
abbrev yL_lineOf : MethodName := ⟨"LineChunksLaw", "lineOf", "(LLineChunks;I[J)I"⟩
abbrev wsL_lineOf : List Cond := Cond.codeWith yL_lineOf cL_lineOf 4 (some .int) [(0, 9, 12, 13)] :: lc_big
abbrev cX0_lineOf : ByteArray := prog_1_method_8_code
abbrev yX0_lineOf : MethodName := ⟨"LineChunks", "lineOf", "(I)I"⟩
abbrev wsX0_lineOf : List Cond := Cond.code yX0_lineOf cX0_lineOf 2 (some .int) :: lc_big
abbrev cX1_init : ByteArray := prog_3_method_1_code
abbrev yX1_init : MethodName := ⟨"LineChunksModel", "<init>", "()V"⟩
abbrev wsX1_init : List Cond := Cond.code yX1_init cX1_init 1 none :: lc_big
abbrev cX1_thrown : ByteArray := prog_3_method_12_code
abbrev yX1_thrown : MethodName := ⟨"LineChunksModel", "thrown", "()I"⟩
abbrev wsX1_thrown : List Cond := Cond.code yX1_thrown cX1_thrown 1 (some .int) :: lc_big
abbrev cX1_insert : ByteArray := prog_3_method_13_code
abbrev yX1_insert : MethodName := ⟨"LineChunksModel", "insert", "(IIII)I"⟩
abbrev wsX1_insert : List Cond := Cond.codeWith yX1_insert cX1_insert 6 (some .int) [(5, 14, 15, 13), (5, 14, 25, 24)] :: lc_big
abbrev cX1_insert0 : ByteArray := prog_3_method_3_code
abbrev yX1_insert0 : MethodName := ⟨"LineChunksModel", "insert0", "(IIII)I"⟩
abbrev wsX1_insert0 : List Cond := Cond.code yX1_insert0 cX1_insert0 6 (some .int) :: lc_big
abbrev cX1_check : ByteArray := prog_3_method_2_code
abbrev yX1_check : MethodName := ⟨"LineChunksModel", "check", "(Z)V"⟩
abbrev wsX1_check : List Cond := Cond.code yX1_check cX1_check 1 none :: lc_big
abbrev cX1_delete : ByteArray := prog_3_method_14_code
abbrev yX1_delete : MethodName := ⟨"LineChunksModel", "delete", "(II)I"⟩
abbrev wsX1_delete : List Cond := Cond.codeWith yX1_delete cX1_delete 4 (some .int) [(5, 11, 12, 13)] :: lc_big
abbrev cX1_delete0 : ByteArray := prog_3_method_4_code
abbrev yX1_delete0 : MethodName := ⟨"LineChunksModel", "delete0", "(II)I"⟩
abbrev wsX1_delete0 : List Cond := Cond.code yX1_delete0 cX1_delete0 4 (some .int) :: lc_big
abbrev cX1_get : ByteArray := prog_3_method_15_code
abbrev yX1_get : MethodName := ⟨"LineChunksModel", "get", "(I)I"⟩
abbrev wsX1_get : List Cond := Cond.codeWith yX1_get cX1_get 3 (some .int) [(5, 10, 11, 27)] :: lc_big
abbrev cX1_get0 : ByteArray := prog_3_method_5_code
abbrev yX1_get0 : MethodName := ⟨"LineChunksModel", "get0", "(I)I"⟩
abbrev wsX1_get0 : List Cond := Cond.code yX1_get0 cX1_get0 2 (some .int) :: lc_big
abbrev cX1_length : ByteArray := prog_3_method_16_code
abbrev yX1_length : MethodName := ⟨"LineChunksModel", "length", "()I"⟩
abbrev wsX1_length : List Cond := Cond.code yX1_length cX1_length 1 (some .int) :: lc_big
abbrev cX1_length0 : ByteArray := prog_3_method_6_code
abbrev yX1_length0 : MethodName := ⟨"LineChunksModel", "length0", "()I"⟩
abbrev wsX1_length0 : List Cond := Cond.code yX1_length0 cX1_length0 1 (some .int) :: lc_big
abbrev cX1_lines : ByteArray := prog_3_method_17_code
abbrev yX1_lines : MethodName := ⟨"LineChunksModel", "lines", "()I"⟩
abbrev wsX1_lines : List Cond := Cond.code yX1_lines cX1_lines 1 (some .int) :: lc_big
abbrev cX1_lines0 : ByteArray := prog_3_method_8_code
abbrev yX1_lines0 : MethodName := ⟨"LineChunksModel", "lines0", "()I"⟩
abbrev wsX1_lines0 : List Cond := Cond.code yX1_lines0 cX1_lines0 1 (some .int) :: lc_big
abbrev cX1_endsBefore : ByteArray := prog_3_method_7_code
abbrev yX1_endsBefore : MethodName := ⟨"LineChunksModel", "endsBefore", "(I)I"⟩
abbrev wsX1_endsBefore : List Cond := Cond.code yX1_endsBefore cX1_endsBefore 4 (some .int) :: lc_big
abbrev cX1_line : ByteArray := prog_3_method_18_code
abbrev yX1_line : MethodName := ⟨"LineChunksModel", "line", "(I)I"⟩
abbrev wsX1_line : List Cond := Cond.codeWith yX1_line cX1_line 3 (some .int) [(5, 10, 11, 27)] :: lc_big
abbrev cX1_line0 : ByteArray := prog_3_method_9_code
abbrev yX1_line0 : MethodName := ⟨"LineChunksModel", "line0", "(I)I"⟩
abbrev wsX1_line0 : List Cond := Cond.code yX1_line0 cX1_line0 3 (some .int) :: lc_big
abbrev cX1_lineOf : ByteArray := prog_3_method_19_code
abbrev yX1_lineOf : MethodName := ⟨"LineChunksModel", "lineOf", "(I)I"⟩
abbrev wsX1_lineOf : List Cond := Cond.codeWith yX1_lineOf cX1_lineOf 3 (some .int) [(5, 10, 11, 13)] :: lc_big
abbrev cX1_lineOf0 : ByteArray := prog_3_method_10_code
abbrev yX1_lineOf0 : MethodName := ⟨"LineChunksModel", "lineOf0", "(I)I"⟩
abbrev wsX1_lineOf0 : List Cond := Cond.code yX1_lineOf0 cX1_lineOf0 2 (some .int) :: lc_big
abbrev cX1_digest : ByteArray := prog_3_method_20_code
abbrev yX1_digest : MethodName := ⟨"LineChunksModel", "digest", "()I"⟩
abbrev wsX1_digest : List Cond := Cond.code yX1_digest cX1_digest 1 (some .int) :: lc_big
abbrev cX1_digest0 : ByteArray := prog_3_method_11_code
abbrev yX1_digest0 : MethodName := ⟨"LineChunksModel", "digest0", "()I"⟩
abbrev wsX1_digest0 : List Cond := Cond.code yX1_digest0 cX1_digest0 3 (some .int) :: lc_big
abbrev cL_law : ByteArray := code
abbrev wsL_law : List Cond := Cond.initialized "LineChunksLaw" :: lc_big
theorem lc_lawin : ∀ w ∈ wsL_law, w ∈ lw_tbl := fun w h => (List.mem_cons.mp h).elim (fun e => by rw [e]; exact List.mem_of_getElem? (i := 15) (by decide +kernel)) (fun h => (List.mem_filter.mp h).1)
theorem lb_1 : Cond.selects "LineChunks" ⟨"LineChunks", "makeRoomFor", "(I)V"⟩ ⟨"LineChunks", "makeRoomFor", "(I)V"⟩ ∈ lc_big := lc_bigI (i := 1) (by decide +kernel) rfl
theorem lb_2 : Cond.selects "LineChunks" ⟨"LineChunks", "moveTail", "(II)V"⟩ ⟨"LineChunks", "moveTail", "(II)V"⟩ ∈ lc_big := lc_bigI (i := 2) (by decide +kernel) rfl
theorem lb_3 : Cond.selects "LineChunks" ⟨"LineChunks", "fill", "(IIII)V"⟩ ⟨"LineChunks", "fill", "(IIII)V"⟩ ∈ lc_big := lc_bigI (i := 3) (by decide +kernel) rfl
theorem lb_4 : Cond.selects "LineChunks" ⟨"LineChunks", "lineEndsIn", "(II)I"⟩ ⟨"LineChunks", "lineEndsIn", "(II)I"⟩ ∈ lc_big := lc_bigI (i := 4) (by decide +kernel) rfl
theorem lb_5 : Cond.selects "LineChunks" ⟨"LineChunks", "indexBehindLineEnds", "(I)I"⟩ ⟨"LineChunks", "indexBehindLineEnds", "(I)I"⟩ ∈ lc_big := lc_bigI (i := 5) (by decide +kernel) rfl
theorem lb_6 : Cond.selects "LineChunksModel" ⟨"LineChunksModel", "insert0", "(IIII)I"⟩ ⟨"LineChunksModel", "insert0", "(IIII)I"⟩ ∈ lc_big := lc_bigI (i := 6) (by decide +kernel) rfl
theorem lb_7 : Cond.selects "LineChunksModel" ⟨"LineChunksModel", "delete0", "(II)I"⟩ ⟨"LineChunksModel", "delete0", "(II)I"⟩ ∈ lc_big := lc_bigI (i := 7) (by decide +kernel) rfl
theorem lb_8 : Cond.selects "LineChunksModel" ⟨"LineChunksModel", "get0", "(I)I"⟩ ⟨"LineChunksModel", "get0", "(I)I"⟩ ∈ lc_big := lc_bigI (i := 8) (by decide +kernel) rfl
theorem lb_9 : Cond.selects "LineChunksModel" ⟨"LineChunksModel", "length0", "()I"⟩ ⟨"LineChunksModel", "length0", "()I"⟩ ∈ lc_big := lc_bigI (i := 9) (by decide +kernel) rfl
theorem lb_10 : Cond.selects "LineChunksModel" ⟨"LineChunksModel", "lines0", "()I"⟩ ⟨"LineChunksModel", "lines0", "()I"⟩ ∈ lc_big := lc_bigI (i := 10) (by decide +kernel) rfl
theorem lb_11 : Cond.selects "LineChunksModel" ⟨"LineChunksModel", "endsBefore", "(I)I"⟩ ⟨"LineChunksModel", "endsBefore", "(I)I"⟩ ∈ lc_big := lc_bigI (i := 11) (by decide +kernel) rfl
theorem lb_12 : Cond.selects "LineChunksModel" ⟨"LineChunksModel", "line0", "(I)I"⟩ ⟨"LineChunksModel", "line0", "(I)I"⟩ ∈ lc_big := lc_bigI (i := 12) (by decide +kernel) rfl
theorem lb_13 : Cond.selects "LineChunksModel" ⟨"LineChunksModel", "lineOf0", "(I)I"⟩ ⟨"LineChunksModel", "lineOf0", "(I)I"⟩ ∈ lc_big := lc_bigI (i := 13) (by decide +kernel) rfl
theorem lb_14 : Cond.selects "LineChunksModel" ⟨"LineChunksModel", "digest0", "()I"⟩ ⟨"LineChunksModel", "digest0", "()I"⟩ ∈ lc_big := lc_bigI (i := 14) (by decide +kernel) rfl
theorem lb_15 : Cond.initialized "LineChunksLaw" ∈ lc_big := lc_bigI (i := 15) (by decide +kernel) rfl
theorem lb_16 : Cond.initialized "LineChunks" ∈ lc_big := lc_bigI (i := 16) (by decide +kernel) rfl
theorem lb_17 : Cond.initialized "LineChunksModel" ∈ lc_big := lc_bigI (i := 17) (by decide +kernel) rfl
theorem lb_21 : Cond.initialized "java/lang/IllegalArgumentException" ∈ lc_big := lc_bigI (i := 21) (by decide +kernel) rfl
theorem lb_22 : Cond.initialized "java/lang/IllegalStateException" ∈ lc_big := lc_bigI (i := 22) (by decide +kernel) rfl
theorem lb_23 : Cond.initialized "java/lang/Math" ∈ lc_big := lc_bigI (i := 23) (by decide +kernel) rfl
theorem lb_24 : Cond.initialized "java/util/Arrays" ∈ lc_big := lc_bigI (i := 24) (by decide +kernel) rfl
theorem lb_25 : Cond.initialized "java/lang/System" ∈ lc_big := lc_bigI (i := 25) (by decide +kernel) rfl
theorem lb_26 : Cond.initialized "java/util/NoSuchElementException" ∈ lc_big := lc_bigI (i := 26) (by decide +kernel) rfl
theorem lb_27 : Cond.classLink "LineChunksLaw" 8 "LineChunks" ∈ lc_big := lc_bigI (i := 27) (by decide +kernel) rfl
theorem lb_28 : Cond.instantiable "LineChunks" 3 ∈ lc_big := lc_bigI (i := 28) (by decide +kernel) rfl
theorem lb_29 : Cond.methodLink "LineChunksLaw" 33 ⟨"LineChunks", "<init>", "()V"⟩ ∈ lc_big := lc_bigI (i := 29) (by decide +kernel) rfl
theorem lb_30 : Cond.instanceMethod ⟨"LineChunks", "<init>", "()V"⟩ ∈ lc_big := lc_bigI (i := 30) (by decide +kernel) rfl
theorem lb_31 : Cond.code ⟨"LineChunks", "<init>", "()V"⟩ prog_1_method_1_code 1 none ∈ lc_big := lc_bigI (i := 31) (by decide +kernel) rfl
theorem lb_32 : Cond.methodLink "LineChunks" 1 ⟨"java/lang/Object", "<init>", "()V"⟩ ∈ lc_big := lc_bigI (i := 32) (by decide +kernel) rfl
theorem lb_33 : Cond.instanceMethod ⟨"java/lang/Object", "<init>", "()V"⟩ ∈ lc_big := lc_bigI (i := 33) (by decide +kernel) rfl
theorem lb_34 : Cond.code ⟨"java/lang/Object", "<init>", "()V"⟩ object_method_1_code 1 none ∈ lc_big := lc_bigI (i := 34) (by decide +kernel) rfl
theorem lb_35 : Cond.fieldLink "LineChunks" 9 "LineChunks" "elements" "[I" ∈ lc_big := lc_bigI (i := 35) (by decide +kernel) rfl
theorem lb_36 : Cond.fieldLink "LineChunks" 13 "LineChunks" "count" "I" ∈ lc_big := lc_bigI (i := 36) (by decide +kernel) rfl
theorem lb_37 : Cond.fieldLink "LineChunks" 17 "LineChunks" "lineEnds" "I" ∈ lc_big := lc_bigI (i := 37) (by decide +kernel) rfl
theorem lb_45 : Cond.arrayClass .int ∈ lc_big := lc_bigI (i := 45) (by decide +kernel) rfl
theorem lb_46 : Cond.methodLink "LineChunksLaw" 55 ⟨"LineChunks", "length", "()I"⟩ ∈ lc_big := lc_bigI (i := 46) (by decide +kernel) rfl
theorem lb_47 : Cond.instanceMethod ⟨"LineChunks", "length", "()I"⟩ ∈ lc_big := lc_bigI (i := 47) (by decide +kernel) rfl
theorem lb_48 : Cond.selects "LineChunks" ⟨"LineChunks", "length", "()I"⟩ ⟨"LineChunks", "length", "()I"⟩ ∈ lc_big := lc_bigI (i := 48) (by decide +kernel) rfl
theorem lb_49 : Cond.code ⟨"LineChunks", "length", "()I"⟩ prog_1_method_5_code 1 (some .int) ∈ lc_big := lc_bigI (i := 49) (by decide +kernel) rfl
theorem lb_50 : Cond.methodLink "LineChunksLaw" 59 ⟨"LineChunks", "lines", "()I"⟩ ∈ lc_big := lc_bigI (i := 50) (by decide +kernel) rfl
theorem lb_51 : Cond.instanceMethod ⟨"LineChunks", "lines", "()I"⟩ ∈ lc_big := lc_bigI (i := 51) (by decide +kernel) rfl
theorem lb_52 : Cond.selects "LineChunks" ⟨"LineChunks", "lines", "()I"⟩ ⟨"LineChunks", "lines", "()I"⟩ ∈ lc_big := lc_bigI (i := 52) (by decide +kernel) rfl
theorem lb_53 : Cond.code ⟨"LineChunks", "lines", "()I"⟩ prog_1_method_6_code 1 (some .int) ∈ lc_big := lc_bigI (i := 53) (by decide +kernel) rfl
theorem lb_54 : Cond.methodLink "LineChunksLaw" 69 ⟨"LineChunks", "digest", "()I"⟩ ∈ lc_big := lc_bigI (i := 54) (by decide +kernel) rfl
theorem lb_55 : Cond.instanceMethod ⟨"LineChunks", "digest", "()I"⟩ ∈ lc_big := lc_bigI (i := 55) (by decide +kernel) rfl
theorem lb_56 : Cond.selects "LineChunks" ⟨"LineChunks", "digest", "()I"⟩ ⟨"LineChunks", "digest", "()I"⟩ ∈ lc_big := lc_bigI (i := 56) (by decide +kernel) rfl
theorem lb_57 : Cond.code ⟨"LineChunks", "digest", "()I"⟩ prog_1_method_9_code 3 (some .int) ∈ lc_big := lc_bigI (i := 57) (by decide +kernel) rfl
theorem lb_58 : Cond.methodLink "LineChunksLaw" 37 ⟨"LineChunksLaw", "insert", "(LLineChunks;IIII[J)I"⟩ ∈ lc_big := lc_bigI (i := 58) (by decide +kernel) rfl
theorem lb_59 : Cond.static ⟨"LineChunksLaw", "insert", "(LLineChunks;IIII[J)I"⟩ ∈ lc_big := lc_bigI (i := 59) (by decide +kernel) rfl
theorem lb_60 : Cond.codeWith ⟨"LineChunksLaw", "insert", "(LLineChunks;IIII[J)I"⟩ method_3_code 7 (some .int) [(0, 14, 17, 13), (0, 14, 21, 15)] ∈ lc_big := lc_bigI (i := 60) (by decide +kernel) rfl
theorem lb_61 : Cond.classLink "LineChunksLaw" 13 "java/lang/IllegalArgumentException" ∈ lc_big := lc_bigI (i := 61) (by decide +kernel) rfl
theorem lb_62 : Cond.classLink "LineChunksLaw" 15 "java/lang/IllegalStateException" ∈ lc_big := lc_bigI (i := 62) (by decide +kernel) rfl
theorem lb_63 : Cond.methodLink "LineChunksLaw" 7 ⟨"LineChunks", "insert", "(IIII)I"⟩ ∈ lc_big := lc_bigI (i := 63) (by decide +kernel) rfl
theorem lb_64 : Cond.instanceMethod ⟨"LineChunks", "insert", "(IIII)I"⟩ ∈ lc_big := lc_bigI (i := 64) (by decide +kernel) rfl
theorem lb_65 : Cond.selects "LineChunks" ⟨"LineChunks", "insert", "(IIII)I"⟩ ⟨"LineChunks", "insert", "(IIII)I"⟩ ∈ lc_big := lc_bigI (i := 65) (by decide +kernel) rfl
theorem lb_66 : Cond.code ⟨"LineChunks", "insert", "(IIII)I"⟩ prog_1_method_2_code 5 (some .int) ∈ lc_big := lc_bigI (i := 66) (by decide +kernel) rfl
theorem lb_67 : Cond.classLink "LineChunks" 20 "java/lang/IllegalArgumentException" ∈ lc_big := lc_bigI (i := 67) (by decide +kernel) rfl
theorem lb_130 : Cond.classLink "LineChunks" 23 "java/lang/IllegalStateException" ∈ lc_big := lc_bigI (i := 130) (by decide +kernel) rfl
theorem lb_145 : Cond.methodLink "LineChunks" 26 ⟨"LineChunks", "makeRoomFor", "(I)V"⟩ ∈ lc_big := lc_bigI (i := 145) (by decide +kernel) rfl
theorem lb_147 : Cond.instanceMethod ⟨"LineChunks", "makeRoomFor", "(I)V"⟩ ∈ lc_big := lc_bigI (i := 147) (by decide +kernel) rfl
theorem lb_148 : Cond.code ⟨"LineChunks", "makeRoomFor", "(I)V"⟩ prog_1_method_10_code 3 none ∈ lc_big := lc_bigI (i := 148) (by decide +kernel) rfl
theorem lb_149 : Cond.methodLink "LineChunks" 49 ⟨"java/lang/Math", "min", "(II)I"⟩ ∈ lc_big := lc_bigI (i := 149) (by decide +kernel) rfl
theorem lb_150 : Cond.static ⟨"java/lang/Math", "min", "(II)I"⟩ ∈ lc_big := lc_bigI (i := 150) (by decide +kernel) rfl
theorem lb_151 : Cond.code ⟨"java/lang/Math", "min", "(II)I"⟩ prog_8_method_69_code 2 (some .int) ∈ lc_big := lc_bigI (i := 151) (by decide +kernel) rfl
theorem lb_152 : Cond.methodLink "LineChunks" 54 ⟨"java/lang/Math", "max", "(II)I"⟩ ∈ lc_big := lc_bigI (i := 152) (by decide +kernel) rfl
theorem lb_153 : Cond.static ⟨"java/lang/Math", "max", "(II)I"⟩ ∈ lc_big := lc_bigI (i := 153) (by decide +kernel) rfl
theorem lb_154 : Cond.code ⟨"java/lang/Math", "max", "(II)I"⟩ prog_8_method_65_code 2 (some .int) ∈ lc_big := lc_bigI (i := 154) (by decide +kernel) rfl
theorem lb_155 : Cond.methodLink "LineChunks" 57 ⟨"java/util/Arrays", "copyOf", "([II)[I"⟩ ∈ lc_big := lc_bigI (i := 155) (by decide +kernel) rfl
theorem lb_156 : Cond.static ⟨"java/util/Arrays", "copyOf", "([II)[I"⟩ ∈ lc_big := lc_bigI (i := 156) (by decide +kernel) rfl
theorem lb_157 : Cond.code ⟨"java/util/Arrays", "copyOf", "([II)[I"⟩ prog_12_method_123_code 3 (some (.array .int)) ∈ lc_big := lc_bigI (i := 157) (by decide +kernel) rfl
theorem lb_165 : Cond.methodLink "java/util/Arrays" 304 ⟨"java/lang/Math", "min", "(II)I"⟩ ∈ lc_big := lc_bigI (i := 165) (by decide +kernel) rfl
theorem lb_166 : Cond.methodLink "java/util/Arrays" 150 ⟨"java/lang/System", "arraycopy", "(Ljava/lang/Object;ILjava/lang/Object;II)V"⟩ ∈ lc_big := lc_bigI (i := 166) (by decide +kernel) rfl
theorem lb_167 : Cond.static ⟨"java/lang/System", "arraycopy", "(Ljava/lang/Object;ILjava/lang/Object;II)V"⟩ ∈ lc_big := lc_bigI (i := 167) (by decide +kernel) rfl
theorem lb_168 : Cond.native ⟨"java/lang/System", "arraycopy", "(Ljava/lang/Object;ILjava/lang/Object;II)V"⟩ ∈ lc_big := lc_bigI (i := 168) (by decide +kernel) rfl
theorem lb_169 : Cond.methodLink "LineChunks" 30 ⟨"LineChunks", "moveTail", "(II)V"⟩ ∈ lc_big := lc_bigI (i := 169) (by decide +kernel) rfl
theorem lb_171 : Cond.instanceMethod ⟨"LineChunks", "moveTail", "(II)V"⟩ ∈ lc_big := lc_bigI (i := 171) (by decide +kernel) rfl
theorem lb_172 : Cond.code ⟨"LineChunks", "moveTail", "(II)V"⟩ prog_1_method_11_code 3 none ∈ lc_big := lc_bigI (i := 172) (by decide +kernel) rfl
theorem lb_173 : Cond.methodLink "LineChunks" 63 ⟨"java/lang/System", "arraycopy", "(Ljava/lang/Object;ILjava/lang/Object;II)V"⟩ ∈ lc_big := lc_bigI (i := 173) (by decide +kernel) rfl
theorem lb_174 : Cond.methodLink "LineChunks" 34 ⟨"LineChunks", "fill", "(IIII)V"⟩ ∈ lc_big := lc_bigI (i := 174) (by decide +kernel) rfl
theorem lb_176 : Cond.instanceMethod ⟨"LineChunks", "fill", "(IIII)V"⟩ ∈ lc_big := lc_bigI (i := 176) (by decide +kernel) rfl
theorem lb_177 : Cond.code ⟨"LineChunks", "fill", "(IIII)V"⟩ prog_1_method_12_code 7 none ∈ lc_big := lc_bigI (i := 177) (by decide +kernel) rfl
theorem lb_178 : Cond.methodLink "LineChunks" 38 ⟨"LineChunks", "lineEndsIn", "(II)I"⟩ ∈ lc_big := lc_bigI (i := 178) (by decide +kernel) rfl
theorem lb_180 : Cond.instanceMethod ⟨"LineChunks", "lineEndsIn", "(II)I"⟩ ∈ lc_big := lc_bigI (i := 180) (by decide +kernel) rfl
theorem lb_181 : Cond.code ⟨"LineChunks", "lineEndsIn", "(II)I"⟩ prog_1_method_13_code 5 (some .int) ∈ lc_big := lc_bigI (i := 181) (by decide +kernel) rfl
theorem lb_182 : Cond.methodLink "LineChunksLaw" 47 ⟨"LineChunksLaw", "delete", "(LLineChunks;II[J)I"⟩ ∈ lc_big := lc_bigI (i := 182) (by decide +kernel) rfl
theorem lb_183 : Cond.static ⟨"LineChunksLaw", "delete", "(LLineChunks;II[J)I"⟩ ∈ lc_big := lc_bigI (i := 183) (by decide +kernel) rfl
theorem lb_184 : Cond.codeWith ⟨"LineChunksLaw", "delete", "(LLineChunks;II[J)I"⟩ method_4_code 5 (some .int) [(0, 10, 13, 13)] ∈ lc_big := lc_bigI (i := 184) (by decide +kernel) rfl
theorem lb_185 : Cond.methodLink "LineChunksLaw" 17 ⟨"LineChunks", "delete", "(II)I"⟩ ∈ lc_big := lc_bigI (i := 185) (by decide +kernel) rfl
theorem lb_186 : Cond.instanceMethod ⟨"LineChunks", "delete", "(II)I"⟩ ∈ lc_big := lc_bigI (i := 186) (by decide +kernel) rfl
theorem lb_187 : Cond.selects "LineChunks" ⟨"LineChunks", "delete", "(II)I"⟩ ⟨"LineChunks", "delete", "(II)I"⟩ ∈ lc_big := lc_bigI (i := 187) (by decide +kernel) rfl
theorem lb_188 : Cond.code ⟨"LineChunks", "delete", "(II)I"⟩ prog_1_method_3_code 3 (some .int) ∈ lc_big := lc_bigI (i := 188) (by decide +kernel) rfl
theorem lb_189 : Cond.methodLink "LineChunksLaw" 51 ⟨"LineChunksLaw", "get", "(LLineChunks;I[J)I"⟩ ∈ lc_big := lc_bigI (i := 189) (by decide +kernel) rfl
theorem lb_190 : Cond.static ⟨"LineChunksLaw", "get", "(LLineChunks;I[J)I"⟩ ∈ lc_big := lc_bigI (i := 190) (by decide +kernel) rfl
theorem lb_191 : Cond.codeWith ⟨"LineChunksLaw", "get", "(LLineChunks;I[J)I"⟩ method_5_code 4 (some .int) [(0, 9, 12, 25)] ∈ lc_big := lc_bigI (i := 191) (by decide +kernel) rfl
theorem lb_192 : Cond.classLink "LineChunksLaw" 25 "java/util/NoSuchElementException" ∈ lc_big := lc_bigI (i := 192) (by decide +kernel) rfl
theorem lb_193 : Cond.methodLink "LineChunksLaw" 21 ⟨"LineChunks", "get", "(I)I"⟩ ∈ lc_big := lc_bigI (i := 193) (by decide +kernel) rfl
theorem lb_194 : Cond.instanceMethod ⟨"LineChunks", "get", "(I)I"⟩ ∈ lc_big := lc_bigI (i := 194) (by decide +kernel) rfl
theorem lb_195 : Cond.selects "LineChunks" ⟨"LineChunks", "get", "(I)I"⟩ ⟨"LineChunks", "get", "(I)I"⟩ ∈ lc_big := lc_bigI (i := 195) (by decide +kernel) rfl
theorem lb_196 : Cond.code ⟨"LineChunks", "get", "(I)I"⟩ prog_1_method_4_code 2 (some .int) ∈ lc_big := lc_bigI (i := 196) (by decide +kernel) rfl
theorem lb_197 : Cond.classLink "LineChunks" 42 "java/util/NoSuchElementException" ∈ lc_big := lc_bigI (i := 197) (by decide +kernel) rfl
theorem lb_212 : Cond.methodLink "LineChunksLaw" 63 ⟨"LineChunksLaw", "line", "(LLineChunks;I[J)I"⟩ ∈ lc_big := lc_bigI (i := 212) (by decide +kernel) rfl
theorem lb_213 : Cond.static ⟨"LineChunksLaw", "line", "(LLineChunks;I[J)I"⟩ ∈ lc_big := lc_bigI (i := 213) (by decide +kernel) rfl
theorem lb_214 : Cond.codeWith ⟨"LineChunksLaw", "line", "(LLineChunks;I[J)I"⟩ method_6_code 4 (some .int) [(0, 9, 12, 25)] ∈ lc_big := lc_bigI (i := 214) (by decide +kernel) rfl
theorem lb_215 : Cond.methodLink "LineChunksLaw" 27 ⟨"LineChunks", "line", "(I)I"⟩ ∈ lc_big := lc_bigI (i := 215) (by decide +kernel) rfl
theorem lb_216 : Cond.instanceMethod ⟨"LineChunks", "line", "(I)I"⟩ ∈ lc_big := lc_bigI (i := 216) (by decide +kernel) rfl
theorem lb_217 : Cond.selects "LineChunks" ⟨"LineChunks", "line", "(I)I"⟩ ⟨"LineChunks", "line", "(I)I"⟩ ∈ lc_big := lc_bigI (i := 217) (by decide +kernel) rfl
theorem lb_218 : Cond.code ⟨"LineChunks", "line", "(I)I"⟩ prog_1_method_7_code 2 (some .int) ∈ lc_big := lc_bigI (i := 218) (by decide +kernel) rfl
theorem lb_219 : Cond.methodLink "LineChunks" 45 ⟨"LineChunks", "indexBehindLineEnds", "(I)I"⟩ ∈ lc_big := lc_bigI (i := 219) (by decide +kernel) rfl
theorem lb_221 : Cond.instanceMethod ⟨"LineChunks", "indexBehindLineEnds", "(I)I"⟩ ∈ lc_big := lc_bigI (i := 221) (by decide +kernel) rfl
theorem lb_222 : Cond.code ⟨"LineChunks", "indexBehindLineEnds", "(I)I"⟩ prog_1_method_14_code 4 (some .int) ∈ lc_big := lc_bigI (i := 222) (by decide +kernel) rfl
theorem lb_223 : Cond.methodLink "LineChunksLaw" 66 ⟨"LineChunksLaw", "lineOf", "(LLineChunks;I[J)I"⟩ ∈ lc_big := lc_bigI (i := 223) (by decide +kernel) rfl
theorem lb_224 : Cond.static ⟨"LineChunksLaw", "lineOf", "(LLineChunks;I[J)I"⟩ ∈ lc_big := lc_bigI (i := 224) (by decide +kernel) rfl
theorem lb_225 : Cond.codeWith ⟨"LineChunksLaw", "lineOf", "(LLineChunks;I[J)I"⟩ method_7_code 4 (some .int) [(0, 9, 12, 13)] ∈ lc_big := lc_bigI (i := 225) (by decide +kernel) rfl
theorem lb_226 : Cond.methodLink "LineChunksLaw" 30 ⟨"LineChunks", "lineOf", "(I)I"⟩ ∈ lc_big := lc_bigI (i := 226) (by decide +kernel) rfl
theorem lb_227 : Cond.instanceMethod ⟨"LineChunks", "lineOf", "(I)I"⟩ ∈ lc_big := lc_bigI (i := 227) (by decide +kernel) rfl
theorem lb_228 : Cond.selects "LineChunks" ⟨"LineChunks", "lineOf", "(I)I"⟩ ⟨"LineChunks", "lineOf", "(I)I"⟩ ∈ lc_big := lc_bigI (i := 228) (by decide +kernel) rfl
theorem lb_229 : Cond.code ⟨"LineChunks", "lineOf", "(I)I"⟩ prog_1_method_8_code 2 (some .int) ∈ lc_big := lc_bigI (i := 229) (by decide +kernel) rfl
theorem lb_230 : Cond.classLink "LineChunksLaw" 34 "LineChunksModel" ∈ lc_big := lc_bigI (i := 230) (by decide +kernel) rfl
theorem lb_231 : Cond.instantiable "LineChunksModel" 3 ∈ lc_big := lc_bigI (i := 231) (by decide +kernel) rfl
theorem lb_232 : Cond.methodLink "LineChunksLaw" 36 ⟨"LineChunksModel", "<init>", "()V"⟩ ∈ lc_big := lc_bigI (i := 232) (by decide +kernel) rfl
theorem lb_233 : Cond.instanceMethod ⟨"LineChunksModel", "<init>", "()V"⟩ ∈ lc_big := lc_bigI (i := 233) (by decide +kernel) rfl
theorem lb_234 : Cond.code ⟨"LineChunksModel", "<init>", "()V"⟩ prog_3_method_1_code 1 none ∈ lc_big := lc_bigI (i := 234) (by decide +kernel) rfl
theorem lb_235 : Cond.methodLink "LineChunksModel" 1 ⟨"java/lang/Object", "<init>", "()V"⟩ ∈ lc_big := lc_bigI (i := 235) (by decide +kernel) rfl
theorem lb_236 : Cond.fieldLink "LineChunksModel" 9 "LineChunksModel" "row" "[I" ∈ lc_big := lc_bigI (i := 236) (by decide +kernel) rfl
theorem lb_237 : Cond.fieldLink "LineChunksModel" 16 "LineChunksModel" "many" "I" ∈ lc_big := lc_bigI (i := 237) (by decide +kernel) rfl
theorem lb_238 : Cond.fieldLink "LineChunksModel" 34 "LineChunksModel" "thrown" "I" ∈ lc_big := lc_bigI (i := 238) (by decide +kernel) rfl
theorem lb_246 : Cond.methodLink "LineChunksLaw" 43 ⟨"LineChunksModel", "thrown", "()I"⟩ ∈ lc_big := lc_bigI (i := 246) (by decide +kernel) rfl
theorem lb_247 : Cond.instanceMethod ⟨"LineChunksModel", "thrown", "()I"⟩ ∈ lc_big := lc_bigI (i := 247) (by decide +kernel) rfl
theorem lb_248 : Cond.selects "LineChunksModel" ⟨"LineChunksModel", "thrown", "()I"⟩ ⟨"LineChunksModel", "thrown", "()I"⟩ ∈ lc_big := lc_bigI (i := 248) (by decide +kernel) rfl
theorem lb_249 : Cond.code ⟨"LineChunksModel", "thrown", "()I"⟩ prog_3_method_12_code 1 (some .int) ∈ lc_big := lc_bigI (i := 249) (by decide +kernel) rfl
theorem lb_250 : Cond.methodLink "LineChunksLaw" 42 ⟨"LineChunksModel", "insert", "(IIII)I"⟩ ∈ lc_big := lc_bigI (i := 250) (by decide +kernel) rfl
theorem lb_251 : Cond.instanceMethod ⟨"LineChunksModel", "insert", "(IIII)I"⟩ ∈ lc_big := lc_bigI (i := 251) (by decide +kernel) rfl
theorem lb_252 : Cond.selects "LineChunksModel" ⟨"LineChunksModel", "insert", "(IIII)I"⟩ ⟨"LineChunksModel", "insert", "(IIII)I"⟩ ∈ lc_big := lc_bigI (i := 252) (by decide +kernel) rfl
theorem lb_253 : Cond.codeWith ⟨"LineChunksModel", "insert", "(IIII)I"⟩ prog_3_method_13_code 6 (some .int) [(5, 14, 15, 13), (5, 14, 25, 24)] ∈ lc_big := lc_bigI (i := 253) (by decide +kernel) rfl
theorem lb_254 : Cond.classLink "LineChunksModel" 13 "java/lang/IllegalArgumentException" ∈ lc_big := lc_bigI (i := 254) (by decide +kernel) rfl
theorem lb_255 : Cond.classLink "LineChunksModel" 24 "java/lang/IllegalStateException" ∈ lc_big := lc_bigI (i := 255) (by decide +kernel) rfl
theorem lb_256 : Cond.methodLink "LineChunksModel" 37 ⟨"LineChunksModel", "insert0", "(IIII)I"⟩ ∈ lc_big := lc_bigI (i := 256) (by decide +kernel) rfl
theorem lb_258 : Cond.instanceMethod ⟨"LineChunksModel", "insert0", "(IIII)I"⟩ ∈ lc_big := lc_bigI (i := 258) (by decide +kernel) rfl
theorem lb_259 : Cond.code ⟨"LineChunksModel", "insert0", "(IIII)I"⟩ prog_3_method_3_code 6 (some .int) ∈ lc_big := lc_bigI (i := 259) (by decide +kernel) rfl
theorem lb_260 : Cond.methodLink "LineChunksModel" 20 ⟨"LineChunksModel", "check", "(Z)V"⟩ ∈ lc_big := lc_bigI (i := 260) (by decide +kernel) rfl
theorem lb_261 : Cond.static ⟨"LineChunksModel", "check", "(Z)V"⟩ ∈ lc_big := lc_bigI (i := 261) (by decide +kernel) rfl
theorem lb_262 : Cond.code ⟨"LineChunksModel", "check", "(Z)V"⟩ prog_3_method_2_code 1 none ∈ lc_big := lc_bigI (i := 262) (by decide +kernel) rfl
theorem lb_265 : Cond.methodLink "LineChunksLaw" 50 ⟨"LineChunksModel", "delete", "(II)I"⟩ ∈ lc_big := lc_bigI (i := 265) (by decide +kernel) rfl
theorem lb_266 : Cond.instanceMethod ⟨"LineChunksModel", "delete", "(II)I"⟩ ∈ lc_big := lc_bigI (i := 266) (by decide +kernel) rfl
theorem lb_267 : Cond.selects "LineChunksModel" ⟨"LineChunksModel", "delete", "(II)I"⟩ ⟨"LineChunksModel", "delete", "(II)I"⟩ ∈ lc_big := lc_bigI (i := 267) (by decide +kernel) rfl
theorem lb_268 : Cond.codeWith ⟨"LineChunksModel", "delete", "(II)I"⟩ prog_3_method_14_code 4 (some .int) [(5, 11, 12, 13)] ∈ lc_big := lc_bigI (i := 268) (by decide +kernel) rfl
theorem lb_269 : Cond.methodLink "LineChunksModel" 41 ⟨"LineChunksModel", "delete0", "(II)I"⟩ ∈ lc_big := lc_bigI (i := 269) (by decide +kernel) rfl
theorem lb_271 : Cond.instanceMethod ⟨"LineChunksModel", "delete0", "(II)I"⟩ ∈ lc_big := lc_bigI (i := 271) (by decide +kernel) rfl
theorem lb_272 : Cond.code ⟨"LineChunksModel", "delete0", "(II)I"⟩ prog_3_method_4_code 4 (some .int) ∈ lc_big := lc_bigI (i := 272) (by decide +kernel) rfl
theorem lb_273 : Cond.methodLink "LineChunksLaw" 54 ⟨"LineChunksModel", "get", "(I)I"⟩ ∈ lc_big := lc_bigI (i := 273) (by decide +kernel) rfl
theorem lb_274 : Cond.instanceMethod ⟨"LineChunksModel", "get", "(I)I"⟩ ∈ lc_big := lc_bigI (i := 274) (by decide +kernel) rfl
theorem lb_275 : Cond.selects "LineChunksModel" ⟨"LineChunksModel", "get", "(I)I"⟩ ⟨"LineChunksModel", "get", "(I)I"⟩ ∈ lc_big := lc_bigI (i := 275) (by decide +kernel) rfl
theorem lb_276 : Cond.codeWith ⟨"LineChunksModel", "get", "(I)I"⟩ prog_3_method_15_code 3 (some .int) [(5, 10, 11, 27)] ∈ lc_big := lc_bigI (i := 276) (by decide +kernel) rfl
theorem lb_277 : Cond.classLink "LineChunksModel" 27 "java/util/NoSuchElementException" ∈ lc_big := lc_bigI (i := 277) (by decide +kernel) rfl
theorem lb_278 : Cond.methodLink "LineChunksModel" 45 ⟨"LineChunksModel", "get0", "(I)I"⟩ ∈ lc_big := lc_bigI (i := 278) (by decide +kernel) rfl
theorem lb_280 : Cond.instanceMethod ⟨"LineChunksModel", "get0", "(I)I"⟩ ∈ lc_big := lc_bigI (i := 280) (by decide +kernel) rfl
theorem lb_281 : Cond.code ⟨"LineChunksModel", "get0", "(I)I"⟩ prog_3_method_5_code 2 (some .int) ∈ lc_big := lc_bigI (i := 281) (by decide +kernel) rfl
theorem lb_283 : Cond.methodLink "LineChunksLaw" 58 ⟨"LineChunksModel", "length", "()I"⟩ ∈ lc_big := lc_bigI (i := 283) (by decide +kernel) rfl
theorem lb_284 : Cond.instanceMethod ⟨"LineChunksModel", "length", "()I"⟩ ∈ lc_big := lc_bigI (i := 284) (by decide +kernel) rfl
theorem lb_285 : Cond.selects "LineChunksModel" ⟨"LineChunksModel", "length", "()I"⟩ ⟨"LineChunksModel", "length", "()I"⟩ ∈ lc_big := lc_bigI (i := 285) (by decide +kernel) rfl
theorem lb_286 : Cond.code ⟨"LineChunksModel", "length", "()I"⟩ prog_3_method_16_code 1 (some .int) ∈ lc_big := lc_bigI (i := 286) (by decide +kernel) rfl
theorem lb_287 : Cond.methodLink "LineChunksModel" 48 ⟨"LineChunksModel", "length0", "()I"⟩ ∈ lc_big := lc_bigI (i := 287) (by decide +kernel) rfl
theorem lb_289 : Cond.instanceMethod ⟨"LineChunksModel", "length0", "()I"⟩ ∈ lc_big := lc_bigI (i := 289) (by decide +kernel) rfl
theorem lb_290 : Cond.code ⟨"LineChunksModel", "length0", "()I"⟩ prog_3_method_6_code 1 (some .int) ∈ lc_big := lc_bigI (i := 290) (by decide +kernel) rfl
theorem lb_291 : Cond.methodLink "LineChunksLaw" 62 ⟨"LineChunksModel", "lines", "()I"⟩ ∈ lc_big := lc_bigI (i := 291) (by decide +kernel) rfl
theorem lb_292 : Cond.instanceMethod ⟨"LineChunksModel", "lines", "()I"⟩ ∈ lc_big := lc_bigI (i := 292) (by decide +kernel) rfl
theorem lb_293 : Cond.selects "LineChunksModel" ⟨"LineChunksModel", "lines", "()I"⟩ ⟨"LineChunksModel", "lines", "()I"⟩ ∈ lc_big := lc_bigI (i := 293) (by decide +kernel) rfl
theorem lb_294 : Cond.code ⟨"LineChunksModel", "lines", "()I"⟩ prog_3_method_17_code 1 (some .int) ∈ lc_big := lc_bigI (i := 294) (by decide +kernel) rfl
theorem lb_295 : Cond.methodLink "LineChunksModel" 52 ⟨"LineChunksModel", "lines0", "()I"⟩ ∈ lc_big := lc_bigI (i := 295) (by decide +kernel) rfl
theorem lb_297 : Cond.instanceMethod ⟨"LineChunksModel", "lines0", "()I"⟩ ∈ lc_big := lc_bigI (i := 297) (by decide +kernel) rfl
theorem lb_298 : Cond.code ⟨"LineChunksModel", "lines0", "()I"⟩ prog_3_method_8_code 1 (some .int) ∈ lc_big := lc_bigI (i := 298) (by decide +kernel) rfl
theorem lb_299 : Cond.methodLink "LineChunksModel" 30 ⟨"LineChunksModel", "endsBefore", "(I)I"⟩ ∈ lc_big := lc_bigI (i := 299) (by decide +kernel) rfl
theorem lb_301 : Cond.instanceMethod ⟨"LineChunksModel", "endsBefore", "(I)I"⟩ ∈ lc_big := lc_bigI (i := 301) (by decide +kernel) rfl
theorem lb_302 : Cond.code ⟨"LineChunksModel", "endsBefore", "(I)I"⟩ prog_3_method_7_code 4 (some .int) ∈ lc_big := lc_bigI (i := 302) (by decide +kernel) rfl
theorem lb_303 : Cond.methodLink "LineChunksLaw" 65 ⟨"LineChunksModel", "line", "(I)I"⟩ ∈ lc_big := lc_bigI (i := 303) (by decide +kernel) rfl
theorem lb_304 : Cond.instanceMethod ⟨"LineChunksModel", "line", "(I)I"⟩ ∈ lc_big := lc_bigI (i := 304) (by decide +kernel) rfl
theorem lb_305 : Cond.selects "LineChunksModel" ⟨"LineChunksModel", "line", "(I)I"⟩ ⟨"LineChunksModel", "line", "(I)I"⟩ ∈ lc_big := lc_bigI (i := 305) (by decide +kernel) rfl
theorem lb_306 : Cond.codeWith ⟨"LineChunksModel", "line", "(I)I"⟩ prog_3_method_18_code 3 (some .int) [(5, 10, 11, 27)] ∈ lc_big := lc_bigI (i := 306) (by decide +kernel) rfl
theorem lb_307 : Cond.methodLink "LineChunksModel" 55 ⟨"LineChunksModel", "line0", "(I)I"⟩ ∈ lc_big := lc_bigI (i := 307) (by decide +kernel) rfl
theorem lb_309 : Cond.instanceMethod ⟨"LineChunksModel", "line0", "(I)I"⟩ ∈ lc_big := lc_bigI (i := 309) (by decide +kernel) rfl
theorem lb_310 : Cond.code ⟨"LineChunksModel", "line0", "(I)I"⟩ prog_3_method_9_code 3 (some .int) ∈ lc_big := lc_bigI (i := 310) (by decide +kernel) rfl
theorem lb_311 : Cond.methodLink "LineChunksLaw" 68 ⟨"LineChunksModel", "lineOf", "(I)I"⟩ ∈ lc_big := lc_bigI (i := 311) (by decide +kernel) rfl
theorem lb_312 : Cond.instanceMethod ⟨"LineChunksModel", "lineOf", "(I)I"⟩ ∈ lc_big := lc_bigI (i := 312) (by decide +kernel) rfl
theorem lb_313 : Cond.selects "LineChunksModel" ⟨"LineChunksModel", "lineOf", "(I)I"⟩ ⟨"LineChunksModel", "lineOf", "(I)I"⟩ ∈ lc_big := lc_bigI (i := 313) (by decide +kernel) rfl
theorem lb_314 : Cond.codeWith ⟨"LineChunksModel", "lineOf", "(I)I"⟩ prog_3_method_19_code 3 (some .int) [(5, 10, 11, 13)] ∈ lc_big := lc_bigI (i := 314) (by decide +kernel) rfl
theorem lb_315 : Cond.methodLink "LineChunksModel" 58 ⟨"LineChunksModel", "lineOf0", "(I)I"⟩ ∈ lc_big := lc_bigI (i := 315) (by decide +kernel) rfl
theorem lb_317 : Cond.instanceMethod ⟨"LineChunksModel", "lineOf0", "(I)I"⟩ ∈ lc_big := lc_bigI (i := 317) (by decide +kernel) rfl
theorem lb_318 : Cond.code ⟨"LineChunksModel", "lineOf0", "(I)I"⟩ prog_3_method_10_code 2 (some .int) ∈ lc_big := lc_bigI (i := 318) (by decide +kernel) rfl
theorem lb_319 : Cond.methodLink "LineChunksLaw" 72 ⟨"LineChunksModel", "digest", "()I"⟩ ∈ lc_big := lc_bigI (i := 319) (by decide +kernel) rfl
theorem lb_320 : Cond.instanceMethod ⟨"LineChunksModel", "digest", "()I"⟩ ∈ lc_big := lc_bigI (i := 320) (by decide +kernel) rfl
theorem lb_321 : Cond.selects "LineChunksModel" ⟨"LineChunksModel", "digest", "()I"⟩ ⟨"LineChunksModel", "digest", "()I"⟩ ∈ lc_big := lc_bigI (i := 321) (by decide +kernel) rfl
theorem lb_322 : Cond.code ⟨"LineChunksModel", "digest", "()I"⟩ prog_3_method_20_code 1 (some .int) ∈ lc_big := lc_bigI (i := 322) (by decide +kernel) rfl
theorem lb_323 : Cond.methodLink "LineChunksModel" 61 ⟨"LineChunksModel", "digest0", "()I"⟩ ∈ lc_big := lc_bigI (i := 323) (by decide +kernel) rfl
theorem lb_325 : Cond.instanceMethod ⟨"LineChunksModel", "digest0", "()I"⟩ ∈ lc_big := lc_bigI (i := 325) (by decide +kernel) rfl
theorem lb_326 : Cond.code ⟨"LineChunksModel", "digest0", "()I"⟩ prog_3_method_11_code 3 (some .int) ∈ lc_big := lc_bigI (i := 326) (by decide +kernel) rfl
theorem lb_327 : Cond.arrayClass .long ∈ lc_big := lc_bigI (i := 327) (by decide +kernel) rfl
theorem gX0_insert_X0_makeRoomFor : GoodIn wsX0_insert (wsV RX0 26 RX0 yX0_makeRoomFor wsX0_makeRoomFor) := lc_gV lb_145 lb_147 lb_1 lb_16 lb_148
theorem gX0_insert_X0_moveTail : GoodIn wsX0_insert (wsV RX0 30 RX0 yX0_moveTail wsX0_moveTail) := lc_gV lb_169 lb_171 lb_2 lb_16 lb_172
theorem gX0_insert_X0_fill : GoodIn wsX0_insert (wsV RX0 34 RX0 yX0_fill wsX0_fill) := lc_gV lb_174 lb_176 lb_3 lb_16 lb_177
theorem gX0_insert_X0_lineEndsIn : GoodIn wsX0_insert (wsV RX0 38 RX0 yX0_lineEndsIn wsX0_lineEndsIn) := lc_gV lb_178 lb_180 lb_4 lb_16 lb_181
theorem gX0_delete_X0_lineEndsIn : GoodIn wsX0_delete (wsV RX0 38 RX0 yX0_lineEndsIn wsX0_lineEndsIn) := lc_gV lb_178 lb_180 lb_4 lb_16 lb_181
theorem gX0_delete_X0_moveTail : GoodIn wsX0_delete (wsV RX0 30 RX0 yX0_moveTail wsX0_moveTail) := lc_gV lb_169 lb_171 lb_2 lb_16 lb_172
theorem gX0_line_X0_indexBehindLineEnds : GoodIn wsX0_line (wsV RX0 45 RX0 yX0_indexBehindLineEnds wsX0_indexBehindLineEnds) := lc_gV lb_219 lb_221 lb_5 lb_16 lb_222
theorem gX0_lineOf_X0_lineEndsIn : GoodIn wsX0_lineOf (wsV RX0 38 RX0 yX0_lineEndsIn wsX0_lineEndsIn) := lc_gV lb_178 lb_180 lb_4 lb_16 lb_181
theorem gX0_makeRoomFor_J_copyOf : GoodIn wsX0_makeRoomFor (va_wsS RX0 57 yJ_copyOf wsJ_copyOf) := lc_gT lb_155 lb_156 lb_24 lb_157
theorem gX1_insert0_X1_check : GoodIn wsX1_insert0 (wsS RX1 20 yX1_check wsX1_check) := lc_gS lb_260 lb_261 lb_17 lb_262
theorem gX1_delete0_X1_check : GoodIn wsX1_delete0 (wsS RX1 20 yX1_check wsX1_check) := lc_gS lb_260 lb_261 lb_17 lb_262
theorem gX1_lines0_X1_endsBefore : GoodIn wsX1_lines0 (wsV RX1 30 RX1 yX1_endsBefore wsX1_endsBefore) := lc_gV lb_299 lb_301 lb_11 lb_17 lb_302
theorem gX1_line0_X1_endsBefore : GoodIn wsX1_line0 (wsV RX1 30 RX1 yX1_endsBefore wsX1_endsBefore) := lc_gV lb_299 lb_301 lb_11 lb_17 lb_302
theorem gX1_lineOf0_X1_check : GoodIn wsX1_lineOf0 (wsS RX1 20 yX1_check wsX1_check) := lc_gS lb_260 lb_261 lb_17 lb_262
theorem gX1_lineOf0_X1_endsBefore : GoodIn wsX1_lineOf0 (wsV RX1 30 RX1 yX1_endsBefore wsX1_endsBefore) := lc_gV lb_299 lb_301 lb_11 lb_17 lb_302
theorem gX1_insert_X1_insert0 : GoodIn wsX1_insert (wsV RX1 37 RX1 yX1_insert0 wsX1_insert0) := lc_gV lb_256 lb_258 lb_6 lb_17 lb_259
theorem gX1_delete_X1_delete0 : GoodIn wsX1_delete (wsV RX1 41 RX1 yX1_delete0 wsX1_delete0) := lc_gV lb_269 lb_271 lb_7 lb_17 lb_272
theorem gX1_get_X1_get0 : GoodIn wsX1_get (wsV RX1 45 RX1 yX1_get0 wsX1_get0) := lc_gV lb_278 lb_280 lb_8 lb_17 lb_281
theorem gX1_length_X1_length0 : GoodIn wsX1_length (wsV RX1 48 RX1 yX1_length0 wsX1_length0) := lc_gV lb_287 lb_289 lb_9 lb_17 lb_290
theorem gX1_lines_X1_lines0 : GoodIn wsX1_lines (wsV RX1 52 RX1 yX1_lines0 wsX1_lines0) := lc_gV lb_295 lb_297 lb_10 lb_17 lb_298
theorem gX1_line_X1_line0 : GoodIn wsX1_line (wsV RX1 55 RX1 yX1_line0 wsX1_line0) := lc_gV lb_307 lb_309 lb_12 lb_17 lb_310
theorem gX1_lineOf_X1_lineOf0 : GoodIn wsX1_lineOf (wsV RX1 58 RX1 yX1_lineOf0 wsX1_lineOf0) := lc_gV lb_315 lb_317 lb_13 lb_17 lb_318
theorem gX1_digest_X1_digest0 : GoodIn wsX1_digest (wsV RX1 61 RX1 yX1_digest0 wsX1_digest0) := lc_gV lb_323 lb_325 lb_14 lb_17 lb_326
theorem gL_insert_X0_insert : GoodIn wsL_insert (wsV RL 7 RX0 yX0_insert wsX0_insert) := lc_gV lb_63 lb_64 lb_65 lb_16 lb_66
theorem gL_delete_X0_delete : GoodIn wsL_delete (wsV RL 17 RX0 yX0_delete wsX0_delete) := lc_gV lb_185 lb_186 lb_187 lb_16 lb_188
theorem gL_get_X0_get : GoodIn wsL_get (wsV RL 21 RX0 yX0_get wsX0_get) := lc_gV lb_193 lb_194 lb_195 lb_16 lb_196
theorem gL_line_X0_line : GoodIn wsL_line (wsV RL 27 RX0 yX0_line wsX0_line) := lc_gV lb_215 lb_216 lb_217 lb_16 lb_218
theorem gL_lineOf_X0_lineOf : GoodIn wsL_lineOf (wsV RL 30 RX0 yX0_lineOf wsX0_lineOf) := lc_gV lb_226 lb_227 lb_228 lb_16 lb_229
theorem gL_law_X0_init : GoodIn wsL_law wsX0_init := lc_gI lb_31
theorem gL_law_X1_init : GoodIn wsL_law wsX1_init := lc_gI lb_234
theorem gL_law_L_insert : GoodIn wsL_law (va_wsS RL 37 yL_insert wsL_insert) := lc_gT lb_58 lb_59 lb_15 lb_60
theorem gL_law_X1_insert : GoodIn wsL_law (wsV RL 42 RX1 yX1_insert wsX1_insert) := lc_gV lb_250 lb_251 lb_252 lb_17 lb_253
theorem gL_law_X1_thrown : GoodIn wsL_law (wsV RL 43 RX1 yX1_thrown wsX1_thrown) := lc_gV lb_246 lb_247 lb_248 lb_17 lb_249
theorem gL_law_L_delete : GoodIn wsL_law (va_wsS RL 47 yL_delete wsL_delete) := lc_gT lb_182 lb_183 lb_15 lb_184
theorem gL_law_X1_delete : GoodIn wsL_law (wsV RL 50 RX1 yX1_delete wsX1_delete) := lc_gV lb_265 lb_266 lb_267 lb_17 lb_268
theorem gL_law_L_get : GoodIn wsL_law (va_wsS RL 51 yL_get wsL_get) := lc_gT lb_189 lb_190 lb_15 lb_191
theorem gL_law_X1_get : GoodIn wsL_law (wsV RL 54 RX1 yX1_get wsX1_get) := lc_gV lb_273 lb_274 lb_275 lb_17 lb_276
theorem gL_law_X0_length : GoodIn wsL_law (wsV RL 55 RX0 yX0_length wsX0_length) := lc_gV lb_46 lb_47 lb_48 lb_16 lb_49
theorem gL_law_X1_length : GoodIn wsL_law (wsV RL 58 RX1 yX1_length wsX1_length) := lc_gV lb_283 lb_284 lb_285 lb_17 lb_286
theorem gL_law_X0_lines : GoodIn wsL_law (wsV RL 59 RX0 yX0_lines wsX0_lines) := lc_gV lb_50 lb_51 lb_52 lb_16 lb_53
theorem gL_law_X1_lines : GoodIn wsL_law (wsV RL 62 RX1 yX1_lines wsX1_lines) := lc_gV lb_291 lb_292 lb_293 lb_17 lb_294
theorem gL_law_L_line : GoodIn wsL_law (va_wsS RL 63 yL_line wsL_line) := lc_gT lb_212 lb_213 lb_15 lb_214
theorem gL_law_X1_line : GoodIn wsL_law (wsV RL 65 RX1 yX1_line wsX1_line) := lc_gV lb_303 lb_304 lb_305 lb_17 lb_306
theorem gL_law_L_lineOf : GoodIn wsL_law (va_wsS RL 66 yL_lineOf wsL_lineOf) := lc_gT lb_223 lb_224 lb_15 lb_225
theorem gL_law_X1_lineOf : GoodIn wsL_law (wsV RL 68 RX1 yX1_lineOf wsX1_lineOf) := lc_gV lb_311 lb_312 lb_313 lb_17 lb_314
theorem gL_law_X0_digest : GoodIn wsL_law (wsV RL 69 RX0 yX0_digest wsX0_digest) := lc_gV lb_54 lb_55 lb_56 lb_16 lb_57
theorem gL_law_X1_digest : GoodIn wsL_law (wsV RL 72 RX1 yX1_digest wsX1_digest) := lc_gV lb_319 lb_320 lb_321 lb_17 lb_322
