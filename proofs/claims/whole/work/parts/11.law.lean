set_option maxHeartbeats 4000000 in
set_option maxRecDepth 100000 in
theorem w_get (l : Launch) (D : va_G) (h q : Nat) (cA : ClassId) (o : Nat) (cJ : ClassId) (sz : Nat) (fo : Nat → Int64) (e : Int32) (L c0 : Nat) (g : Nat → Int32) (hL : L ≤ 20000) (hc0 : c0 ≤ L) (i : Nat) (hi : i < c0) : Met l yL_get wsL_get ({ frames := 8, cells := 0, slots := 0, locals := 140 }) (lc_Wr [.ref h, .int (nI i), .ref o] D [(h, .inr (0, [.ref q, .int (nI c0), .int e])), (q, .inl (cA, L, .inl g)), (o, .inl (cJ, 1, .inr (.inl fo)))] [(cA, .int), (cJ, .long)] sz) (lc_QW (S := (Nat → Int64)) D (va_A [(h, .inr (0, [.ref q, .int (nI c0), .int e])), (q, .inl (cA, L, .inl g)), (o, .inl (cJ, 1, .inr (.inl fo)))] sz) (fun _ => some (.int 0)) (fun u => [(h, .inr (0, [.ref q, .int (nI c0), .int e])), (q, .inl (cA, L, .inl g)), (o, .inl (cJ, 1, .inr (.inl u)))]) (fun _ => [(cA, .int), (cJ, .long)]) (fun u => u 0 = (g i).toInt64)) 0 0 (va_A [(h, .inr (0, [.ref q, .int (nI c0), .int e])), (q, .inl (cA, L, .inl g)), (o, .inl (cJ, 1, .inr (.inl fo)))] sz) := by
  refine va_MetW (cc := cL_get) (maxL := 4) (ret := (some .int)) (hh := [(0, 9, 12, 25)]) (by decide) rfl ?_
  intro p e' s m args below meth c s₁ B hml hv
  obtain ⟨rfl, hsz, hP, hK, hD0⟩ := hv
  have hx := B.exec
  have hb := B.bytes
  have hr := B.returns
  have hts := atoms_spec (ws := wsL_get) B.pre
  have hown : s.vm.findClass RL = some m.cls := findClass_of_methodNamed B.named
  have hlocks := B.notSynchronized
  subst hsz
  have hD := hD0.self (sz := s.heap.size)
  generalize hAe : va_A [(h, .inr (0, [.ref q, .int (nI c0), .int e])), (q, .inl (cA, L, .inl g)), (o, .inl (cJ, 1, .inr (.inl fo)))] s.heap.size = A at hD ⊢
  have hA : ∀ q : Nat, s.heap.size ≤ q → A q := fun q h => by rw [← hAe]; exact Or.inr h
  have hS : va_S A s.heap s.heap [] := va_S.rf
  have hP : va_P D vwCl [(h, .inr (0, [.ref q, .int (nI c0), .int e])), (q, .inl (cA, L, .inl g)), (o, .inl (cJ, 1, .inr (.inl fo)))] s.heap := hP
  have hl := lv_entry ([.ref h, .int (nI i), .ref o]) (n := 4) (Nat.le_of_ble_eq_true rfl)
  rw [lg_entry_eq]
  generalize (lg_sl ([.ref h, .int (nI i), .ref o]) ++ List.replicate (4 - (lg_sl ([.ref h, .int (nI i), .ref o])).length) Slot.unset).toArray = ls at hl ⊢
  have hl : lv_has ls 4 [(0, .ref h), (1, .int (nI i)), (2, .ref o)] := hl
  refine lv_aload_n hx hb dL_get_0 rfl (lv_at hl 2 rfl) ?_
  refine lv_iconst (v := 0) hx hb dL_get_1 (by decide) ?_
  refine lv_aload_n hx hb dL_get_2 rfl (lv_at hl 0 rfl) ?_
  refine lv_iload_n hx hb dL_get_3 rfl (lv_at hl 1 rfl) ?_
  refine lc_callR (W.runV (As := [.int (nI i)]) (rest := [.int 0, .ref o]) ⟨hx, hb, hml, hown, hts⟩ (k_get l D h q cA e L c0 g hL hc0 i hi) (cwV 1 hts gL_get_X0_get rfl rfl rfl (by decide +kernel) ⟨Nat.le_of_ble_eq_true rfl, Nat.le_of_ble_eq_true rfl⟩) (lc_RdV (q0 := 0) (ci := 0) (q := (RX0, TX0, 3)) (hP.sub (ws' := [(h, .inr (0, [.ref q, .int (nI c0), .int e])), (q, .inl (cA, L, .inl g))]) [0, 1] rfl) (hK.sub (tys' := [(cA, .int)]) [0] rfl) rfl rfl) rfl rfl hl.1 rfl (lv_room (Nat.le_of_ble_eq_true rfl)) dL_get_4 ⟨Nat.le_refl _, Nat.le_refl _⟩) ?_
  refine lv_i2l (v := (g i).toInt64) hx hb dL_get_7 rfl ?_
  refine va_last (D := D) hx hb hK hP hD hS 2 1 rfl rfl (vp_in_nI (n := 0) (N := 1) (by decide) (by decide)) dL_get_8 (fun H locs hP hD hS => ?_)
  have hP : va_P D vwCl [(h, .inr (0, [.ref q, .int (nI c0), .int e])), (q, .inl (cA, L, .inl g)), (o, .inl (cJ, 1, .inr (.inl (vp_updL fo ((0 : Int32).toNatClampNeg) (g i).toInt64))))] H := hP
  have hD : va_D A [(h, .inr (0, [.ref q, .int (nI c0), .int e])), (q, .inl (cA, L, .inl g)), (o, .inl (cJ, 1, .inr (.inl (vp_updL fo ((0 : Int32).toNatClampNeg) (g i).toInt64))))] := hD
  refine lv_goto hx hb dL_get_9 (tgt := 15) rfl ?_
  refine lv_iconst (v := 0) hx hb dL_get_15 (by decide) ?_
  exact W.iret (v := 0) hx hb hr (fun t ht hW => ⟨vp_updL fo ((0 : Int32).toNatClampNeg) (g i).toInt64, rfl, pk_uLs, by rw [ht]; exact hP, va_K.moved hW.alike hK, hD, hS.F ht⟩) hS.2.2 dL_get_16
set_option maxHeartbeats 4000000 in
set_option maxRecDepth 100000 in
theorem w_line (l : Launch) (D : va_G) (h q : Nat) (cA : ClassId) (o : Nat) (cJ : ClassId) (sz : Nat) (fo : Nat → Int64) (L c0 : Nat) (g : Nat → Int32) (hL : L ≤ 20000) (hc0 : c0 ≤ L) (k0 j0 : Nat) (hk0 : k0 ≤ lc_cnt g c0) (hj : lc_isL g k0 j0) (hj0 : j0 ≤ c0) : Met l yL_line wsL_line ({ frames := 8, cells := 0, slots := 0, locals := 140 }) (lc_Wr [.ref h, .int (nI k0), .ref o] D [(h, .inr (0, [.ref q, .int (nI c0), .int (nI (lc_cnt g c0))])), (q, .inl (cA, L, .inl g)), (o, .inl (cJ, 1, .inr (.inl fo)))] [(cA, .int), (cJ, .long)] sz) (lc_QW (S := (Nat → Int64)) D (va_A [(h, .inr (0, [.ref q, .int (nI c0), .int (nI (lc_cnt g c0))])), (q, .inl (cA, L, .inl g)), (o, .inl (cJ, 1, .inr (.inl fo)))] sz) (fun _ => some (.int 0)) (fun u => [(h, .inr (0, [.ref q, .int (nI c0), .int (nI (lc_cnt g c0))])), (q, .inl (cA, L, .inl g)), (o, .inl (cJ, 1, .inr (.inl u)))]) (fun _ => [(cA, .int), (cJ, .long)]) (fun u => u 0 = (nI j0).toInt64)) 0 0 (va_A [(h, .inr (0, [.ref q, .int (nI c0), .int (nI (lc_cnt g c0))])), (q, .inl (cA, L, .inl g)), (o, .inl (cJ, 1, .inr (.inl fo)))] sz) := by
  refine va_MetW (cc := cL_line) (maxL := 4) (ret := (some .int)) (hh := [(0, 9, 12, 25)]) (by decide) rfl ?_
  intro p e' s m args below meth c s₁ B hml hv
  obtain ⟨rfl, hsz, hP, hK, hD0⟩ := hv
  have hx := B.exec
  have hb := B.bytes
  have hr := B.returns
  have hts := atoms_spec (ws := wsL_line) B.pre
  have hown : s.vm.findClass RL = some m.cls := findClass_of_methodNamed B.named
  have hlocks := B.notSynchronized
  subst hsz
  have hD := hD0.self (sz := s.heap.size)
  generalize hAe : va_A [(h, .inr (0, [.ref q, .int (nI c0), .int (nI (lc_cnt g c0))])), (q, .inl (cA, L, .inl g)), (o, .inl (cJ, 1, .inr (.inl fo)))] s.heap.size = A at hD ⊢
  have hA : ∀ q : Nat, s.heap.size ≤ q → A q := fun q h => by rw [← hAe]; exact Or.inr h
  have hS : va_S A s.heap s.heap [] := va_S.rf
  have hP : va_P D vwCl [(h, .inr (0, [.ref q, .int (nI c0), .int (nI (lc_cnt g c0))])), (q, .inl (cA, L, .inl g)), (o, .inl (cJ, 1, .inr (.inl fo)))] s.heap := hP
  have hl := lv_entry ([.ref h, .int (nI k0), .ref o]) (n := 4) (Nat.le_of_ble_eq_true rfl)
  rw [lg_entry_eq]
  generalize (lg_sl ([.ref h, .int (nI k0), .ref o]) ++ List.replicate (4 - (lg_sl ([.ref h, .int (nI k0), .ref o])).length) Slot.unset).toArray = ls at hl ⊢
  have hl : lv_has ls 4 [(0, .ref h), (1, .int (nI k0)), (2, .ref o)] := hl
  refine lv_aload_n hx hb dL_line_0 rfl (lv_at hl 2 rfl) ?_
  refine lv_iconst (v := 0) hx hb dL_line_1 (by decide) ?_
  refine lv_aload_n hx hb dL_line_2 rfl (lv_at hl 0 rfl) ?_
  refine lv_iload_n hx hb dL_line_3 rfl (lv_at hl 1 rfl) ?_
  refine lc_callR (W.runV (As := [.int (nI k0)]) (rest := [.int 0, .ref o]) ⟨hx, hb, hml, hown, hts⟩ (k_line l D h q cA L c0 g hL hc0 k0 j0 hk0 hj hj0) (cwV 1 hts gL_line_X0_line rfl rfl rfl (by decide +kernel) ⟨Nat.le_of_ble_eq_true rfl, Nat.le_of_ble_eq_true rfl⟩) (lc_RdV (q0 := 0) (ci := 0) (q := (RX0, TX0, 3)) (hP.sub (ws' := [(h, .inr (0, [.ref q, .int (nI c0), .int (nI (lc_cnt g c0))])), (q, .inl (cA, L, .inl g))]) [0, 1] rfl) (hK.sub (tys' := [(cA, .int)]) [0] rfl) rfl rfl) rfl rfl hl.1 rfl (lv_room (Nat.le_of_ble_eq_true rfl)) dL_line_4 ⟨Nat.le_refl _, Nat.le_refl _⟩) ?_
  refine lv_i2l (v := (nI j0).toInt64) hx hb dL_line_7 rfl ?_
  refine va_last (D := D) hx hb hK hP hD hS 2 1 rfl rfl (vp_in_nI (n := 0) (N := 1) (by decide) (by decide)) dL_line_8 (fun H locs hP hD hS => ?_)
  have hP : va_P D vwCl [(h, .inr (0, [.ref q, .int (nI c0), .int (nI (lc_cnt g c0))])), (q, .inl (cA, L, .inl g)), (o, .inl (cJ, 1, .inr (.inl (vp_updL fo ((0 : Int32).toNatClampNeg) (nI j0).toInt64))))] H := hP
  have hD : va_D A [(h, .inr (0, [.ref q, .int (nI c0), .int (nI (lc_cnt g c0))])), (q, .inl (cA, L, .inl g)), (o, .inl (cJ, 1, .inr (.inl (vp_updL fo ((0 : Int32).toNatClampNeg) (nI j0).toInt64))))] := hD
  refine lv_goto hx hb dL_line_9 (tgt := 15) rfl ?_
  refine lv_iconst (v := 0) hx hb dL_line_15 (by decide) ?_
  exact W.iret (v := 0) hx hb hr (fun t ht hW => ⟨vp_updL fo ((0 : Int32).toNatClampNeg) (nI j0).toInt64, rfl, pk_uLs, by rw [ht]; exact hP, va_K.moved hW.alike hK, hD, hS.F ht⟩) hS.2.2 dL_line_16
set_option maxHeartbeats 4000000 in
set_option maxRecDepth 100000 in
theorem w_lineOf (l : Launch) (D : va_G) (h q : Nat) (cA : ClassId) (o : Nat) (cJ : ClassId) (sz : Nat) (fo : Nat → Int64) (e : Int32) (L c0 : Nat) (g : Nat → Int32) (hL : L ≤ 20000) (hc0 : c0 ≤ L) (i : Nat) (hi : i ≤ c0) : Met l yL_lineOf wsL_lineOf ({ frames := 8, cells := 0, slots := 0, locals := 140 }) (lc_Wr [.ref h, .int (nI i), .ref o] D [(h, .inr (0, [.ref q, .int (nI c0), .int e])), (q, .inl (cA, L, .inl g)), (o, .inl (cJ, 1, .inr (.inl fo)))] [(cA, .int), (cJ, .long)] sz) (lc_QW (S := (Nat → Int64)) D (va_A [(h, .inr (0, [.ref q, .int (nI c0), .int e])), (q, .inl (cA, L, .inl g)), (o, .inl (cJ, 1, .inr (.inl fo)))] sz) (fun _ => some (.int 0)) (fun u => [(h, .inr (0, [.ref q, .int (nI c0), .int e])), (q, .inl (cA, L, .inl g)), (o, .inl (cJ, 1, .inr (.inl u)))]) (fun _ => [(cA, .int), (cJ, .long)]) (fun u => u 0 = (nI (lc_cnt g i)).toInt64)) 0 0 (va_A [(h, .inr (0, [.ref q, .int (nI c0), .int e])), (q, .inl (cA, L, .inl g)), (o, .inl (cJ, 1, .inr (.inl fo)))] sz) := by
  refine va_MetW (cc := cL_lineOf) (maxL := 4) (ret := (some .int)) (hh := [(0, 9, 12, 13)]) (by decide) rfl ?_
  intro p e' s m args below meth c s₁ B hml hv
  obtain ⟨rfl, hsz, hP, hK, hD0⟩ := hv
  have hx := B.exec
  have hb := B.bytes
  have hr := B.returns
  have hts := atoms_spec (ws := wsL_lineOf) B.pre
  have hown : s.vm.findClass RL = some m.cls := findClass_of_methodNamed B.named
  have hlocks := B.notSynchronized
  subst hsz
  have hD := hD0.self (sz := s.heap.size)
  generalize hAe : va_A [(h, .inr (0, [.ref q, .int (nI c0), .int e])), (q, .inl (cA, L, .inl g)), (o, .inl (cJ, 1, .inr (.inl fo)))] s.heap.size = A at hD ⊢
  have hA : ∀ q : Nat, s.heap.size ≤ q → A q := fun q h => by rw [← hAe]; exact Or.inr h
  have hS : va_S A s.heap s.heap [] := va_S.rf
  have hP : va_P D vwCl [(h, .inr (0, [.ref q, .int (nI c0), .int e])), (q, .inl (cA, L, .inl g)), (o, .inl (cJ, 1, .inr (.inl fo)))] s.heap := hP
  have hl := lv_entry ([.ref h, .int (nI i), .ref o]) (n := 4) (Nat.le_of_ble_eq_true rfl)
  rw [lg_entry_eq]
  generalize (lg_sl ([.ref h, .int (nI i), .ref o]) ++ List.replicate (4 - (lg_sl ([.ref h, .int (nI i), .ref o])).length) Slot.unset).toArray = ls at hl ⊢
  have hl : lv_has ls 4 [(0, .ref h), (1, .int (nI i)), (2, .ref o)] := hl
  refine lv_aload_n hx hb dL_lineOf_0 rfl (lv_at hl 2 rfl) ?_
  refine lv_iconst (v := 0) hx hb dL_lineOf_1 (by decide) ?_
  refine lv_aload_n hx hb dL_lineOf_2 rfl (lv_at hl 0 rfl) ?_
  refine lv_iload_n hx hb dL_lineOf_3 rfl (lv_at hl 1 rfl) ?_
  refine lc_callR (W.runV (As := [.int (nI i)]) (rest := [.int 0, .ref o]) ⟨hx, hb, hml, hown, hts⟩ (k_lineOf l D h q cA e L c0 g hL hc0 i hi) (cwV 1 hts gL_lineOf_X0_lineOf rfl rfl rfl (by decide +kernel) ⟨Nat.le_of_ble_eq_true rfl, Nat.le_of_ble_eq_true rfl⟩) (lc_RdV (q0 := 0) (ci := 0) (q := (RX0, TX0, 3)) (hP.sub (ws' := [(h, .inr (0, [.ref q, .int (nI c0), .int e])), (q, .inl (cA, L, .inl g))]) [0, 1] rfl) (hK.sub (tys' := [(cA, .int)]) [0] rfl) rfl rfl) rfl rfl hl.1 rfl (lv_room (Nat.le_of_ble_eq_true rfl)) dL_lineOf_4 ⟨Nat.le_refl _, Nat.le_refl _⟩) ?_
  refine lv_i2l (v := (nI (lc_cnt g i)).toInt64) hx hb dL_lineOf_7 rfl ?_
  refine va_last (D := D) hx hb hK hP hD hS 2 1 rfl rfl (vp_in_nI (n := 0) (N := 1) (by decide) (by decide)) dL_lineOf_8 (fun H locs hP hD hS => ?_)
  have hP : va_P D vwCl [(h, .inr (0, [.ref q, .int (nI c0), .int e])), (q, .inl (cA, L, .inl g)), (o, .inl (cJ, 1, .inr (.inl (vp_updL fo ((0 : Int32).toNatClampNeg) (nI (lc_cnt g i)).toInt64))))] H := hP
  have hD : va_D A [(h, .inr (0, [.ref q, .int (nI c0), .int e])), (q, .inl (cA, L, .inl g)), (o, .inl (cJ, 1, .inr (.inl (vp_updL fo ((0 : Int32).toNatClampNeg) (nI (lc_cnt g i)).toInt64))))] := hD
  refine lv_goto hx hb dL_lineOf_9 (tgt := 15) rfl ?_
  refine lv_iconst (v := 0) hx hb dL_lineOf_15 (by decide) ?_
  exact W.iret (v := 0) hx hb hr (fun t ht hW => ⟨vp_updL fo ((0 : Int32).toNatClampNeg) (nI (lc_cnt g i)).toInt64, rfl, pk_uLs, by rw [ht]; exact hP, va_K.moved hW.alike hK, hD, hS.F ht⟩) hS.2.2 dL_lineOf_16
set_option maxHeartbeats 4000000 in
set_option maxRecDepth 100000 in
theorem w_get_bad (l : Launch) (D : va_G) (h q : Nat) (cA : ClassId) (o : Nat) (cJ : ClassId) (hst : l.stackTraces = false) (n e : Int32) (L : Nat) (g : Nat → Int32) (p0 : Int32) (hbad : p0 < 0 ∨ n ≤ p0) : Met l yL_get wsL_get ({ frames := 8, cells := 1, slots := 6, locals := 140 }) (lc_Tx [.ref h, .int p0, .ref o] D [(h, .inr (0, [.ref q, .int n, .int e])), (q, .inl (cA, L, .inl g))] [(cA, .int)] (fun _ => False)) (lc_QB 1) 1 6 (fun _ => False) := by
  refine va_MetW (cc := cL_get) (maxL := 4) (ret := (some .int)) (hh := [(0, 9, 12, 25)]) (by decide) rfl ?_
  intro p e' s m args below meth c s₁ B hml hv
  obtain ⟨rfl, hP, hK, hZ⟩ := hv
  have hx := B.exec
  have hb := B.bytes
  have hr := B.returns
  have hts := atoms_spec (ws := wsL_get) B.pre
  have hown : s.vm.findClass RL = some m.cls := findClass_of_methodNamed B.named
  have hlocks := B.notSynchronized
  have htb : c.exceptionTable.toList = tableOf [(0, 9, 12, 25)] := vx_table (x := yL_get) B (hts (.codeWith yL_get cL_get 4 (some .int) [(0, 9, 12, 25)]) List.mem_cons_self)
  have hl := lv_entry ([.ref h, .int p0, .ref o]) (n := 4) (Nat.le_of_ble_eq_true rfl)
  rw [lg_entry_eq]
  generalize (lg_sl ([.ref h, .int p0, .ref o]) ++ List.replicate (4 - (lg_sl ([.ref h, .int p0, .ref o])).length) Slot.unset).toArray = ls at hl ⊢
  have hl : lv_has ls 4 [(0, .ref h), (1, .int p0), (2, .ref o)] := hl
  refine lv_aload_n hx hb dL_get_0 rfl (lv_at hl 2 rfl) ?_
  refine lv_iconst (v := 0) hx hb dL_get_1 (by decide) ?_
  refine lv_aload_n hx hb dL_get_2 rfl (lv_at hl 0 rfl) ?_
  refine lv_iload_n hx hb dL_get_3 rfl (lv_at hl 1 rfl) ?_
  refine lc_callX (vx_runV (As := [.int p0]) (rest := [.int 0, .ref o]) ⟨hx, hb, hml, hown, hts⟩ (k_get_bad l D h q cA hst n e L g p0 hbad) (cwV 1 hts gL_get_X0_get rfl rfl rfl (by decide +kernel) ⟨Nat.le_of_ble_eq_true rfl, Nat.le_of_ble_eq_true rfl⟩) (lc_TxV (q0 := 0) (ci := 0) (q := (RX0, TX0, 3)) hP hK hZ rfl rfl) rfl rfl hl.1 rfl (lv_room (Nat.le_of_ble_eq_true rfl)) dL_get_4 ⟨Nat.le_refl _, Nat.le_refl _⟩) (fun ce q9 H1 hz hk hce hcv hcl => ?_)
  refine vx_catch (name := "java/util/NoSuchElementException") hown [] ⟨0, 9, 12, 25⟩ [] (by rw [htb]; rfl) (fun _ h => nomatch h) (by decide) (by decide) (hts _ (List.mem_cons_of_mem _ lb_192)) (hZ.2.2.2.2.1.use rfl) hce hcv hcl ?_
  refine W.eq (g2 := F0 m 12 ls [.ref q9]) rfl ?_
  refine lv_astore_n hx hb dL_get_12 rfl hl (by decide) rfl (fun ls hl => ?_)
  have hl : lv_has ls 4 [(3, .ref q9), (0, .ref h), (1, .int p0), (2, .ref o)] := hl
  refine lv_iconst (v := 1) hx hb dL_get_13 (by decide) ?_
  exact W.iret (v := 1) hx hb hr (fun t ht _ => ⟨rfl, by rw [ht]; exact hz, fun q h1 _ => by rw [ht]; exact hk q h1⟩) (fun _ h => nomatch h) dL_get_14
set_option maxHeartbeats 4000000 in
set_option maxRecDepth 100000 in
theorem w_line_bad (l : Launch) (D : va_G) (h q : Nat) (cA : ClassId) (o : Nat) (cJ : ClassId) (hst : l.stackTraces = false) (n e : Int32) (L : Nat) (g : Nat → Int32) (p0 : Int32) (hbad : p0 < 0 ∨ e < p0) : Met l yL_line wsL_line ({ frames := 8, cells := 1, slots := 6, locals := 140 }) (lc_Tx [.ref h, .int p0, .ref o] D [(h, .inr (0, [.ref q, .int n, .int e])), (q, .inl (cA, L, .inl g))] [(cA, .int)] (fun _ => False)) (lc_QB 1) 1 6 (fun _ => False) := by
  refine va_MetW (cc := cL_line) (maxL := 4) (ret := (some .int)) (hh := [(0, 9, 12, 25)]) (by decide) rfl ?_
  intro p e' s m args below meth c s₁ B hml hv
  obtain ⟨rfl, hP, hK, hZ⟩ := hv
  have hx := B.exec
  have hb := B.bytes
  have hr := B.returns
  have hts := atoms_spec (ws := wsL_line) B.pre
  have hown : s.vm.findClass RL = some m.cls := findClass_of_methodNamed B.named
  have hlocks := B.notSynchronized
  have htb : c.exceptionTable.toList = tableOf [(0, 9, 12, 25)] := vx_table (x := yL_line) B (hts (.codeWith yL_line cL_line 4 (some .int) [(0, 9, 12, 25)]) List.mem_cons_self)
  have hl := lv_entry ([.ref h, .int p0, .ref o]) (n := 4) (Nat.le_of_ble_eq_true rfl)
  rw [lg_entry_eq]
  generalize (lg_sl ([.ref h, .int p0, .ref o]) ++ List.replicate (4 - (lg_sl ([.ref h, .int p0, .ref o])).length) Slot.unset).toArray = ls at hl ⊢
  have hl : lv_has ls 4 [(0, .ref h), (1, .int p0), (2, .ref o)] := hl
  refine lv_aload_n hx hb dL_line_0 rfl (lv_at hl 2 rfl) ?_
  refine lv_iconst (v := 0) hx hb dL_line_1 (by decide) ?_
  refine lv_aload_n hx hb dL_line_2 rfl (lv_at hl 0 rfl) ?_
  refine lv_iload_n hx hb dL_line_3 rfl (lv_at hl 1 rfl) ?_
  refine lc_callX (vx_runV (As := [.int p0]) (rest := [.int 0, .ref o]) ⟨hx, hb, hml, hown, hts⟩ (k_line_bad l D h q cA hst n e L g p0 hbad) (cwV 1 hts gL_line_X0_line rfl rfl rfl (by decide +kernel) ⟨Nat.le_of_ble_eq_true rfl, Nat.le_of_ble_eq_true rfl⟩) (lc_TxV (q0 := 0) (ci := 0) (q := (RX0, TX0, 3)) hP hK hZ rfl rfl) rfl rfl hl.1 rfl (lv_room (Nat.le_of_ble_eq_true rfl)) dL_line_4 ⟨Nat.le_refl _, Nat.le_refl _⟩) (fun ce q9 H1 hz hk hce hcv hcl => ?_)
  refine vx_catch (name := "java/util/NoSuchElementException") hown [] ⟨0, 9, 12, 25⟩ [] (by rw [htb]; rfl) (fun _ h => nomatch h) (by decide) (by decide) (hts _ (List.mem_cons_of_mem _ lb_192)) (hZ.2.2.2.2.1.use rfl) hce hcv hcl ?_
  refine W.eq (g2 := F0 m 12 ls [.ref q9]) rfl ?_
  refine lv_astore_n hx hb dL_line_12 rfl hl (by decide) rfl (fun ls hl => ?_)
  have hl : lv_has ls 4 [(3, .ref q9), (0, .ref h), (1, .int p0), (2, .ref o)] := hl
  refine lv_iconst (v := 1) hx hb dL_line_13 (by decide) ?_
  exact W.iret (v := 1) hx hb hr (fun t ht _ => ⟨rfl, by rw [ht]; exact hz, fun q h1 _ => by rw [ht]; exact hk q h1⟩) (fun _ h => nomatch h) dL_line_14
set_option maxHeartbeats 4000000 in
set_option maxRecDepth 100000 in
theorem w_lineOf_bad (l : Launch) (D : va_G) (h q : Nat) (cA : ClassId) (o : Nat) (cJ : ClassId) (hst : l.stackTraces = false) (n e : Int32) (L : Nat) (g : Nat → Int32) (p0 : Int32) (hbad : p0 < 0 ∨ n < p0) : Met l yL_lineOf wsL_lineOf ({ frames := 8, cells := 1, slots := 6, locals := 140 }) (lc_Tx [.ref h, .int p0, .ref o] D [(h, .inr (0, [.ref q, .int n, .int e])), (q, .inl (cA, L, .inl g))] [(cA, .int)] (fun _ => False)) (lc_QB 1) 1 6 (fun _ => False) := by
  refine va_MetW (cc := cL_lineOf) (maxL := 4) (ret := (some .int)) (hh := [(0, 9, 12, 13)]) (by decide) rfl ?_
  intro p e' s m args below meth c s₁ B hml hv
  obtain ⟨rfl, hP, hK, hZ⟩ := hv
  have hx := B.exec
  have hb := B.bytes
  have hr := B.returns
  have hts := atoms_spec (ws := wsL_lineOf) B.pre
  have hown : s.vm.findClass RL = some m.cls := findClass_of_methodNamed B.named
  have hlocks := B.notSynchronized
  have htb : c.exceptionTable.toList = tableOf [(0, 9, 12, 13)] := vx_table (x := yL_lineOf) B (hts (.codeWith yL_lineOf cL_lineOf 4 (some .int) [(0, 9, 12, 13)]) List.mem_cons_self)
  have hl := lv_entry ([.ref h, .int p0, .ref o]) (n := 4) (Nat.le_of_ble_eq_true rfl)
  rw [lg_entry_eq]
  generalize (lg_sl ([.ref h, .int p0, .ref o]) ++ List.replicate (4 - (lg_sl ([.ref h, .int p0, .ref o])).length) Slot.unset).toArray = ls at hl ⊢
  have hl : lv_has ls 4 [(0, .ref h), (1, .int p0), (2, .ref o)] := hl
  refine lv_aload_n hx hb dL_lineOf_0 rfl (lv_at hl 2 rfl) ?_
  refine lv_iconst (v := 0) hx hb dL_lineOf_1 (by decide) ?_
  refine lv_aload_n hx hb dL_lineOf_2 rfl (lv_at hl 0 rfl) ?_
  refine lv_iload_n hx hb dL_lineOf_3 rfl (lv_at hl 1 rfl) ?_
  refine lc_callX (vx_runV (As := [.int p0]) (rest := [.int 0, .ref o]) ⟨hx, hb, hml, hown, hts⟩ (k_lineOf_bad l D h q cA hst n e L g p0 hbad) (cwV 1 hts gL_lineOf_X0_lineOf rfl rfl rfl (by decide +kernel) ⟨Nat.le_of_ble_eq_true rfl, Nat.le_of_ble_eq_true rfl⟩) (lc_TxV (q0 := 0) (ci := 0) (q := (RX0, TX0, 3)) hP hK hZ rfl rfl) rfl rfl hl.1 rfl (lv_room (Nat.le_of_ble_eq_true rfl)) dL_lineOf_4 ⟨Nat.le_refl _, Nat.le_refl _⟩) (fun ce q9 H1 hz hk hce hcv hcl => ?_)
  refine vx_catch (name := "java/lang/IllegalArgumentException") hown [] ⟨0, 9, 12, 13⟩ [] (by rw [htb]; rfl) (fun _ h => nomatch h) (by decide) (by decide) (hts _ (List.mem_cons_of_mem _ lb_61)) (hZ.2.2.1.use rfl) hce hcv hcl ?_
  refine W.eq (g2 := F0 m 12 ls [.ref q9]) rfl ?_
  refine lv_astore_n hx hb dL_lineOf_12 rfl hl (by decide) rfl (fun ls hl => ?_)
  have hl : lv_has ls 4 [(3, .ref q9), (0, .ref h), (1, .int p0), (2, .ref o)] := hl
  refine lv_iconst (v := 1) hx hb dL_lineOf_13 (by decide) ?_
  exact W.iret (v := 1) hx hb hr (fun t ht _ => ⟨rfl, by rw [ht]; exact hz, fun q h1 _ => by rw [ht]; exact hk q h1⟩) (fun _ h => nomatch h) dL_lineOf_14
set_option maxHeartbeats 4000000 in
set_option maxRecDepth 100000 in
theorem w_delete_bad (l : Launch) (D : va_G) (h q : Nat) (cA : ClassId) (o : Nat) (cJ : ClassId) (hst : l.stackTraces = false) (n e : Int32) (L : Nat) (g : Nat → Int32) (p0 p1 : Int32) (hbad : p0 < 0 ∨ p1 < 1 ∨ n - p1 < p0) : Met l yL_delete wsL_delete ({ frames := 8, cells := 1, slots := 6, locals := 140 }) (lc_Tx [.ref h, .int p0, .int p1, .ref o] D [(h, .inr (0, [.ref q, .int n, .int e])), (q, .inl (cA, L, .inl g))] [(cA, .int)] (fun _ => False)) (lc_QB 1) 1 6 (fun _ => False) := by
  refine va_MetW (cc := cL_delete) (maxL := 5) (ret := (some .int)) (hh := [(0, 10, 13, 13)]) (by decide) rfl ?_
  intro p e' s m args below meth c s₁ B hml hv
  obtain ⟨rfl, hP, hK, hZ⟩ := hv
  have hx := B.exec
  have hb := B.bytes
  have hr := B.returns
  have hts := atoms_spec (ws := wsL_delete) B.pre
  have hown : s.vm.findClass RL = some m.cls := findClass_of_methodNamed B.named
  have hlocks := B.notSynchronized
  have htb : c.exceptionTable.toList = tableOf [(0, 10, 13, 13)] := vx_table (x := yL_delete) B (hts (.codeWith yL_delete cL_delete 5 (some .int) [(0, 10, 13, 13)]) List.mem_cons_self)
  have hl := lv_entry ([.ref h, .int p0, .int p1, .ref o]) (n := 5) (Nat.le_of_ble_eq_true rfl)
  rw [lg_entry_eq]
  generalize (lg_sl ([.ref h, .int p0, .int p1, .ref o]) ++ List.replicate (5 - (lg_sl ([.ref h, .int p0, .int p1, .ref o])).length) Slot.unset).toArray = ls at hl ⊢
  have hl : lv_has ls 5 [(0, .ref h), (1, .int p0), (2, .int p1), (3, .ref o)] := hl
  refine lv_aload_n hx hb dL_delete_0 rfl (lv_at hl 3 rfl) ?_
  refine lv_iconst (v := 0) hx hb dL_delete_1 (by decide) ?_
  refine lv_aload_n hx hb dL_delete_2 rfl (lv_at hl 0 rfl) ?_
  refine lv_iload_n hx hb dL_delete_3 rfl (lv_at hl 1 rfl) ?_
  refine lv_iload_n hx hb dL_delete_4 rfl (lv_at hl 2 rfl) ?_
  refine lc_callX (vx_runV (As := [.int p0, .int p1]) (rest := [.int 0, .ref o]) ⟨hx, hb, hml, hown, hts⟩ (k_delete_bad l D h q cA hst n e L g p0 p1 hbad) (cwV 2 hts gL_delete_X0_delete rfl rfl rfl (by decide +kernel) ⟨Nat.le_of_ble_eq_true rfl, Nat.le_of_ble_eq_true rfl⟩) (lc_TxV (q0 := 0) (ci := 0) (q := (RX0, TX0, 3)) hP hK hZ rfl rfl) rfl rfl hl.1 rfl (lv_room (Nat.le_of_ble_eq_true rfl)) dL_delete_5 ⟨Nat.le_refl _, Nat.le_refl _⟩) (fun ce q9 H1 hz hk hce hcv hcl => ?_)
  refine vx_catch (name := "java/lang/IllegalArgumentException") hown [] ⟨0, 10, 13, 13⟩ [] (by rw [htb]; rfl) (fun _ h => nomatch h) (by decide) (by decide) (hts _ (List.mem_cons_of_mem _ lb_61)) (hZ.2.2.1.use rfl) hce hcv hcl ?_
  refine W.eq (g2 := F0 m 13 ls [.ref q9]) rfl ?_
  refine lv_astore hx hb dL_delete_13 hl (by decide) rfl (fun ls hl => ?_)
  have hl : lv_has ls 5 [(4, .ref q9), (0, .ref h), (1, .int p0), (2, .int p1), (3, .ref o)] := hl
  refine lv_iconst (v := 1) hx hb dL_delete_15 (by decide) ?_
  exact W.iret (v := 1) hx hb hr (fun t ht _ => ⟨rfl, by rw [ht]; exact hz, fun q h1 _ => by rw [ht]; exact hk q h1⟩) (fun _ h => nomatch h) dL_delete_16
set_option maxHeartbeats 4000000 in
set_option maxRecDepth 100000 in
theorem w_insert_bad (l : Launch) (D : va_G) (h q : Nat) (cA : ClassId) (o : Nat) (cJ : ClassId) (hst : l.stackTraces = false) (n e : Int32) (L : Nat) (g : Nat → Int32) (p0 p1 p2 p3 : Int32) (hbad : p0 < 0 ∨ n < p0 ∨ p3 < 1 ∨ 500 < p3) : Met l yL_insert wsL_insert ({ frames := 8, cells := 1, slots := 6, locals := 140 }) (lc_Tx [.ref h, .int p0, .int p1, .int p2, .int p3, .ref o] D [(h, .inr (0, [.ref q, .int n, .int e])), (q, .inl (cA, L, .inl g))] [(cA, .int)] (fun _ => False)) (lc_QB 1) 1 6 (fun _ => False) := by
  refine va_MetW (cc := cL_insert) (maxL := 7) (ret := (some .int)) (hh := [(0, 14, 17, 13), (0, 14, 21, 15)]) (by decide) rfl ?_
  intro p e' s m args below meth c s₁ B hml hv
  obtain ⟨rfl, hP, hK, hZ⟩ := hv
  have hx := B.exec
  have hb := B.bytes
  have hr := B.returns
  have hts := atoms_spec (ws := wsL_insert) B.pre
  have hown : s.vm.findClass RL = some m.cls := findClass_of_methodNamed B.named
  have hlocks := B.notSynchronized
  have htb : c.exceptionTable.toList = tableOf [(0, 14, 17, 13), (0, 14, 21, 15)] := vx_table (x := yL_insert) B (hts (.codeWith yL_insert cL_insert 7 (some .int) [(0, 14, 17, 13), (0, 14, 21, 15)]) List.mem_cons_self)
  have hl := lv_entry ([.ref h, .int p0, .int p1, .int p2, .int p3, .ref o]) (n := 7) (Nat.le_of_ble_eq_true rfl)
  rw [lg_entry_eq]
  generalize (lg_sl ([.ref h, .int p0, .int p1, .int p2, .int p3, .ref o]) ++ List.replicate (7 - (lg_sl ([.ref h, .int p0, .int p1, .int p2, .int p3, .ref o])).length) Slot.unset).toArray = ls at hl ⊢
  have hl : lv_has ls 7 [(0, .ref h), (1, .int p0), (2, .int p1), (3, .int p2), (4, .int p3), (5, .ref o)] := hl
  refine lv_aload hx hb dL_insert_0 (lv_at hl 5 rfl) ?_
  refine lv_iconst (v := 0) hx hb dL_insert_2 (by decide) ?_
  refine lv_aload_n hx hb dL_insert_3 rfl (lv_at hl 0 rfl) ?_
  refine lv_iload_n hx hb dL_insert_4 rfl (lv_at hl 1 rfl) ?_
  refine lv_iload_n hx hb dL_insert_5 rfl (lv_at hl 2 rfl) ?_
  refine lv_iload_n hx hb dL_insert_6 rfl (lv_at hl 3 rfl) ?_
  refine lv_iload hx hb dL_insert_7 (lv_at hl 4 rfl) ?_
  refine lc_callX (vx_runV (As := [.int p0, .int p1, .int p2, .int p3]) (rest := [.int 0, .ref o]) ⟨hx, hb, hml, hown, hts⟩ (k_insert_bad l D h q cA hst n e L g p0 p1 p2 p3 hbad) (cwV 4 hts gL_insert_X0_insert rfl rfl rfl (by decide +kernel) ⟨Nat.le_of_ble_eq_true rfl, Nat.le_of_ble_eq_true rfl⟩) (lc_TxV (q0 := 0) (ci := 0) (q := (RX0, TX0, 3)) hP hK hZ rfl rfl) rfl rfl hl.1 rfl (lv_room (Nat.le_of_ble_eq_true rfl)) dL_insert_9 ⟨Nat.le_refl _, Nat.le_refl _⟩) (fun ce q9 H1 hz hk hce hcv hcl => ?_)
  refine vx_catch (name := "java/lang/IllegalArgumentException") hown [] ⟨0, 14, 17, 13⟩ [⟨0, 14, 21, 15⟩] (by rw [htb]; rfl) (fun _ h => nomatch h) (by decide) (by decide) (hts _ (List.mem_cons_of_mem _ lb_61)) (hZ.2.2.1.use rfl) hce hcv hcl ?_
  refine W.eq (g2 := F0 m 17 ls [.ref q9]) rfl ?_
  refine lv_astore hx hb dL_insert_17 hl (by decide) rfl (fun ls hl => ?_)
  have hl : lv_has ls 7 [(6, .ref q9), (0, .ref h), (1, .int p0), (2, .int p1), (3, .int p2), (4, .int p3), (5, .ref o)] := hl
  refine lv_iconst (v := 1) hx hb dL_insert_19 (by decide) ?_
  exact W.iret (v := 1) hx hb hr (fun t ht _ => ⟨rfl, by rw [ht]; exact hz, fun q h1 _ => by rw [ht]; exact hk q h1⟩) (fun _ h => nomatch h) dL_insert_20
set_option maxHeartbeats 4000000 in
set_option maxRecDepth 100000 in
theorem w_insert_full (l : Launch) (D : va_G) (h q : Nat) (cA : ClassId) (o : Nat) (cJ : ClassId) (hst : l.stackTraces = false) (e : Int32) (L c0 : Nat) (g : Nat → Int32) (i0 k0 : Nat) (p1 p2 : Int32) (hc0 : c0 ≤ 20000) (hi0 : i0 ≤ c0) (hk0 : 1 ≤ k0) (hk5 : k0 ≤ 500) (hfull : 20000 < c0 + k0) : Met l yL_insert wsL_insert ({ frames := 8, cells := 1, slots := 6, locals := 140 }) (lc_Tx [.ref h, .int (nI i0), .int p1, .int p2, .int (nI k0), .ref o] D [(h, .inr (0, [.ref q, .int (nI c0), .int e])), (q, .inl (cA, L, .inl g))] [(cA, .int)] (fun _ => False)) (lc_QB 2) 1 6 (fun _ => False) := by
  refine va_MetW (cc := cL_insert) (maxL := 7) (ret := (some .int)) (hh := [(0, 14, 17, 13), (0, 14, 21, 15)]) (by decide) rfl ?_
  intro p e' s m args below meth c s₁ B hml hv
  obtain ⟨rfl, hP, hK, hZ⟩ := hv
  have hx := B.exec
  have hb := B.bytes
  have hr := B.returns
  have hts := atoms_spec (ws := wsL_insert) B.pre
  have hown : s.vm.findClass RL = some m.cls := findClass_of_methodNamed B.named
  have hlocks := B.notSynchronized
  have htb : c.exceptionTable.toList = tableOf [(0, 14, 17, 13), (0, 14, 21, 15)] := vx_table (x := yL_insert) B (hts (.codeWith yL_insert cL_insert 7 (some .int) [(0, 14, 17, 13), (0, 14, 21, 15)]) List.mem_cons_self)
  have hl := lv_entry ([.ref h, .int (nI i0), .int p1, .int p2, .int (nI k0), .ref o]) (n := 7) (Nat.le_of_ble_eq_true rfl)
  rw [lg_entry_eq]
  generalize (lg_sl ([.ref h, .int (nI i0), .int p1, .int p2, .int (nI k0), .ref o]) ++ List.replicate (7 - (lg_sl ([.ref h, .int (nI i0), .int p1, .int p2, .int (nI k0), .ref o])).length) Slot.unset).toArray = ls at hl ⊢
  have hl : lv_has ls 7 [(0, .ref h), (1, .int (nI i0)), (2, .int p1), (3, .int p2), (4, .int (nI k0)), (5, .ref o)] := hl
  refine lv_aload hx hb dL_insert_0 (lv_at hl 5 rfl) ?_
  refine lv_iconst (v := 0) hx hb dL_insert_2 (by decide) ?_
  refine lv_aload_n hx hb dL_insert_3 rfl (lv_at hl 0 rfl) ?_
  refine lv_iload_n hx hb dL_insert_4 rfl (lv_at hl 1 rfl) ?_
  refine lv_iload_n hx hb dL_insert_5 rfl (lv_at hl 2 rfl) ?_
  refine lv_iload_n hx hb dL_insert_6 rfl (lv_at hl 3 rfl) ?_
  refine lv_iload hx hb dL_insert_7 (lv_at hl 4 rfl) ?_
  refine lc_callX (vx_runV (As := [.int (nI i0), .int p1, .int p2, .int (nI k0)]) (rest := [.int 0, .ref o]) ⟨hx, hb, hml, hown, hts⟩ (k_insert_full l D h q cA hst e L c0 g i0 k0 p1 p2 hc0 hi0 hk0 hk5 hfull) (cwV 4 hts gL_insert_X0_insert rfl rfl rfl (by decide +kernel) ⟨Nat.le_of_ble_eq_true rfl, Nat.le_of_ble_eq_true rfl⟩) (lc_TxV (q0 := 0) (ci := 0) (q := (RX0, TX0, 3)) hP hK hZ rfl rfl) rfl rfl hl.1 rfl (lv_room (Nat.le_of_ble_eq_true rfl)) dL_insert_9 ⟨Nat.le_refl _, Nat.le_refl _⟩) (fun ce q9 H1 hz hk hce hcv hcl => ?_)
  refine vx_catch (name := "java/lang/IllegalStateException") hown [⟨0, 14, 17, 13⟩] ⟨0, 14, 21, 15⟩ [] (by rw [htb]; rfl) (fun z hz => by rw [List.mem_singleton.mp hz]; exact Or.inr ⟨by decide, "java/lang/IllegalArgumentException", hts (.classLink RL 13 "java/lang/IllegalArgumentException") (by decide +kernel), hZ.2.2.2.2.2.2.2.2⟩) (by decide) (by decide) (hts _ (List.mem_cons_of_mem _ lb_62)) (hZ.2.2.2.1.use rfl) hce hcv hcl ?_
  refine W.eq (g2 := F0 m 21 ls [.ref q9]) rfl ?_
  refine lv_astore hx hb dL_insert_21 hl (by decide) rfl (fun ls hl => ?_)
  have hl : lv_has ls 7 [(6, .ref q9), (0, .ref h), (1, .int (nI i0)), (2, .int p1), (3, .int p2), (4, .int (nI k0)), (5, .ref o)] := hl
  refine lv_iconst (v := 2) hx hb dL_insert_23 (by decide) ?_
  exact W.iret (v := 2) hx hb hr (fun t ht _ => ⟨rfl, by rw [ht]; exact hz, fun q h1 _ => by rw [ht]; exact hk q h1⟩) (fun _ h => nomatch h) dL_insert_24
set_option maxHeartbeats 4000000 in
set_option maxRecDepth 100000 in
theorem w_delete (l : Launch) (D : va_G) (h q : Nat) (cA : ClassId) (o : Nat) (cJ : ClassId) (sz : Nat) (fo : Nat → Int64) (L c0 : Nat) (g : Nat → Int32) (hL : L ≤ 20000) (hc0 : c0 ≤ L) (i0 k0 : Nat) (hk0 : 1 ≤ k0) (hik : i0 + k0 ≤ c0) : Met l yL_delete wsL_delete ({ frames := 8, cells := 0, slots := 0, locals := 140 }) (lc_Wr [.ref h, .int (nI i0), .int (nI k0), .ref o] D [(h, .inr (0, [.ref q, .int (nI c0), .int (nI (lc_cnt g c0))])), (q, .inl (cA, L, .inl g)), (o, .inl (cJ, 1, .inr (.inl fo)))] [(cA, .int), (cJ, .long)] sz) (lc_QW (S := (Nat → Int32) × (Nat → Int64)) D (va_A [(h, .inr (0, [.ref q, .int (nI c0), .int (nI (lc_cnt g c0))])), (q, .inl (cA, L, .inl g)), (o, .inl (cJ, 1, .inr (.inl fo)))] sz) (fun _ => some (.int 0)) (fun u => [(h, .inr (0, [.ref q, .int (nI (c0 - k0)), .int (nI (lc_cnt u.1 (c0 - k0)))])), (q, .inl (cA, L, .inl u.1)), (o, .inl (cJ, 1, .inr (.inl u.2)))]) (fun u => [(cA, .int), (cJ, .long)]) (fun u => (∀ j, j < c0 - k0 → u.1 j = lc_del g i0 k0 j) ∧ u.2 0 = (nI (c0 - k0)).toInt64)) 0 0 (va_A [(h, .inr (0, [.ref q, .int (nI c0), .int (nI (lc_cnt g c0))])), (q, .inl (cA, L, .inl g)), (o, .inl (cJ, 1, .inr (.inl fo)))] sz) := by
  refine va_MetW (cc := cL_delete) (maxL := 5) (ret := (some .int)) (hh := [(0, 10, 13, 13)]) (by decide) rfl ?_
  intro p e' s m args below meth c s₁ B hml hv
  obtain ⟨rfl, hsz, hP, hK, hD0⟩ := hv
  have hx := B.exec
  have hb := B.bytes
  have hr := B.returns
  have hts := atoms_spec (ws := wsL_delete) B.pre
  have hown : s.vm.findClass RL = some m.cls := findClass_of_methodNamed B.named
  have hlocks := B.notSynchronized
  subst hsz
  have hD := hD0.self (sz := s.heap.size)
  generalize hAe : va_A [(h, .inr (0, [.ref q, .int (nI c0), .int (nI (lc_cnt g c0))])), (q, .inl (cA, L, .inl g)), (o, .inl (cJ, 1, .inr (.inl fo)))] s.heap.size = A at hD ⊢
  have hA : ∀ q : Nat, s.heap.size ≤ q → A q := fun q h => by rw [← hAe]; exact Or.inr h
  have hS : va_S A s.heap s.heap [] := va_S.rf
  have hP : va_P D vwCl [(h, .inr (0, [.ref q, .int (nI c0), .int (nI (lc_cnt g c0))])), (q, .inl (cA, L, .inl g)), (o, .inl (cJ, 1, .inr (.inl fo)))] s.heap := hP
  have hl := lv_entry ([.ref h, .int (nI i0), .int (nI k0), .ref o]) (n := 5) (Nat.le_of_ble_eq_true rfl)
  rw [lg_entry_eq]
  generalize (lg_sl ([.ref h, .int (nI i0), .int (nI k0), .ref o]) ++ List.replicate (5 - (lg_sl ([.ref h, .int (nI i0), .int (nI k0), .ref o])).length) Slot.unset).toArray = ls at hl ⊢
  have hl : lv_has ls 5 [(0, .ref h), (1, .int (nI i0)), (2, .int (nI k0)), (3, .ref o)] := hl
  refine lv_aload_n hx hb dL_delete_0 rfl (lv_at hl 3 rfl) ?_
  refine lv_iconst (v := 0) hx hb dL_delete_1 (by decide) ?_
  refine lv_aload_n hx hb dL_delete_2 rfl (lv_at hl 0 rfl) ?_
  refine lv_iload_n hx hb dL_delete_3 rfl (lv_at hl 1 rfl) ?_
  refine lv_iload_n hx hb dL_delete_4 rfl (lv_at hl 2 rfl) ?_
  have hPc := hP.sub (ws' := [(h, .inr (0, [.ref q, .int (nI c0), .int (nI (lc_cnt g c0))])), (q, .inl (cA, L, .inl g))]) [0, 1] rfl
  have hDc := hD.sub (ws' := [(h, .inr (0, [.ref q, .int (nI c0), .int (nI (lc_cnt g c0))])), (q, .inl (cA, L, .inl g))]) [0, 1] (by decide) rfl
  have hKc := hK.sub (tys' := [(cA, .int)]) [0] rfl
  have hF := va_free (wc := [(h, .inr (0, [.ref q, .int (nI c0), .int (nI (lc_cnt g c0))])), (q, .inl (cA, L, .inl g))]) hD hS hA [0, 1] rfl
  refine lc_callW (va_runV (As := [.int (nI i0), .int (nI k0)]) (rest := [.int 0, .ref o]) ⟨hx, hb, hml, hown, hts⟩ (k_delete l D h q cA s.heap.size L c0 g hL hc0 i0 k0 hk0 hik) (cwV 2 hts gL_delete_X0_delete rfl rfl rfl (by decide +kernel) ⟨Nat.le_of_ble_eq_true rfl, Nat.le_of_ble_eq_true rfl⟩) (lc_WrV (q0 := 0) (ci := 0) (q := (RX0, TX0, 3)) hPc hKc hDc rfl rfl) rfl rfl hl.1 rfl (lv_room (Nat.le_of_ble_eq_true rfl)) dL_delete_5 ⟨Nat.le_refl _, by show 0 + 0 ≤ 0; omega⟩) hS (fun q h => hF q h) (fun u H locs hp hP1 hK1 hD1 hz hk hS => ?_)
  obtain ⟨g1, hg1⟩ : ∃ z : Nat → Int32, z = u := ⟨u, rfl⟩
  rw [← hg1] at hp hP1 hD1
  obtain ⟨hP, hD⟩ := va_join (wr := [(o, .inl (cJ, 1, .inr (.inl fo)))]) (w1 := [(h, .inr (0, [.ref q, .int (nI (c0 - k0)), .int (nI (lc_cnt g1 (c0 - k0)))])), (q, .inl (cA, L, .inl g1))]) hP hD [0, 1] [2] rfl rfl (by decide) (by decide) hk hF hP1 hD1
  have hK := (hK.sub (tys' := [(cJ, .long)]) [1] rfl).app hK1
  have hK : va_K D vwCl [(cJ, .long), (cA, .int)] s := hK
  have hP : va_P D vwCl [(o, .inl (cJ, 1, .inr (.inl fo))), (h, .inr (0, [.ref q, .int (nI (c0 - k0)), .int (nI (lc_cnt g1 (c0 - k0)))])), (q, .inl (cA, L, .inl g1))] H := hP
  have hD : va_D A [(o, .inl (cJ, 1, .inr (.inl fo))), (h, .inr (0, [.ref q, .int (nI (c0 - k0)), .int (nI (lc_cnt g1 (c0 - k0)))])), (q, .inl (cA, L, .inl g1))] := hD
  refine W.eq (g2 := F0 m 8 ls [.int (nI (c0 - k0)), .int 0, .ref o]) rfl ?_
  refine lv_i2l (v := (nI (c0 - k0)).toInt64) hx hb dL_delete_8 rfl ?_
  refine va_last (D := D) hx hb hK hP hD hS 0 0 rfl rfl (vp_in_nI (n := 0) (N := 1) (by decide) (by decide)) dL_delete_9 (fun H locs hP hD hS => ?_)
  have hP : va_P D vwCl [(o, .inl (cJ, 1, .inr (.inl (vp_updL fo ((0 : Int32).toNatClampNeg) (nI (c0 - k0)).toInt64)))), (h, .inr (0, [.ref q, .int (nI (c0 - k0)), .int (nI (lc_cnt g1 (c0 - k0)))])), (q, .inl (cA, L, .inl g1))] H := hP
  have hD : va_D A [(o, .inl (cJ, 1, .inr (.inl (vp_updL fo ((0 : Int32).toNatClampNeg) (nI (c0 - k0)).toInt64)))), (h, .inr (0, [.ref q, .int (nI (c0 - k0)), .int (nI (lc_cnt g1 (c0 - k0)))])), (q, .inl (cA, L, .inl g1))] := hD
  refine lv_goto hx hb dL_delete_10 (tgt := 17) rfl ?_
  refine lv_iconst (v := 0) hx hb dL_delete_17 (by decide) ?_
  have hP := hP.sub (ws' := [(h, .inr (0, [.ref q, .int (nI (c0 - k0)), .int (nI (lc_cnt g1 (c0 - k0)))])), (q, .inl (cA, L, .inl g1)), (o, .inl (cJ, 1, .inr (.inl (vp_updL fo ((0 : Int32).toNatClampNeg) (nI (c0 - k0)).toInt64))))]) [1, 2, 0] rfl
  have hD := hD.sub (ws' := [(h, .inr (0, [.ref q, .int (nI (c0 - k0)), .int (nI (lc_cnt g1 (c0 - k0)))])), (q, .inl (cA, L, .inl g1)), (o, .inl (cJ, 1, .inr (.inl (vp_updL fo ((0 : Int32).toNatClampNeg) (nI (c0 - k0)).toInt64))))]) [1, 2, 0] (by decide) rfl
  have hK := hK.sub (tys' := [(cA, .int), (cJ, .long)]) [1, 0] rfl
  have hu0 : (vp_updL fo ((0 : Int32).toNatClampNeg) (nI (c0 - k0)).toInt64) 0 = (nI (c0 - k0)).toInt64 := by rw [sb_cl0]; exact pk_uLs
  exact W.iret (v := 0) hx hb hr (fun t ht hW => ⟨(g1, vp_updL fo ((0 : Int32).toNatClampNeg) (nI (c0 - k0)).toInt64), rfl, ⟨hp, hu0⟩, by rw [ht]; exact hP, va_K.moved hW.alike hK, hD, hS.F ht⟩) hS.2.2 dL_delete_18
set_option maxHeartbeats 4000000 in
set_option maxRecDepth 100000 in
theorem w_insert (l : Launch) (D : va_G) (h q : Nat) (cA : ClassId) (o : Nat) (cJ : ClassId) (sz : Nat) (fo : Nat → Int64) (L c0 : Nat) (g : Nat → Int32) (hL5 : 512 ≤ L) (hL : L ≤ 20000) (hc0 : c0 ≤ L) (i0 k0 : Nat) (v0 s0 : Int32) (hi0 : i0 ≤ c0) (hk0 : 1 ≤ k0) (hk5 : k0 ≤ 500) (hfit : c0 + k0 ≤ 20000) : Met l yL_insert wsL_insert ({ frames := 8, cells := 1, slots := lc_gr L (c0 + k0), locals := 140 }) (lc_Wr [.ref h, .int (nI i0), .int v0, .int s0, .int (nI k0), .ref o] D [(h, .inr (0, [.ref q, .int (nI c0), .int (nI (lc_cnt g c0))])), (q, .inl (cA, L, .inl g)), (o, .inl (cJ, 1, .inr (.inl fo)))] [(cA, .int), (cJ, .long)] sz) (lc_QW (S := (Nat × ClassId × (Nat → Int32)) × (Nat → Int64)) D (va_A [(h, .inr (0, [.ref q, .int (nI c0), .int (nI (lc_cnt g c0))])), (q, .inl (cA, L, .inl g)), (o, .inl (cJ, 1, .inr (.inl fo)))] sz) (fun _ => some (.int 0)) (fun u => [(h, .inr (0, [.ref u.1.1, .int (nI (c0 + k0)), .int (nI (lc_cnt u.1.2.2 (c0 + k0)))])), (u.1.1, .inl (u.1.2.1, lc_L L (c0 + k0), .inl u.1.2.2)), (o, .inl (cJ, 1, .inr (.inl u.2)))]) (fun u => [(u.1.2.1, .int), (cJ, .long)]) (fun u => (∀ j, j < c0 + k0 → u.1.2.2 j = lc_ins g i0 v0 s0 k0 j) ∧ u.2 0 = (nI (c0 + k0)).toInt64)) 1 (lc_gr L (c0 + k0)) (va_A [(h, .inr (0, [.ref q, .int (nI c0), .int (nI (lc_cnt g c0))])), (q, .inl (cA, L, .inl g)), (o, .inl (cJ, 1, .inr (.inl fo)))] sz) := by
  refine va_MetW (cc := cL_insert) (maxL := 7) (ret := (some .int)) (hh := [(0, 14, 17, 13), (0, 14, 21, 15)]) (by decide) rfl ?_
  intro p e' s m args below meth c s₁ B hml hv
  obtain ⟨rfl, hsz, hP, hK, hD0⟩ := hv
  have hx := B.exec
  have hb := B.bytes
  have hr := B.returns
  have hts := atoms_spec (ws := wsL_insert) B.pre
  have hown : s.vm.findClass RL = some m.cls := findClass_of_methodNamed B.named
  have hlocks := B.notSynchronized
  subst hsz
  have hD := hD0.self (sz := s.heap.size)
  generalize hAe : va_A [(h, .inr (0, [.ref q, .int (nI c0), .int (nI (lc_cnt g c0))])), (q, .inl (cA, L, .inl g)), (o, .inl (cJ, 1, .inr (.inl fo)))] s.heap.size = A at hD ⊢
  have hA : ∀ q : Nat, s.heap.size ≤ q → A q := fun q h => by rw [← hAe]; exact Or.inr h
  have hS : va_S A s.heap s.heap [] := va_S.rf
  have hP : va_P D vwCl [(h, .inr (0, [.ref q, .int (nI c0), .int (nI (lc_cnt g c0))])), (q, .inl (cA, L, .inl g)), (o, .inl (cJ, 1, .inr (.inl fo)))] s.heap := hP
  have hl := lv_entry ([.ref h, .int (nI i0), .int v0, .int s0, .int (nI k0), .ref o]) (n := 7) (Nat.le_of_ble_eq_true rfl)
  rw [lg_entry_eq]
  generalize (lg_sl ([.ref h, .int (nI i0), .int v0, .int s0, .int (nI k0), .ref o]) ++ List.replicate (7 - (lg_sl ([.ref h, .int (nI i0), .int v0, .int s0, .int (nI k0), .ref o])).length) Slot.unset).toArray = ls at hl ⊢
  have hl : lv_has ls 7 [(0, .ref h), (1, .int (nI i0)), (2, .int v0), (3, .int s0), (4, .int (nI k0)), (5, .ref o)] := hl
  refine lv_aload hx hb dL_insert_0 (lv_at hl 5 rfl) ?_
  refine lv_iconst (v := 0) hx hb dL_insert_2 (by decide) ?_
  refine lv_aload_n hx hb dL_insert_3 rfl (lv_at hl 0 rfl) ?_
  refine lv_iload_n hx hb dL_insert_4 rfl (lv_at hl 1 rfl) ?_
  refine lv_iload_n hx hb dL_insert_5 rfl (lv_at hl 2 rfl) ?_
  refine lv_iload_n hx hb dL_insert_6 rfl (lv_at hl 3 rfl) ?_
  refine lv_iload hx hb dL_insert_7 (lv_at hl 4 rfl) ?_
  have hPc := hP.sub (ws' := [(h, .inr (0, [.ref q, .int (nI c0), .int (nI (lc_cnt g c0))])), (q, .inl (cA, L, .inl g))]) [0, 1] rfl
  have hDc := hD.sub (ws' := [(h, .inr (0, [.ref q, .int (nI c0), .int (nI (lc_cnt g c0))])), (q, .inl (cA, L, .inl g))]) [0, 1] (by decide) rfl
  have hKc := hK.sub (tys' := [(cA, .int)]) [0] rfl
  have hF := va_free (wc := [(h, .inr (0, [.ref q, .int (nI c0), .int (nI (lc_cnt g c0))])), (q, .inl (cA, L, .inl g))]) hD hS hA [0, 1] rfl
  refine lc_callW (va_runV (As := [.int (nI i0), .int v0, .int s0, .int (nI k0)]) (rest := [.int 0, .ref o]) ⟨hx, hb, hml, hown, hts⟩ (k_insert l D h q cA s.heap.size L c0 g hL5 hL hc0 i0 k0 v0 s0 hi0 hk0 hk5 hfit) (cwV 4 hts gL_insert_X0_insert rfl rfl rfl (by decide +kernel) ⟨Nat.le_of_ble_eq_true rfl, Nat.le_of_ble_eq_true rfl⟩) (lc_WrV (q0 := 0) (ci := 0) (q := (RX0, TX0, 3)) hPc hKc hDc rfl rfl) rfl rfl hl.1 rfl (lv_room (Nat.le_of_ble_eq_true rfl)) dL_insert_9 ⟨Nat.le_refl _, by show 0 + (lc_gr L (c0 + k0)) ≤ (lc_gr L (c0 + k0)); omega⟩) hS (fun q h => hF q h) (fun u H locs hp hP1 hK1 hD1 hz hk hS => ?_)
  obtain ⟨q1, cA1, g1⟩ := u
  dsimp only at hp hP1 hK1 hD1
  obtain ⟨hP, hD⟩ := va_join (wr := [(o, .inl (cJ, 1, .inr (.inl fo)))]) (w1 := [(h, .inr (0, [.ref q1, .int (nI (c0 + k0)), .int (nI (lc_cnt g1 (c0 + k0)))])), (q1, .inl (cA1, lc_L L (c0 + k0), .inl g1))]) hP hD [0, 1] [2] rfl rfl (by decide) (by decide) hk hF hP1 hD1
  have hK := (hK.sub (tys' := [(cJ, .long)]) [1] rfl).app hK1
  have hK : va_K D vwCl [(cJ, .long), (cA1, .int)] s := hK
  have hP : va_P D vwCl [(o, .inl (cJ, 1, .inr (.inl fo))), (h, .inr (0, [.ref q1, .int (nI (c0 + k0)), .int (nI (lc_cnt g1 (c0 + k0)))])), (q1, .inl (cA1, lc_L L (c0 + k0), .inl g1))] H := hP
  have hD : va_D A [(o, .inl (cJ, 1, .inr (.inl fo))), (h, .inr (0, [.ref q1, .int (nI (c0 + k0)), .int (nI (lc_cnt g1 (c0 + k0)))])), (q1, .inl (cA1, lc_L L (c0 + k0), .inl g1))] := hD
  refine W.eq (g2 := F0 m 12 ls [.int (nI (c0 + k0)), .int 0, .ref o]) rfl ?_
  refine lv_i2l (v := (nI (c0 + k0)).toInt64) hx hb dL_insert_12 rfl ?_
  refine va_last (D := D) hx hb hK hP hD hS 0 0 rfl rfl (vp_in_nI (n := 0) (N := 1) (by decide) (by decide)) dL_insert_13 (fun H locs hP hD hS => ?_)
  have hP : va_P D vwCl [(o, .inl (cJ, 1, .inr (.inl (vp_updL fo ((0 : Int32).toNatClampNeg) (nI (c0 + k0)).toInt64)))), (h, .inr (0, [.ref q1, .int (nI (c0 + k0)), .int (nI (lc_cnt g1 (c0 + k0)))])), (q1, .inl (cA1, lc_L L (c0 + k0), .inl g1))] H := hP
  have hD : va_D A [(o, .inl (cJ, 1, .inr (.inl (vp_updL fo ((0 : Int32).toNatClampNeg) (nI (c0 + k0)).toInt64)))), (h, .inr (0, [.ref q1, .int (nI (c0 + k0)), .int (nI (lc_cnt g1 (c0 + k0)))])), (q1, .inl (cA1, lc_L L (c0 + k0), .inl g1))] := hD
  refine lv_goto hx hb dL_insert_14 (tgt := 25) rfl ?_
  refine lv_iconst (v := 0) hx hb dL_insert_25 (by decide) ?_
  have hP := hP.sub (ws' := [(h, .inr (0, [.ref q1, .int (nI (c0 + k0)), .int (nI (lc_cnt g1 (c0 + k0)))])), (q1, .inl (cA1, lc_L L (c0 + k0), .inl g1)), (o, .inl (cJ, 1, .inr (.inl (vp_updL fo ((0 : Int32).toNatClampNeg) (nI (c0 + k0)).toInt64))))]) [1, 2, 0] rfl
  have hD := hD.sub (ws' := [(h, .inr (0, [.ref q1, .int (nI (c0 + k0)), .int (nI (lc_cnt g1 (c0 + k0)))])), (q1, .inl (cA1, lc_L L (c0 + k0), .inl g1)), (o, .inl (cJ, 1, .inr (.inl (vp_updL fo ((0 : Int32).toNatClampNeg) (nI (c0 + k0)).toInt64))))]) [1, 2, 0] (by decide) rfl
  have hK := hK.sub (tys' := [(cA1, .int), (cJ, .long)]) [1, 0] rfl
  have hu0 : (vp_updL fo ((0 : Int32).toNatClampNeg) (nI (c0 + k0)).toInt64) 0 = (nI (c0 + k0)).toInt64 := by rw [sb_cl0]; exact pk_uLs
  refine W.widen (k := 1) (n := lc_gr L (c0 + k0)) (Nat.le_refl _) (by omega) ?_
  exact W.iret (v := 0) hx hb hr (fun t ht hW => ⟨((q1, cA1, g1), vp_updL fo ((0 : Int32).toNatClampNeg) (nI (c0 + k0)).toInt64), rfl, ⟨hp, hu0⟩, by rw [ht]; exact hP, va_K.moved hW.alike hK, hD, hS.F ht⟩) hS.2.2 dL_insert_26
