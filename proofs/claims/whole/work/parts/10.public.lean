set_option maxHeartbeats 4000000 in
set_option maxRecDepth 100000 in
theorem m_length (l : Launch) (D : va_G) (h q : Nat) (cA : ClassId) (sz : Nat) (n e : Int32) (g : Nat → Int32) : Met l yX1_length wsX1_length ({ frames := 9, cells := 0, slots := 0, locals := 160 }) (lc_Wr [.ref h] D [(h, .inr (1, [.ref q, .int n, .int e])), (q, .inl (cA, 20000, .inl g))] [(cA, .int)] sz) (lc_QW (S := Unit) D (va_A [(h, .inr (1, [.ref q, .int n, .int e])), (q, .inl (cA, 20000, .inl g))] sz) (fun u => some (.int n)) (fun u => [(h, .inr (1, [.ref q, .int n, .int 0])), (q, .inl (cA, 20000, .inl g))]) (fun u => [(cA, .int)]) (fun u => True)) 0 0 (va_A [(h, .inr (1, [.ref q, .int n, .int e])), (q, .inl (cA, 20000, .inl g))] sz) := by
  refine Met.ofW (cc := cX1_length) (maxL := 1) (ret := (some .int)) (by decide) rfl ?_
  intro p e' s m args below meth c s₁ B hml hv
  obtain ⟨rfl, hsz, hP, hK, hD0⟩ := hv
  have hx := B.exec
  have hb := B.bytes
  have hr := B.returns
  have hts := atoms_spec (ws := wsX1_length) B.pre
  have hown : s.vm.findClass RX1 = some m.cls := findClass_of_methodNamed B.named
  have hlocks := B.notSynchronized
  have hinX1 : ∀ w ∈ u_ws RX1 TX1 3, w ∈ wsX1_length := fun w h => List.mem_cons_of_mem _ (lb_X1 w h)
  subst hsz
  have hD := hD0.self (sz := s.heap.size)
  generalize hAe : va_A [(h, .inr (1, [.ref q, .int n, .int e])), (q, .inl (cA, 20000, .inl g))] s.heap.size = A at hD ⊢
  have hA : ∀ q : Nat, s.heap.size ≤ q → A q := fun q h => by rw [← hAe]; exact Or.inr h
  have hS : va_S A s.heap s.heap [] := va_S.rf
  have hP : va_P D vwCl [(h, .inr (1, [.ref q, .int n, .int e])), (q, .inl (cA, 20000, .inl g))] s.heap := hP
  have hl := lv_entry ([.ref h]) (n := 1) (Nat.le_of_ble_eq_true rfl)
  rw [lg_entry_eq]
  generalize (lg_sl ([.ref h]) ++ List.replicate (1 - (lg_sl ([.ref h])).length) Slot.unset).toArray = ls at hl ⊢
  have hl : lv_has ls 1 [(0, .ref h)] := hl
  refine lv_aload_n hx hb dX1_length_0 rfl (lv_at hl 0 rfl) ?_
  refine lv_iconst (v := 0) hx hb dX1_length_1 (by decide) ?_
  refine va_put (D := D) (ci := 1) (v := .int 0) (ty := .int) (C := RX1) (T := TX1) (N := 3) hx hb hts hinX1 tyX1 tyX1_ok nmX1 hown hK hP hD hS 0 rfl rfl 2 (by decide) (hts _ (List.mem_cons_of_mem _ lb_238)) (fun _ h9 => h9) rfl (by decide +kernel) rfl rfl (Nat.le_of_ble_eq_true rfl) dX1_length_2 (fun H locs hP hD hS => ?_)
  have hP : va_P D vwCl [(h, .inr (1, [.ref q, .int n, .int 0])), (q, .inl (cA, 20000, .inl g))] H := hP
  have hD : va_D A [(h, .inr (1, [.ref q, .int n, .int 0])), (q, .inl (cA, 20000, .inl g))] := hD
  refine lv_aload_n hx hb dX1_length_5 rfl (lv_at hl 0 rfl) ?_
  refine lc_callR (W.runV (As := []) (rest := []) ⟨hx, hb, hml, hown, hts⟩ (m_length0 l D h q cA n 0 g) (cwV 0 hts gX1_length_X1_length0 rfl rfl rfl (by decide +kernel) ⟨Nat.le_of_ble_eq_true rfl, Nat.le_of_ble_eq_true rfl⟩) (lc_RdV (q0 := 0) (ci := 1) (q := (RX1, TX1, 3)) hP hK rfl rfl) rfl rfl hl.1 rfl (lv_room (Nat.le_of_ble_eq_true rfl)) dX1_length_6 ⟨Nat.le_refl _, Nat.le_refl _⟩) ?_
  exact W.iret (v := n) hx hb hr (fun t ht hW => ⟨(), rfl, trivial, by rw [ht]; exact hP, va_K.moved hW.alike hK, hD, hS.F ht⟩) hS.2.2 dX1_length_9
set_option maxHeartbeats 4000000 in
set_option maxRecDepth 100000 in
theorem m_lines (l : Launch) (D : va_G) (h q : Nat) (cA : ClassId) (sz : Nat) (e : Int32) (c0 : Nat) (g : Nat → Int32) (hc0 : c0 ≤ 20000) : Met l yX1_lines wsX1_lines ({ frames := 9, cells := 0, slots := 0, locals := 160 }) (lc_Wr [.ref h] D [(h, .inr (1, [.ref q, .int (nI c0), .int e])), (q, .inl (cA, 20000, .inl g))] [(cA, .int)] sz) (lc_QW (S := Unit) D (va_A [(h, .inr (1, [.ref q, .int (nI c0), .int e])), (q, .inl (cA, 20000, .inl g))] sz) (fun u => some (.int (nI (lc_cnt g c0) + 1))) (fun u => [(h, .inr (1, [.ref q, .int (nI c0), .int 0])), (q, .inl (cA, 20000, .inl g))]) (fun u => [(cA, .int)]) (fun u => True)) 0 0 (va_A [(h, .inr (1, [.ref q, .int (nI c0), .int e])), (q, .inl (cA, 20000, .inl g))] sz) := by
  refine Met.ofW (cc := cX1_lines) (maxL := 1) (ret := (some .int)) (by decide) rfl ?_
  intro p e' s m args below meth c s₁ B hml hv
  obtain ⟨rfl, hsz, hP, hK, hD0⟩ := hv
  have hx := B.exec
  have hb := B.bytes
  have hr := B.returns
  have hts := atoms_spec (ws := wsX1_lines) B.pre
  have hown : s.vm.findClass RX1 = some m.cls := findClass_of_methodNamed B.named
  have hlocks := B.notSynchronized
  have hinX1 : ∀ w ∈ u_ws RX1 TX1 3, w ∈ wsX1_lines := fun w h => List.mem_cons_of_mem _ (lb_X1 w h)
  subst hsz
  have hD := hD0.self (sz := s.heap.size)
  generalize hAe : va_A [(h, .inr (1, [.ref q, .int (nI c0), .int e])), (q, .inl (cA, 20000, .inl g))] s.heap.size = A at hD ⊢
  have hA : ∀ q : Nat, s.heap.size ≤ q → A q := fun q h => by rw [← hAe]; exact Or.inr h
  have hS : va_S A s.heap s.heap [] := va_S.rf
  have hP : va_P D vwCl [(h, .inr (1, [.ref q, .int (nI c0), .int e])), (q, .inl (cA, 20000, .inl g))] s.heap := hP
  have hl := lv_entry ([.ref h]) (n := 1) (Nat.le_of_ble_eq_true rfl)
  rw [lg_entry_eq]
  generalize (lg_sl ([.ref h]) ++ List.replicate (1 - (lg_sl ([.ref h])).length) Slot.unset).toArray = ls at hl ⊢
  have hl : lv_has ls 1 [(0, .ref h)] := hl
  refine lv_aload_n hx hb dX1_lines_0 rfl (lv_at hl 0 rfl) ?_
  refine lv_iconst (v := 0) hx hb dX1_lines_1 (by decide) ?_
  refine va_put (D := D) (ci := 1) (v := .int 0) (ty := .int) (C := RX1) (T := TX1) (N := 3) hx hb hts hinX1 tyX1 tyX1_ok nmX1 hown hK hP hD hS 0 rfl rfl 2 (by decide) (hts _ (List.mem_cons_of_mem _ lb_238)) (fun _ h9 => h9) rfl (by decide +kernel) rfl rfl (Nat.le_of_ble_eq_true rfl) dX1_lines_2 (fun H locs hP hD hS => ?_)
  have hP : va_P D vwCl [(h, .inr (1, [.ref q, .int (nI c0), .int 0])), (q, .inl (cA, 20000, .inl g))] H := hP
  have hD : va_D A [(h, .inr (1, [.ref q, .int (nI c0), .int 0])), (q, .inl (cA, 20000, .inl g))] := hD
  refine lv_aload_n hx hb dX1_lines_5 rfl (lv_at hl 0 rfl) ?_
  refine lc_callR (W.runV (As := []) (rest := []) ⟨hx, hb, hml, hown, hts⟩ (m_lines0 l D h q cA 0 c0 g hc0) (cwV 0 hts gX1_lines_X1_lines0 rfl rfl rfl (by decide +kernel) ⟨Nat.le_of_ble_eq_true rfl, Nat.le_of_ble_eq_true rfl⟩) (lc_RdV (q0 := 0) (ci := 1) (q := (RX1, TX1, 3)) hP hK rfl rfl) rfl rfl hl.1 rfl (lv_room (Nat.le_of_ble_eq_true rfl)) dX1_lines_6 ⟨Nat.le_refl _, Nat.le_refl _⟩) ?_
  exact W.iret (v := nI (lc_cnt g c0) + 1) hx hb hr (fun t ht hW => ⟨(), rfl, trivial, by rw [ht]; exact hP, va_K.moved hW.alike hK, hD, hS.F ht⟩) hS.2.2 dX1_lines_9
set_option maxHeartbeats 4000000 in
set_option maxRecDepth 100000 in
theorem m_digest (l : Launch) (D : va_G) (h q : Nat) (cA : ClassId) (sz : Nat) (e : Int32) (c0 : Nat) (g : Nat → Int32) (hc0 : c0 ≤ 20000) : Met l yX1_digest wsX1_digest ({ frames := 9, cells := 0, slots := 0, locals := 160 }) (lc_Wr [.ref h] D [(h, .inr (1, [.ref q, .int (nI c0), .int e])), (q, .inl (cA, 20000, .inl g))] [(cA, .int)] sz) (lc_QW (S := Unit) D (va_A [(h, .inr (1, [.ref q, .int (nI c0), .int e])), (q, .inl (cA, 20000, .inl g))] sz) (fun u => some (.int (lc_dig g c0))) (fun u => [(h, .inr (1, [.ref q, .int (nI c0), .int 0])), (q, .inl (cA, 20000, .inl g))]) (fun u => [(cA, .int)]) (fun u => True)) 0 0 (va_A [(h, .inr (1, [.ref q, .int (nI c0), .int e])), (q, .inl (cA, 20000, .inl g))] sz) := by
  refine Met.ofW (cc := cX1_digest) (maxL := 1) (ret := (some .int)) (by decide) rfl ?_
  intro p e' s m args below meth c s₁ B hml hv
  obtain ⟨rfl, hsz, hP, hK, hD0⟩ := hv
  have hx := B.exec
  have hb := B.bytes
  have hr := B.returns
  have hts := atoms_spec (ws := wsX1_digest) B.pre
  have hown : s.vm.findClass RX1 = some m.cls := findClass_of_methodNamed B.named
  have hlocks := B.notSynchronized
  have hinX1 : ∀ w ∈ u_ws RX1 TX1 3, w ∈ wsX1_digest := fun w h => List.mem_cons_of_mem _ (lb_X1 w h)
  subst hsz
  have hD := hD0.self (sz := s.heap.size)
  generalize hAe : va_A [(h, .inr (1, [.ref q, .int (nI c0), .int e])), (q, .inl (cA, 20000, .inl g))] s.heap.size = A at hD ⊢
  have hA : ∀ q : Nat, s.heap.size ≤ q → A q := fun q h => by rw [← hAe]; exact Or.inr h
  have hS : va_S A s.heap s.heap [] := va_S.rf
  have hP : va_P D vwCl [(h, .inr (1, [.ref q, .int (nI c0), .int e])), (q, .inl (cA, 20000, .inl g))] s.heap := hP
  have hl := lv_entry ([.ref h]) (n := 1) (Nat.le_of_ble_eq_true rfl)
  rw [lg_entry_eq]
  generalize (lg_sl ([.ref h]) ++ List.replicate (1 - (lg_sl ([.ref h])).length) Slot.unset).toArray = ls at hl ⊢
  have hl : lv_has ls 1 [(0, .ref h)] := hl
  refine lv_aload_n hx hb dX1_digest_0 rfl (lv_at hl 0 rfl) ?_
  refine lv_iconst (v := 0) hx hb dX1_digest_1 (by decide) ?_
  refine va_put (D := D) (ci := 1) (v := .int 0) (ty := .int) (C := RX1) (T := TX1) (N := 3) hx hb hts hinX1 tyX1 tyX1_ok nmX1 hown hK hP hD hS 0 rfl rfl 2 (by decide) (hts _ (List.mem_cons_of_mem _ lb_238)) (fun _ h9 => h9) rfl (by decide +kernel) rfl rfl (Nat.le_of_ble_eq_true rfl) dX1_digest_2 (fun H locs hP hD hS => ?_)
  have hP : va_P D vwCl [(h, .inr (1, [.ref q, .int (nI c0), .int 0])), (q, .inl (cA, 20000, .inl g))] H := hP
  have hD : va_D A [(h, .inr (1, [.ref q, .int (nI c0), .int 0])), (q, .inl (cA, 20000, .inl g))] := hD
  refine lv_aload_n hx hb dX1_digest_5 rfl (lv_at hl 0 rfl) ?_
  refine lc_callR (W.runV (As := []) (rest := []) ⟨hx, hb, hml, hown, hts⟩ (m_digest0 l D h q cA 0 c0 g hc0) (cwV 0 hts gX1_digest_X1_digest0 rfl rfl rfl (by decide +kernel) ⟨Nat.le_of_ble_eq_true rfl, Nat.le_of_ble_eq_true rfl⟩) (lc_RdV (q0 := 0) (ci := 1) (q := (RX1, TX1, 3)) hP hK rfl rfl) rfl rfl hl.1 rfl (lv_room (Nat.le_of_ble_eq_true rfl)) dX1_digest_6 ⟨Nat.le_refl _, Nat.le_refl _⟩) ?_
  exact W.iret (v := lc_dig g c0) hx hb hr (fun t ht hW => ⟨(), rfl, trivial, by rw [ht]; exact hP, va_K.moved hW.alike hK, hD, hS.F ht⟩) hS.2.2 dX1_digest_9
set_option maxHeartbeats 4000000 in
set_option maxRecDepth 100000 in
theorem m_get (l : Launch) (D : va_G) (h q : Nat) (cA : ClassId) (sz : Nat) (e : Int32) (c0 : Nat) (g : Nat → Int32) (hc0 : c0 ≤ 20000) (i : Nat) (hi : i < c0) : Met l yX1_get wsX1_get ({ frames := 9, cells := 0, slots := 0, locals := 160 }) (lc_Wr [.ref h, .int (nI i)] D [(h, .inr (1, [.ref q, .int (nI c0), .int e])), (q, .inl (cA, 20000, .inl g))] [(cA, .int)] sz) (lc_QW (S := Unit) D (va_A [(h, .inr (1, [.ref q, .int (nI c0), .int e])), (q, .inl (cA, 20000, .inl g))] sz) (fun u => some (.int (g i))) (fun u => [(h, .inr (1, [.ref q, .int (nI c0), .int 0])), (q, .inl (cA, 20000, .inl g))]) (fun u => [(cA, .int)]) (fun u => True)) 0 0 (va_A [(h, .inr (1, [.ref q, .int (nI c0), .int e])), (q, .inl (cA, 20000, .inl g))] sz) := by
  refine va_MetW (cc := cX1_get) (maxL := 3) (ret := (some .int)) (hh := [(5, 10, 11, 27)]) (by decide) rfl ?_
  intro p e' s m args below meth c s₁ B hml hv
  obtain ⟨rfl, hsz, hP, hK, hD0⟩ := hv
  have hx := B.exec
  have hb := B.bytes
  have hr := B.returns
  have hts := atoms_spec (ws := wsX1_get) B.pre
  have hown : s.vm.findClass RX1 = some m.cls := findClass_of_methodNamed B.named
  have hlocks := B.notSynchronized
  have hinX1 : ∀ w ∈ u_ws RX1 TX1 3, w ∈ wsX1_get := fun w h => List.mem_cons_of_mem _ (lb_X1 w h)
  subst hsz
  have hD := hD0.self (sz := s.heap.size)
  generalize hAe : va_A [(h, .inr (1, [.ref q, .int (nI c0), .int e])), (q, .inl (cA, 20000, .inl g))] s.heap.size = A at hD ⊢
  have hA : ∀ q : Nat, s.heap.size ≤ q → A q := fun q h => by rw [← hAe]; exact Or.inr h
  have hS : va_S A s.heap s.heap [] := va_S.rf
  have hP : va_P D vwCl [(h, .inr (1, [.ref q, .int (nI c0), .int e])), (q, .inl (cA, 20000, .inl g))] s.heap := hP
  have hl := lv_entry ([.ref h, .int (nI i)]) (n := 3) (Nat.le_of_ble_eq_true rfl)
  rw [lg_entry_eq]
  generalize (lg_sl ([.ref h, .int (nI i)]) ++ List.replicate (3 - (lg_sl ([.ref h, .int (nI i)])).length) Slot.unset).toArray = ls at hl ⊢
  have hl : lv_has ls 3 [(0, .ref h), (1, .int (nI i))] := hl
  refine lv_aload_n hx hb dX1_get_0 rfl (lv_at hl 0 rfl) ?_
  refine lv_iconst (v := 0) hx hb dX1_get_1 (by decide) ?_
  refine va_put (D := D) (ci := 1) (v := .int 0) (ty := .int) (C := RX1) (T := TX1) (N := 3) hx hb hts hinX1 tyX1 tyX1_ok nmX1 hown hK hP hD hS 0 rfl rfl 2 (by decide) (hts _ (List.mem_cons_of_mem _ lb_238)) (fun _ h9 => h9) rfl (by decide +kernel) rfl rfl (Nat.le_of_ble_eq_true rfl) dX1_get_2 (fun H locs hP hD hS => ?_)
  have hP : va_P D vwCl [(h, .inr (1, [.ref q, .int (nI c0), .int 0])), (q, .inl (cA, 20000, .inl g))] H := hP
  have hD : va_D A [(h, .inr (1, [.ref q, .int (nI c0), .int 0])), (q, .inl (cA, 20000, .inl g))] := hD
  refine lv_aload_n hx hb dX1_get_5 rfl (lv_at hl 0 rfl) ?_
  refine lv_iload_n hx hb dX1_get_6 rfl (lv_at hl 1 rfl) ?_
  refine lc_callR (W.runV (As := [.int (nI i)]) (rest := []) ⟨hx, hb, hml, hown, hts⟩ (m_get0 l D h q cA 0 c0 g hc0 i hi) (cwV 1 hts gX1_get_X1_get0 rfl rfl rfl (by decide +kernel) ⟨Nat.le_of_ble_eq_true rfl, Nat.le_of_ble_eq_true rfl⟩) (lc_RdV (q0 := 0) (ci := 1) (q := (RX1, TX1, 3)) hP hK rfl rfl) rfl rfl hl.1 rfl (lv_room (Nat.le_of_ble_eq_true rfl)) dX1_get_7 ⟨Nat.le_refl _, Nat.le_refl _⟩) ?_
  exact W.iret (v := g i) hx hb hr (fun t ht hW => ⟨(), rfl, trivial, by rw [ht]; exact hP, va_K.moved hW.alike hK, hD, hS.F ht⟩) hS.2.2 dX1_get_10
set_option maxHeartbeats 4000000 in
set_option maxRecDepth 100000 in
theorem m_line (l : Launch) (D : va_G) (h q : Nat) (cA : ClassId) (sz : Nat) (e : Int32) (c0 : Nat) (g : Nat → Int32) (hc0 : c0 ≤ 20000) (k0 j0 : Nat) (hk0 : k0 ≤ lc_cnt g c0) (hj : lc_isL g k0 j0) (hj0 : j0 ≤ c0) : Met l yX1_line wsX1_line ({ frames := 9, cells := 0, slots := 0, locals := 160 }) (lc_Wr [.ref h, .int (nI k0)] D [(h, .inr (1, [.ref q, .int (nI c0), .int e])), (q, .inl (cA, 20000, .inl g))] [(cA, .int)] sz) (lc_QW (S := Unit) D (va_A [(h, .inr (1, [.ref q, .int (nI c0), .int e])), (q, .inl (cA, 20000, .inl g))] sz) (fun u => some (.int (nI j0))) (fun u => [(h, .inr (1, [.ref q, .int (nI c0), .int 0])), (q, .inl (cA, 20000, .inl g))]) (fun u => [(cA, .int)]) (fun u => True)) 0 0 (va_A [(h, .inr (1, [.ref q, .int (nI c0), .int e])), (q, .inl (cA, 20000, .inl g))] sz) := by
  refine va_MetW (cc := cX1_line) (maxL := 3) (ret := (some .int)) (hh := [(5, 10, 11, 27)]) (by decide) rfl ?_
  intro p e' s m args below meth c s₁ B hml hv
  obtain ⟨rfl, hsz, hP, hK, hD0⟩ := hv
  have hx := B.exec
  have hb := B.bytes
  have hr := B.returns
  have hts := atoms_spec (ws := wsX1_line) B.pre
  have hown : s.vm.findClass RX1 = some m.cls := findClass_of_methodNamed B.named
  have hlocks := B.notSynchronized
  have hinX1 : ∀ w ∈ u_ws RX1 TX1 3, w ∈ wsX1_line := fun w h => List.mem_cons_of_mem _ (lb_X1 w h)
  subst hsz
  have hD := hD0.self (sz := s.heap.size)
  generalize hAe : va_A [(h, .inr (1, [.ref q, .int (nI c0), .int e])), (q, .inl (cA, 20000, .inl g))] s.heap.size = A at hD ⊢
  have hA : ∀ q : Nat, s.heap.size ≤ q → A q := fun q h => by rw [← hAe]; exact Or.inr h
  have hS : va_S A s.heap s.heap [] := va_S.rf
  have hP : va_P D vwCl [(h, .inr (1, [.ref q, .int (nI c0), .int e])), (q, .inl (cA, 20000, .inl g))] s.heap := hP
  have hl := lv_entry ([.ref h, .int (nI k0)]) (n := 3) (Nat.le_of_ble_eq_true rfl)
  rw [lg_entry_eq]
  generalize (lg_sl ([.ref h, .int (nI k0)]) ++ List.replicate (3 - (lg_sl ([.ref h, .int (nI k0)])).length) Slot.unset).toArray = ls at hl ⊢
  have hl : lv_has ls 3 [(0, .ref h), (1, .int (nI k0))] := hl
  refine lv_aload_n hx hb dX1_line_0 rfl (lv_at hl 0 rfl) ?_
  refine lv_iconst (v := 0) hx hb dX1_line_1 (by decide) ?_
  refine va_put (D := D) (ci := 1) (v := .int 0) (ty := .int) (C := RX1) (T := TX1) (N := 3) hx hb hts hinX1 tyX1 tyX1_ok nmX1 hown hK hP hD hS 0 rfl rfl 2 (by decide) (hts _ (List.mem_cons_of_mem _ lb_238)) (fun _ h9 => h9) rfl (by decide +kernel) rfl rfl (Nat.le_of_ble_eq_true rfl) dX1_line_2 (fun H locs hP hD hS => ?_)
  have hP : va_P D vwCl [(h, .inr (1, [.ref q, .int (nI c0), .int 0])), (q, .inl (cA, 20000, .inl g))] H := hP
  have hD : va_D A [(h, .inr (1, [.ref q, .int (nI c0), .int 0])), (q, .inl (cA, 20000, .inl g))] := hD
  refine lv_aload_n hx hb dX1_line_5 rfl (lv_at hl 0 rfl) ?_
  refine lv_iload_n hx hb dX1_line_6 rfl (lv_at hl 1 rfl) ?_
  refine lc_callR (W.runV (As := [.int (nI k0)]) (rest := []) ⟨hx, hb, hml, hown, hts⟩ (m_line0 l D h q cA 0 c0 g hc0 k0 j0 hk0 hj hj0) (cwV 1 hts gX1_line_X1_line0 rfl rfl rfl (by decide +kernel) ⟨Nat.le_of_ble_eq_true rfl, Nat.le_of_ble_eq_true rfl⟩) (lc_RdV (q0 := 0) (ci := 1) (q := (RX1, TX1, 3)) hP hK rfl rfl) rfl rfl hl.1 rfl (lv_room (Nat.le_of_ble_eq_true rfl)) dX1_line_7 ⟨Nat.le_refl _, Nat.le_refl _⟩) ?_
  exact W.iret (v := nI j0) hx hb hr (fun t ht hW => ⟨(), rfl, trivial, by rw [ht]; exact hP, va_K.moved hW.alike hK, hD, hS.F ht⟩) hS.2.2 dX1_line_10
set_option maxHeartbeats 4000000 in
set_option maxRecDepth 100000 in
theorem m_lineOf (l : Launch) (D : va_G) (h q : Nat) (cA : ClassId) (sz : Nat) (e : Int32) (c0 : Nat) (g : Nat → Int32) (hc0 : c0 ≤ 20000) (i : Nat) (hi : i ≤ c0) : Met l yX1_lineOf wsX1_lineOf ({ frames := 9, cells := 0, slots := 0, locals := 160 }) (lc_Wr [.ref h, .int (nI i)] D [(h, .inr (1, [.ref q, .int (nI c0), .int e])), (q, .inl (cA, 20000, .inl g))] [(cA, .int)] sz) (lc_QW (S := Unit) D (va_A [(h, .inr (1, [.ref q, .int (nI c0), .int e])), (q, .inl (cA, 20000, .inl g))] sz) (fun u => some (.int (nI (lc_cnt g i)))) (fun u => [(h, .inr (1, [.ref q, .int (nI c0), .int 0])), (q, .inl (cA, 20000, .inl g))]) (fun u => [(cA, .int)]) (fun u => True)) 0 0 (va_A [(h, .inr (1, [.ref q, .int (nI c0), .int e])), (q, .inl (cA, 20000, .inl g))] sz) := by
  refine va_MetW (cc := cX1_lineOf) (maxL := 3) (ret := (some .int)) (hh := [(5, 10, 11, 13)]) (by decide) rfl ?_
  intro p e' s m args below meth c s₁ B hml hv
  obtain ⟨rfl, hsz, hP, hK, hD0⟩ := hv
  have hx := B.exec
  have hb := B.bytes
  have hr := B.returns
  have hts := atoms_spec (ws := wsX1_lineOf) B.pre
  have hown : s.vm.findClass RX1 = some m.cls := findClass_of_methodNamed B.named
  have hlocks := B.notSynchronized
  have hinX1 : ∀ w ∈ u_ws RX1 TX1 3, w ∈ wsX1_lineOf := fun w h => List.mem_cons_of_mem _ (lb_X1 w h)
  subst hsz
  have hD := hD0.self (sz := s.heap.size)
  generalize hAe : va_A [(h, .inr (1, [.ref q, .int (nI c0), .int e])), (q, .inl (cA, 20000, .inl g))] s.heap.size = A at hD ⊢
  have hA : ∀ q : Nat, s.heap.size ≤ q → A q := fun q h => by rw [← hAe]; exact Or.inr h
  have hS : va_S A s.heap s.heap [] := va_S.rf
  have hP : va_P D vwCl [(h, .inr (1, [.ref q, .int (nI c0), .int e])), (q, .inl (cA, 20000, .inl g))] s.heap := hP
  have hl := lv_entry ([.ref h, .int (nI i)]) (n := 3) (Nat.le_of_ble_eq_true rfl)
  rw [lg_entry_eq]
  generalize (lg_sl ([.ref h, .int (nI i)]) ++ List.replicate (3 - (lg_sl ([.ref h, .int (nI i)])).length) Slot.unset).toArray = ls at hl ⊢
  have hl : lv_has ls 3 [(0, .ref h), (1, .int (nI i))] := hl
  refine lv_aload_n hx hb dX1_lineOf_0 rfl (lv_at hl 0 rfl) ?_
  refine lv_iconst (v := 0) hx hb dX1_lineOf_1 (by decide) ?_
  refine va_put (D := D) (ci := 1) (v := .int 0) (ty := .int) (C := RX1) (T := TX1) (N := 3) hx hb hts hinX1 tyX1 tyX1_ok nmX1 hown hK hP hD hS 0 rfl rfl 2 (by decide) (hts _ (List.mem_cons_of_mem _ lb_238)) (fun _ h9 => h9) rfl (by decide +kernel) rfl rfl (Nat.le_of_ble_eq_true rfl) dX1_lineOf_2 (fun H locs hP hD hS => ?_)
  have hP : va_P D vwCl [(h, .inr (1, [.ref q, .int (nI c0), .int 0])), (q, .inl (cA, 20000, .inl g))] H := hP
  have hD : va_D A [(h, .inr (1, [.ref q, .int (nI c0), .int 0])), (q, .inl (cA, 20000, .inl g))] := hD
  refine lv_aload_n hx hb dX1_lineOf_5 rfl (lv_at hl 0 rfl) ?_
  refine lv_iload_n hx hb dX1_lineOf_6 rfl (lv_at hl 1 rfl) ?_
  refine lc_callR (W.runV (As := [.int (nI i)]) (rest := []) ⟨hx, hb, hml, hown, hts⟩ (m_lineOf0 l D h q cA 0 c0 g hc0 i hi) (cwV 1 hts gX1_lineOf_X1_lineOf0 rfl rfl rfl (by decide +kernel) ⟨Nat.le_of_ble_eq_true rfl, Nat.le_of_ble_eq_true rfl⟩) (lc_RdV (q0 := 0) (ci := 1) (q := (RX1, TX1, 3)) hP hK rfl rfl) rfl rfl hl.1 rfl (lv_room (Nat.le_of_ble_eq_true rfl)) dX1_lineOf_7 ⟨Nat.le_refl _, Nat.le_refl _⟩) ?_
  exact W.iret (v := nI (lc_cnt g i)) hx hb hr (fun t ht hW => ⟨(), rfl, trivial, by rw [ht]; exact hP, va_K.moved hW.alike hK, hD, hS.F ht⟩) hS.2.2 dX1_lineOf_10
set_option maxHeartbeats 4000000 in
set_option maxRecDepth 100000 in
theorem m_get_bad (l : Launch) (D : va_G) (h q : Nat) (cA : ClassId) (sz : Nat) (hst : l.stackTraces = false) (n e : Int32) (g : Nat → Int32) (p0 : Int32) (hbad : p0 < 0 ∨ n ≤ p0) : Met l yX1_get wsX1_get ({ frames := 9, cells := 1, slots := 6, locals := 160 }) (lc_WT [.ref h, .int p0] D [(h, .inr (1, [.ref q, .int n, .int e])), (q, .inl (cA, 20000, .inl g))] [(cA, .int)] sz) (lc_QW (S := Unit) D (va_A [(h, .inr (1, [.ref q, .int n, .int e])), (q, .inl (cA, 20000, .inl g))] sz) (fun u => some (.int 0)) (fun u => [(h, .inr (1, [.ref q, .int n, .int 1])), (q, .inl (cA, 20000, .inl g))]) (fun u => [(cA, .int)]) (fun u => True)) 1 6 (va_A [(h, .inr (1, [.ref q, .int n, .int e])), (q, .inl (cA, 20000, .inl g))] sz) := by
  refine va_MetW (cc := cX1_get) (maxL := 3) (ret := (some .int)) (hh := [(5, 10, 11, 27)]) (by decide) rfl ?_
  intro p e' s m args below meth c s₁ B hml hv
  obtain ⟨rfl, hsz, hP, hK, hD0, hZ⟩ := hv
  have hx := B.exec
  have hb := B.bytes
  have hr := B.returns
  have hts := atoms_spec (ws := wsX1_get) B.pre
  have hown : s.vm.findClass RX1 = some m.cls := findClass_of_methodNamed B.named
  have hlocks := B.notSynchronized
  have hinX1 : ∀ w ∈ u_ws RX1 TX1 3, w ∈ wsX1_get := fun w h => List.mem_cons_of_mem _ (lb_X1 w h)
  have htb : c.exceptionTable.toList = tableOf [(5, 10, 11, 27)] := vx_table (x := yX1_get) B (hts (.codeWith yX1_get cX1_get 3 (some .int) [(5, 10, 11, 27)]) List.mem_cons_self)
  subst hsz
  have hD := hD0.self (sz := s.heap.size)
  generalize hAe : va_A [(h, .inr (1, [.ref q, .int n, .int e])), (q, .inl (cA, 20000, .inl g))] s.heap.size = A at hD hZ ⊢
  have hA : ∀ q : Nat, s.heap.size ≤ q → A q := fun q h => by rw [← hAe]; exact Or.inr h
  have hS : va_S A s.heap s.heap [] := va_S.rf
  have hP : va_P D vwCl [(h, .inr (1, [.ref q, .int n, .int e])), (q, .inl (cA, 20000, .inl g))] s.heap := hP
  have hl := lv_entry ([.ref h, .int p0]) (n := 3) (Nat.le_of_ble_eq_true rfl)
  rw [lg_entry_eq]
  generalize (lg_sl ([.ref h, .int p0]) ++ List.replicate (3 - (lg_sl ([.ref h, .int p0])).length) Slot.unset).toArray = ls at hl ⊢
  have hl : lv_has ls 3 [(0, .ref h), (1, .int p0)] := hl
  refine lv_aload_n hx hb dX1_get_0 rfl (lv_at hl 0 rfl) ?_
  refine lv_iconst (v := 0) hx hb dX1_get_1 (by decide) ?_
  refine va_put (D := D) (ci := 1) (v := .int 0) (ty := .int) (C := RX1) (T := TX1) (N := 3) hx hb hts hinX1 tyX1 tyX1_ok nmX1 hown hK hP hD hS 0 rfl rfl 2 (by decide) (hts _ (List.mem_cons_of_mem _ lb_238)) (fun _ h9 => h9) rfl (by decide +kernel) rfl rfl (Nat.le_of_ble_eq_true rfl) dX1_get_2 (fun H locs hP hD hS => ?_)
  have hP : va_P D vwCl [(h, .inr (1, [.ref q, .int n, .int 0])), (q, .inl (cA, 20000, .inl g))] H := hP
  have hD : va_D A [(h, .inr (1, [.ref q, .int n, .int 0])), (q, .inl (cA, 20000, .inl g))] := hD
  have hZ := hZ.kept hS.2.1
  refine lv_aload_n hx hb dX1_get_5 rfl (lv_at hl 0 rfl) ?_
  refine lv_iload_n hx hb dX1_get_6 rfl (lv_at hl 1 rfl) ?_
  refine lc_callX (vx_runV (As := [.int p0]) (rest := []) ⟨hx, hb, hml, hown, hts⟩ (m_get0_bad l D h q cA hst n 0 g p0 hbad) (cwV 1 hts gX1_get_X1_get0 rfl rfl rfl (by decide +kernel) ⟨Nat.le_of_ble_eq_true rfl, Nat.le_of_ble_eq_true rfl⟩) (lc_TxV (q0 := 0) (ci := 1) (q := (RX1, TX1, 3)) hP hK (hZ.narrow (fun _ h => h.elim)) rfl rfl) rfl rfl hl.1 rfl (lv_room (Nat.le_of_ble_eq_true rfl)) dX1_get_7 ⟨Nat.le_refl _, Nat.le_refl _⟩) (fun ce q9 H1 hz hk hce hcv hcl => ?_)
  refine vx_catch (name := "java/util/NoSuchElementException") hown [] ⟨5, 10, 11, 27⟩ [] (by rw [htb]; rfl) (fun _ h => nomatch h) (by decide) (by decide) (hts _ (List.mem_cons_of_mem _ lb_277)) (hZ.2.2.2.2.1.use rfl) hce hcv hcl ?_
  have hP := lc_keptP hP hk
  have hS := lc_keptS hS hz hk
  refine W.eq (g2 := F0 m 11 ls [.ref q9]) rfl ?_
  refine lv_astore_n hx hb dX1_get_11 rfl hl (by decide) rfl (fun ls hl => ?_)
  have hl : lv_has ls 3 [(2, .ref q9), (0, .ref h), (1, .int p0)] := hl
  refine lv_aload_n hx hb dX1_get_12 rfl (lv_at hl 1 rfl) ?_
  refine lv_iconst (v := 1) hx hb dX1_get_13 (by decide) ?_
  refine va_put (D := D) (ci := 1) (v := .int 1) (ty := .int) (C := RX1) (T := TX1) (N := 3) hx hb hts hinX1 tyX1 tyX1_ok nmX1 hown hK hP hD hS 0 rfl rfl 2 (by decide) (hts _ (List.mem_cons_of_mem _ lb_238)) (fun _ h9 => h9) rfl (by decide +kernel) rfl rfl (Nat.le_of_ble_eq_true rfl) dX1_get_14 (fun H locs hP hD hS => ?_)
  have hP : va_P D vwCl [(h, .inr (1, [.ref q, .int n, .int 1])), (q, .inl (cA, 20000, .inl g))] H := hP
  have hD : va_D A [(h, .inr (1, [.ref q, .int n, .int 1])), (q, .inl (cA, 20000, .inl g))] := hD
  refine lv_iconst (v := 0) hx hb dX1_get_17 (by decide) ?_
  exact W.iret (v := 0) hx hb hr (fun t ht hW => ⟨(), rfl, trivial, by rw [ht]; exact hP, va_K.moved hW.alike hK, hD, hS.F ht⟩) hS.2.2 dX1_get_18
set_option maxHeartbeats 4000000 in
set_option maxRecDepth 100000 in
theorem m_line_bad (l : Launch) (D : va_G) (h q : Nat) (cA : ClassId) (sz : Nat) (hst : l.stackTraces = false) (e : Int32) (c0 : Nat) (g : Nat → Int32) (hc0 : c0 ≤ 20000) (p0 : Int32) (hbad : p0 < 0 ∨ nI (lc_cnt g c0) < p0) : Met l yX1_line wsX1_line ({ frames := 9, cells := 1, slots := 6, locals := 160 }) (lc_WT [.ref h, .int p0] D [(h, .inr (1, [.ref q, .int (nI c0), .int e])), (q, .inl (cA, 20000, .inl g))] [(cA, .int)] sz) (lc_QW (S := Unit) D (va_A [(h, .inr (1, [.ref q, .int (nI c0), .int e])), (q, .inl (cA, 20000, .inl g))] sz) (fun u => some (.int 0)) (fun u => [(h, .inr (1, [.ref q, .int (nI c0), .int 1])), (q, .inl (cA, 20000, .inl g))]) (fun u => [(cA, .int)]) (fun u => True)) 1 6 (va_A [(h, .inr (1, [.ref q, .int (nI c0), .int e])), (q, .inl (cA, 20000, .inl g))] sz) := by
  refine va_MetW (cc := cX1_line) (maxL := 3) (ret := (some .int)) (hh := [(5, 10, 11, 27)]) (by decide) rfl ?_
  intro p e' s m args below meth c s₁ B hml hv
  obtain ⟨rfl, hsz, hP, hK, hD0, hZ⟩ := hv
  have hx := B.exec
  have hb := B.bytes
  have hr := B.returns
  have hts := atoms_spec (ws := wsX1_line) B.pre
  have hown : s.vm.findClass RX1 = some m.cls := findClass_of_methodNamed B.named
  have hlocks := B.notSynchronized
  have hinX1 : ∀ w ∈ u_ws RX1 TX1 3, w ∈ wsX1_line := fun w h => List.mem_cons_of_mem _ (lb_X1 w h)
  have htb : c.exceptionTable.toList = tableOf [(5, 10, 11, 27)] := vx_table (x := yX1_line) B (hts (.codeWith yX1_line cX1_line 3 (some .int) [(5, 10, 11, 27)]) List.mem_cons_self)
  subst hsz
  have hD := hD0.self (sz := s.heap.size)
  generalize hAe : va_A [(h, .inr (1, [.ref q, .int (nI c0), .int e])), (q, .inl (cA, 20000, .inl g))] s.heap.size = A at hD hZ ⊢
  have hA : ∀ q : Nat, s.heap.size ≤ q → A q := fun q h => by rw [← hAe]; exact Or.inr h
  have hS : va_S A s.heap s.heap [] := va_S.rf
  have hP : va_P D vwCl [(h, .inr (1, [.ref q, .int (nI c0), .int e])), (q, .inl (cA, 20000, .inl g))] s.heap := hP
  have hl := lv_entry ([.ref h, .int p0]) (n := 3) (Nat.le_of_ble_eq_true rfl)
  rw [lg_entry_eq]
  generalize (lg_sl ([.ref h, .int p0]) ++ List.replicate (3 - (lg_sl ([.ref h, .int p0])).length) Slot.unset).toArray = ls at hl ⊢
  have hl : lv_has ls 3 [(0, .ref h), (1, .int p0)] := hl
  refine lv_aload_n hx hb dX1_line_0 rfl (lv_at hl 0 rfl) ?_
  refine lv_iconst (v := 0) hx hb dX1_line_1 (by decide) ?_
  refine va_put (D := D) (ci := 1) (v := .int 0) (ty := .int) (C := RX1) (T := TX1) (N := 3) hx hb hts hinX1 tyX1 tyX1_ok nmX1 hown hK hP hD hS 0 rfl rfl 2 (by decide) (hts _ (List.mem_cons_of_mem _ lb_238)) (fun _ h9 => h9) rfl (by decide +kernel) rfl rfl (Nat.le_of_ble_eq_true rfl) dX1_line_2 (fun H locs hP hD hS => ?_)
  have hP : va_P D vwCl [(h, .inr (1, [.ref q, .int (nI c0), .int 0])), (q, .inl (cA, 20000, .inl g))] H := hP
  have hD : va_D A [(h, .inr (1, [.ref q, .int (nI c0), .int 0])), (q, .inl (cA, 20000, .inl g))] := hD
  have hZ := hZ.kept hS.2.1
  refine lv_aload_n hx hb dX1_line_5 rfl (lv_at hl 0 rfl) ?_
  refine lv_iload_n hx hb dX1_line_6 rfl (lv_at hl 1 rfl) ?_
  refine lc_callX (vx_runV (As := [.int p0]) (rest := []) ⟨hx, hb, hml, hown, hts⟩ (m_line0_bad l D h q cA hst 0 c0 g hc0 p0 hbad) (cwV 1 hts gX1_line_X1_line0 rfl rfl rfl (by decide +kernel) ⟨Nat.le_of_ble_eq_true rfl, Nat.le_of_ble_eq_true rfl⟩) (lc_TxV (q0 := 0) (ci := 1) (q := (RX1, TX1, 3)) hP hK (hZ.narrow (fun _ h => h.elim)) rfl rfl) rfl rfl hl.1 rfl (lv_room (Nat.le_of_ble_eq_true rfl)) dX1_line_7 ⟨Nat.le_refl _, Nat.le_refl _⟩) (fun ce q9 H1 hz hk hce hcv hcl => ?_)
  refine vx_catch (name := "java/util/NoSuchElementException") hown [] ⟨5, 10, 11, 27⟩ [] (by rw [htb]; rfl) (fun _ h => nomatch h) (by decide) (by decide) (hts _ (List.mem_cons_of_mem _ lb_277)) (hZ.2.2.2.2.1.use rfl) hce hcv hcl ?_
  have hP := lc_keptP hP hk
  have hS := lc_keptS hS hz hk
  refine W.eq (g2 := F0 m 11 ls [.ref q9]) rfl ?_
  refine lv_astore_n hx hb dX1_line_11 rfl hl (by decide) rfl (fun ls hl => ?_)
  have hl : lv_has ls 3 [(2, .ref q9), (0, .ref h), (1, .int p0)] := hl
  refine lv_aload_n hx hb dX1_line_12 rfl (lv_at hl 1 rfl) ?_
  refine lv_iconst (v := 1) hx hb dX1_line_13 (by decide) ?_
  refine va_put (D := D) (ci := 1) (v := .int 1) (ty := .int) (C := RX1) (T := TX1) (N := 3) hx hb hts hinX1 tyX1 tyX1_ok nmX1 hown hK hP hD hS 0 rfl rfl 2 (by decide) (hts _ (List.mem_cons_of_mem _ lb_238)) (fun _ h9 => h9) rfl (by decide +kernel) rfl rfl (Nat.le_of_ble_eq_true rfl) dX1_line_14 (fun H locs hP hD hS => ?_)
  have hP : va_P D vwCl [(h, .inr (1, [.ref q, .int (nI c0), .int 1])), (q, .inl (cA, 20000, .inl g))] H := hP
  have hD : va_D A [(h, .inr (1, [.ref q, .int (nI c0), .int 1])), (q, .inl (cA, 20000, .inl g))] := hD
  refine lv_iconst (v := 0) hx hb dX1_line_17 (by decide) ?_
  exact W.iret (v := 0) hx hb hr (fun t ht hW => ⟨(), rfl, trivial, by rw [ht]; exact hP, va_K.moved hW.alike hK, hD, hS.F ht⟩) hS.2.2 dX1_line_18
set_option maxHeartbeats 4000000 in
set_option maxRecDepth 100000 in
theorem m_lineOf_bad (l : Launch) (D : va_G) (h q : Nat) (cA : ClassId) (sz : Nat) (hst : l.stackTraces = false) (n e : Int32) (g : Nat → Int32) (p0 : Int32) (hbad : p0 < 0 ∨ n < p0) : Met l yX1_lineOf wsX1_lineOf ({ frames := 9, cells := 1, slots := 6, locals := 160 }) (lc_WT [.ref h, .int p0] D [(h, .inr (1, [.ref q, .int n, .int e])), (q, .inl (cA, 20000, .inl g))] [(cA, .int)] sz) (lc_QW (S := Unit) D (va_A [(h, .inr (1, [.ref q, .int n, .int e])), (q, .inl (cA, 20000, .inl g))] sz) (fun u => some (.int 0)) (fun u => [(h, .inr (1, [.ref q, .int n, .int 1])), (q, .inl (cA, 20000, .inl g))]) (fun u => [(cA, .int)]) (fun u => True)) 1 6 (va_A [(h, .inr (1, [.ref q, .int n, .int e])), (q, .inl (cA, 20000, .inl g))] sz) := by
  refine va_MetW (cc := cX1_lineOf) (maxL := 3) (ret := (some .int)) (hh := [(5, 10, 11, 13)]) (by decide) rfl ?_
  intro p e' s m args below meth c s₁ B hml hv
  obtain ⟨rfl, hsz, hP, hK, hD0, hZ⟩ := hv
  have hx := B.exec
  have hb := B.bytes
  have hr := B.returns
  have hts := atoms_spec (ws := wsX1_lineOf) B.pre
  have hown : s.vm.findClass RX1 = some m.cls := findClass_of_methodNamed B.named
  have hlocks := B.notSynchronized
  have hinX1 : ∀ w ∈ u_ws RX1 TX1 3, w ∈ wsX1_lineOf := fun w h => List.mem_cons_of_mem _ (lb_X1 w h)
  have htb : c.exceptionTable.toList = tableOf [(5, 10, 11, 13)] := vx_table (x := yX1_lineOf) B (hts (.codeWith yX1_lineOf cX1_lineOf 3 (some .int) [(5, 10, 11, 13)]) List.mem_cons_self)
  subst hsz
  have hD := hD0.self (sz := s.heap.size)
  generalize hAe : va_A [(h, .inr (1, [.ref q, .int n, .int e])), (q, .inl (cA, 20000, .inl g))] s.heap.size = A at hD hZ ⊢
  have hA : ∀ q : Nat, s.heap.size ≤ q → A q := fun q h => by rw [← hAe]; exact Or.inr h
  have hS : va_S A s.heap s.heap [] := va_S.rf
  have hP : va_P D vwCl [(h, .inr (1, [.ref q, .int n, .int e])), (q, .inl (cA, 20000, .inl g))] s.heap := hP
  have hl := lv_entry ([.ref h, .int p0]) (n := 3) (Nat.le_of_ble_eq_true rfl)
  rw [lg_entry_eq]
  generalize (lg_sl ([.ref h, .int p0]) ++ List.replicate (3 - (lg_sl ([.ref h, .int p0])).length) Slot.unset).toArray = ls at hl ⊢
  have hl : lv_has ls 3 [(0, .ref h), (1, .int p0)] := hl
  refine lv_aload_n hx hb dX1_lineOf_0 rfl (lv_at hl 0 rfl) ?_
  refine lv_iconst (v := 0) hx hb dX1_lineOf_1 (by decide) ?_
  refine va_put (D := D) (ci := 1) (v := .int 0) (ty := .int) (C := RX1) (T := TX1) (N := 3) hx hb hts hinX1 tyX1 tyX1_ok nmX1 hown hK hP hD hS 0 rfl rfl 2 (by decide) (hts _ (List.mem_cons_of_mem _ lb_238)) (fun _ h9 => h9) rfl (by decide +kernel) rfl rfl (Nat.le_of_ble_eq_true rfl) dX1_lineOf_2 (fun H locs hP hD hS => ?_)
  have hP : va_P D vwCl [(h, .inr (1, [.ref q, .int n, .int 0])), (q, .inl (cA, 20000, .inl g))] H := hP
  have hD : va_D A [(h, .inr (1, [.ref q, .int n, .int 0])), (q, .inl (cA, 20000, .inl g))] := hD
  have hZ := hZ.kept hS.2.1
  refine lv_aload_n hx hb dX1_lineOf_5 rfl (lv_at hl 0 rfl) ?_
  refine lv_iload_n hx hb dX1_lineOf_6 rfl (lv_at hl 1 rfl) ?_
  refine lc_callX (vx_runV (As := [.int p0]) (rest := []) ⟨hx, hb, hml, hown, hts⟩ (m_lineOf0_bad l D h q cA hst n 0 g p0 hbad) (cwV 1 hts gX1_lineOf_X1_lineOf0 rfl rfl rfl (by decide +kernel) ⟨Nat.le_of_ble_eq_true rfl, Nat.le_of_ble_eq_true rfl⟩) (lc_TxV (q0 := 0) (ci := 1) (q := (RX1, TX1, 3)) hP hK (hZ.narrow (fun _ h => h.elim)) rfl rfl) rfl rfl hl.1 rfl (lv_room (Nat.le_of_ble_eq_true rfl)) dX1_lineOf_7 ⟨Nat.le_refl _, Nat.le_refl _⟩) (fun ce q9 H1 hz hk hce hcv hcl => ?_)
  refine vx_catch (name := "java/lang/IllegalArgumentException") hown [] ⟨5, 10, 11, 13⟩ [] (by rw [htb]; rfl) (fun _ h => nomatch h) (by decide) (by decide) (hts _ (List.mem_cons_of_mem _ lb_254)) (hZ.2.2.1.use rfl) hce hcv hcl ?_
  have hP := lc_keptP hP hk
  have hS := lc_keptS hS hz hk
  refine W.eq (g2 := F0 m 11 ls [.ref q9]) rfl ?_
  refine lv_astore_n hx hb dX1_lineOf_11 rfl hl (by decide) rfl (fun ls hl => ?_)
  have hl : lv_has ls 3 [(2, .ref q9), (0, .ref h), (1, .int p0)] := hl
  refine lv_aload_n hx hb dX1_lineOf_12 rfl (lv_at hl 1 rfl) ?_
  refine lv_iconst (v := 1) hx hb dX1_lineOf_13 (by decide) ?_
  refine va_put (D := D) (ci := 1) (v := .int 1) (ty := .int) (C := RX1) (T := TX1) (N := 3) hx hb hts hinX1 tyX1 tyX1_ok nmX1 hown hK hP hD hS 0 rfl rfl 2 (by decide) (hts _ (List.mem_cons_of_mem _ lb_238)) (fun _ h9 => h9) rfl (by decide +kernel) rfl rfl (Nat.le_of_ble_eq_true rfl) dX1_lineOf_14 (fun H locs hP hD hS => ?_)
  have hP : va_P D vwCl [(h, .inr (1, [.ref q, .int n, .int 1])), (q, .inl (cA, 20000, .inl g))] H := hP
  have hD : va_D A [(h, .inr (1, [.ref q, .int n, .int 1])), (q, .inl (cA, 20000, .inl g))] := hD
  refine lv_iconst (v := 0) hx hb dX1_lineOf_17 (by decide) ?_
  exact W.iret (v := 0) hx hb hr (fun t ht hW => ⟨(), rfl, trivial, by rw [ht]; exact hP, va_K.moved hW.alike hK, hD, hS.F ht⟩) hS.2.2 dX1_lineOf_18
set_option maxHeartbeats 4000000 in
set_option maxRecDepth 100000 in
theorem m_delete_bad (l : Launch) (D : va_G) (h q : Nat) (cA : ClassId) (sz : Nat) (hst : l.stackTraces = false) (n e : Int32) (g : Nat → Int32) (p0 p1 : Int32) (hbad : p0 < 0 ∨ p1 < 1 ∨ n < p1 ∨ n - p1 < p0) : Met l yX1_delete wsX1_delete ({ frames := 9, cells := 1, slots := 6, locals := 160 }) (lc_WT [.ref h, .int p0, .int p1] D [(h, .inr (1, [.ref q, .int n, .int e])), (q, .inl (cA, 20000, .inl g))] [(cA, .int)] sz) (lc_QW (S := Unit) D (va_A [(h, .inr (1, [.ref q, .int n, .int e])), (q, .inl (cA, 20000, .inl g))] sz) (fun u => some (.int 0)) (fun u => [(h, .inr (1, [.ref q, .int n, .int 1])), (q, .inl (cA, 20000, .inl g))]) (fun u => [(cA, .int)]) (fun u => True)) 1 6 (va_A [(h, .inr (1, [.ref q, .int n, .int e])), (q, .inl (cA, 20000, .inl g))] sz) := by
  refine va_MetW (cc := cX1_delete) (maxL := 4) (ret := (some .int)) (hh := [(5, 11, 12, 13)]) (by decide) rfl ?_
  intro p e' s m args below meth c s₁ B hml hv
  obtain ⟨rfl, hsz, hP, hK, hD0, hZ⟩ := hv
  have hx := B.exec
  have hb := B.bytes
  have hr := B.returns
  have hts := atoms_spec (ws := wsX1_delete) B.pre
  have hown : s.vm.findClass RX1 = some m.cls := findClass_of_methodNamed B.named
  have hlocks := B.notSynchronized
  have hinX1 : ∀ w ∈ u_ws RX1 TX1 3, w ∈ wsX1_delete := fun w h => List.mem_cons_of_mem _ (lb_X1 w h)
  have htb : c.exceptionTable.toList = tableOf [(5, 11, 12, 13)] := vx_table (x := yX1_delete) B (hts (.codeWith yX1_delete cX1_delete 4 (some .int) [(5, 11, 12, 13)]) List.mem_cons_self)
  subst hsz
  have hD := hD0.self (sz := s.heap.size)
  generalize hAe : va_A [(h, .inr (1, [.ref q, .int n, .int e])), (q, .inl (cA, 20000, .inl g))] s.heap.size = A at hD hZ ⊢
  have hA : ∀ q : Nat, s.heap.size ≤ q → A q := fun q h => by rw [← hAe]; exact Or.inr h
  have hS : va_S A s.heap s.heap [] := va_S.rf
  have hP : va_P D vwCl [(h, .inr (1, [.ref q, .int n, .int e])), (q, .inl (cA, 20000, .inl g))] s.heap := hP
  have hl := lv_entry ([.ref h, .int p0, .int p1]) (n := 4) (Nat.le_of_ble_eq_true rfl)
  rw [lg_entry_eq]
  generalize (lg_sl ([.ref h, .int p0, .int p1]) ++ List.replicate (4 - (lg_sl ([.ref h, .int p0, .int p1])).length) Slot.unset).toArray = ls at hl ⊢
  have hl : lv_has ls 4 [(0, .ref h), (1, .int p0), (2, .int p1)] := hl
  refine lv_aload_n hx hb dX1_delete_0 rfl (lv_at hl 0 rfl) ?_
  refine lv_iconst (v := 0) hx hb dX1_delete_1 (by decide) ?_
  refine va_put (D := D) (ci := 1) (v := .int 0) (ty := .int) (C := RX1) (T := TX1) (N := 3) hx hb hts hinX1 tyX1 tyX1_ok nmX1 hown hK hP hD hS 0 rfl rfl 2 (by decide) (hts _ (List.mem_cons_of_mem _ lb_238)) (fun _ h9 => h9) rfl (by decide +kernel) rfl rfl (Nat.le_of_ble_eq_true rfl) dX1_delete_2 (fun H locs hP hD hS => ?_)
  have hP : va_P D vwCl [(h, .inr (1, [.ref q, .int n, .int 0])), (q, .inl (cA, 20000, .inl g))] H := hP
  have hD : va_D A [(h, .inr (1, [.ref q, .int n, .int 0])), (q, .inl (cA, 20000, .inl g))] := hD
  have hZ := hZ.kept hS.2.1
  refine lv_aload_n hx hb dX1_delete_5 rfl (lv_at hl 0 rfl) ?_
  refine lv_iload_n hx hb dX1_delete_6 rfl (lv_at hl 1 rfl) ?_
  refine lv_iload_n hx hb dX1_delete_7 rfl (lv_at hl 2 rfl) ?_
  refine lc_callX (vx_runV (As := [.int p0, .int p1]) (rest := []) ⟨hx, hb, hml, hown, hts⟩ (m_delete0_bad l D h q cA hst n 0 g p0 p1 hbad) (cwV 2 hts gX1_delete_X1_delete0 rfl rfl rfl (by decide +kernel) ⟨Nat.le_of_ble_eq_true rfl, Nat.le_of_ble_eq_true rfl⟩) (lc_TxV (q0 := 0) (ci := 1) (q := (RX1, TX1, 3)) hP hK (hZ.narrow (fun _ h => h.elim)) rfl rfl) rfl rfl hl.1 rfl (lv_room (Nat.le_of_ble_eq_true rfl)) dX1_delete_8 ⟨Nat.le_refl _, Nat.le_refl _⟩) (fun ce q9 H1 hz hk hce hcv hcl => ?_)
  refine vx_catch (name := "java/lang/IllegalArgumentException") hown [] ⟨5, 11, 12, 13⟩ [] (by rw [htb]; rfl) (fun _ h => nomatch h) (by decide) (by decide) (hts _ (List.mem_cons_of_mem _ lb_254)) (hZ.2.2.1.use rfl) hce hcv hcl ?_
  have hP := lc_keptP hP hk
  have hS := lc_keptS hS hz hk
  refine W.eq (g2 := F0 m 12 ls [.ref q9]) rfl ?_
  refine lv_astore_n hx hb dX1_delete_12 rfl hl (by decide) rfl (fun ls hl => ?_)
  have hl : lv_has ls 4 [(3, .ref q9), (0, .ref h), (1, .int p0), (2, .int p1)] := hl
  refine lv_aload_n hx hb dX1_delete_13 rfl (lv_at hl 1 rfl) ?_
  refine lv_iconst (v := 1) hx hb dX1_delete_14 (by decide) ?_
  refine va_put (D := D) (ci := 1) (v := .int 1) (ty := .int) (C := RX1) (T := TX1) (N := 3) hx hb hts hinX1 tyX1 tyX1_ok nmX1 hown hK hP hD hS 0 rfl rfl 2 (by decide) (hts _ (List.mem_cons_of_mem _ lb_238)) (fun _ h9 => h9) rfl (by decide +kernel) rfl rfl (Nat.le_of_ble_eq_true rfl) dX1_delete_15 (fun H locs hP hD hS => ?_)
  have hP : va_P D vwCl [(h, .inr (1, [.ref q, .int n, .int 1])), (q, .inl (cA, 20000, .inl g))] H := hP
  have hD : va_D A [(h, .inr (1, [.ref q, .int n, .int 1])), (q, .inl (cA, 20000, .inl g))] := hD
  refine lv_iconst (v := 0) hx hb dX1_delete_18 (by decide) ?_
  exact W.iret (v := 0) hx hb hr (fun t ht hW => ⟨(), rfl, trivial, by rw [ht]; exact hP, va_K.moved hW.alike hK, hD, hS.F ht⟩) hS.2.2 dX1_delete_19
set_option maxHeartbeats 4000000 in
set_option maxRecDepth 100000 in
theorem m_insert_bad (l : Launch) (D : va_G) (h q : Nat) (cA : ClassId) (sz : Nat) (hst : l.stackTraces = false) (n e : Int32) (g : Nat → Int32) (p0 p1 p2 p3 : Int32) (hbad : p0 < 0 ∨ n < p0 ∨ p3 < 1 ∨ 500 < p3) : Met l yX1_insert wsX1_insert ({ frames := 9, cells := 1, slots := 6, locals := 160 }) (lc_WT [.ref h, .int p0, .int p1, .int p2, .int p3] D [(h, .inr (1, [.ref q, .int n, .int e])), (q, .inl (cA, 20000, .inl g))] [(cA, .int)] sz) (lc_QW (S := Unit) D (va_A [(h, .inr (1, [.ref q, .int n, .int e])), (q, .inl (cA, 20000, .inl g))] sz) (fun u => some (.int 0)) (fun u => [(h, .inr (1, [.ref q, .int n, .int 1])), (q, .inl (cA, 20000, .inl g))]) (fun u => [(cA, .int)]) (fun u => True)) 1 6 (va_A [(h, .inr (1, [.ref q, .int n, .int e])), (q, .inl (cA, 20000, .inl g))] sz) := by
  refine va_MetW (cc := cX1_insert) (maxL := 6) (ret := (some .int)) (hh := [(5, 14, 15, 13), (5, 14, 25, 24)]) (by decide) rfl ?_
  intro p e' s m args below meth c s₁ B hml hv
  obtain ⟨rfl, hsz, hP, hK, hD0, hZ⟩ := hv
  have hx := B.exec
  have hb := B.bytes
  have hr := B.returns
  have hts := atoms_spec (ws := wsX1_insert) B.pre
  have hown : s.vm.findClass RX1 = some m.cls := findClass_of_methodNamed B.named
  have hlocks := B.notSynchronized
  have hinX1 : ∀ w ∈ u_ws RX1 TX1 3, w ∈ wsX1_insert := fun w h => List.mem_cons_of_mem _ (lb_X1 w h)
  have htb : c.exceptionTable.toList = tableOf [(5, 14, 15, 13), (5, 14, 25, 24)] := vx_table (x := yX1_insert) B (hts (.codeWith yX1_insert cX1_insert 6 (some .int) [(5, 14, 15, 13), (5, 14, 25, 24)]) List.mem_cons_self)
  subst hsz
  have hD := hD0.self (sz := s.heap.size)
  generalize hAe : va_A [(h, .inr (1, [.ref q, .int n, .int e])), (q, .inl (cA, 20000, .inl g))] s.heap.size = A at hD hZ ⊢
  have hA : ∀ q : Nat, s.heap.size ≤ q → A q := fun q h => by rw [← hAe]; exact Or.inr h
  have hS : va_S A s.heap s.heap [] := va_S.rf
  have hP : va_P D vwCl [(h, .inr (1, [.ref q, .int n, .int e])), (q, .inl (cA, 20000, .inl g))] s.heap := hP
  have hl := lv_entry ([.ref h, .int p0, .int p1, .int p2, .int p3]) (n := 6) (Nat.le_of_ble_eq_true rfl)
  rw [lg_entry_eq]
  generalize (lg_sl ([.ref h, .int p0, .int p1, .int p2, .int p3]) ++ List.replicate (6 - (lg_sl ([.ref h, .int p0, .int p1, .int p2, .int p3])).length) Slot.unset).toArray = ls at hl ⊢
  have hl : lv_has ls 6 [(0, .ref h), (1, .int p0), (2, .int p1), (3, .int p2), (4, .int p3)] := hl
  refine lv_aload_n hx hb dX1_insert_0 rfl (lv_at hl 0 rfl) ?_
  refine lv_iconst (v := 0) hx hb dX1_insert_1 (by decide) ?_
  refine va_put (D := D) (ci := 1) (v := .int 0) (ty := .int) (C := RX1) (T := TX1) (N := 3) hx hb hts hinX1 tyX1 tyX1_ok nmX1 hown hK hP hD hS 0 rfl rfl 2 (by decide) (hts _ (List.mem_cons_of_mem _ lb_238)) (fun _ h9 => h9) rfl (by decide +kernel) rfl rfl (Nat.le_of_ble_eq_true rfl) dX1_insert_2 (fun H locs hP hD hS => ?_)
  have hP : va_P D vwCl [(h, .inr (1, [.ref q, .int n, .int 0])), (q, .inl (cA, 20000, .inl g))] H := hP
  have hD : va_D A [(h, .inr (1, [.ref q, .int n, .int 0])), (q, .inl (cA, 20000, .inl g))] := hD
  have hZ := hZ.kept hS.2.1
  refine lv_aload_n hx hb dX1_insert_5 rfl (lv_at hl 0 rfl) ?_
  refine lv_iload_n hx hb dX1_insert_6 rfl (lv_at hl 1 rfl) ?_
  refine lv_iload_n hx hb dX1_insert_7 rfl (lv_at hl 2 rfl) ?_
  refine lv_iload_n hx hb dX1_insert_8 rfl (lv_at hl 3 rfl) ?_
  refine lv_iload hx hb dX1_insert_9 (lv_at hl 4 rfl) ?_
  refine lc_callX (vx_runV (As := [.int p0, .int p1, .int p2, .int p3]) (rest := []) ⟨hx, hb, hml, hown, hts⟩ (m_insert0_bad l D h q cA hst n 0 g p0 p1 p2 p3 hbad) (cwV 4 hts gX1_insert_X1_insert0 rfl rfl rfl (by decide +kernel) ⟨Nat.le_of_ble_eq_true rfl, Nat.le_of_ble_eq_true rfl⟩) (lc_TxV (q0 := 0) (ci := 1) (q := (RX1, TX1, 3)) hP hK (hZ.narrow (fun _ h => h.elim)) rfl rfl) rfl rfl hl.1 rfl (lv_room (Nat.le_of_ble_eq_true rfl)) dX1_insert_11 ⟨Nat.le_refl _, Nat.le_refl _⟩) (fun ce q9 H1 hz hk hce hcv hcl => ?_)
  refine vx_catch (name := "java/lang/IllegalArgumentException") hown [] ⟨5, 14, 15, 13⟩ [⟨5, 14, 25, 24⟩] (by rw [htb]; rfl) (fun _ h => nomatch h) (by decide) (by decide) (hts _ (List.mem_cons_of_mem _ lb_254)) (hZ.2.2.1.use rfl) hce hcv hcl ?_
  have hP := lc_keptP hP hk
  have hS := lc_keptS hS hz hk
  refine W.eq (g2 := F0 m 15 ls [.ref q9]) rfl ?_
  refine lv_astore hx hb dX1_insert_15 hl (by decide) rfl (fun ls hl => ?_)
  have hl : lv_has ls 6 [(5, .ref q9), (0, .ref h), (1, .int p0), (2, .int p1), (3, .int p2), (4, .int p3)] := hl
  refine lv_aload_n hx hb dX1_insert_17 rfl (lv_at hl 1 rfl) ?_
  refine lv_iconst (v := 1) hx hb dX1_insert_18 (by decide) ?_
  refine va_put (D := D) (ci := 1) (v := .int 1) (ty := .int) (C := RX1) (T := TX1) (N := 3) hx hb hts hinX1 tyX1 tyX1_ok nmX1 hown hK hP hD hS 0 rfl rfl 2 (by decide) (hts _ (List.mem_cons_of_mem _ lb_238)) (fun _ h9 => h9) rfl (by decide +kernel) rfl rfl (Nat.le_of_ble_eq_true rfl) dX1_insert_19 (fun H locs hP hD hS => ?_)
  have hP : va_P D vwCl [(h, .inr (1, [.ref q, .int n, .int 1])), (q, .inl (cA, 20000, .inl g))] H := hP
  have hD : va_D A [(h, .inr (1, [.ref q, .int n, .int 1])), (q, .inl (cA, 20000, .inl g))] := hD
  refine lv_goto hx hb dX1_insert_22 (tgt := 32) rfl ?_
  refine lv_iconst (v := 0) hx hb dX1_insert_32 (by decide) ?_
  exact W.iret (v := 0) hx hb hr (fun t ht hW => ⟨(), rfl, trivial, by rw [ht]; exact hP, va_K.moved hW.alike hK, hD, hS.F ht⟩) hS.2.2 dX1_insert_33
set_option maxHeartbeats 4000000 in
set_option maxRecDepth 100000 in
theorem m_insert_full (l : Launch) (D : va_G) (h q : Nat) (cA : ClassId) (sz : Nat) (hst : l.stackTraces = false) (e : Int32) (c0 : Nat) (g : Nat → Int32) (i0 k0 : Nat) (p1 p2 : Int32) (hc0 : c0 ≤ 20000) (hi0 : i0 ≤ c0) (hk0 : 1 ≤ k0) (hk5 : k0 ≤ 500) (hfull : 20000 < c0 + k0) : Met l yX1_insert wsX1_insert ({ frames := 9, cells := 1, slots := 6, locals := 160 }) (lc_WT [.ref h, .int (nI i0), .int p1, .int p2, .int (nI k0)] D [(h, .inr (1, [.ref q, .int (nI c0), .int e])), (q, .inl (cA, 20000, .inl g))] [(cA, .int)] sz) (lc_QW (S := Unit) D (va_A [(h, .inr (1, [.ref q, .int (nI c0), .int e])), (q, .inl (cA, 20000, .inl g))] sz) (fun u => some (.int 0)) (fun u => [(h, .inr (1, [.ref q, .int (nI c0), .int 2])), (q, .inl (cA, 20000, .inl g))]) (fun u => [(cA, .int)]) (fun u => True)) 1 6 (va_A [(h, .inr (1, [.ref q, .int (nI c0), .int e])), (q, .inl (cA, 20000, .inl g))] sz) := by
  refine va_MetW (cc := cX1_insert) (maxL := 6) (ret := (some .int)) (hh := [(5, 14, 15, 13), (5, 14, 25, 24)]) (by decide) rfl ?_
  intro p e' s m args below meth c s₁ B hml hv
  obtain ⟨rfl, hsz, hP, hK, hD0, hZ⟩ := hv
  have hx := B.exec
  have hb := B.bytes
  have hr := B.returns
  have hts := atoms_spec (ws := wsX1_insert) B.pre
  have hown : s.vm.findClass RX1 = some m.cls := findClass_of_methodNamed B.named
  have hlocks := B.notSynchronized
  have hinX1 : ∀ w ∈ u_ws RX1 TX1 3, w ∈ wsX1_insert := fun w h => List.mem_cons_of_mem _ (lb_X1 w h)
  have htb : c.exceptionTable.toList = tableOf [(5, 14, 15, 13), (5, 14, 25, 24)] := vx_table (x := yX1_insert) B (hts (.codeWith yX1_insert cX1_insert 6 (some .int) [(5, 14, 15, 13), (5, 14, 25, 24)]) List.mem_cons_self)
  subst hsz
  have hD := hD0.self (sz := s.heap.size)
  generalize hAe : va_A [(h, .inr (1, [.ref q, .int (nI c0), .int e])), (q, .inl (cA, 20000, .inl g))] s.heap.size = A at hD hZ ⊢
  have hA : ∀ q : Nat, s.heap.size ≤ q → A q := fun q h => by rw [← hAe]; exact Or.inr h
  have hS : va_S A s.heap s.heap [] := va_S.rf
  have hP : va_P D vwCl [(h, .inr (1, [.ref q, .int (nI c0), .int e])), (q, .inl (cA, 20000, .inl g))] s.heap := hP
  have hl := lv_entry ([.ref h, .int (nI i0), .int p1, .int p2, .int (nI k0)]) (n := 6) (Nat.le_of_ble_eq_true rfl)
  rw [lg_entry_eq]
  generalize (lg_sl ([.ref h, .int (nI i0), .int p1, .int p2, .int (nI k0)]) ++ List.replicate (6 - (lg_sl ([.ref h, .int (nI i0), .int p1, .int p2, .int (nI k0)])).length) Slot.unset).toArray = ls at hl ⊢
  have hl : lv_has ls 6 [(0, .ref h), (1, .int (nI i0)), (2, .int p1), (3, .int p2), (4, .int (nI k0))] := hl
  refine lv_aload_n hx hb dX1_insert_0 rfl (lv_at hl 0 rfl) ?_
  refine lv_iconst (v := 0) hx hb dX1_insert_1 (by decide) ?_
  refine va_put (D := D) (ci := 1) (v := .int 0) (ty := .int) (C := RX1) (T := TX1) (N := 3) hx hb hts hinX1 tyX1 tyX1_ok nmX1 hown hK hP hD hS 0 rfl rfl 2 (by decide) (hts _ (List.mem_cons_of_mem _ lb_238)) (fun _ h9 => h9) rfl (by decide +kernel) rfl rfl (Nat.le_of_ble_eq_true rfl) dX1_insert_2 (fun H locs hP hD hS => ?_)
  have hP : va_P D vwCl [(h, .inr (1, [.ref q, .int (nI c0), .int 0])), (q, .inl (cA, 20000, .inl g))] H := hP
  have hD : va_D A [(h, .inr (1, [.ref q, .int (nI c0), .int 0])), (q, .inl (cA, 20000, .inl g))] := hD
  have hZ := hZ.kept hS.2.1
  refine lv_aload_n hx hb dX1_insert_5 rfl (lv_at hl 0 rfl) ?_
  refine lv_iload_n hx hb dX1_insert_6 rfl (lv_at hl 1 rfl) ?_
  refine lv_iload_n hx hb dX1_insert_7 rfl (lv_at hl 2 rfl) ?_
  refine lv_iload_n hx hb dX1_insert_8 rfl (lv_at hl 3 rfl) ?_
  refine lv_iload hx hb dX1_insert_9 (lv_at hl 4 rfl) ?_
  refine lc_callX (vx_runV (As := [.int (nI i0), .int p1, .int p2, .int (nI k0)]) (rest := []) ⟨hx, hb, hml, hown, hts⟩ (m_insert0_full l D h q cA hst 0 c0 g i0 k0 p1 p2 hc0 hi0 hk0 hk5 hfull) (cwV 4 hts gX1_insert_X1_insert0 rfl rfl rfl (by decide +kernel) ⟨Nat.le_of_ble_eq_true rfl, Nat.le_of_ble_eq_true rfl⟩) (lc_TxV (q0 := 0) (ci := 1) (q := (RX1, TX1, 3)) hP hK (hZ.narrow (fun _ h => h.elim)) rfl rfl) rfl rfl hl.1 rfl (lv_room (Nat.le_of_ble_eq_true rfl)) dX1_insert_11 ⟨Nat.le_refl _, Nat.le_refl _⟩) (fun ce q9 H1 hz hk hce hcv hcl => ?_)
  refine vx_catch (name := "java/lang/IllegalStateException") hown [⟨5, 14, 15, 13⟩] ⟨5, 14, 25, 24⟩ [] (by rw [htb]; rfl) (fun z hz => by rw [List.mem_singleton.mp hz]; exact Or.inr ⟨by decide, "java/lang/IllegalArgumentException", hts (.classLink RX1 13 "java/lang/IllegalArgumentException") (by decide +kernel), hZ.2.2.2.2.2.2.2.2⟩) (by decide) (by decide) (hts _ (List.mem_cons_of_mem _ lb_255)) (hZ.2.2.2.1.use rfl) hce hcv hcl ?_
  have hP := lc_keptP hP hk
  have hS := lc_keptS hS hz hk
  refine W.eq (g2 := F0 m 25 ls [.ref q9]) rfl ?_
  refine lv_astore hx hb dX1_insert_25 hl (by decide) rfl (fun ls hl => ?_)
  have hl : lv_has ls 6 [(5, .ref q9), (0, .ref h), (1, .int (nI i0)), (2, .int p1), (3, .int p2), (4, .int (nI k0))] := hl
  refine lv_aload_n hx hb dX1_insert_27 rfl (lv_at hl 1 rfl) ?_
  refine lv_iconst (v := 2) hx hb dX1_insert_28 (by decide) ?_
  refine va_put (D := D) (ci := 1) (v := .int 2) (ty := .int) (C := RX1) (T := TX1) (N := 3) hx hb hts hinX1 tyX1 tyX1_ok nmX1 hown hK hP hD hS 0 rfl rfl 2 (by decide) (hts _ (List.mem_cons_of_mem _ lb_238)) (fun _ h9 => h9) rfl (by decide +kernel) rfl rfl (Nat.le_of_ble_eq_true rfl) dX1_insert_29 (fun H locs hP hD hS => ?_)
  have hP : va_P D vwCl [(h, .inr (1, [.ref q, .int (nI c0), .int 2])), (q, .inl (cA, 20000, .inl g))] H := hP
  have hD : va_D A [(h, .inr (1, [.ref q, .int (nI c0), .int 2])), (q, .inl (cA, 20000, .inl g))] := hD
  refine lv_iconst (v := 0) hx hb dX1_insert_32 (by decide) ?_
  exact W.iret (v := 0) hx hb hr (fun t ht hW => ⟨(), rfl, trivial, by rw [ht]; exact hP, va_K.moved hW.alike hK, hD, hS.F ht⟩) hS.2.2 dX1_insert_33
set_option maxHeartbeats 4000000 in
set_option maxRecDepth 100000 in
theorem m_insert (l : Launch) (D : va_G) (h q : Nat) (cA : ClassId) (sz : Nat) (e : Int32) (c0 : Nat) (g : Nat → Int32) (i0 k0 : Nat) (v0 s0 : Int32) (hi0 : i0 ≤ c0) (hk0 : 1 ≤ k0) (hk5 : k0 ≤ 500) (hfit : c0 + k0 ≤ 20000) : Met l yX1_insert wsX1_insert ({ frames := 9, cells := 0, slots := 0, locals := 160 }) (lc_Wr [.ref h, .int (nI i0), .int v0, .int s0, .int (nI k0)] D [(h, .inr (1, [.ref q, .int (nI c0), .int e])), (q, .inl (cA, 20000, .inl g))] [(cA, .int)] sz) (lc_QW (S := (Nat → Int32)) D (va_A [(h, .inr (1, [.ref q, .int (nI c0), .int e])), (q, .inl (cA, 20000, .inl g))] sz) (fun u => some (.int (nI (c0 + k0)))) (fun u => [(h, .inr (1, [.ref q, .int (nI (c0 + k0)), .int 0])), (q, .inl (cA, 20000, .inl u))]) (fun u => [(cA, .int)]) (fun u => ∀ j, j < c0 + k0 → u j = lc_ins g i0 v0 s0 k0 j)) 0 0 (va_A [(h, .inr (1, [.ref q, .int (nI c0), .int e])), (q, .inl (cA, 20000, .inl g))] sz) := by
  refine va_MetW (cc := cX1_insert) (maxL := 6) (ret := (some .int)) (hh := [(5, 14, 15, 13), (5, 14, 25, 24)]) (by decide) rfl ?_
  intro p e' s m args below meth c s₁ B hml hv
  obtain ⟨rfl, hsz, hP, hK, hD0⟩ := hv
  have hx := B.exec
  have hb := B.bytes
  have hr := B.returns
  have hts := atoms_spec (ws := wsX1_insert) B.pre
  have hown : s.vm.findClass RX1 = some m.cls := findClass_of_methodNamed B.named
  have hlocks := B.notSynchronized
  have hinX1 : ∀ w ∈ u_ws RX1 TX1 3, w ∈ wsX1_insert := fun w h => List.mem_cons_of_mem _ (lb_X1 w h)
  subst hsz
  have hD := hD0.self (sz := s.heap.size)
  generalize hAe : va_A [(h, .inr (1, [.ref q, .int (nI c0), .int e])), (q, .inl (cA, 20000, .inl g))] s.heap.size = A at hD ⊢
  have hA : ∀ q : Nat, s.heap.size ≤ q → A q := fun q h => by rw [← hAe]; exact Or.inr h
  have hS : va_S A s.heap s.heap [] := va_S.rf
  have hP : va_P D vwCl [(h, .inr (1, [.ref q, .int (nI c0), .int e])), (q, .inl (cA, 20000, .inl g))] s.heap := hP
  have hl := lv_entry ([.ref h, .int (nI i0), .int v0, .int s0, .int (nI k0)]) (n := 6) (Nat.le_of_ble_eq_true rfl)
  rw [lg_entry_eq]
  generalize (lg_sl ([.ref h, .int (nI i0), .int v0, .int s0, .int (nI k0)]) ++ List.replicate (6 - (lg_sl ([.ref h, .int (nI i0), .int v0, .int s0, .int (nI k0)])).length) Slot.unset).toArray = ls at hl ⊢
  have hl : lv_has ls 6 [(0, .ref h), (1, .int (nI i0)), (2, .int v0), (3, .int s0), (4, .int (nI k0))] := hl
  refine lv_aload_n hx hb dX1_insert_0 rfl (lv_at hl 0 rfl) ?_
  refine lv_iconst (v := 0) hx hb dX1_insert_1 (by decide) ?_
  refine va_put (D := D) (ci := 1) (v := .int 0) (ty := .int) (C := RX1) (T := TX1) (N := 3) hx hb hts hinX1 tyX1 tyX1_ok nmX1 hown hK hP hD hS 0 rfl rfl 2 (by decide) (hts _ (List.mem_cons_of_mem _ lb_238)) (fun _ h9 => h9) rfl (by decide +kernel) rfl rfl (Nat.le_of_ble_eq_true rfl) dX1_insert_2 (fun H locs hP hD hS => ?_)
  have hP : va_P D vwCl [(h, .inr (1, [.ref q, .int (nI c0), .int 0])), (q, .inl (cA, 20000, .inl g))] H := hP
  have hD : va_D A [(h, .inr (1, [.ref q, .int (nI c0), .int 0])), (q, .inl (cA, 20000, .inl g))] := hD
  refine lv_aload_n hx hb dX1_insert_5 rfl (lv_at hl 0 rfl) ?_
  refine lv_iload_n hx hb dX1_insert_6 rfl (lv_at hl 1 rfl) ?_
  refine lv_iload_n hx hb dX1_insert_7 rfl (lv_at hl 2 rfl) ?_
  refine lv_iload_n hx hb dX1_insert_8 rfl (lv_at hl 3 rfl) ?_
  refine lv_iload hx hb dX1_insert_9 (lv_at hl 4 rfl) ?_
  have hF := va_free (wc := [(h, .inr (1, [.ref q, .int (nI c0), .int 0])), (q, .inl (cA, 20000, .inl g))]) hD hS hA [0, 1] rfl
  refine lc_callW (va_runV (As := [.int (nI i0), .int v0, .int s0, .int (nI k0)]) (rest := []) ⟨hx, hb, hml, hown, hts⟩ (m_insert0 l D h q cA H.size 0 c0 g i0 k0 v0 s0 hi0 hk0 hk5 hfit) (cwV 4 hts gX1_insert_X1_insert0 rfl rfl rfl (by decide +kernel) ⟨Nat.le_of_ble_eq_true rfl, Nat.le_of_ble_eq_true rfl⟩) (lc_WrV (q0 := 0) (ci := 1) (q := (RX1, TX1, 3)) hP hK hD rfl rfl) rfl rfl hl.1 rfl (lv_room (Nat.le_of_ble_eq_true rfl)) dX1_insert_11 ⟨Nat.le_refl _, Nat.le_refl _⟩) hS (fun q h => hF q h) (fun u H locs hp hP hK hD1 hz hk hS => ?_)
  have hD := hD1.weaken (fun _ _ _ h => hF _ h)
  refine W.eq (g2 := F0 m 14 ls [.int (nI (c0 + k0))]) rfl ?_
  exact W.iret (v := nI (c0 + k0)) hx hb hr (fun t ht hW => ⟨u, rfl, hp, by rw [ht]; exact hP, va_K.moved hW.alike hK, hD, hS.F ht⟩) hS.2.2 dX1_insert_14
set_option maxHeartbeats 4000000 in
set_option maxRecDepth 100000 in
theorem m_delete (l : Launch) (D : va_G) (h q : Nat) (cA : ClassId) (sz : Nat) (e : Int32) (c0 : Nat) (g : Nat → Int32) (hc0 : c0 ≤ 20000) (i0 k0 : Nat) (hk0 : 1 ≤ k0) (hik : i0 + k0 ≤ c0) : Met l yX1_delete wsX1_delete ({ frames := 9, cells := 0, slots := 0, locals := 160 }) (lc_Wr [.ref h, .int (nI i0), .int (nI k0)] D [(h, .inr (1, [.ref q, .int (nI c0), .int e])), (q, .inl (cA, 20000, .inl g))] [(cA, .int)] sz) (lc_QW (S := (Nat → Int32)) D (va_A [(h, .inr (1, [.ref q, .int (nI c0), .int e])), (q, .inl (cA, 20000, .inl g))] sz) (fun u => some (.int (nI (c0 - k0)))) (fun u => [(h, .inr (1, [.ref q, .int (nI (c0 - k0)), .int 0])), (q, .inl (cA, 20000, .inl u))]) (fun u => [(cA, .int)]) (fun u => ∀ j, j < c0 - k0 → u j = lc_del g i0 k0 j)) 0 0 (va_A [(h, .inr (1, [.ref q, .int (nI c0), .int e])), (q, .inl (cA, 20000, .inl g))] sz) := by
  refine va_MetW (cc := cX1_delete) (maxL := 4) (ret := (some .int)) (hh := [(5, 11, 12, 13)]) (by decide) rfl ?_
  intro p e' s m args below meth c s₁ B hml hv
  obtain ⟨rfl, hsz, hP, hK, hD0⟩ := hv
  have hx := B.exec
  have hb := B.bytes
  have hr := B.returns
  have hts := atoms_spec (ws := wsX1_delete) B.pre
  have hown : s.vm.findClass RX1 = some m.cls := findClass_of_methodNamed B.named
  have hlocks := B.notSynchronized
  have hinX1 : ∀ w ∈ u_ws RX1 TX1 3, w ∈ wsX1_delete := fun w h => List.mem_cons_of_mem _ (lb_X1 w h)
  subst hsz
  have hD := hD0.self (sz := s.heap.size)
  generalize hAe : va_A [(h, .inr (1, [.ref q, .int (nI c0), .int e])), (q, .inl (cA, 20000, .inl g))] s.heap.size = A at hD ⊢
  have hA : ∀ q : Nat, s.heap.size ≤ q → A q := fun q h => by rw [← hAe]; exact Or.inr h
  have hS : va_S A s.heap s.heap [] := va_S.rf
  have hP : va_P D vwCl [(h, .inr (1, [.ref q, .int (nI c0), .int e])), (q, .inl (cA, 20000, .inl g))] s.heap := hP
  have hl := lv_entry ([.ref h, .int (nI i0), .int (nI k0)]) (n := 4) (Nat.le_of_ble_eq_true rfl)
  rw [lg_entry_eq]
  generalize (lg_sl ([.ref h, .int (nI i0), .int (nI k0)]) ++ List.replicate (4 - (lg_sl ([.ref h, .int (nI i0), .int (nI k0)])).length) Slot.unset).toArray = ls at hl ⊢
  have hl : lv_has ls 4 [(0, .ref h), (1, .int (nI i0)), (2, .int (nI k0))] := hl
  refine lv_aload_n hx hb dX1_delete_0 rfl (lv_at hl 0 rfl) ?_
  refine lv_iconst (v := 0) hx hb dX1_delete_1 (by decide) ?_
  refine va_put (D := D) (ci := 1) (v := .int 0) (ty := .int) (C := RX1) (T := TX1) (N := 3) hx hb hts hinX1 tyX1 tyX1_ok nmX1 hown hK hP hD hS 0 rfl rfl 2 (by decide) (hts _ (List.mem_cons_of_mem _ lb_238)) (fun _ h9 => h9) rfl (by decide +kernel) rfl rfl (Nat.le_of_ble_eq_true rfl) dX1_delete_2 (fun H locs hP hD hS => ?_)
  have hP : va_P D vwCl [(h, .inr (1, [.ref q, .int (nI c0), .int 0])), (q, .inl (cA, 20000, .inl g))] H := hP
  have hD : va_D A [(h, .inr (1, [.ref q, .int (nI c0), .int 0])), (q, .inl (cA, 20000, .inl g))] := hD
  refine lv_aload_n hx hb dX1_delete_5 rfl (lv_at hl 0 rfl) ?_
  refine lv_iload_n hx hb dX1_delete_6 rfl (lv_at hl 1 rfl) ?_
  refine lv_iload_n hx hb dX1_delete_7 rfl (lv_at hl 2 rfl) ?_
  have hF := va_free (wc := [(h, .inr (1, [.ref q, .int (nI c0), .int 0])), (q, .inl (cA, 20000, .inl g))]) hD hS hA [0, 1] rfl
  refine lc_callW (va_runV (As := [.int (nI i0), .int (nI k0)]) (rest := []) ⟨hx, hb, hml, hown, hts⟩ (m_delete0 l D h q cA H.size 0 c0 g hc0 i0 k0 hk0 hik) (cwV 2 hts gX1_delete_X1_delete0 rfl rfl rfl (by decide +kernel) ⟨Nat.le_of_ble_eq_true rfl, Nat.le_of_ble_eq_true rfl⟩) (lc_WrV (q0 := 0) (ci := 1) (q := (RX1, TX1, 3)) hP hK hD rfl rfl) rfl rfl hl.1 rfl (lv_room (Nat.le_of_ble_eq_true rfl)) dX1_delete_8 ⟨Nat.le_refl _, Nat.le_refl _⟩) hS (fun q h => hF q h) (fun u H locs hp hP hK hD1 hz hk hS => ?_)
  have hD := hD1.weaken (fun _ _ _ h => hF _ h)
  refine W.eq (g2 := F0 m 11 ls [.int (nI (c0 - k0))]) rfl ?_
  exact W.iret (v := nI (c0 - k0)) hx hb hr (fun t ht hW => ⟨u, rfl, hp, by rw [ht]; exact hP, va_K.moved hW.alike hK, hD, hS.F ht⟩) hS.2.2 dX1_delete_11
