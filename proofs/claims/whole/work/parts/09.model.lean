set_option maxHeartbeats 4000000 in
set_option maxRecDepth 100000 in
theorem m_check (l : Launch) (D : va_G)  : Met l yX1_check wsX1_check ({ frames := 0, cells := 0, slots := 0, locals := 0 }) (lc_Rd [.int 1] D [] []) lc_QV 0 0 (fun _ => False) := by
  refine Met.ofW (cc := cX1_check) (maxL := 1) (ret := none) (by decide) rfl ?_
  intro p e' s m args below meth c s₁ B hml hv
  obtain ⟨rfl, hP, hK⟩ := hv
  have hx := B.exec
  have hb := B.bytes
  have hr := B.returns
  have hts := atoms_spec (ws := wsX1_check) B.pre
  have hown : s.vm.findClass RX1 = some m.cls := findClass_of_methodNamed B.named
  have hlocks := B.notSynchronized
  have hl := lv_entry ([.int 1]) (n := 1) (Nat.le_of_ble_eq_true rfl)
  rw [lg_entry_eq]
  generalize (lg_sl ([.int 1]) ++ List.replicate (1 - (lg_sl ([.int 1])).length) Slot.unset).toArray = ls at hl ⊢
  have hl : lv_has ls 1 [(0, .int 1)] := hl
  refine lv_iload_n hx hb dX1_check_0 rfl (lv_at hl 0 rfl) ?_
  refine lv_if_ne hx hb dX1_check_1 (tgt := 12) rfl (fun _ => ?_) (fun hc => absurd hc (by decide))
  exact W.vret hx hb hr (fun t ht _ => ⟨rfl, ht⟩) (fun _ h => nomatch h) dX1_check_12
set_option maxHeartbeats 4000000 in
set_option maxRecDepth 100000 in
theorem m_check_bad (l : Launch) (D : va_G) (hst : l.stackTraces = false) : vx_Met l yX1_check wsX1_check ({ frames := 6, cells := 1, slots := 6, locals := 81 }) (lc_Tx [.int 0] D [] [] (fun _ => False)) lc_N (lc_X "java/lang/IllegalArgumentException") 1 6 (fun _ => False) := by
  refine vx_ofW (cc := cX1_check) (maxL := 1) (ret := none) (by decide) rfl ?_
  intro p e' s m args below meth c s₁ B hml htab hv
  obtain ⟨rfl, hP, hK, hZ⟩ := hv
  have hx := B.exec
  have hb := B.bytes
  have hr := B.returns
  have hts := atoms_spec (ws := wsX1_check) B.pre
  have hown : s.vm.findClass RX1 = some m.cls := findClass_of_methodNamed B.named
  have hlocks := B.notSynchronized
  have hl := lv_entry ([.int 0]) (n := 1) (Nat.le_of_ble_eq_true rfl)
  rw [lg_entry_eq]
  generalize (lg_sl ([.int 0]) ++ List.replicate (1 - (lg_sl ([.int 0])).length) Slot.unset).toArray = ls at hl ⊢
  have hl : lv_has ls 1 [(0, .int 0)] := hl
  have hat : ∀ w ∈ vx_at0 RX1 15 "java/lang/IllegalArgumentException" ["java/lang/RuntimeException", "java/lang/Exception"], w.before ([.int 0] : List Value).toArray s = true := vx_hat (fun w hw => hts w (List.mem_cons_of_mem _ (lb_at_X1_15 w hw))) (B := lc_Nws) (by decide +kernel) (lc_nws hZ.2.2)
  have hthr : W p l e' (headSpec wsX1_check ({ frames := 6, cells := 1, slots := 6, locals := 81 })).room s m ([.int 0] : List Value).toArray below meth c s.heap [] 0 0 (vx_MQ below lc_N (lc_X "java/lang/IllegalArgumentException") ([.int 0] : List Value).toArray s 1 6 (fun _ => False)) (F0 m 4 ls []) := vx_throw0 hx hb hst hown (by decide +kernel) (by decide +kernel) (hts _ (List.mem_cons_of_mem _ lb_254)) (hts _ (List.mem_cons_of_mem _ lb_21)) hat (by decide +kernel) hZ.1 hZ.2.1 va_S.rf (hl.1.trans hml.symm) dX1_check_4 dX1_check_7 dX1_check_8 dX1_check_11 (fun x hx => (htab x hx).elim) (Nat.le_of_ble_eq_true rfl) (Nat.le_of_ble_eq_true rfl) (Nat.le_refl _) (Nat.le_refl _) hlocks (fun t _ hz hk => ⟨rfl, hz, fun q h1 _ => hk q h1⟩) (fun _ h => nomatch h) (Nat.le_refl _) (Nat.le_refl _)
  refine lv_iload_n hx hb dX1_check_0 rfl (lv_at hl 0 rfl) ?_
  refine lv_if_ne hx hb dX1_check_1 (tgt := 12) rfl (fun hc => absurd (rfl) hc) (fun _ => ?_)
  exact hthr
set_option maxHeartbeats 4000000 in
set_option maxRecDepth 100000 in
theorem m_insert0_bad (l : Launch) (D : va_G) (h q : Nat) (cA : ClassId)  (hst : l.stackTraces = false) (n e : Int32) (g : Nat → Int32) (p0 p1 p2 p3 : Int32) (hbad : p0 < 0 ∨ n < p0 ∨ p3 < 1 ∨ 500 < p3) : vx_Met l yX1_insert0 wsX1_insert0 ({ frames := 7, cells := 1, slots := 6, locals := 101 }) (lc_Tx [.ref h, .int p0, .int p1, .int p2, .int p3] D [(h, .inr (1, [.ref q, .int n, .int e])), (q, .inl (cA, 20000, .inl g))] [(cA, .int)] (fun _ => False)) lc_N (lc_X "java/lang/IllegalArgumentException") 1 6 (fun _ => False) := by
  refine vx_ofW (cc := cX1_insert0) (maxL := 6) (ret := (some .int)) (by decide) rfl ?_
  intro p e' s m args below meth c s₁ B hml htab hv
  obtain ⟨rfl, hP, hK, hZ⟩ := hv
  have hx := B.exec
  have hb := B.bytes
  have hr := B.returns
  have hts := atoms_spec (ws := wsX1_insert0) B.pre
  have hown : s.vm.findClass RX1 = some m.cls := findClass_of_methodNamed B.named
  have hlocks := B.notSynchronized
  have hinX1 : ∀ w ∈ u_ws RX1 TX1 3, w ∈ wsX1_insert0 := fun w h => List.mem_cons_of_mem _ (lb_X1 w h)
  have hl := lv_entry ([.ref h, .int p0, .int p1, .int p2, .int p3]) (n := 6) (Nat.le_of_ble_eq_true rfl)
  rw [lg_entry_eq]
  generalize (lg_sl ([.ref h, .int p0, .int p1, .int p2, .int p3]) ++ List.replicate (6 - (lg_sl ([.ref h, .int p0, .int p1, .int p2, .int p3])).length) Slot.unset).toArray = ls at hl ⊢
  have hl : lv_has ls 6 [(0, .ref h), (1, .int p0), (2, .int p1), (3, .int p2), (4, .int p3)] := hl
  have h30 : W p l e' (headSpec wsX1_insert0 ({ frames := 7, cells := 1, slots := 6, locals := 101 })).room s m ([.ref h, .int p0, .int p1, .int p2, .int p3] : List Value).toArray below meth c s.heap [] 0 0 (vx_MQ below lc_N (lc_X "java/lang/IllegalArgumentException") ([.ref h, .int p0, .int p1, .int p2, .int p3] : List Value).toArray s 1 6 (fun _ => False)) (F0 m 30 ls []) := by
    refine lv_iconst (v := 0) hx hb dX1_insert0_30 (by decide) ?_
    refine lc_callX (vx_runS (As := [.int 0]) (rest := []) ⟨hx, hb, hml, hown, hts⟩ (m_check_bad l D hst) (cwS 1 hts gX1_insert0_X1_check rfl rfl rfl (by decide +kernel) ⟨Nat.le_of_ble_eq_true rfl, Nat.le_of_ble_eq_true rfl⟩) (lc_TxS (hP.sub (ws' := []) [] rfl) (hK.sub (tys' := []) [] rfl) hZ) rfl rfl hl.1 rfl (lv_room (Nat.le_of_ble_eq_true rfl)) dX1_insert0_31 ⟨Nat.le_refl _, Nat.le_refl _⟩) (fun ce q9 H1 hz hk hce hcv hcl => ?_)
    exact vx_out (fun x hx => (htab x hx).elim) hlocks hce hcv hcl (fun t ht _ => ⟨rfl, by rw [ht]; exact hz, fun q h1 _ => by rw [ht]; exact hk q h1⟩) (fun _ h => nomatch h) (Nat.le_refl _) (Nat.le_refl _)
  refine lv_iload_n hx hb dX1_insert0_0 rfl (lv_at hl 1 rfl) ?_
  refine lv_if_lt hx hb dX1_insert0_1 (tgt := 30) rfl (fun h1 => ?_) (fun h1 => ?_)
  · exact h30
  · refine lv_iload_n hx hb dX1_insert0_4 rfl (lv_at hl 1 rfl) ?_
    refine lv_aload_n hx hb dX1_insert0_5 rfl (lv_at hl 0 rfl) ?_
    refine va_get (D := D) (ci := 1) (v := .int n) (C := RX1) (T := TX1) (N := 3) hx hb hts hinX1 hown hK hP 0 rfl rfl 1 (by decide) (hts _ (List.mem_cons_of_mem _ lb_237)) (fun _ h9 => h9) rfl dX1_insert0_6 ?_
    refine lv_icmp_gt hx hb dX1_insert0_9 (tgt := 30) rfl (fun h2 => ?_) (fun h2 => ?_)
    · exact h30
    · refine lv_iload hx hb dX1_insert0_12 (lv_at hl 4 rfl) ?_
      refine lv_iconst (v := 1) hx hb dX1_insert0_14 (by decide) ?_
      refine lv_icmp_lt hx hb dX1_insert0_15 (tgt := 30) rfl (fun h3 => ?_) (fun h3 => ?_)
      · exact h30
      · refine lv_iload hx hb dX1_insert0_18 (lv_at hl 4 rfl) ?_
        refine lv_sipush (v := 500) hx hb dX1_insert0_20 (by decide) ?_
        refine lv_icmp_gt hx hb dX1_insert0_23 (tgt := 30) rfl (fun _ => ?_) (fun hc => absurd (hbad.elim (fun h => absurd h h1) (fun hb9 => hb9.elim (fun h => absurd h h2) (fun hb8 => hb8.elim (fun h => absurd h h3) (fun hb7 => hb7)))) hc)
        exact h30
set_option maxHeartbeats 4000000 in
set_option maxRecDepth 100000 in
theorem m_insert0_full (l : Launch) (D : va_G) (h q : Nat) (cA : ClassId)  (hst : l.stackTraces = false) (e : Int32) (c0 : Nat) (g : Nat → Int32) (i0 k0 : Nat) (p1 p2 : Int32) (hc0 : c0 ≤ 20000) (hi0 : i0 ≤ c0) (hk0 : 1 ≤ k0) (hk5 : k0 ≤ 500) (hfull : 20000 < c0 + k0) : vx_Met l yX1_insert0 wsX1_insert0 ({ frames := 7, cells := 1, slots := 6, locals := 101 }) (lc_Tx [.ref h, .int (nI i0), .int p1, .int p2, .int (nI k0)] D [(h, .inr (1, [.ref q, .int (nI c0), .int e])), (q, .inl (cA, 20000, .inl g))] [(cA, .int)] (fun _ => False)) lc_N (lc_X "java/lang/IllegalStateException") 1 6 (fun _ => False) := by
  refine vx_ofW (cc := cX1_insert0) (maxL := 6) (ret := (some .int)) (by decide) rfl ?_
  intro p e' s m args below meth c s₁ B hml htab hv
  obtain ⟨rfl, hP, hK, hZ⟩ := hv
  have hx := B.exec
  have hb := B.bytes
  have hr := B.returns
  have hts := atoms_spec (ws := wsX1_insert0) B.pre
  have hown : s.vm.findClass RX1 = some m.cls := findClass_of_methodNamed B.named
  have hlocks := B.notSynchronized
  have hinX1 : ∀ w ∈ u_ws RX1 TX1 3, w ∈ wsX1_insert0 := fun w h => List.mem_cons_of_mem _ (lb_X1 w h)
  have hl := lv_entry ([.ref h, .int (nI i0), .int p1, .int p2, .int (nI k0)]) (n := 6) (Nat.le_of_ble_eq_true rfl)
  rw [lg_entry_eq]
  generalize (lg_sl ([.ref h, .int (nI i0), .int p1, .int p2, .int (nI k0)]) ++ List.replicate (6 - (lg_sl ([.ref h, .int (nI i0), .int p1, .int p2, .int (nI k0)])).length) Slot.unset).toArray = ls at hl ⊢
  have hl : lv_has ls 6 [(0, .ref h), (1, .int (nI i0)), (2, .int p1), (3, .int p2), (4, .int (nI k0))] := hl
  have hat : ∀ w ∈ vx_at0 RX1 26 "java/lang/IllegalStateException" ["java/lang/RuntimeException", "java/lang/Exception"], w.before ([.ref h, .int (nI i0), .int p1, .int p2, .int (nI k0)] : List Value).toArray s = true := vx_hat (fun w hw => hts w (List.mem_cons_of_mem _ (lb_at_X1_26 w hw))) (B := lc_Nws) (by decide +kernel) (lc_nws hZ.2.2)
  have hthr : W p l e' (headSpec wsX1_insert0 ({ frames := 7, cells := 1, slots := 6, locals := 101 })).room s m ([.ref h, .int (nI i0), .int p1, .int p2, .int (nI k0)] : List Value).toArray below meth c s.heap [] 0 0 (vx_MQ below lc_N (lc_X "java/lang/IllegalStateException") ([.ref h, .int (nI i0), .int p1, .int p2, .int (nI k0)] : List Value).toArray s 1 6 (fun _ => False)) (F0 m 47 ls []) := vx_throw0 hx hb hst hown (by decide +kernel) (by decide +kernel) (hts _ (List.mem_cons_of_mem _ lb_255)) (hts _ (List.mem_cons_of_mem _ lb_22)) hat (by decide +kernel) hZ.1 hZ.2.1 va_S.rf (hl.1.trans hml.symm) dX1_insert0_47 dX1_insert0_50 dX1_insert0_51 dX1_insert0_54 (fun x hx => (htab x hx).elim) (Nat.le_of_ble_eq_true rfl) (Nat.le_of_ble_eq_true rfl) (Nat.le_refl _) (Nat.le_refl _) hlocks (fun t _ hz hk => ⟨rfl, hz, fun q h1 _ => hk q h1⟩) (fun _ h => nomatch h) (Nat.le_refl _) (Nat.le_refl _)
  refine lv_iload_n hx hb dX1_insert0_0 rfl (lv_at hl 1 rfl) ?_
  refine lv_if_lt hx hb dX1_insert0_1 (tgt := 30) rfl (fun hc => absurd hc (nI_pos (by omega))) (fun _ => ?_)
  refine lv_iload_n hx hb dX1_insert0_4 rfl (lv_at hl 1 rfl) ?_
  refine lv_aload_n hx hb dX1_insert0_5 rfl (lv_at hl 0 rfl) ?_
  refine va_get (D := D) (ci := 1) (v := .int (nI c0)) (C := RX1) (T := TX1) (N := 3) hx hb hts hinX1 hown hK hP 0 rfl rfl 1 (by decide) (hts _ (List.mem_cons_of_mem _ lb_237)) (fun _ h9 => h9) rfl dX1_insert0_6 ?_
  refine lv_icmp_gt hx hb dX1_insert0_9 (tgt := 30) rfl (fun hc => absurd hc (nI_nlt hi0 (by omega))) (fun _ => ?_)
  refine lv_iload hx hb dX1_insert0_12 (lv_at hl 4 rfl) ?_
  refine lv_iconst (v := 1) hx hb dX1_insert0_14 (by decide) ?_
  refine lv_icmp_lt hx hb dX1_insert0_15 (tgt := 30) rfl (fun hc => absurd hc (nI_nlt (b := 1) hk0 (by omega))) (fun _ => ?_)
  refine lv_iload hx hb dX1_insert0_18 (lv_at hl 4 rfl) ?_
  refine lv_sipush (v := 500) hx hb dX1_insert0_20 (by decide) ?_
  refine lv_icmp_gt hx hb dX1_insert0_23 (tgt := 30) rfl (fun hc => absurd hc (nI_nlt (a := 500) hk5 (by omega))) (fun _ => ?_)
  refine lv_iconst (v := 1) hx hb dX1_insert0_26 (by decide) ?_
  refine lv_goto hx hb dX1_insert0_27 (tgt := 31) rfl ?_
  refine lc_callV (W.runS (As := [.int 1]) (rest := []) ⟨hx, hb, hml, hown, hts⟩ (m_check l D) (cwS 1 hts gX1_insert0_X1_check rfl rfl rfl (by decide +kernel) ⟨Nat.le_of_ble_eq_true rfl, Nat.le_of_ble_eq_true rfl⟩) (lc_RdS (hP.sub (ws' := []) [] rfl) (hK.sub (tys' := []) [] rfl)) rfl rfl hl.1 rfl (lv_room (Nat.le_of_ble_eq_true rfl)) dX1_insert0_31 ⟨Nat.zero_le _, Nat.zero_le _⟩) ?_
  refine lv_aload_n hx hb dX1_insert0_34 rfl (lv_at hl 0 rfl) ?_
  refine va_get (D := D) (ci := 1) (v := .int (nI c0)) (C := RX1) (T := TX1) (N := 3) hx hb hts hinX1 hown hK hP 0 rfl rfl 1 (by decide) (hts _ (List.mem_cons_of_mem _ lb_237)) (fun _ h9 => h9) rfl dX1_insert0_35 ?_
  refine lv_iload hx hb dX1_insert0_38 (lv_at hl 4 rfl) ?_
  refine lv_iadd hx hb dX1_insert0_40 ?_
  refine lc_top (y := nI (c0 + k0)) (nI_add c0 k0) ?_
  refine lv_sipush (v := 20000) hx hb dX1_insert0_41 (by decide) ?_
  refine lv_icmp_le hx hb dX1_insert0_44 (tgt := 55) rfl (fun hc => absurd hc (nI_ge (a := 20000) hfull (by omega))) (fun _ => ?_)
  exact hthr
set_option maxHeartbeats 4000000 in
set_option maxRecDepth 100000 in
theorem m_insert0 (l : Launch) (D : va_G) (h q : Nat) (cA : ClassId) (sz : Nat) (e : Int32) (c0 : Nat) (g : Nat → Int32) (i0 k0 : Nat) (v0 s0 : Int32) (hi0 : i0 ≤ c0) (hk0 : 1 ≤ k0) (hk5 : k0 ≤ 500) (hfit : c0 + k0 ≤ 20000) : Met l yX1_insert0 wsX1_insert0 ({ frames := 7, cells := 0, slots := 0, locals := 101 }) (lc_Wr [.ref h, .int (nI i0), .int v0, .int s0, .int (nI k0)] D [(h, .inr (1, [.ref q, .int (nI c0), .int e])), (q, .inl (cA, 20000, .inl g))] [(cA, .int)] sz) (lc_QW (S := (Nat → Int32)) D (va_A [(h, .inr (1, [.ref q, .int (nI c0), .int e])), (q, .inl (cA, 20000, .inl g))] sz) (fun u => some (.int (nI (c0 + k0)))) (fun u => [(h, .inr (1, [.ref q, .int (nI (c0 + k0)), .int e])), (q, .inl (cA, 20000, .inl u))]) (fun u => [(cA, .int)]) (fun u => ∀ j, j < c0 + k0 → u j = lc_ins g i0 v0 s0 k0 j)) 0 0 (va_A [(h, .inr (1, [.ref q, .int (nI c0), .int e])), (q, .inl (cA, 20000, .inl g))] sz) := by
  refine Met.ofW (cc := cX1_insert0) (maxL := 6) (ret := (some .int)) (by decide) rfl ?_
  intro p e' s m args below meth c s₁ B hml hv
  obtain ⟨rfl, hsz, hP, hK, hD0⟩ := hv
  have hx := B.exec
  have hb := B.bytes
  have hr := B.returns
  have hts := atoms_spec (ws := wsX1_insert0) B.pre
  have hown : s.vm.findClass RX1 = some m.cls := findClass_of_methodNamed B.named
  have hlocks := B.notSynchronized
  have hinX1 : ∀ w ∈ u_ws RX1 TX1 3, w ∈ wsX1_insert0 := fun w h => List.mem_cons_of_mem _ (lb_X1 w h)
  subst hsz
  have hD := hD0.self (sz := s.heap.size)
  generalize hAe : va_A [(h, .inr (1, [.ref q, .int (nI c0), .int e])), (q, .inl (cA, 20000, .inl g))] s.heap.size = A at hD ⊢
  have hA : ∀ q : Nat, s.heap.size ≤ q → A q := fun q h => by rw [← hAe]; exact Or.inr h
  have hS : va_S A s.heap s.heap [] := va_S.rf
  have hP : va_P D vwCl [(h, .inr (1, [.ref q, .int (nI c0), .int e])), (q, .inl (cA, 20000, .inl g))] s.heap := hP
  skip
  have hl := lv_entry ([.ref h, .int (nI i0), .int v0, .int s0, .int (nI k0)]) (n := 6) (Nat.le_of_ble_eq_true rfl)
  rw [lg_entry_eq]
  generalize (lg_sl ([.ref h, .int (nI i0), .int v0, .int s0, .int (nI k0)]) ++ List.replicate (6 - (lg_sl ([.ref h, .int (nI i0), .int v0, .int s0, .int (nI k0)])).length) Slot.unset).toArray = ls at hl ⊢
  have hl : lv_has ls 6 [(0, .ref h), (1, .int (nI i0)), (2, .int v0), (3, .int s0), (4, .int (nI k0))] := hl
  have loop2 : ∀ (k i : Nat) (f f1 : Nat → Int32) (H : Heap) (locs : List Loc) (ls : Array Slot), i + k = k0 → (∀ j, f1 j = if i0 + k0 ≤ j ∧ j < c0 + k0 then g (j - k0) else g j) → (∀ j, f j = if i0 ≤ j ∧ j < i0 + i then v0 + nI (j - i0) * s0 else f1 j) → va_P D vwCl [(h, .inr (1, [.ref q, .int (nI c0), .int e])), (q, .inl (cA, 20000, .inl f))] H → va_D A [(h, .inr (1, [.ref q, .int (nI c0), .int e])), (q, .inl (cA, 20000, .inl f))] → va_S A s.heap H locs → lv_has ls 6 [(5, .int (nI i)), (0, .ref h), (1, .int (nI i0)), (2, .int v0), (3, .int s0), (4, .int (nI k0))] → W p l e' (headSpec wsX1_insert0 ({ frames := 7, cells := 0, slots := 0, locals := 101 })).room s m ([.ref h, .int (nI i0), .int v0, .int s0, .int (nI k0)] : List Value).toArray below meth c H locs 0 0 (MQ below (lc_QW (S := (Nat → Int32)) D A (fun u => some (.int (nI (c0 + k0)))) (fun u => [(h, .inr (1, [.ref q, .int (nI (c0 + k0)), .int e])), (q, .inl (cA, 20000, .inl u))]) (fun u => [(cA, .int)]) (fun u => ∀ j, j < c0 + k0 → u j = lc_ins g i0 v0 s0 k0 j)) ([.ref h, .int (nI i0), .int v0, .int s0, .int (nI k0)] : List Value).toArray s 0 0 A) (F0 m 95 ls []) := by
    intro k
    induction k with
    | zero =>
      intro i f f1 H locs ls hi hf1 hf hP hD hS hl
      have hi : i = k0 := by omega
      subst hi
      refine lv_iload hx hb dX1_insert0_95 (lv_at hl 0 rfl) ?_
      refine lv_iload hx hb dX1_insert0_97 (lv_at hl 5 rfl) ?_
      refine lv_icmp_ge hx hb dX1_insert0_99 (tgt := 123) rfl (fun _ => ?_) (fun hc => absurd (nI_le (Nat.le_refl _) (by omega)) hc)
      refine lv_aload_n hx hb dX1_insert0_123 rfl (lv_at hl 1 rfl) ?_
      refine lv_dup hx hb dX1_insert0_124 rfl ?_
      refine va_get (D := D) (ci := 1) (v := .int (nI c0)) (C := RX1) (T := TX1) (N := 3) hx hb hts hinX1 hown hK hP 0 rfl rfl 1 (by decide) (hts _ (List.mem_cons_of_mem _ lb_237)) (fun _ h9 => h9) rfl dX1_insert0_125 ?_
      refine lv_iload hx hb dX1_insert0_128 (lv_at hl 5 rfl) ?_
      refine lv_iadd hx hb dX1_insert0_130 ?_
      refine lc_top (y := nI (c0 + i)) (nI_add c0 i) ?_
      refine va_put (D := D) (ci := 1) (v := .int (nI (c0 + i))) (ty := .int) (C := RX1) (T := TX1) (N := 3) hx hb hts hinX1 tyX1 tyX1_ok nmX1 hown hK hP hD hS 0 rfl rfl 1 (by decide) (hts _ (List.mem_cons_of_mem _ lb_237)) (fun _ h9 => h9) rfl (by decide +kernel) rfl rfl (Nat.le_of_ble_eq_true rfl) dX1_insert0_131 (fun H locs hP hD hS => ?_)
      have hP : va_P D vwCl [(h, .inr (1, [.ref q, .int (nI (c0 + i)), .int e])), (q, .inl (cA, 20000, .inl f))] H := hP
      have hD : va_D A [(h, .inr (1, [.ref q, .int (nI (c0 + i)), .int e])), (q, .inl (cA, 20000, .inl f))] := hD
      refine lv_aload_n hx hb dX1_insert0_134 rfl (lv_at hl 1 rfl) ?_
      refine va_get (D := D) (ci := 1) (v := .int (nI (c0 + i))) (C := RX1) (T := TX1) (N := 3) hx hb hts hinX1 hown hK hP 0 rfl rfl 1 (by decide) (hts _ (List.mem_cons_of_mem _ lb_237)) (fun _ h9 => h9) rfl dX1_insert0_135 ?_
      refine W.widen (k := 0) (n := 0) (Nat.le_refl _) (Nat.le_refl _) ?_
      refine W.iret (v := nI (c0 + i)) hx hb hr (fun t ht hW => ⟨f, rfl, (fun j hj => ?_), by rw [ht]; refine hP, va_K.moved hW.alike hK, hD, hS.F ht⟩) hS.2.2 dX1_insert0_138
      show f j = lc_ins g i0 v0 s0 i j
      rw [hf j, hf1 j]
      unfold lc_ins
      by_cases h1 : j < i0
      · rw [if_pos h1, if_neg (by omega), if_neg (by omega)]
      · rw [if_neg h1]
        by_cases h2 : j < i0 + i
        · rw [if_pos h2, if_pos (by omega)]
        · rw [if_neg h2, if_neg (by omega), if_pos (by omega)]
    | succ k ih =>
      intro i f f1 H locs ls hi hf1 hf hP hD hS hl
      refine lv_iload hx hb dX1_insert0_95 (lv_at hl 0 rfl) ?_
      refine lv_iload hx hb dX1_insert0_97 (lv_at hl 5 rfl) ?_
      refine lv_icmp_ge hx hb dX1_insert0_99 (tgt := 123) rfl (fun hc => absurd hc (nI_ge (show i < k0 by omega) (by omega))) (fun _ => ?_)
      refine lv_aload_n hx hb dX1_insert0_102 rfl (lv_at hl 1 rfl) ?_
      refine va_get (D := D) (ci := 1) (v := .ref q) (C := RX1) (T := TX1) (N := 3) hx hb hts hinX1 hown hK hP 0 rfl rfl 0 (by decide) (hts _ (List.mem_cons_of_mem _ lb_236)) (fun _ h9 => h9) rfl dX1_insert0_103 ?_
      refine lv_iload_n hx hb dX1_insert0_106 rfl (lv_at hl 2 rfl) ?_
      refine lv_iload hx hb dX1_insert0_107 (lv_at hl 0 rfl) ?_
      refine lv_iadd hx hb dX1_insert0_109 ?_
      refine lc_top (y := nI (i0 + i)) (nI_add i0 i) ?_
      refine lv_iload_n hx hb dX1_insert0_110 rfl (lv_at hl 3 rfl) ?_
      refine lv_iload hx hb dX1_insert0_111 (lv_at hl 0 rfl) ?_
      refine lv_iload_n hx hb dX1_insert0_113 rfl (lv_at hl 4 rfl) ?_
      refine lv_imul hx hb dX1_insert0_114 ?_
      refine lv_iadd hx hb dX1_insert0_115 ?_
      refine va_iast (D := D) hx hb hK hP hD hS 1 0 rfl rfl (vp_in_nI (show i0 + i < 20000 by omega) (by omega)) dX1_insert0_116 (fun H locs hP hD hS => ?_)
      rw [show (nI (i0 + i)).toNatClampNeg = i0 + i from nI_clamp (by omega)] at hP hD
      have hP : va_P D vwCl [(h, .inr (1, [.ref q, .int (nI c0), .int e])), (q, .inl (cA, 20000, .inl (upd f (i0 + i) (v0 + ((nI i) * s0)))))] H := hP
      have hD : va_D A [(h, .inr (1, [.ref q, .int (nI c0), .int e])), (q, .inl (cA, 20000, .inl (upd f (i0 + i) (v0 + ((nI i) * s0)))))] := hD
      refine lv_iinc (k := 0) (v := nI (i + 1)) hx hb dX1_insert0_117 hl rfl (nI_1 i) (by decide) rfl (fun ls hl => ?_)
      have hl : lv_has ls 6 [(5, .int (nI (i + 1))), (0, .ref h), (1, .int (nI i0)), (2, .int v0), (3, .int s0), (4, .int (nI k0))] := hl
      refine lv_goto hx hb dX1_insert0_120 (tgt := 95) rfl ?_
      have hl : lv_has ls 6 [(5, .int (nI (i + 1))), (0, .ref h), (1, .int (nI i0)), (2, .int v0), (3, .int s0), (4, .int (nI k0))] := lv_sub hl [0, 1, 2, 3, 4, 5] rfl
      refine ih (i + 1) _ f1 H locs ls (by omega) hf1 (fun j => ?_) hP hD hS hl
      by_cases hj : j = i0 + i
      · subst hj; rw [pk_us, if_pos (by omega), show i0 + i - i0 = i by omega]
      · rw [pk_un hj, hf j]
        by_cases h2 : i0 ≤ j ∧ j < i0 + i
        · rw [if_pos h2, if_pos (by omega)]
        · rw [if_neg h2, if_neg (by omega)]
  have loop1 : ∀ (k : Nat) (f : Nat → Int32) (H : Heap) (locs : List Loc) (ls : Array Slot), i0 + k ≤ c0 → (∀ j, f j = if i0 + k + k0 ≤ j ∧ j < c0 + k0 then g (j - k0) else g j) → va_P D vwCl [(h, .inr (1, [.ref q, .int (nI c0), .int e])), (q, .inl (cA, 20000, .inl f))] H → va_D A [(h, .inr (1, [.ref q, .int (nI c0), .int e])), (q, .inl (cA, 20000, .inl f))] → va_S A s.heap H locs → lv_has ls 6 [(5, .int (nI (i0 + k) - 1)), (0, .ref h), (1, .int (nI i0)), (2, .int v0), (3, .int s0), (4, .int (nI k0))] → W p l e' (headSpec wsX1_insert0 ({ frames := 7, cells := 0, slots := 0, locals := 101 })).room s m ([.ref h, .int (nI i0), .int v0, .int s0, .int (nI k0)] : List Value).toArray below meth c H locs 0 0 (MQ below (lc_QW (S := (Nat → Int32)) D A (fun u => some (.int (nI (c0 + k0)))) (fun u => [(h, .inr (1, [.ref q, .int (nI (c0 + k0)), .int e])), (q, .inl (cA, 20000, .inl u))]) (fun u => [(cA, .int)]) (fun u => ∀ j, j < c0 + k0 → u j = lc_ins g i0 v0 s0 k0 j)) ([.ref h, .int (nI i0), .int v0, .int s0, .int (nI k0)] : List Value).toArray s 0 0 A) (F0 m 63 ls []) := by
    intro k
    induction k with
    | zero =>
      intro f H locs ls hk hf hP hD hS hl
      refine lv_iload hx hb dX1_insert0_63 (lv_at hl 0 rfl) ?_
      refine lv_iload_n hx hb dX1_insert0_65 rfl (lv_at hl 2 rfl) ?_
      refine lv_icmp_lt hx hb dX1_insert0_66 (tgt := 92) rfl (fun _ => ?_) (fun hc => absurd (lc_pred_lt (by omega)) hc)
      refine lv_iconst (v := 0) hx hb dX1_insert0_92 (by decide) ?_
      refine lv_istore hx hb dX1_insert0_93 hl (by decide) rfl (fun ls hl => ?_)
      have hl : lv_has ls 6 [(5, .int 0), (0, .ref h), (1, .int (nI i0)), (2, .int v0), (3, .int s0), (4, .int (nI k0))] := hl
      have hl : lv_has ls 6 [(5, .int 0), (0, .ref h), (1, .int (nI i0)), (2, .int v0), (3, .int s0), (4, .int (nI k0))] := lv_sub hl [0, 1, 2, 3, 4, 5] rfl
      exact loop2 k0 0 f f H locs ls (by omega) (fun j => hf j) (fun j => by rw [if_neg (by omega)]) hP hD hS hl
    | succ k ih =>
      intro f H locs ls hk hf hP hD hS hl
      have hl : lv_has ls 6 [(5, .int (nI (i0 + k))), (0, .ref h), (1, .int (nI i0)), (2, .int v0), (3, .int s0), (4, .int (nI k0))] := by rw [show nI (i0 + (k + 1)) - 1 = nI (i0 + k) from nI_pred (i0 + k)] at hl; exact hl
      refine lv_iload hx hb dX1_insert0_63 (lv_at hl 0 rfl) ?_
      refine lv_iload_n hx hb dX1_insert0_65 rfl (lv_at hl 2 rfl) ?_
      refine lv_icmp_lt hx hb dX1_insert0_66 (tgt := 92) rfl (fun hc => absurd hc (nI_nlt (show i0 ≤ i0 + k by omega) (by omega))) (fun _ => ?_)
      refine lv_aload_n hx hb dX1_insert0_69 rfl (lv_at hl 1 rfl) ?_
      refine va_get (D := D) (ci := 1) (v := .ref q) (C := RX1) (T := TX1) (N := 3) hx hb hts hinX1 hown hK hP 0 rfl rfl 0 (by decide) (hts _ (List.mem_cons_of_mem _ lb_236)) (fun _ h9 => h9) rfl dX1_insert0_70 ?_
      refine lv_iload hx hb dX1_insert0_73 (lv_at hl 0 rfl) ?_
      refine lv_iload hx hb dX1_insert0_75 (lv_at hl 5 rfl) ?_
      refine lv_iadd hx hb dX1_insert0_77 ?_
      refine lc_top (y := nI (i0 + k + k0)) (nI_add _ _) ?_
      refine lv_aload_n hx hb dX1_insert0_78 rfl (lv_at hl 1 rfl) ?_
      refine va_get (D := D) (ci := 1) (v := .ref q) (C := RX1) (T := TX1) (N := 3) hx hb hts hinX1 hown hK hP 0 rfl rfl 0 (by decide) (hts _ (List.mem_cons_of_mem _ lb_236)) (fun _ h9 => h9) rfl dX1_insert0_79 ?_
      refine lv_iload hx hb dX1_insert0_82 (lv_at hl 0 rfl) ?_
      refine va_iald (D := D) hx hb hK hP 1 0 rfl rfl (vp_in_nI (show i0 + k < 20000 by omega) (by omega)) dX1_insert0_84 ?_
      refine lc_top (y := f (i0 + k)) (congrArg _ (nI_clamp (by omega))) ?_
      refine va_iast (D := D) hx hb hK hP hD hS 1 0 rfl rfl (vp_in_nI (show i0 + k + k0 < 20000 by omega) (by omega)) dX1_insert0_85 (fun H locs hP hD hS => ?_)
      rw [show (nI (i0 + k + k0)).toNatClampNeg = i0 + k + k0 from nI_clamp (by omega)] at hP hD
      have hP : va_P D vwCl [(h, .inr (1, [.ref q, .int (nI c0), .int e])), (q, .inl (cA, 20000, .inl (upd f (i0 + k + k0) (f (i0 + k)))))] H := hP
      have hD : va_D A [(h, .inr (1, [.ref q, .int (nI c0), .int e])), (q, .inl (cA, 20000, .inl (upd f (i0 + k + k0) (f (i0 + k)))))] := hD
      refine lv_iinc (k := 0) (v := nI (i0 + k) - 1) hx hb dX1_insert0_86 hl rfl (lc_dec _) (by decide) rfl (fun ls hl => ?_)
      have hl : lv_has ls 6 [(5, .int (nI (i0 + k) - 1)), (0, .ref h), (1, .int (nI i0)), (2, .int v0), (3, .int s0), (4, .int (nI k0))] := hl
      refine lv_goto hx hb dX1_insert0_89 (tgt := 63) rfl ?_
      have hl : lv_has ls 6 [(5, .int (nI (i0 + k) - 1)), (0, .ref h), (1, .int (nI i0)), (2, .int v0), (3, .int s0), (4, .int (nI k0))] := lv_sub hl [0, 1, 2, 3, 4, 5] rfl
      refine ih _ H locs ls (by omega) (fun j => ?_) hP hD hS hl
      by_cases hj : j = i0 + k + k0
      · subst hj; rw [pk_us, hf (i0 + k), if_neg (by omega), if_pos (by omega)]; congr 1; omega
      · rw [pk_un hj, hf j]
        by_cases h2 : i0 + (k + 1) + k0 ≤ j ∧ j < c0 + k0
        · rw [if_pos h2, if_pos (by omega)]
        · rw [if_neg h2, if_neg (by omega)]
  refine lv_iload_n hx hb dX1_insert0_0 rfl (lv_at hl 1 rfl) ?_
  refine lv_if_lt hx hb dX1_insert0_1 (tgt := 30) rfl (fun hc => absurd hc (nI_pos (by omega))) (fun _ => ?_)
  refine lv_iload_n hx hb dX1_insert0_4 rfl (lv_at hl 1 rfl) ?_
  refine lv_aload_n hx hb dX1_insert0_5 rfl (lv_at hl 0 rfl) ?_
  refine va_get (D := D) (ci := 1) (v := .int (nI c0)) (C := RX1) (T := TX1) (N := 3) hx hb hts hinX1 hown hK hP 0 rfl rfl 1 (by decide) (hts _ (List.mem_cons_of_mem _ lb_237)) (fun _ h9 => h9) rfl dX1_insert0_6 ?_
  refine lv_icmp_gt hx hb dX1_insert0_9 (tgt := 30) rfl (fun hc => absurd hc (nI_nlt hi0 (by omega))) (fun _ => ?_)
  refine lv_iload hx hb dX1_insert0_12 (lv_at hl 4 rfl) ?_
  refine lv_iconst (v := 1) hx hb dX1_insert0_14 (by decide) ?_
  refine lv_icmp_lt hx hb dX1_insert0_15 (tgt := 30) rfl (fun hc => absurd hc (nI_nlt (b := 1) hk0 (by omega))) (fun _ => ?_)
  refine lv_iload hx hb dX1_insert0_18 (lv_at hl 4 rfl) ?_
  refine lv_sipush (v := 500) hx hb dX1_insert0_20 (by decide) ?_
  refine lv_icmp_gt hx hb dX1_insert0_23 (tgt := 30) rfl (fun hc => absurd hc (nI_nlt (a := 500) hk5 (by omega))) (fun _ => ?_)
  refine lv_iconst (v := 1) hx hb dX1_insert0_26 (by decide) ?_
  refine lv_goto hx hb dX1_insert0_27 (tgt := 31) rfl ?_
  refine lc_callV (W.runS (As := [.int 1]) (rest := []) ⟨hx, hb, hml, hown, hts⟩ (m_check l D) (cwS 1 hts gX1_insert0_X1_check rfl rfl rfl (by decide +kernel) ⟨Nat.le_of_ble_eq_true rfl, Nat.le_of_ble_eq_true rfl⟩) (lc_RdS (hP.sub (ws' := []) [] rfl) (hK.sub (tys' := []) [] rfl)) rfl rfl hl.1 rfl (lv_room (Nat.le_of_ble_eq_true rfl)) dX1_insert0_31 ⟨Nat.zero_le _, Nat.zero_le _⟩) ?_
  refine lv_aload_n hx hb dX1_insert0_34 rfl (lv_at hl 0 rfl) ?_
  refine va_get (D := D) (ci := 1) (v := .int (nI c0)) (C := RX1) (T := TX1) (N := 3) hx hb hts hinX1 hown hK hP 0 rfl rfl 1 (by decide) (hts _ (List.mem_cons_of_mem _ lb_237)) (fun _ h9 => h9) rfl dX1_insert0_35 ?_
  refine lv_iload hx hb dX1_insert0_38 (lv_at hl 4 rfl) ?_
  refine lv_iadd hx hb dX1_insert0_40 ?_
  refine lc_top (y := nI (c0 + k0)) (nI_add c0 k0) ?_
  refine lv_sipush (v := 20000) hx hb dX1_insert0_41 (by decide) ?_
  refine lv_icmp_le hx hb dX1_insert0_44 (tgt := 55) rfl (fun _ => ?_) (fun hc => absurd (nI_le (b := 20000) hfit (by omega)) hc)
  refine lv_aload_n hx hb dX1_insert0_55 rfl (lv_at hl 0 rfl) ?_
  refine va_get (D := D) (ci := 1) (v := .int (nI c0)) (C := RX1) (T := TX1) (N := 3) hx hb hts hinX1 hown hK hP 0 rfl rfl 1 (by decide) (hts _ (List.mem_cons_of_mem _ lb_237)) (fun _ h9 => h9) rfl dX1_insert0_56 ?_
  refine lv_iconst (v := 1) hx hb dX1_insert0_59 (by decide) ?_
  refine lv_isub hx hb dX1_insert0_60 ?_
  refine lv_istore hx hb dX1_insert0_61 hl (by decide) rfl (fun ls hl => ?_)
  have hl : lv_has ls 6 [(5, .int ((nI c0) - 1)), (0, .ref h), (1, .int (nI i0)), (2, .int v0), (3, .int s0), (4, .int (nI k0))] := hl
  have hl : lv_has ls 6 [(5, .int ((nI c0) - 1)), (0, .ref h), (1, .int (nI i0)), (2, .int v0), (3, .int s0), (4, .int (nI k0))] := lv_sub hl [0, 1, 2, 3, 4, 5] rfl
  refine loop1 (c0 - i0) g s.heap [] ls (by omega) (fun j => by rw [if_neg (by omega)]) hP hD hS ?_
  rw [show i0 + (c0 - i0) = c0 by omega]
  exact hl
set_option maxHeartbeats 4000000 in
set_option maxRecDepth 100000 in
theorem m_delete0_bad (l : Launch) (D : va_G) (h q : Nat) (cA : ClassId)  (hst : l.stackTraces = false) (n e : Int32) (g : Nat → Int32) (p0 p1 : Int32) (hbad : p0 < 0 ∨ p1 < 1 ∨ n < p1 ∨ n - p1 < p0) : vx_Met l yX1_delete0 wsX1_delete0 ({ frames := 7, cells := 1, slots := 6, locals := 101 }) (lc_Tx [.ref h, .int p0, .int p1] D [(h, .inr (1, [.ref q, .int n, .int e])), (q, .inl (cA, 20000, .inl g))] [(cA, .int)] (fun _ => False)) lc_N (lc_X "java/lang/IllegalArgumentException") 1 6 (fun _ => False) := by
  refine vx_ofW (cc := cX1_delete0) (maxL := 4) (ret := (some .int)) (by decide) rfl ?_
  intro p e' s m args below meth c s₁ B hml htab hv
  obtain ⟨rfl, hP, hK, hZ⟩ := hv
  have hx := B.exec
  have hb := B.bytes
  have hr := B.returns
  have hts := atoms_spec (ws := wsX1_delete0) B.pre
  have hown : s.vm.findClass RX1 = some m.cls := findClass_of_methodNamed B.named
  have hlocks := B.notSynchronized
  have hinX1 : ∀ w ∈ u_ws RX1 TX1 3, w ∈ wsX1_delete0 := fun w h => List.mem_cons_of_mem _ (lb_X1 w h)
  have hl := lv_entry ([.ref h, .int p0, .int p1]) (n := 4) (Nat.le_of_ble_eq_true rfl)
  rw [lg_entry_eq]
  generalize (lg_sl ([.ref h, .int p0, .int p1]) ++ List.replicate (4 - (lg_sl ([.ref h, .int p0, .int p1])).length) Slot.unset).toArray = ls at hl ⊢
  have hl : lv_has ls 4 [(0, .ref h), (1, .int p0), (2, .int p1)] := hl
  have h30 : W p l e' (headSpec wsX1_delete0 ({ frames := 7, cells := 1, slots := 6, locals := 101 })).room s m ([.ref h, .int p0, .int p1] : List Value).toArray below meth c s.heap [] 0 0 (vx_MQ below lc_N (lc_X "java/lang/IllegalArgumentException") ([.ref h, .int p0, .int p1] : List Value).toArray s 1 6 (fun _ => False)) (F0 m 31 ls []) := by
    refine lv_iconst (v := 0) hx hb dX1_delete0_31 (by decide) ?_
    refine lc_callX (vx_runS (As := [.int 0]) (rest := []) ⟨hx, hb, hml, hown, hts⟩ (m_check_bad l D hst) (cwS 1 hts gX1_delete0_X1_check rfl rfl rfl (by decide +kernel) ⟨Nat.le_of_ble_eq_true rfl, Nat.le_of_ble_eq_true rfl⟩) (lc_TxS (hP.sub (ws' := []) [] rfl) (hK.sub (tys' := []) [] rfl) hZ) rfl rfl hl.1 rfl (lv_room (Nat.le_of_ble_eq_true rfl)) dX1_delete0_32 ⟨Nat.le_refl _, Nat.le_refl _⟩) (fun ce q9 H1 hz hk hce hcv hcl => ?_)
    exact vx_out (fun x hx => (htab x hx).elim) hlocks hce hcv hcl (fun t ht _ => ⟨rfl, by rw [ht]; exact hz, fun q h1 _ => by rw [ht]; exact hk q h1⟩) (fun _ h => nomatch h) (Nat.le_refl _) (Nat.le_refl _)
  refine lv_iload_n hx hb dX1_delete0_0 rfl (lv_at hl 1 rfl) ?_
  refine lv_if_lt hx hb dX1_delete0_1 (tgt := 31) rfl (fun h1 => ?_) (fun h1 => ?_)
  · exact h30
  · refine lv_iload_n hx hb dX1_delete0_4 rfl (lv_at hl 2 rfl) ?_
    refine lv_iconst (v := 1) hx hb dX1_delete0_5 (by decide) ?_
    refine lv_icmp_lt hx hb dX1_delete0_6 (tgt := 31) rfl (fun h2 => ?_) (fun h2 => ?_)
    · exact h30
    · refine lv_iload_n hx hb dX1_delete0_9 rfl (lv_at hl 2 rfl) ?_
      refine lv_aload_n hx hb dX1_delete0_10 rfl (lv_at hl 0 rfl) ?_
      refine va_get (D := D) (ci := 1) (v := .int n) (C := RX1) (T := TX1) (N := 3) hx hb hts hinX1 hown hK hP 0 rfl rfl 1 (by decide) (hts _ (List.mem_cons_of_mem _ lb_237)) (fun _ h9 => h9) rfl dX1_delete0_11 ?_
      refine lv_icmp_gt hx hb dX1_delete0_14 (tgt := 31) rfl (fun h3 => ?_) (fun h3 => ?_)
      · exact h30
      · refine lv_iload_n hx hb dX1_delete0_17 rfl (lv_at hl 1 rfl) ?_
        refine lv_aload_n hx hb dX1_delete0_18 rfl (lv_at hl 0 rfl) ?_
        refine va_get (D := D) (ci := 1) (v := .int n) (C := RX1) (T := TX1) (N := 3) hx hb hts hinX1 hown hK hP 0 rfl rfl 1 (by decide) (hts _ (List.mem_cons_of_mem _ lb_237)) (fun _ h9 => h9) rfl dX1_delete0_19 ?_
        refine lv_iload_n hx hb dX1_delete0_22 rfl (lv_at hl 2 rfl) ?_
        refine lv_isub hx hb dX1_delete0_23 ?_
        refine lv_icmp_gt hx hb dX1_delete0_24 (tgt := 31) rfl (fun _ => ?_) (fun hc => absurd (hbad.elim (fun h => absurd h h1) (fun hb9 => hb9.elim (fun h => absurd h h2) (fun hb8 => hb8.elim (fun h => absurd h h3) (fun hb7 => hb7)))) hc)
        exact h30
set_option maxHeartbeats 4000000 in
set_option maxRecDepth 100000 in
theorem m_delete0 (l : Launch) (D : va_G) (h q : Nat) (cA : ClassId) (sz : Nat) (e : Int32) (c0 : Nat) (g : Nat → Int32) (hc0 : c0 ≤ 20000) (i0 k0 : Nat) (hk0 : 1 ≤ k0) (hik : i0 + k0 ≤ c0) : Met l yX1_delete0 wsX1_delete0 ({ frames := 7, cells := 0, slots := 0, locals := 101 }) (lc_Wr [.ref h, .int (nI i0), .int (nI k0)] D [(h, .inr (1, [.ref q, .int (nI c0), .int e])), (q, .inl (cA, 20000, .inl g))] [(cA, .int)] sz) (lc_QW (S := (Nat → Int32)) D (va_A [(h, .inr (1, [.ref q, .int (nI c0), .int e])), (q, .inl (cA, 20000, .inl g))] sz) (fun u => some (.int (nI (c0 - k0)))) (fun u => [(h, .inr (1, [.ref q, .int (nI (c0 - k0)), .int e])), (q, .inl (cA, 20000, .inl u))]) (fun u => [(cA, .int)]) (fun u => ∀ j, j < c0 - k0 → u j = lc_del g i0 k0 j)) 0 0 (va_A [(h, .inr (1, [.ref q, .int (nI c0), .int e])), (q, .inl (cA, 20000, .inl g))] sz) := by
  refine Met.ofW (cc := cX1_delete0) (maxL := 4) (ret := (some .int)) (by decide) rfl ?_
  intro p e' s m args below meth c s₁ B hml hv
  obtain ⟨rfl, hsz, hP, hK, hD0⟩ := hv
  have hx := B.exec
  have hb := B.bytes
  have hr := B.returns
  have hts := atoms_spec (ws := wsX1_delete0) B.pre
  have hown : s.vm.findClass RX1 = some m.cls := findClass_of_methodNamed B.named
  have hlocks := B.notSynchronized
  have hinX1 : ∀ w ∈ u_ws RX1 TX1 3, w ∈ wsX1_delete0 := fun w h => List.mem_cons_of_mem _ (lb_X1 w h)
  subst hsz
  have hD := hD0.self (sz := s.heap.size)
  generalize hAe : va_A [(h, .inr (1, [.ref q, .int (nI c0), .int e])), (q, .inl (cA, 20000, .inl g))] s.heap.size = A at hD ⊢
  have hA : ∀ q : Nat, s.heap.size ≤ q → A q := fun q h => by rw [← hAe]; exact Or.inr h
  have hS : va_S A s.heap s.heap [] := va_S.rf
  have hP : va_P D vwCl [(h, .inr (1, [.ref q, .int (nI c0), .int e])), (q, .inl (cA, 20000, .inl g))] s.heap := hP
  skip
  have hl := lv_entry ([.ref h, .int (nI i0), .int (nI k0)]) (n := 4) (Nat.le_of_ble_eq_true rfl)
  rw [lg_entry_eq]
  generalize (lg_sl ([.ref h, .int (nI i0), .int (nI k0)]) ++ List.replicate (4 - (lg_sl ([.ref h, .int (nI i0), .int (nI k0)])).length) Slot.unset).toArray = ls at hl ⊢
  have hl : lv_has ls 4 [(0, .ref h), (1, .int (nI i0)), (2, .int (nI k0))] := hl
  have loop : ∀ (k i : Nat) (f : Nat → Int32) (H : Heap) (locs : List Loc) (ls : Array Slot), i0 + k0 + i + k = c0 → (∀ j, f j = if i0 ≤ j ∧ j < i0 + i then g (j + k0) else g j) → va_P D vwCl [(h, .inr (1, [.ref q, .int (nI c0), .int e])), (q, .inl (cA, 20000, .inl f))] H → va_D A [(h, .inr (1, [.ref q, .int (nI c0), .int e])), (q, .inl (cA, 20000, .inl f))] → va_S A s.heap H locs → lv_has ls 4 [(3, .int (nI (i0 + k0 + i))), (0, .ref h), (1, .int (nI i0)), (2, .int (nI k0))] → W p l e' (headSpec wsX1_delete0 ({ frames := 7, cells := 0, slots := 0, locals := 101 })).room s m ([.ref h, .int (nI i0), .int (nI k0)] : List Value).toArray below meth c H locs 0 0 (MQ below (lc_QW (S := (Nat → Int32)) D A (fun u => some (.int (nI (c0 - k0)))) (fun u => [(h, .inr (1, [.ref q, .int (nI (c0 - k0)), .int e])), (q, .inl (cA, 20000, .inl u))]) (fun u => [(cA, .int)]) (fun u => ∀ j, j < c0 - k0 → u j = lc_del g i0 k0 j)) ([.ref h, .int (nI i0), .int (nI k0)] : List Value).toArray s 0 0 A) (F0 m 39 ls []) := by
    intro k
    induction k with
    | zero =>
      intro i f H locs ls hi hf hP hD hS hl
      refine lv_iload_n hx hb dX1_delete0_39 rfl (lv_at hl 0 rfl) ?_
      refine lv_aload_n hx hb dX1_delete0_40 rfl (lv_at hl 1 rfl) ?_
      refine va_get (D := D) (ci := 1) (v := .int (nI c0)) (C := RX1) (T := TX1) (N := 3) hx hb hts hinX1 hown hK hP 0 rfl rfl 1 (by decide) (hts _ (List.mem_cons_of_mem _ lb_237)) (fun _ h9 => h9) rfl dX1_delete0_41 ?_
      refine lv_icmp_ge hx hb dX1_delete0_44 (tgt := 67) rfl (fun _ => ?_) (fun hc => absurd (nI_le (show c0 ≤ i0 + k0 + i by omega) (by omega)) hc)
      refine lv_aload_n hx hb dX1_delete0_67 rfl (lv_at hl 1 rfl) ?_
      refine lv_dup hx hb dX1_delete0_68 rfl ?_
      refine va_get (D := D) (ci := 1) (v := .int (nI c0)) (C := RX1) (T := TX1) (N := 3) hx hb hts hinX1 hown hK hP 0 rfl rfl 1 (by decide) (hts _ (List.mem_cons_of_mem _ lb_237)) (fun _ h9 => h9) rfl dX1_delete0_69 ?_
      refine lv_iload_n hx hb dX1_delete0_72 rfl (lv_at hl 3 rfl) ?_
      refine lv_isub hx hb dX1_delete0_73 ?_
      refine lc_top (y := nI (c0 - k0)) (pk_sub (by omega)) ?_
      refine va_put (D := D) (ci := 1) (v := .int (nI (c0 - k0))) (ty := .int) (C := RX1) (T := TX1) (N := 3) hx hb hts hinX1 tyX1 tyX1_ok nmX1 hown hK hP hD hS 0 rfl rfl 1 (by decide) (hts _ (List.mem_cons_of_mem _ lb_237)) (fun _ h9 => h9) rfl (by decide +kernel) rfl rfl (Nat.le_of_ble_eq_true rfl) dX1_delete0_74 (fun H locs hP hD hS => ?_)
      have hP : va_P D vwCl [(h, .inr (1, [.ref q, .int (nI (c0 - k0)), .int e])), (q, .inl (cA, 20000, .inl f))] H := hP
      have hD : va_D A [(h, .inr (1, [.ref q, .int (nI (c0 - k0)), .int e])), (q, .inl (cA, 20000, .inl f))] := hD
      refine lv_aload_n hx hb dX1_delete0_77 rfl (lv_at hl 1 rfl) ?_
      refine va_get (D := D) (ci := 1) (v := .int (nI (c0 - k0))) (C := RX1) (T := TX1) (N := 3) hx hb hts hinX1 hown hK hP 0 rfl rfl 1 (by decide) (hts _ (List.mem_cons_of_mem _ lb_237)) (fun _ h9 => h9) rfl dX1_delete0_78 ?_
      refine W.iret (v := nI (c0 - k0)) hx hb hr (fun t ht hW => ⟨f, rfl, (fun j hj => ?_), by rw [ht]; refine hP, va_K.moved hW.alike hK, hD, hS.F ht⟩) hS.2.2 dX1_delete0_81
      show f j = lc_del g i0 k0 j
      rw [hf j]
      unfold lc_del
      by_cases h1 : j < i0
      · rw [if_pos h1, if_neg (by omega)]
      · rw [if_neg h1, if_pos (by omega)]
    | succ k ih =>
      intro i f H locs ls hi hf hP hD hS hl
      refine lv_iload_n hx hb dX1_delete0_39 rfl (lv_at hl 0 rfl) ?_
      refine lv_aload_n hx hb dX1_delete0_40 rfl (lv_at hl 1 rfl) ?_
      refine va_get (D := D) (ci := 1) (v := .int (nI c0)) (C := RX1) (T := TX1) (N := 3) hx hb hts hinX1 hown hK hP 0 rfl rfl 1 (by decide) (hts _ (List.mem_cons_of_mem _ lb_237)) (fun _ h9 => h9) rfl dX1_delete0_41 ?_
      refine lv_icmp_ge hx hb dX1_delete0_44 (tgt := 67) rfl (fun hc => absurd hc (nI_ge (show i0 + k0 + i < c0 by omega) (by omega))) (fun _ => ?_)
      refine lv_aload_n hx hb dX1_delete0_47 rfl (lv_at hl 1 rfl) ?_
      refine va_get (D := D) (ci := 1) (v := .ref q) (C := RX1) (T := TX1) (N := 3) hx hb hts hinX1 hown hK hP 0 rfl rfl 0 (by decide) (hts _ (List.mem_cons_of_mem _ lb_236)) (fun _ h9 => h9) rfl dX1_delete0_48 ?_
      refine lv_iload_n hx hb dX1_delete0_51 rfl (lv_at hl 0 rfl) ?_
      refine lv_iload_n hx hb dX1_delete0_52 rfl (lv_at hl 3 rfl) ?_
      refine lv_isub hx hb dX1_delete0_53 ?_
      refine lc_top (y := nI (i0 + i)) ((pk_sub (by omega)).trans (congrArg nI (by omega))) ?_
      refine lv_aload_n hx hb dX1_delete0_54 rfl (lv_at hl 1 rfl) ?_
      refine va_get (D := D) (ci := 1) (v := .ref q) (C := RX1) (T := TX1) (N := 3) hx hb hts hinX1 hown hK hP 0 rfl rfl 0 (by decide) (hts _ (List.mem_cons_of_mem _ lb_236)) (fun _ h9 => h9) rfl dX1_delete0_55 ?_
      refine lv_iload_n hx hb dX1_delete0_58 rfl (lv_at hl 0 rfl) ?_
      refine va_iald (D := D) hx hb hK hP 1 0 rfl rfl (vp_in_nI (show i0 + k0 + i < 20000 by omega) (by omega)) dX1_delete0_59 ?_
      refine lc_top (y := f (i0 + k0 + i)) (congrArg _ (nI_clamp (by omega))) ?_
      refine va_iast (D := D) hx hb hK hP hD hS 1 0 rfl rfl (vp_in_nI (show i0 + i < 20000 by omega) (by omega)) dX1_delete0_60 (fun H locs hP hD hS => ?_)
      rw [show (nI (i0 + i)).toNatClampNeg = i0 + i from nI_clamp (by omega)] at hP hD
      have hP : va_P D vwCl [(h, .inr (1, [.ref q, .int (nI c0), .int e])), (q, .inl (cA, 20000, .inl (upd f (i0 + i) (f (i0 + k0 + i)))))] H := hP
      have hD : va_D A [(h, .inr (1, [.ref q, .int (nI c0), .int e])), (q, .inl (cA, 20000, .inl (upd f (i0 + i) (f (i0 + k0 + i)))))] := hD
      refine lv_iinc (k := 0) (v := nI (i0 + k0 + (i + 1))) hx hb dX1_delete0_61 hl rfl (nI_1 _) (by decide) rfl (fun ls hl => ?_)
      have hl : lv_has ls 4 [(3, .int (nI (i0 + k0 + (i + 1)))), (0, .ref h), (1, .int (nI i0)), (2, .int (nI k0))] := hl
      refine lv_goto hx hb dX1_delete0_64 (tgt := 39) rfl ?_
      have hl : lv_has ls 4 [(3, .int (nI (i0 + k0 + (i + 1)))), (0, .ref h), (1, .int (nI i0)), (2, .int (nI k0))] := lv_sub hl [0, 1, 2, 3] rfl
      refine ih (i + 1) _ H locs ls (by omega) (fun j => ?_) hP hD hS hl
      by_cases hj : j = i0 + i
      · subst hj; rw [pk_us, hf (i0 + k0 + i), if_neg (by omega), if_pos (by omega)]; congr 1; omega
      · rw [pk_un hj, hf j]
        by_cases h2 : i0 ≤ j ∧ j < i0 + i
        · rw [if_pos h2, if_pos (by omega)]
        · rw [if_neg h2, if_neg (by omega)]
  refine lv_iload_n hx hb dX1_delete0_0 rfl (lv_at hl 1 rfl) ?_
  refine lv_if_lt hx hb dX1_delete0_1 (tgt := 31) rfl (fun hc => absurd hc (nI_pos (by omega))) (fun _ => ?_)
  refine lv_iload_n hx hb dX1_delete0_4 rfl (lv_at hl 2 rfl) ?_
  refine lv_iconst (v := 1) hx hb dX1_delete0_5 (by decide) ?_
  refine lv_icmp_lt hx hb dX1_delete0_6 (tgt := 31) rfl (fun hc => absurd hc (nI_nlt (b := 1) hk0 (by omega))) (fun _ => ?_)
  refine lv_iload_n hx hb dX1_delete0_9 rfl (lv_at hl 2 rfl) ?_
  refine lv_aload_n hx hb dX1_delete0_10 rfl (lv_at hl 0 rfl) ?_
  refine va_get (D := D) (ci := 1) (v := .int (nI c0)) (C := RX1) (T := TX1) (N := 3) hx hb hts hinX1 hown hK hP 0 rfl rfl 1 (by decide) (hts _ (List.mem_cons_of_mem _ lb_237)) (fun _ h9 => h9) rfl dX1_delete0_11 ?_
  refine lv_icmp_gt hx hb dX1_delete0_14 (tgt := 31) rfl (fun hc => absurd hc (nI_nlt (show k0 ≤ c0 by omega) (by omega))) (fun _ => ?_)
  refine lv_iload_n hx hb dX1_delete0_17 rfl (lv_at hl 1 rfl) ?_
  refine lv_aload_n hx hb dX1_delete0_18 rfl (lv_at hl 0 rfl) ?_
  refine va_get (D := D) (ci := 1) (v := .int (nI c0)) (C := RX1) (T := TX1) (N := 3) hx hb hts hinX1 hown hK hP 0 rfl rfl 1 (by decide) (hts _ (List.mem_cons_of_mem _ lb_237)) (fun _ h9 => h9) rfl dX1_delete0_19 ?_
  refine lv_iload_n hx hb dX1_delete0_22 rfl (lv_at hl 2 rfl) ?_
  refine lv_isub hx hb dX1_delete0_23 ?_
  refine lc_top (y := nI (c0 - k0)) (pk_sub (by omega)) ?_
  refine lv_icmp_gt hx hb dX1_delete0_24 (tgt := 31) rfl (fun hc => absurd hc (nI_nlt (show i0 ≤ c0 - k0 by omega) (by omega))) (fun _ => ?_)
  refine lv_iconst (v := 1) hx hb dX1_delete0_27 (by decide) ?_
  refine lv_goto hx hb dX1_delete0_28 (tgt := 32) rfl ?_
  refine lc_callV (W.runS (As := [.int 1]) (rest := []) ⟨hx, hb, hml, hown, hts⟩ (m_check l D) (cwS 1 hts gX1_delete0_X1_check rfl rfl rfl (by decide +kernel) ⟨Nat.le_of_ble_eq_true rfl, Nat.le_of_ble_eq_true rfl⟩) (lc_RdS (hP.sub (ws' := []) [] rfl) (hK.sub (tys' := []) [] rfl)) rfl rfl hl.1 rfl (lv_room (Nat.le_of_ble_eq_true rfl)) dX1_delete0_32 ⟨Nat.zero_le _, Nat.zero_le _⟩) ?_
  refine lv_iload_n hx hb dX1_delete0_35 rfl (lv_at hl 1 rfl) ?_
  refine lv_iload_n hx hb dX1_delete0_36 rfl (lv_at hl 2 rfl) ?_
  refine lv_iadd hx hb dX1_delete0_37 ?_
  refine lc_top (y := nI (i0 + k0 + 0)) (nI_add i0 k0) ?_
  refine lv_istore_n hx hb dX1_delete0_38 rfl hl (by decide) rfl (fun ls hl => ?_)
  have hl : lv_has ls 4 [(3, .int (nI (i0 + k0 + 0))), (0, .ref h), (1, .int (nI i0)), (2, .int (nI k0))] := hl
  have hl : lv_has ls 4 [(3, .int (nI (i0 + k0 + 0))), (0, .ref h), (1, .int (nI i0)), (2, .int (nI k0))] := lv_sub hl [0, 1, 2, 3] rfl
  exact loop (c0 - (i0 + k0)) 0 g s.heap [] ls (by omega) (fun j => by rw [if_neg (by omega)]) hP hD hS hl
set_option maxHeartbeats 4000000 in
set_option maxRecDepth 100000 in
theorem m_get0 (l : Launch) (D : va_G) (h q : Nat) (cA : ClassId) (e : Int32) (c0 : Nat) (g : Nat → Int32) (hc0 : c0 ≤ 20000) (i : Nat) (hi : i < c0) : Met l yX1_get0 wsX1_get0 ({ frames := 6, cells := 0, slots := 0, locals := 81 }) (lc_Rd [.ref h, .int (nI i)] D [(h, .inr (1, [.ref q, .int (nI c0), .int e])), (q, .inl (cA, 20000, .inl g))] [(cA, .int)]) (QcRead (g i)) 0 0 (fun _ => False) := by
  refine Met.ofW (cc := cX1_get0) (maxL := 2) (ret := (some .int)) (by decide) rfl ?_
  intro p e' s m args below meth c s₁ B hml hv
  obtain ⟨rfl, hP, hK⟩ := hv
  have hx := B.exec
  have hb := B.bytes
  have hr := B.returns
  have hts := atoms_spec (ws := wsX1_get0) B.pre
  have hown : s.vm.findClass RX1 = some m.cls := findClass_of_methodNamed B.named
  have hlocks := B.notSynchronized
  have hinX1 : ∀ w ∈ u_ws RX1 TX1 3, w ∈ wsX1_get0 := fun w h => List.mem_cons_of_mem _ (lb_X1 w h)
  have hl := lv_entry ([.ref h, .int (nI i)]) (n := 2) (Nat.le_of_ble_eq_true rfl)
  rw [lg_entry_eq]
  generalize (lg_sl ([.ref h, .int (nI i)]) ++ List.replicate (2 - (lg_sl ([.ref h, .int (nI i)])).length) Slot.unset).toArray = ls at hl ⊢
  have hl : lv_has ls 2 [(0, .ref h), (1, .int (nI i))] := hl
  refine lv_iload_n hx hb dX1_get0_0 rfl (lv_at hl 1 rfl) ?_
  refine lv_if_lt hx hb dX1_get0_1 (tgt := 12) rfl (fun hc => absurd hc (nI_pos (by omega))) (fun _ => ?_)
  refine lv_iload_n hx hb dX1_get0_4 rfl (lv_at hl 1 rfl) ?_
  refine lv_aload_n hx hb dX1_get0_5 rfl (lv_at hl 0 rfl) ?_
  refine va_get (D := D) (ci := 1) (v := .int (nI c0)) (C := RX1) (T := TX1) (N := 3) hx hb hts hinX1 hown hK hP 0 rfl rfl 1 (by decide) (hts _ (List.mem_cons_of_mem _ lb_237)) (fun _ h9 => h9) rfl dX1_get0_6 ?_
  refine lv_icmp_lt hx hb dX1_get0_9 (tgt := 20) rfl (fun _ => ?_) (fun hc => absurd (nI_lt hi (by omega)) hc)
  refine lv_aload_n hx hb dX1_get0_20 rfl (lv_at hl 0 rfl) ?_
  refine va_get (D := D) (ci := 1) (v := .ref q) (C := RX1) (T := TX1) (N := 3) hx hb hts hinX1 hown hK hP 0 rfl rfl 0 (by decide) (hts _ (List.mem_cons_of_mem _ lb_236)) (fun _ h9 => h9) rfl dX1_get0_21 ?_
  refine lv_iload_n hx hb dX1_get0_24 rfl (lv_at hl 1 rfl) ?_
  refine va_iald (D := D) hx hb hK hP 1 0 rfl rfl (vp_in_nI (show i < 20000 by omega) (by omega)) dX1_get0_25 ?_
  refine lc_top (y := g i) (congrArg _ (nI_clamp (by omega))) ?_
  exact W.iret (v := g i) hx hb hr (fun t ht _ => ⟨rfl, ht⟩) (fun _ h => nomatch h) dX1_get0_26
set_option maxHeartbeats 4000000 in
set_option maxRecDepth 100000 in
theorem m_get0_bad (l : Launch) (D : va_G) (h q : Nat) (cA : ClassId)  (hst : l.stackTraces = false) (n e : Int32) (g : Nat → Int32) (p0 : Int32) (hbad : p0 < 0 ∨ n ≤ p0) : vx_Met l yX1_get0 wsX1_get0 ({ frames := 6, cells := 1, slots := 6, locals := 81 }) (lc_Tx [.ref h, .int p0] D [(h, .inr (1, [.ref q, .int n, .int e])), (q, .inl (cA, 20000, .inl g))] [(cA, .int)] (fun _ => False)) lc_N (lc_X "java/util/NoSuchElementException") 1 6 (fun _ => False) := by
  refine vx_ofW (cc := cX1_get0) (maxL := 2) (ret := (some .int)) (by decide) rfl ?_
  intro p e' s m args below meth c s₁ B hml htab hv
  obtain ⟨rfl, hP, hK, hZ⟩ := hv
  have hx := B.exec
  have hb := B.bytes
  have hr := B.returns
  have hts := atoms_spec (ws := wsX1_get0) B.pre
  have hown : s.vm.findClass RX1 = some m.cls := findClass_of_methodNamed B.named
  have hlocks := B.notSynchronized
  have hinX1 : ∀ w ∈ u_ws RX1 TX1 3, w ∈ wsX1_get0 := fun w h => List.mem_cons_of_mem _ (lb_X1 w h)
  have hl := lv_entry ([.ref h, .int p0]) (n := 2) (Nat.le_of_ble_eq_true rfl)
  rw [lg_entry_eq]
  generalize (lg_sl ([.ref h, .int p0]) ++ List.replicate (2 - (lg_sl ([.ref h, .int p0])).length) Slot.unset).toArray = ls at hl ⊢
  have hl : lv_has ls 2 [(0, .ref h), (1, .int p0)] := hl
  have hat : ∀ w ∈ vx_at0 RX1 29 "java/util/NoSuchElementException" ["java/lang/RuntimeException", "java/lang/Exception"], w.before ([.ref h, .int p0] : List Value).toArray s = true := vx_hat (fun w hw => hts w (List.mem_cons_of_mem _ (lb_at_X1_29 w hw))) (B := lc_Nws) (by decide +kernel) (lc_nws hZ.2.2)
  have hthr : W p l e' (headSpec wsX1_get0 ({ frames := 6, cells := 1, slots := 6, locals := 81 })).room s m ([.ref h, .int p0] : List Value).toArray below meth c s.heap [] 0 0 (vx_MQ below lc_N (lc_X "java/util/NoSuchElementException") ([.ref h, .int p0] : List Value).toArray s 1 6 (fun _ => False)) (F0 m 12 ls []) := vx_throw0 hx hb hst hown (by decide +kernel) (by decide +kernel) (hts _ (List.mem_cons_of_mem _ lb_277)) (hts _ (List.mem_cons_of_mem _ lb_26)) hat (by decide +kernel) hZ.1 hZ.2.1 va_S.rf (hl.1.trans hml.symm) dX1_get0_12 dX1_get0_15 dX1_get0_16 dX1_get0_19 (fun x hx => (htab x hx).elim) (Nat.le_of_ble_eq_true rfl) (Nat.le_of_ble_eq_true rfl) (Nat.le_refl _) (Nat.le_refl _) hlocks (fun t _ hz hk => ⟨rfl, hz, fun q h1 _ => hk q h1⟩) (fun _ h => nomatch h) (Nat.le_refl _) (Nat.le_refl _)
  refine lv_iload_n hx hb dX1_get0_0 rfl (lv_at hl 1 rfl) ?_
  refine lv_if_lt hx hb dX1_get0_1 (tgt := 12) rfl (fun h1 => ?_) (fun h1 => ?_)
  · exact hthr
  · refine lv_iload_n hx hb dX1_get0_4 rfl (lv_at hl 1 rfl) ?_
    refine lv_aload_n hx hb dX1_get0_5 rfl (lv_at hl 0 rfl) ?_
    refine va_get (D := D) (ci := 1) (v := .int n) (C := RX1) (T := TX1) (N := 3) hx hb hts hinX1 hown hK hP 0 rfl rfl 1 (by decide) (hts _ (List.mem_cons_of_mem _ lb_237)) (fun _ h9 => h9) rfl dX1_get0_6 ?_
    refine lv_icmp_lt hx hb dX1_get0_9 (tgt := 20) rfl (fun hc => absurd hc (fun hc => hbad.elim h1 (fun hb9 => absurd hc (Int32.not_lt.mpr hb9)))) (fun _ => ?_)
    exact hthr
set_option maxHeartbeats 4000000 in
set_option maxRecDepth 100000 in
theorem m_length0 (l : Launch) (D : va_G) (h q : Nat) (cA : ClassId) (n e : Int32) (g : Nat → Int32) : Met l yX1_length0 wsX1_length0 ({ frames := 0, cells := 0, slots := 0, locals := 0 }) (lc_Rd [.ref h] D [(h, .inr (1, [.ref q, .int n, .int e])), (q, .inl (cA, 20000, .inl g))] [(cA, .int)]) (QcRead (n)) 0 0 (fun _ => False) := by
  refine Met.ofW (cc := cX1_length0) (maxL := 1) (ret := (some .int)) (by decide) rfl ?_
  intro p e' s m args below meth c s₁ B hml hv
  obtain ⟨rfl, hP, hK⟩ := hv
  have hx := B.exec
  have hb := B.bytes
  have hr := B.returns
  have hts := atoms_spec (ws := wsX1_length0) B.pre
  have hown : s.vm.findClass RX1 = some m.cls := findClass_of_methodNamed B.named
  have hlocks := B.notSynchronized
  have hinX1 : ∀ w ∈ u_ws RX1 TX1 3, w ∈ wsX1_length0 := fun w h => List.mem_cons_of_mem _ (lb_X1 w h)
  have hl := lv_entry ([.ref h]) (n := 1) (Nat.le_of_ble_eq_true rfl)
  rw [lg_entry_eq]
  generalize (lg_sl ([.ref h]) ++ List.replicate (1 - (lg_sl ([.ref h])).length) Slot.unset).toArray = ls at hl ⊢
  have hl : lv_has ls 1 [(0, .ref h)] := hl
  refine lv_aload_n hx hb dX1_length0_0 rfl (lv_at hl 0 rfl) ?_
  refine va_get (D := D) (ci := 1) (v := .int n) (C := RX1) (T := TX1) (N := 3) hx hb hts hinX1 hown hK hP 0 rfl rfl 1 (by decide) (hts _ (List.mem_cons_of_mem _ lb_237)) (fun _ h9 => h9) rfl dX1_length0_1 ?_
  exact W.iret (v := n) hx hb hr (fun t ht _ => ⟨rfl, ht⟩) (fun _ h => nomatch h) dX1_length0_4
set_option maxHeartbeats 4000000 in
set_option maxRecDepth 100000 in
theorem m_thrown (l : Launch) (D : va_G) (h q : Nat) (cA : ClassId) (n e : Int32) (g : Nat → Int32) : Met l yX1_thrown wsX1_thrown ({ frames := 0, cells := 0, slots := 0, locals := 0 }) (lc_Rd [.ref h] D [(h, .inr (1, [.ref q, .int n, .int e])), (q, .inl (cA, 20000, .inl g))] [(cA, .int)]) (QcRead (e)) 0 0 (fun _ => False) := by
  refine Met.ofW (cc := cX1_thrown) (maxL := 1) (ret := (some .int)) (by decide) rfl ?_
  intro p e' s m args below meth c s₁ B hml hv
  obtain ⟨rfl, hP, hK⟩ := hv
  have hx := B.exec
  have hb := B.bytes
  have hr := B.returns
  have hts := atoms_spec (ws := wsX1_thrown) B.pre
  have hown : s.vm.findClass RX1 = some m.cls := findClass_of_methodNamed B.named
  have hlocks := B.notSynchronized
  have hinX1 : ∀ w ∈ u_ws RX1 TX1 3, w ∈ wsX1_thrown := fun w h => List.mem_cons_of_mem _ (lb_X1 w h)
  have hl := lv_entry ([.ref h]) (n := 1) (Nat.le_of_ble_eq_true rfl)
  rw [lg_entry_eq]
  generalize (lg_sl ([.ref h]) ++ List.replicate (1 - (lg_sl ([.ref h])).length) Slot.unset).toArray = ls at hl ⊢
  have hl : lv_has ls 1 [(0, .ref h)] := hl
  refine lv_aload_n hx hb dX1_thrown_0 rfl (lv_at hl 0 rfl) ?_
  refine va_get (D := D) (ci := 1) (v := .int e) (C := RX1) (T := TX1) (N := 3) hx hb hts hinX1 hown hK hP 0 rfl rfl 2 (by decide) (hts _ (List.mem_cons_of_mem _ lb_238)) (fun _ h9 => h9) rfl dX1_thrown_1 ?_
  exact W.iret (v := e) hx hb hr (fun t ht _ => ⟨rfl, ht⟩) (fun _ h => nomatch h) dX1_thrown_4
set_option maxHeartbeats 4000000 in
set_option maxRecDepth 100000 in
theorem m_ends (l : Launch) (D : va_G) (h q : Nat) (cA : ClassId) (n e : Int32) (g : Nat → Int32) (b : Nat) (hb2 : b ≤ 20000) : Met l yX1_endsBefore wsX1_endsBefore ({ frames := 0, cells := 0, slots := 0, locals := 0 }) (lc_Rd [.ref h, .int (nI b)] D [(h, .inr (1, [.ref q, .int n, .int e])), (q, .inl (cA, 20000, .inl g))] [(cA, .int)]) (QcRead (nI (lc_cnt g b))) 0 0 (fun _ => False) := by
  refine Met.ofW (cc := cX1_endsBefore) (maxL := 4) (ret := (some .int)) (by decide) rfl ?_
  intro p e' s m args below meth c s₁ B hml hv
  obtain ⟨rfl, hP, hK⟩ := hv
  have hx := B.exec
  have hb := B.bytes
  have hr := B.returns
  have hts := atoms_spec (ws := wsX1_endsBefore) B.pre
  have hown : s.vm.findClass RX1 = some m.cls := findClass_of_methodNamed B.named
  have hlocks := B.notSynchronized
  have hinX1 : ∀ w ∈ u_ws RX1 TX1 3, w ∈ wsX1_endsBefore := fun w h => List.mem_cons_of_mem _ (lb_X1 w h)
  have hl := lv_entry ([.ref h, .int (nI b)]) (n := 4) (Nat.le_of_ble_eq_true rfl)
  rw [lg_entry_eq]
  generalize (lg_sl ([.ref h, .int (nI b)]) ++ List.replicate (4 - (lg_sl ([.ref h, .int (nI b)])).length) Slot.unset).toArray = ls at hl ⊢
  have hl : lv_has ls 4 [(0, .ref h), (1, .int (nI b))] := hl
  have loop : ∀ (k i : Nat) (ls : Array Slot), i + k = b → lv_has ls 4 [(3, .int (nI i)), (2, .int (nI (lc_cnt g i))), (0, .ref h), (1, .int (nI b))] → W p l e' (headSpec wsX1_endsBefore ({ frames := 0, cells := 0, slots := 0, locals := 0 })).room s m ([.ref h, .int (nI b)] : List Value).toArray below meth c s.heap [] 0 0 (MQ below (QcRead (nI (lc_cnt g b))) ([.ref h, .int (nI b)] : List Value).toArray s 0 0 (fun _ => False)) (F0 m 4 ls []) := by
    intro k
    induction k with
    | zero =>
      intro i ls hi hl
      have hi : i = b := by omega
      subst hi
      refine lv_iload_n hx hb dX1_endsBefore_4 rfl (lv_at hl 0 rfl) ?_
      refine lv_iload_n hx hb dX1_endsBefore_5 rfl (lv_at hl 3 rfl) ?_
      refine lv_icmp_ge hx hb dX1_endsBefore_6 (tgt := 29) rfl (fun _ => ?_) (fun hc => absurd (nI_le (Nat.le_refl i) (by omega)) hc)
      refine lv_iload_n hx hb dX1_endsBefore_29 rfl (lv_at hl 1 rfl) ?_
      exact W.iret (v := nI (lc_cnt g i)) hx hb hr (fun t ht _ => ⟨rfl, ht⟩) (fun _ h => nomatch h) dX1_endsBefore_30
    | succ k ih =>
      intro i ls hi hl
      refine lv_iload_n hx hb dX1_endsBefore_4 rfl (lv_at hl 0 rfl) ?_
      refine lv_iload_n hx hb dX1_endsBefore_5 rfl (lv_at hl 3 rfl) ?_
      refine lv_icmp_ge hx hb dX1_endsBefore_6 (tgt := 29) rfl (fun hc => absurd hc (nI_ge (show i < b by omega) (by omega))) (fun _ => ?_)
      refine lv_aload_n hx hb dX1_endsBefore_9 rfl (lv_at hl 2 rfl) ?_
      refine va_get (D := D) (ci := 1) (v := .ref q) (C := RX1) (T := TX1) (N := 3) hx hb hts hinX1 hown hK hP 0 rfl rfl 0 (by decide) (hts _ (List.mem_cons_of_mem _ lb_236)) (fun _ h9 => h9) rfl dX1_endsBefore_10 ?_
      refine lv_iload_n hx hb dX1_endsBefore_13 rfl (lv_at hl 0 rfl) ?_
      refine va_iald (D := D) hx hb hK hP 1 0 rfl rfl (vp_in_nI (show i < 20000 by omega) (by omega)) dX1_endsBefore_14 ?_
      refine lc_top (y := g i) (congrArg _ (nI_clamp (by omega))) ?_
      refine lv_bipush (v := 10) hx hb dX1_endsBefore_15 (by decide) ?_
      refine lv_icmp_ne hx hb dX1_endsBefore_17 (tgt := 23) rfl (fun hc => ?_) (fun hc => ?_)
      · refine lv_iinc (k := 0) (v := nI (i + 1)) hx hb dX1_endsBefore_23 hl rfl (nI_1 i) (by decide) rfl (fun ls hl => ?_)
        have hl : lv_has ls 4 [(3, .int (nI (i + 1))), (2, .int (nI (lc_cnt g i))), (0, .ref h), (1, .int (nI b))] := hl
        refine lv_goto hx hb dX1_endsBefore_26 (tgt := 4) rfl ?_
        have hl : lv_has ls 4 [(3, .int (nI (i + 1))), (2, .int (nI (lc_cnt g i))), (0, .ref h), (1, .int (nI b))] := lv_sub hl [0, 1, 2, 3] rfl
        exact ih (i + 1) ls (by omega) (by rw [lc_cnt_f hc]; exact hl)
      · refine lv_iinc (k := 1) (v := nI (lc_cnt g i + 1)) hx hb dX1_endsBefore_20 hl rfl (nI_1 _) (by decide) rfl (fun ls hl => ?_)
        have hl : lv_has ls 4 [(2, .int (nI (lc_cnt g i + 1))), (3, .int (nI i)), (0, .ref h), (1, .int (nI b))] := hl
        refine lv_iinc (k := 1) (v := nI (i + 1)) hx hb dX1_endsBefore_23 hl rfl (nI_1 i) (by decide) rfl (fun ls hl => ?_)
        have hl : lv_has ls 4 [(3, .int (nI (i + 1))), (2, .int (nI (lc_cnt g i + 1))), (0, .ref h), (1, .int (nI b))] := hl
        refine lv_goto hx hb dX1_endsBefore_26 (tgt := 4) rfl ?_
        have hl : lv_has ls 4 [(3, .int (nI (i + 1))), (2, .int (nI (lc_cnt g i + 1))), (0, .ref h), (1, .int (nI b))] := lv_sub hl [0, 1, 2, 3] rfl
        exact ih (i + 1) ls (by omega) (by rw [lc_cnt_t hc]; exact hl)
  refine lv_iconst (v := 0) hx hb dX1_endsBefore_0 (by decide) ?_
  refine lv_istore_n hx hb dX1_endsBefore_1 rfl hl (by decide) rfl (fun ls hl => ?_)
  have hl : lv_has ls 4 [(2, .int 0), (0, .ref h), (1, .int (nI b))] := hl
  refine lv_iconst (v := 0) hx hb dX1_endsBefore_2 (by decide) ?_
  refine lv_istore_n hx hb dX1_endsBefore_3 rfl hl (by decide) rfl (fun ls hl => ?_)
  have hl : lv_has ls 4 [(3, .int 0), (2, .int 0), (0, .ref h), (1, .int (nI b))] := hl
  have hl : lv_has ls 4 [(3, .int 0), (2, .int 0), (0, .ref h), (1, .int (nI b))] := lv_sub hl [0, 1, 2, 3] rfl
  exact loop b 0 ls (by omega) hl
set_option maxHeartbeats 4000000 in
set_option maxRecDepth 100000 in
theorem m_lines0 (l : Launch) (D : va_G) (h q : Nat) (cA : ClassId) (e : Int32) (c0 : Nat) (g : Nat → Int32) (hc0 : c0 ≤ 20000) : Met l yX1_lines0 wsX1_lines0 ({ frames := 1, cells := 0, slots := 0, locals := 23 }) (lc_Rd [.ref h] D [(h, .inr (1, [.ref q, .int (nI c0), .int e])), (q, .inl (cA, 20000, .inl g))] [(cA, .int)]) (QcRead (nI (lc_cnt g c0) + 1)) 0 0 (fun _ => False) := by
  refine Met.ofW (cc := cX1_lines0) (maxL := 1) (ret := (some .int)) (by decide) rfl ?_
  intro p e' s m args below meth c s₁ B hml hv
  obtain ⟨rfl, hP, hK⟩ := hv
  have hx := B.exec
  have hb := B.bytes
  have hr := B.returns
  have hts := atoms_spec (ws := wsX1_lines0) B.pre
  have hown : s.vm.findClass RX1 = some m.cls := findClass_of_methodNamed B.named
  have hlocks := B.notSynchronized
  have hinX1 : ∀ w ∈ u_ws RX1 TX1 3, w ∈ wsX1_lines0 := fun w h => List.mem_cons_of_mem _ (lb_X1 w h)
  have hl := lv_entry ([.ref h]) (n := 1) (Nat.le_of_ble_eq_true rfl)
  rw [lg_entry_eq]
  generalize (lg_sl ([.ref h]) ++ List.replicate (1 - (lg_sl ([.ref h])).length) Slot.unset).toArray = ls at hl ⊢
  have hl : lv_has ls 1 [(0, .ref h)] := hl
  refine lv_aload_n hx hb dX1_lines0_0 rfl (lv_at hl 0 rfl) ?_
  refine lv_aload_n hx hb dX1_lines0_1 rfl (lv_at hl 0 rfl) ?_
  refine va_get (D := D) (ci := 1) (v := .int (nI c0)) (C := RX1) (T := TX1) (N := 3) hx hb hts hinX1 hown hK hP 0 rfl rfl 1 (by decide) (hts _ (List.mem_cons_of_mem _ lb_237)) (fun _ h9 => h9) rfl dX1_lines0_2 ?_
  refine lc_callR (W.runV (As := [.int (nI c0)]) (rest := []) ⟨hx, hb, hml, hown, hts⟩ (m_ends l D h q cA (nI c0) (e) g c0 (hc0)) (cwV 1 hts gX1_lines0_X1_endsBefore rfl rfl rfl (by decide +kernel) ⟨Nat.le_of_ble_eq_true rfl, Nat.le_of_ble_eq_true rfl⟩) (lc_RdV (q0 := 0) (ci := 1) (q := (RX1, TX1, 3)) hP hK rfl rfl) rfl rfl hl.1 rfl (lv_room (Nat.le_of_ble_eq_true rfl)) dX1_lines0_5 ⟨Nat.zero_le _, Nat.zero_le _⟩) ?_
  refine lv_iconst (v := 1) hx hb dX1_lines0_8 (by decide) ?_
  refine lv_iadd hx hb dX1_lines0_9 ?_
  exact W.iret (v := nI (lc_cnt g c0) + 1) hx hb hr (fun t ht _ => ⟨rfl, ht⟩) (fun _ h => nomatch h) dX1_lines0_10
set_option maxHeartbeats 4000000 in
set_option maxRecDepth 100000 in
theorem m_line0 (l : Launch) (D : va_G) (h q : Nat) (cA : ClassId) (e : Int32) (c0 : Nat) (g : Nat → Int32) (hc0 : c0 ≤ 20000) (k0 j0 : Nat) (hk0 : k0 ≤ lc_cnt g c0) (hj : lc_isL g k0 j0) (hj0 : j0 ≤ c0) : Met l yX1_line0 wsX1_line0 ({ frames := 6, cells := 0, slots := 0, locals := 81 }) (lc_Rd [.ref h, .int (nI k0)] D [(h, .inr (1, [.ref q, .int (nI c0), .int e])), (q, .inl (cA, 20000, .inl g))] [(cA, .int)]) (QcRead (nI j0)) 0 0 (fun _ => False) := by
  refine Met.ofW (cc := cX1_line0) (maxL := 3) (ret := (some .int)) (by decide) rfl ?_
  intro p e' s m args below meth c s₁ B hml hv
  obtain ⟨rfl, hP, hK⟩ := hv
  have hx := B.exec
  have hb := B.bytes
  have hr := B.returns
  have hts := atoms_spec (ws := wsX1_line0) B.pre
  have hown : s.vm.findClass RX1 = some m.cls := findClass_of_methodNamed B.named
  have hlocks := B.notSynchronized
  have hinX1 : ∀ w ∈ u_ws RX1 TX1 3, w ∈ wsX1_line0 := fun w h => List.mem_cons_of_mem _ (lb_X1 w h)
  have hl := lv_entry ([.ref h, .int (nI k0)]) (n := 3) (Nat.le_of_ble_eq_true rfl)
  rw [lg_entry_eq]
  generalize (lg_sl ([.ref h, .int (nI k0)]) ++ List.replicate (3 - (lg_sl ([.ref h, .int (nI k0)])).length) Slot.unset).toArray = ls at hl ⊢
  have hl : lv_has ls 3 [(0, .ref h), (1, .int (nI k0))] := hl
  have hle := lc_cnt_le g c0
  have loop : ∀ (k i : Nat) (ls : Array Slot), i + k = j0 → lv_has ls 3 [(2, .int (nI i)), (0, .ref h), (1, .int (nI k0))] → W p l e' (headSpec wsX1_line0 ({ frames := 6, cells := 0, slots := 0, locals := 81 })).room s m ([.ref h, .int (nI k0)] : List Value).toArray below meth c s.heap [] 0 0 (MQ below (QcRead (nI j0)) ([.ref h, .int (nI k0)] : List Value).toArray s 0 0 (fun _ => False)) (F0 m 26 ls []) := by
    intro k
    induction k with
    | zero =>
      intro i ls hi hl
      have hi : i = j0 := by omega
      subst hi
      have hlei := lc_cnt_le g i
      refine lv_aload_n hx hb dX1_line0_26 rfl (lv_at hl 1 rfl) ?_
      refine lv_iload_n hx hb dX1_line0_27 rfl (lv_at hl 0 rfl) ?_
      refine lc_callR (W.runV (As := [.int (nI i)]) (rest := []) ⟨hx, hb, hml, hown, hts⟩ (m_ends l D h q cA (nI c0) (e) g i (by omega)) (cwV 1 hts gX1_line0_X1_endsBefore rfl rfl rfl (by decide +kernel) ⟨Nat.le_of_ble_eq_true rfl, Nat.le_of_ble_eq_true rfl⟩) (lc_RdV (q0 := 0) (ci := 1) (q := (RX1, TX1, 3)) hP hK rfl rfl) rfl rfl hl.1 rfl (lv_room (Nat.le_of_ble_eq_true rfl)) dX1_line0_28 ⟨Nat.zero_le _, Nat.zero_le _⟩) ?_
      refine lv_iload_n hx hb dX1_line0_31 rfl (lv_at hl 2 rfl) ?_
      refine lv_icmp_ge hx hb dX1_line0_32 (tgt := 41) rfl (fun _ => ?_) (fun hc => absurd (nI_le hj.1 (by omega)) hc)
      refine lv_iload_n hx hb dX1_line0_41 rfl (lv_at hl 0 rfl) ?_
      exact W.iret (v := nI i) hx hb hr (fun t ht _ => ⟨rfl, ht⟩) (fun _ h => nomatch h) dX1_line0_42
    | succ k ih =>
      intro i ls hi hl
      have hlt := hj.2 i (by omega)
      refine lv_aload_n hx hb dX1_line0_26 rfl (lv_at hl 1 rfl) ?_
      refine lv_iload_n hx hb dX1_line0_27 rfl (lv_at hl 0 rfl) ?_
      refine lc_callR (W.runV (As := [.int (nI i)]) (rest := []) ⟨hx, hb, hml, hown, hts⟩ (m_ends l D h q cA (nI c0) (e) g i (by omega)) (cwV 1 hts gX1_line0_X1_endsBefore rfl rfl rfl (by decide +kernel) ⟨Nat.le_of_ble_eq_true rfl, Nat.le_of_ble_eq_true rfl⟩) (lc_RdV (q0 := 0) (ci := 1) (q := (RX1, TX1, 3)) hP hK rfl rfl) rfl rfl hl.1 rfl (lv_room (Nat.le_of_ble_eq_true rfl)) dX1_line0_28 ⟨Nat.zero_le _, Nat.zero_le _⟩) ?_
      refine lv_iload_n hx hb dX1_line0_31 rfl (lv_at hl 2 rfl) ?_
      refine lv_icmp_ge hx hb dX1_line0_32 (tgt := 41) rfl (fun hc => absurd hc (nI_ge hlt (by omega))) (fun _ => ?_)
      refine lv_iinc (k := 0) (v := nI (i + 1)) hx hb dX1_line0_35 hl rfl (nI_1 i) (by decide) rfl (fun ls hl => ?_)
      have hl : lv_has ls 3 [(2, .int (nI (i + 1))), (0, .ref h), (1, .int (nI k0))] := hl
      refine lv_goto hx hb dX1_line0_38 (tgt := 26) rfl ?_
      have hl : lv_has ls 3 [(2, .int (nI (i + 1))), (0, .ref h), (1, .int (nI k0))] := lv_sub hl [0, 1, 2] rfl
      exact ih (i + 1) ls (by omega) hl
  refine lv_iload_n hx hb dX1_line0_0 rfl (lv_at hl 1 rfl) ?_
  refine lv_if_lt hx hb dX1_line0_1 (tgt := 16) rfl (fun hc => absurd hc (nI_pos (by omega))) (fun _ => ?_)
  refine lv_iload_n hx hb dX1_line0_4 rfl (lv_at hl 1 rfl) ?_
  refine lv_aload_n hx hb dX1_line0_5 rfl (lv_at hl 0 rfl) ?_
  refine lv_aload_n hx hb dX1_line0_6 rfl (lv_at hl 0 rfl) ?_
  refine va_get (D := D) (ci := 1) (v := .int (nI c0)) (C := RX1) (T := TX1) (N := 3) hx hb hts hinX1 hown hK hP 0 rfl rfl 1 (by decide) (hts _ (List.mem_cons_of_mem _ lb_237)) (fun _ h9 => h9) rfl dX1_line0_7 ?_
  refine lc_callR (W.runV (As := [.int (nI c0)]) (rest := [.int (nI k0)]) ⟨hx, hb, hml, hown, hts⟩ (m_ends l D h q cA (nI c0) (e) g c0 (hc0)) (cwV 1 hts gX1_line0_X1_endsBefore rfl rfl rfl (by decide +kernel) ⟨Nat.le_of_ble_eq_true rfl, Nat.le_of_ble_eq_true rfl⟩) (lc_RdV (q0 := 0) (ci := 1) (q := (RX1, TX1, 3)) hP hK rfl rfl) rfl rfl hl.1 rfl (lv_room (Nat.le_of_ble_eq_true rfl)) dX1_line0_10 ⟨Nat.zero_le _, Nat.zero_le _⟩) ?_
  refine lv_icmp_le hx hb dX1_line0_13 (tgt := 24) rfl (fun _ => ?_) (fun hc => absurd (nI_le hk0 (by omega)) hc)
  refine lv_iconst (v := 0) hx hb dX1_line0_24 (by decide) ?_
  refine lv_istore_n hx hb dX1_line0_25 rfl hl (by decide) rfl (fun ls hl => ?_)
  have hl : lv_has ls 3 [(2, .int 0), (0, .ref h), (1, .int (nI k0))] := hl
  have hl : lv_has ls 3 [(2, .int 0), (0, .ref h), (1, .int (nI k0))] := lv_sub hl [0, 1, 2] rfl
  exact loop j0 0 ls (by omega) hl
set_option maxHeartbeats 4000000 in
set_option maxRecDepth 100000 in
theorem m_line0_bad (l : Launch) (D : va_G) (h q : Nat) (cA : ClassId)  (hst : l.stackTraces = false) (e : Int32) (c0 : Nat) (g : Nat → Int32) (hc0 : c0 ≤ 20000) (p0 : Int32) (hbad : p0 < 0 ∨ nI (lc_cnt g c0) < p0) : vx_Met l yX1_line0 wsX1_line0 ({ frames := 6, cells := 1, slots := 6, locals := 81 }) (lc_Tx [.ref h, .int p0] D [(h, .inr (1, [.ref q, .int (nI c0), .int e])), (q, .inl (cA, 20000, .inl g))] [(cA, .int)] (fun _ => False)) lc_N (lc_X "java/util/NoSuchElementException") 1 6 (fun _ => False) := by
  refine vx_ofW (cc := cX1_line0) (maxL := 3) (ret := (some .int)) (by decide) rfl ?_
  intro p e' s m args below meth c s₁ B hml htab hv
  obtain ⟨rfl, hP, hK, hZ⟩ := hv
  have hx := B.exec
  have hb := B.bytes
  have hr := B.returns
  have hts := atoms_spec (ws := wsX1_line0) B.pre
  have hown : s.vm.findClass RX1 = some m.cls := findClass_of_methodNamed B.named
  have hlocks := B.notSynchronized
  have hinX1 : ∀ w ∈ u_ws RX1 TX1 3, w ∈ wsX1_line0 := fun w h => List.mem_cons_of_mem _ (lb_X1 w h)
  have hl := lv_entry ([.ref h, .int p0]) (n := 3) (Nat.le_of_ble_eq_true rfl)
  rw [lg_entry_eq]
  generalize (lg_sl ([.ref h, .int p0]) ++ List.replicate (3 - (lg_sl ([.ref h, .int p0])).length) Slot.unset).toArray = ls at hl ⊢
  have hl : lv_has ls 3 [(0, .ref h), (1, .int p0)] := hl
  have hat : ∀ w ∈ vx_at0 RX1 29 "java/util/NoSuchElementException" ["java/lang/RuntimeException", "java/lang/Exception"], w.before ([.ref h, .int p0] : List Value).toArray s = true := vx_hat (fun w hw => hts w (List.mem_cons_of_mem _ (lb_at_X1_29 w hw))) (B := lc_Nws) (by decide +kernel) (lc_nws hZ.2.2)
  have hthr : W p l e' (headSpec wsX1_line0 ({ frames := 6, cells := 1, slots := 6, locals := 81 })).room s m ([.ref h, .int p0] : List Value).toArray below meth c s.heap [] 0 0 (vx_MQ below lc_N (lc_X "java/util/NoSuchElementException") ([.ref h, .int p0] : List Value).toArray s 1 6 (fun _ => False)) (F0 m 16 ls []) := vx_throw0 hx hb hst hown (by decide +kernel) (by decide +kernel) (hts _ (List.mem_cons_of_mem _ lb_277)) (hts _ (List.mem_cons_of_mem _ lb_26)) hat (by decide +kernel) hZ.1 hZ.2.1 va_S.rf (hl.1.trans hml.symm) dX1_line0_16 dX1_line0_19 dX1_line0_20 dX1_line0_23 (fun x hx => (htab x hx).elim) (Nat.le_of_ble_eq_true rfl) (Nat.le_of_ble_eq_true rfl) (Nat.le_refl _) (Nat.le_refl _) hlocks (fun t _ hz hk => ⟨rfl, hz, fun q h1 _ => hk q h1⟩) (fun _ h => nomatch h) (Nat.le_refl _) (Nat.le_refl _)
  refine lv_iload_n hx hb dX1_line0_0 rfl (lv_at hl 1 rfl) ?_
  refine lv_if_lt hx hb dX1_line0_1 (tgt := 16) rfl (fun h1 => ?_) (fun h1 => ?_)
  · exact hthr
  · refine lv_iload_n hx hb dX1_line0_4 rfl (lv_at hl 1 rfl) ?_
    refine lv_aload_n hx hb dX1_line0_5 rfl (lv_at hl 0 rfl) ?_
    refine lv_aload_n hx hb dX1_line0_6 rfl (lv_at hl 0 rfl) ?_
    refine va_get (D := D) (ci := 1) (v := .int (nI c0)) (C := RX1) (T := TX1) (N := 3) hx hb hts hinX1 hown hK hP 0 rfl rfl 1 (by decide) (hts _ (List.mem_cons_of_mem _ lb_237)) (fun _ h9 => h9) rfl dX1_line0_7 ?_
    refine lc_callR (W.runV (As := [.int (nI c0)]) (rest := [.int p0]) ⟨hx, hb, hml, hown, hts⟩ (m_ends l D h q cA (nI c0) (e) g c0 (hc0)) (cwV 1 hts gX1_line0_X1_endsBefore rfl rfl rfl (by decide +kernel) ⟨Nat.le_of_ble_eq_true rfl, Nat.le_of_ble_eq_true rfl⟩) (lc_RdV (q0 := 0) (ci := 1) (q := (RX1, TX1, 3)) hP hK rfl rfl) rfl rfl hl.1 rfl (lv_room (Nat.le_of_ble_eq_true rfl)) dX1_line0_10 ⟨Nat.zero_le _, Nat.zero_le _⟩) ?_
    refine lv_icmp_le hx hb dX1_line0_13 (tgt := 24) rfl (fun hc => absurd hc (fun hc => hbad.elim h1 (fun hb9 => absurd hb9 (Int32.not_lt.mpr hc)))) (fun _ => ?_)
    exact hthr
set_option maxHeartbeats 4000000 in
set_option maxRecDepth 100000 in
theorem m_lineOf0 (l : Launch) (D : va_G) (h q : Nat) (cA : ClassId) (e : Int32) (c0 : Nat) (g : Nat → Int32) (hc0 : c0 ≤ 20000) (i : Nat) (hi : i ≤ c0) : Met l yX1_lineOf0 wsX1_lineOf0 ({ frames := 7, cells := 0, slots := 0, locals := 101 }) (lc_Rd [.ref h, .int (nI i)] D [(h, .inr (1, [.ref q, .int (nI c0), .int e])), (q, .inl (cA, 20000, .inl g))] [(cA, .int)]) (QcRead (nI (lc_cnt g i))) 0 0 (fun _ => False) := by
  refine Met.ofW (cc := cX1_lineOf0) (maxL := 2) (ret := (some .int)) (by decide) rfl ?_
  intro p e' s m args below meth c s₁ B hml hv
  obtain ⟨rfl, hP, hK⟩ := hv
  have hx := B.exec
  have hb := B.bytes
  have hr := B.returns
  have hts := atoms_spec (ws := wsX1_lineOf0) B.pre
  have hown : s.vm.findClass RX1 = some m.cls := findClass_of_methodNamed B.named
  have hlocks := B.notSynchronized
  have hinX1 : ∀ w ∈ u_ws RX1 TX1 3, w ∈ wsX1_lineOf0 := fun w h => List.mem_cons_of_mem _ (lb_X1 w h)
  have hl := lv_entry ([.ref h, .int (nI i)]) (n := 2) (Nat.le_of_ble_eq_true rfl)
  rw [lg_entry_eq]
  generalize (lg_sl ([.ref h, .int (nI i)]) ++ List.replicate (2 - (lg_sl ([.ref h, .int (nI i)])).length) Slot.unset).toArray = ls at hl ⊢
  have hl : lv_has ls 2 [(0, .ref h), (1, .int (nI i))] := hl
  refine lv_iload_n hx hb dX1_lineOf0_0 rfl (lv_at hl 1 rfl) ?_
  refine lv_if_lt hx hb dX1_lineOf0_1 (tgt := 16) rfl (fun hc => absurd hc (nI_pos (by omega))) (fun _ => ?_)
  refine lv_iload_n hx hb dX1_lineOf0_4 rfl (lv_at hl 1 rfl) ?_
  refine lv_aload_n hx hb dX1_lineOf0_5 rfl (lv_at hl 0 rfl) ?_
  refine va_get (D := D) (ci := 1) (v := .int (nI c0)) (C := RX1) (T := TX1) (N := 3) hx hb hts hinX1 hown hK hP 0 rfl rfl 1 (by decide) (hts _ (List.mem_cons_of_mem _ lb_237)) (fun _ h9 => h9) rfl dX1_lineOf0_6 ?_
  refine lv_icmp_gt hx hb dX1_lineOf0_9 (tgt := 16) rfl (fun hc => absurd hc (nI_nlt hi (by omega))) (fun _ => ?_)
  refine lv_iconst (v := 1) hx hb dX1_lineOf0_12 (by decide) ?_
  refine lv_goto hx hb dX1_lineOf0_13 (tgt := 17) rfl ?_
  refine lc_callV (W.runS (As := [.int 1]) (rest := []) ⟨hx, hb, hml, hown, hts⟩ (m_check l D) (cwS 1 hts gX1_lineOf0_X1_check rfl rfl rfl (by decide +kernel) ⟨Nat.le_of_ble_eq_true rfl, Nat.le_of_ble_eq_true rfl⟩) (lc_RdS (hP.sub (ws' := []) [] rfl) (hK.sub (tys' := []) [] rfl)) rfl rfl hl.1 rfl (lv_room (Nat.le_of_ble_eq_true rfl)) dX1_lineOf0_17 ⟨Nat.zero_le _, Nat.zero_le _⟩) ?_
  refine lv_aload_n hx hb dX1_lineOf0_20 rfl (lv_at hl 0 rfl) ?_
  refine lv_iload_n hx hb dX1_lineOf0_21 rfl (lv_at hl 1 rfl) ?_
  refine lc_callR (W.runV (As := [.int (nI i)]) (rest := []) ⟨hx, hb, hml, hown, hts⟩ (m_ends l D h q cA (nI c0) (e) g i (by omega)) (cwV 1 hts gX1_lineOf0_X1_endsBefore rfl rfl rfl (by decide +kernel) ⟨Nat.le_of_ble_eq_true rfl, Nat.le_of_ble_eq_true rfl⟩) (lc_RdV (q0 := 0) (ci := 1) (q := (RX1, TX1, 3)) hP hK rfl rfl) rfl rfl hl.1 rfl (lv_room (Nat.le_of_ble_eq_true rfl)) dX1_lineOf0_22 ⟨Nat.zero_le _, Nat.zero_le _⟩) ?_
  exact W.iret (v := nI (lc_cnt g i)) hx hb hr (fun t ht _ => ⟨rfl, ht⟩) (fun _ h => nomatch h) dX1_lineOf0_25
set_option maxHeartbeats 4000000 in
set_option maxRecDepth 100000 in
theorem m_lineOf0_bad (l : Launch) (D : va_G) (h q : Nat) (cA : ClassId)  (hst : l.stackTraces = false) (n e : Int32) (g : Nat → Int32) (p0 : Int32) (hbad : p0 < 0 ∨ n < p0) : vx_Met l yX1_lineOf0 wsX1_lineOf0 ({ frames := 7, cells := 1, slots := 6, locals := 101 }) (lc_Tx [.ref h, .int p0] D [(h, .inr (1, [.ref q, .int n, .int e])), (q, .inl (cA, 20000, .inl g))] [(cA, .int)] (fun _ => False)) lc_N (lc_X "java/lang/IllegalArgumentException") 1 6 (fun _ => False) := by
  refine vx_ofW (cc := cX1_lineOf0) (maxL := 2) (ret := (some .int)) (by decide) rfl ?_
  intro p e' s m args below meth c s₁ B hml htab hv
  obtain ⟨rfl, hP, hK, hZ⟩ := hv
  have hx := B.exec
  have hb := B.bytes
  have hr := B.returns
  have hts := atoms_spec (ws := wsX1_lineOf0) B.pre
  have hown : s.vm.findClass RX1 = some m.cls := findClass_of_methodNamed B.named
  have hlocks := B.notSynchronized
  have hinX1 : ∀ w ∈ u_ws RX1 TX1 3, w ∈ wsX1_lineOf0 := fun w h => List.mem_cons_of_mem _ (lb_X1 w h)
  have hl := lv_entry ([.ref h, .int p0]) (n := 2) (Nat.le_of_ble_eq_true rfl)
  rw [lg_entry_eq]
  generalize (lg_sl ([.ref h, .int p0]) ++ List.replicate (2 - (lg_sl ([.ref h, .int p0])).length) Slot.unset).toArray = ls at hl ⊢
  have hl : lv_has ls 2 [(0, .ref h), (1, .int p0)] := hl
  have h30 : W p l e' (headSpec wsX1_lineOf0 ({ frames := 7, cells := 1, slots := 6, locals := 101 })).room s m ([.ref h, .int p0] : List Value).toArray below meth c s.heap [] 0 0 (vx_MQ below lc_N (lc_X "java/lang/IllegalArgumentException") ([.ref h, .int p0] : List Value).toArray s 1 6 (fun _ => False)) (F0 m 16 ls []) := by
    refine lv_iconst (v := 0) hx hb dX1_lineOf0_16 (by decide) ?_
    refine lc_callX (vx_runS (As := [.int 0]) (rest := []) ⟨hx, hb, hml, hown, hts⟩ (m_check_bad l D hst) (cwS 1 hts gX1_lineOf0_X1_check rfl rfl rfl (by decide +kernel) ⟨Nat.le_of_ble_eq_true rfl, Nat.le_of_ble_eq_true rfl⟩) (lc_TxS (hP.sub (ws' := []) [] rfl) (hK.sub (tys' := []) [] rfl) hZ) rfl rfl hl.1 rfl (lv_room (Nat.le_of_ble_eq_true rfl)) dX1_lineOf0_17 ⟨Nat.le_refl _, Nat.le_refl _⟩) (fun ce q9 H1 hz hk hce hcv hcl => ?_)
    exact vx_out (fun x hx => (htab x hx).elim) hlocks hce hcv hcl (fun t ht _ => ⟨rfl, by rw [ht]; exact hz, fun q h1 _ => by rw [ht]; exact hk q h1⟩) (fun _ h => nomatch h) (Nat.le_refl _) (Nat.le_refl _)
  refine lv_iload_n hx hb dX1_lineOf0_0 rfl (lv_at hl 1 rfl) ?_
  refine lv_if_lt hx hb dX1_lineOf0_1 (tgt := 16) rfl (fun h1 => ?_) (fun h1 => ?_)
  · exact h30
  · refine lv_iload_n hx hb dX1_lineOf0_4 rfl (lv_at hl 1 rfl) ?_
    refine lv_aload_n hx hb dX1_lineOf0_5 rfl (lv_at hl 0 rfl) ?_
    refine va_get (D := D) (ci := 1) (v := .int n) (C := RX1) (T := TX1) (N := 3) hx hb hts hinX1 hown hK hP 0 rfl rfl 1 (by decide) (hts _ (List.mem_cons_of_mem _ lb_237)) (fun _ h9 => h9) rfl dX1_lineOf0_6 ?_
    refine lv_icmp_gt hx hb dX1_lineOf0_9 (tgt := 16) rfl (fun _ => ?_) (fun hc => absurd (hbad.elim (fun h => absurd h h1) (fun hb9 => hb9)) hc)
    exact h30
set_option maxHeartbeats 4000000 in
set_option maxRecDepth 100000 in
theorem m_digest0 (l : Launch) (D : va_G) (h q : Nat) (cA : ClassId) (e : Int32) (c0 : Nat) (g : Nat → Int32) (hc0 : c0 ≤ 20000) : Met l yX1_digest0 wsX1_digest0 ({ frames := 0, cells := 0, slots := 0, locals := 0 }) (lc_Rd [.ref h] D [(h, .inr (1, [.ref q, .int (nI c0), .int e])), (q, .inl (cA, 20000, .inl g))] [(cA, .int)]) (QcRead (lc_dig g c0)) 0 0 (fun _ => False) := by
  refine Met.ofW (cc := cX1_digest0) (maxL := 3) (ret := (some .int)) (by decide) rfl ?_
  intro p e' s m args below meth c s₁ B hml hv
  obtain ⟨rfl, hP, hK⟩ := hv
  have hx := B.exec
  have hb := B.bytes
  have hr := B.returns
  have hts := atoms_spec (ws := wsX1_digest0) B.pre
  have hown : s.vm.findClass RX1 = some m.cls := findClass_of_methodNamed B.named
  have hlocks := B.notSynchronized
  have hinX1 : ∀ w ∈ u_ws RX1 TX1 3, w ∈ wsX1_digest0 := fun w h => List.mem_cons_of_mem _ (lb_X1 w h)
  have hl := lv_entry ([.ref h]) (n := 3) (Nat.le_of_ble_eq_true rfl)
  rw [lg_entry_eq]
  generalize (lg_sl ([.ref h]) ++ List.replicate (3 - (lg_sl ([.ref h])).length) Slot.unset).toArray = ls at hl ⊢
  have hl : lv_has ls 3 [(0, .ref h)] := hl
  have loop : ∀ (k i : Nat) (ls : Array Slot), i + k = c0 → lv_has ls 3 [(2, .int (nI i)), (1, .int (lc_dig g i)), (0, .ref h)] → W p l e' (headSpec wsX1_digest0 ({ frames := 0, cells := 0, slots := 0, locals := 0 })).room s m ([.ref h] : List Value).toArray below meth c s.heap [] 0 0 (MQ below (QcRead (lc_dig g c0)) ([.ref h] : List Value).toArray s 0 0 (fun _ => False)) (F0 m 4 ls []) := by
    intro k
    induction k with
    | zero =>
      intro i ls hi hl
      have hi : i = c0 := by omega
      subst hi
      refine lv_iload_n hx hb dX1_digest0_4 rfl (lv_at hl 0 rfl) ?_
      refine lv_aload_n hx hb dX1_digest0_5 rfl (lv_at hl 2 rfl) ?_
      refine va_get (D := D) (ci := 1) (v := .int (nI i)) (C := RX1) (T := TX1) (N := 3) hx hb hts hinX1 hown hK hP 0 rfl rfl 1 (by decide) (hts _ (List.mem_cons_of_mem _ lb_237)) (fun _ h9 => h9) rfl dX1_digest0_6 ?_
      refine lv_icmp_ge hx hb dX1_digest0_9 (tgt := 31) rfl (fun _ => ?_) (fun hc => absurd (nI_le (Nat.le_refl i) (by omega)) hc)
      refine lv_iload_n hx hb dX1_digest0_31 rfl (lv_at hl 1 rfl) ?_
      exact W.iret (v := lc_dig g i) hx hb hr (fun t ht _ => ⟨rfl, ht⟩) (fun _ h => nomatch h) dX1_digest0_32
    | succ k ih =>
      intro i ls hi hl
      refine lv_iload_n hx hb dX1_digest0_4 rfl (lv_at hl 0 rfl) ?_
      refine lv_aload_n hx hb dX1_digest0_5 rfl (lv_at hl 2 rfl) ?_
      refine va_get (D := D) (ci := 1) (v := .int (nI c0)) (C := RX1) (T := TX1) (N := 3) hx hb hts hinX1 hown hK hP 0 rfl rfl 1 (by decide) (hts _ (List.mem_cons_of_mem _ lb_237)) (fun _ h9 => h9) rfl dX1_digest0_6 ?_
      refine lv_icmp_ge hx hb dX1_digest0_9 (tgt := 31) rfl (fun hc => absurd hc (nI_ge (show i < c0 by omega) (by omega))) (fun _ => ?_)
      refine lv_iload_n hx hb dX1_digest0_12 rfl (lv_at hl 1 rfl) ?_
      refine lv_aload_n hx hb dX1_digest0_13 rfl (lv_at hl 2 rfl) ?_
      refine va_get (D := D) (ci := 1) (v := .ref q) (C := RX1) (T := TX1) (N := 3) hx hb hts hinX1 hown hK hP 0 rfl rfl 0 (by decide) (hts _ (List.mem_cons_of_mem _ lb_236)) (fun _ h9 => h9) rfl dX1_digest0_14 ?_
      refine lv_iload_n hx hb dX1_digest0_17 rfl (lv_at hl 0 rfl) ?_
      refine va_iald (D := D) hx hb hK hP 1 0 rfl rfl (vp_in_nI (show i < 20000 by omega) (by omega)) dX1_digest0_18 ?_
      refine lc_top (y := g i) (congrArg _ (nI_clamp (by omega))) ?_
      refine lv_iload_n hx hb dX1_digest0_19 rfl (lv_at hl 0 rfl) ?_
      refine lv_iconst (v := 1) hx hb dX1_digest0_20 (by decide) ?_
      refine lv_iadd hx hb dX1_digest0_21 ?_
      refine lc_top (y := nI (i + 1)) (nI_1 i) ?_
      refine lv_imul hx hb dX1_digest0_22 ?_
      refine lv_iadd hx hb dX1_digest0_23 ?_
      refine lv_istore_n hx hb dX1_digest0_24 rfl hl (by decide) rfl (fun ls hl => ?_)
      have hl : lv_has ls 3 [(1, .int ((lc_dig g i) + ((g i) * (nI (i + 1))))), (2, .int (nI i)), (0, .ref h)] := hl
      refine lv_iinc (k := 1) (v := nI (i + 1)) hx hb dX1_digest0_25 hl rfl (nI_1 i) (by decide) rfl (fun ls hl => ?_)
      have hl : lv_has ls 3 [(2, .int (nI (i + 1))), (1, .int ((lc_dig g i) + ((g i) * (nI (i + 1))))), (0, .ref h)] := hl
      refine lv_goto hx hb dX1_digest0_28 (tgt := 4) rfl ?_
      have hl : lv_has ls 3 [(2, .int (nI (i + 1))), (1, .int ((lc_dig g i) + ((g i) * (nI (i + 1))))), (0, .ref h)] := lv_sub hl [0, 1, 2] rfl
      exact ih (i + 1) ls (by omega) hl
  refine lv_iconst (v := 0) hx hb dX1_digest0_0 (by decide) ?_
  refine lv_istore_n hx hb dX1_digest0_1 rfl hl (by decide) rfl (fun ls hl => ?_)
  have hl : lv_has ls 3 [(1, .int 0), (0, .ref h)] := hl
  refine lv_iconst (v := 0) hx hb dX1_digest0_2 (by decide) ?_
  refine lv_istore_n hx hb dX1_digest0_3 rfl hl (by decide) rfl (fun ls hl => ?_)
  have hl : lv_has ls 3 [(2, .int 0), (1, .int 0), (0, .ref h)] := hl
  have hl : lv_has ls 3 [(2, .int 0), (1, .int 0), (0, .ref h)] := lv_sub hl [0, 1, 2] rfl
  exact loop c0 0 ls (by omega) hl
