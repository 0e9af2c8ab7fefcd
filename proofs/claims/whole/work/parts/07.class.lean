set_option maxHeartbeats 4000000 in
set_option maxRecDepth 100000 in
theorem k_lineEndsIn (l : Launch) (D : va_G) (h q : Nat) (cA : ClassId) (n e : Int32) (L : Nat) (g : Nat → Int32) (hL : L ≤ 20000) (a b : Nat) (hab : a ≤ b) (hbL : b ≤ L) : Met l yX0_lineEndsIn wsX0_lineEndsIn ({ frames := 0, cells := 0, slots := 0, locals := 0 }) (lc_Rd [.ref h, .int (nI a), .int (nI b)] D [(h, .inr (0, [.ref q, .int n, .int e])), (q, .inl (cA, L, .inl g))] [(cA, .int)]) (QcRead (nI (lc_cnt g b - lc_cnt g a))) 0 0 (fun _ => False) := by
  refine Met.ofW (cc := cX0_lineEndsIn) (maxL := 5) (ret := (some .int)) (by decide) rfl ?_
  intro p e' s m args below meth c s₁ B hml hv
  obtain ⟨rfl, hP, hK⟩ := hv
  have hx := B.exec
  have hb := B.bytes
  have hr := B.returns
  have hts := atoms_spec (ws := wsX0_lineEndsIn) B.pre
  have hown : s.vm.findClass RX0 = some m.cls := findClass_of_methodNamed B.named
  have hlocks := B.notSynchronized
  have hinX0 : ∀ w ∈ u_ws RX0 TX0 3, w ∈ wsX0_lineEndsIn := fun w h => List.mem_cons_of_mem _ (lb_X0 w h)
  have hl := lv_entry ([.ref h, .int (nI a), .int (nI b)]) (n := 5) (Nat.le_of_ble_eq_true rfl)
  rw [lg_entry_eq]
  generalize (lg_sl ([.ref h, .int (nI a), .int (nI b)]) ++ List.replicate (5 - (lg_sl ([.ref h, .int (nI a), .int (nI b)])).length) Slot.unset).toArray = ls at hl ⊢
  have hl : lv_has ls 5 [(0, .ref h), (1, .int (nI a)), (2, .int (nI b))] := hl
  have loop : ∀ (k i : Nat) (ls : Array Slot), i + k = b → a ≤ i → lv_has ls 5 [(4, .int (nI i)), (3, .int (nI (lc_cnt g i - lc_cnt g a))), (0, .ref h), (1, .int (nI a)), (2, .int (nI b))] → W p l e' (headSpec wsX0_lineEndsIn ({ frames := 0, cells := 0, slots := 0, locals := 0 })).room s m ([.ref h, .int (nI a), .int (nI b)] : List Value).toArray below meth c s.heap [] 0 0 (MQ below (QcRead (nI (lc_cnt g b - lc_cnt g a))) ([.ref h, .int (nI a), .int (nI b)] : List Value).toArray s 0 0 (fun _ => False)) (F0 m 5 ls []) := by
    intro k
    induction k with
    | zero =>
      intro i ls hi hai hl
      have hi : i = b := by omega
      subst hi
      refine lv_iload hx hb dX0_lineEndsIn_5 (lv_at hl 0 rfl) ?_
      refine lv_iload_n hx hb dX0_lineEndsIn_7 rfl (lv_at hl 4 rfl) ?_
      refine lv_icmp_ge hx hb dX0_lineEndsIn_8 (tgt := 32) rfl (fun _ => ?_) (fun hc => absurd (nI_le (Nat.le_refl i) (by omega)) hc)
      refine lv_iload_n hx hb dX0_lineEndsIn_32 rfl (lv_at hl 1 rfl) ?_
      exact W.iret (v := nI (lc_cnt g i - lc_cnt g a)) hx hb hr (fun t ht _ => ⟨rfl, ht⟩) (fun _ h => nomatch h) dX0_lineEndsIn_33
    | succ k ih =>
      intro i ls hi hai hl
      have hm := lc_cnt_mono' g hai
      refine lv_iload hx hb dX0_lineEndsIn_5 (lv_at hl 0 rfl) ?_
      refine lv_iload_n hx hb dX0_lineEndsIn_7 rfl (lv_at hl 4 rfl) ?_
      refine lv_icmp_ge hx hb dX0_lineEndsIn_8 (tgt := 32) rfl (fun hc => absurd hc (nI_ge (show i < b by omega) (by omega))) (fun _ => ?_)
      refine lv_aload_n hx hb dX0_lineEndsIn_11 rfl (lv_at hl 2 rfl) ?_
      refine va_get (D := D) (ci := 0) (v := .ref q) (C := RX0) (T := TX0) (N := 3) hx hb hts hinX0 hown hK hP 0 rfl rfl 0 (by decide) (hts _ (List.mem_cons_of_mem _ lb_35)) (fun _ h9 => h9) rfl dX0_lineEndsIn_12 ?_
      refine lv_iload hx hb dX0_lineEndsIn_15 (lv_at hl 0 rfl) ?_
      refine va_iald (D := D) hx hb hK hP 1 0 rfl rfl (vp_in_nI (show i < L by omega) (by omega)) dX0_lineEndsIn_17 ?_
      refine lc_top (y := g i) (congrArg _ (nI_clamp (by omega))) ?_
      refine lv_bipush (v := 10) hx hb dX0_lineEndsIn_18 (by decide) ?_
      refine lv_icmp_ne hx hb dX0_lineEndsIn_20 (tgt := 26) rfl (fun hc => ?_) (fun hc => ?_)
      · refine lv_iinc (k := 0) (v := nI (i + 1)) hx hb dX0_lineEndsIn_26 hl rfl (nI_1 i) (by decide) rfl (fun ls hl => ?_)
        have hl : lv_has ls 5 [(4, .int (nI (i + 1))), (3, .int (nI (lc_cnt g i - lc_cnt g a))), (0, .ref h), (1, .int (nI a)), (2, .int (nI b))] := hl
        refine lv_goto hx hb dX0_lineEndsIn_29 (tgt := 5) rfl ?_
        have hl : lv_has ls 5 [(4, .int (nI (i + 1))), (3, .int (nI (lc_cnt g i - lc_cnt g a))), (0, .ref h), (1, .int (nI a)), (2, .int (nI b))] := lv_sub hl [0, 1, 2, 3, 4] rfl
        exact ih (i + 1) ls (by omega) (by omega) (by rw [lc_cnt_f hc]; exact hl)
      · refine lv_iinc (k := 1) (v := nI (lc_cnt g i - lc_cnt g a + 1)) hx hb dX0_lineEndsIn_23 hl rfl (nI_1 _) (by decide) rfl (fun ls hl => ?_)
        have hl : lv_has ls 5 [(3, .int (nI (lc_cnt g i - lc_cnt g a + 1))), (4, .int (nI i)), (0, .ref h), (1, .int (nI a)), (2, .int (nI b))] := hl
        refine lv_iinc (k := 1) (v := nI (i + 1)) hx hb dX0_lineEndsIn_26 hl rfl (nI_1 i) (by decide) rfl (fun ls hl => ?_)
        have hl : lv_has ls 5 [(4, .int (nI (i + 1))), (3, .int (nI (lc_cnt g i - lc_cnt g a + 1))), (0, .ref h), (1, .int (nI a)), (2, .int (nI b))] := hl
        refine lv_goto hx hb dX0_lineEndsIn_29 (tgt := 5) rfl ?_
        have hl : lv_has ls 5 [(4, .int (nI (i + 1))), (3, .int (nI (lc_cnt g i - lc_cnt g a + 1))), (0, .ref h), (1, .int (nI a)), (2, .int (nI b))] := lv_sub hl [0, 1, 2, 3, 4] rfl
        exact ih (i + 1) ls (by omega) (by omega) (by rw [lc_cnt_t hc, show lc_cnt g i + 1 - lc_cnt g a = lc_cnt g i - lc_cnt g a + 1 by omega]; exact hl)
  refine lv_iconst (v := 0) hx hb dX0_lineEndsIn_0 (by decide) ?_
  refine lv_istore_n hx hb dX0_lineEndsIn_1 rfl hl (by decide) rfl (fun ls hl => ?_)
  have hl : lv_has ls 5 [(3, .int 0), (0, .ref h), (1, .int (nI a)), (2, .int (nI b))] := hl
  refine lv_iload_n hx hb dX0_lineEndsIn_2 rfl (lv_at hl 2 rfl) ?_
  refine lv_istore hx hb dX0_lineEndsIn_3 hl (by decide) rfl (fun ls hl => ?_)
  have hl : lv_has ls 5 [(4, .int (nI a)), (3, .int 0), (0, .ref h), (1, .int (nI a)), (2, .int (nI b))] := hl
  have hl : lv_has ls 5 [(4, .int (nI a)), (3, .int 0), (0, .ref h), (1, .int (nI a)), (2, .int (nI b))] := lv_sub hl [0, 1, 2, 3, 4] rfl
  refine loop (b - a) a ls (by omega) (Nat.le_refl _) ?_
  rw [Nat.sub_self]
  exact hl
set_option maxHeartbeats 4000000 in
set_option maxRecDepth 100000 in
theorem k_index (l : Launch) (D : va_G) (h q : Nat) (cA : ClassId) (e : Int32) (L c0 : Nat) (g : Nat → Int32) (hL : L ≤ 20000) (hc0 : c0 ≤ L) (k0 j0 : Nat) (hk0 : k0 ≤ 20000) (hj : lc_isL g k0 j0) (hj0 : j0 ≤ c0) : Met l yX0_indexBehindLineEnds wsX0_indexBehindLineEnds ({ frames := 0, cells := 0, slots := 0, locals := 0 }) (lc_Rd [.ref h, .int (nI k0)] D [(h, .inr (0, [.ref q, .int (nI c0), .int e])), (q, .inl (cA, L, .inl g))] [(cA, .int)]) (QcRead (nI j0)) 0 0 (fun _ => False) := by
  refine Met.ofW (cc := cX0_indexBehindLineEnds) (maxL := 4) (ret := (some .int)) (by decide) rfl ?_
  intro p e' s m args below meth c s₁ B hml hv
  obtain ⟨rfl, hP, hK⟩ := hv
  have hx := B.exec
  have hb := B.bytes
  have hr := B.returns
  have hts := atoms_spec (ws := wsX0_indexBehindLineEnds) B.pre
  have hown : s.vm.findClass RX0 = some m.cls := findClass_of_methodNamed B.named
  have hlocks := B.notSynchronized
  have hinX0 : ∀ w ∈ u_ws RX0 TX0 3, w ∈ wsX0_indexBehindLineEnds := fun w h => List.mem_cons_of_mem _ (lb_X0 w h)
  have hl := lv_entry ([.ref h, .int (nI k0)]) (n := 4) (Nat.le_of_ble_eq_true rfl)
  rw [lg_entry_eq]
  generalize (lg_sl ([.ref h, .int (nI k0)]) ++ List.replicate (4 - (lg_sl ([.ref h, .int (nI k0)])).length) Slot.unset).toArray = ls at hl ⊢
  have hl : lv_has ls 4 [(0, .ref h), (1, .int (nI k0))] := hl
  have loop : ∀ (k i : Nat) (ls : Array Slot), i + k = j0 → lv_has ls 4 [(2, .int (nI i)), (3, .int (nI (lc_cnt g i))), (0, .ref h), (1, .int (nI k0))] → W p l e' (headSpec wsX0_indexBehindLineEnds ({ frames := 0, cells := 0, slots := 0, locals := 0 })).room s m ([.ref h, .int (nI k0)] : List Value).toArray below meth c s.heap [] 0 0 (MQ below (QcRead (nI j0)) ([.ref h, .int (nI k0)] : List Value).toArray s 0 0 (fun _ => False)) (F0 m 4 ls []) := by
    intro k
    induction k with
    | zero =>
      intro i ls hi hl
      have hi : i = j0 := by omega
      subst hi
      have hle := lc_cnt_le g i
      refine lv_iload_n hx hb dX0_indexBehindLineEnds_4 rfl (lv_at hl 1 rfl) ?_
      refine lv_iload_n hx hb dX0_indexBehindLineEnds_5 rfl (lv_at hl 3 rfl) ?_
      refine lv_icmp_ge hx hb dX0_indexBehindLineEnds_6 (tgt := 37) rfl (fun _ => ?_) (fun hc => absurd (nI_le hj.1 (by omega)) hc)
      refine lv_iload_n hx hb dX0_indexBehindLineEnds_37 rfl (lv_at hl 0 rfl) ?_
      exact W.iret (v := nI i) hx hb hr (fun t ht _ => ⟨rfl, ht⟩) (fun _ h => nomatch h) dX0_indexBehindLineEnds_38
    | succ k ih =>
      intro i ls hi hl
      have hlt := hj.2 i (by omega)
      refine lv_iload_n hx hb dX0_indexBehindLineEnds_4 rfl (lv_at hl 1 rfl) ?_
      refine lv_iload_n hx hb dX0_indexBehindLineEnds_5 rfl (lv_at hl 3 rfl) ?_
      refine lv_icmp_ge hx hb dX0_indexBehindLineEnds_6 (tgt := 37) rfl (fun hc => absurd hc (nI_ge hlt (by omega))) (fun _ => ?_)
      refine lv_iload_n hx hb dX0_indexBehindLineEnds_9 rfl (lv_at hl 0 rfl) ?_
      refine lv_aload_n hx hb dX0_indexBehindLineEnds_10 rfl (lv_at hl 2 rfl) ?_
      refine va_get (D := D) (ci := 0) (v := .int (nI c0)) (C := RX0) (T := TX0) (N := 3) hx hb hts hinX0 hown hK hP 0 rfl rfl 1 (by decide) (hts _ (List.mem_cons_of_mem _ lb_36)) (fun _ h9 => h9) rfl dX0_indexBehindLineEnds_11 ?_
      refine lv_icmp_ge hx hb dX0_indexBehindLineEnds_14 (tgt := 37) rfl (fun hc => absurd hc (nI_ge (show i < c0 by omega) (by omega))) (fun _ => ?_)
      refine lv_aload_n hx hb dX0_indexBehindLineEnds_17 rfl (lv_at hl 2 rfl) ?_
      refine va_get (D := D) (ci := 0) (v := .ref q) (C := RX0) (T := TX0) (N := 3) hx hb hts hinX0 hown hK hP 0 rfl rfl 0 (by decide) (hts _ (List.mem_cons_of_mem _ lb_35)) (fun _ h9 => h9) rfl dX0_indexBehindLineEnds_18 ?_
      refine lv_iload_n hx hb dX0_indexBehindLineEnds_21 rfl (lv_at hl 0 rfl) ?_
      refine va_iald (D := D) hx hb hK hP 1 0 rfl rfl (vp_in_nI (show i < L by omega) (by omega)) dX0_indexBehindLineEnds_22 ?_
      refine lc_top (y := g i) (congrArg _ (nI_clamp (by omega))) ?_
      refine lv_bipush (v := 10) hx hb dX0_indexBehindLineEnds_23 (by decide) ?_
      refine lv_icmp_ne hx hb dX0_indexBehindLineEnds_25 (tgt := 31) rfl (fun hc => ?_) (fun hc => ?_)
      · refine lv_iinc (k := 0) (v := nI (i + 1)) hx hb dX0_indexBehindLineEnds_31 hl rfl (nI_1 i) (by decide) rfl (fun ls hl => ?_)
        have hl : lv_has ls 4 [(2, .int (nI (i + 1))), (3, .int (nI (lc_cnt g i))), (0, .ref h), (1, .int (nI k0))] := hl
        refine lv_goto hx hb dX0_indexBehindLineEnds_34 (tgt := 4) rfl ?_
        have hl : lv_has ls 4 [(2, .int (nI (i + 1))), (3, .int (nI (lc_cnt g i))), (0, .ref h), (1, .int (nI k0))] := lv_sub hl [0, 1, 2, 3] rfl
        exact ih (i + 1) ls (by omega) (by rw [lc_cnt_f hc]; exact hl)
      · refine lv_iinc (k := 1) (v := nI (lc_cnt g i + 1)) hx hb dX0_indexBehindLineEnds_28 hl rfl (nI_1 _) (by decide) rfl (fun ls hl => ?_)
        have hl : lv_has ls 4 [(3, .int (nI (lc_cnt g i + 1))), (2, .int (nI i)), (0, .ref h), (1, .int (nI k0))] := hl
        refine lv_iinc (k := 1) (v := nI (i + 1)) hx hb dX0_indexBehindLineEnds_31 hl rfl (nI_1 i) (by decide) rfl (fun ls hl => ?_)
        have hl : lv_has ls 4 [(2, .int (nI (i + 1))), (3, .int (nI (lc_cnt g i + 1))), (0, .ref h), (1, .int (nI k0))] := hl
        refine lv_goto hx hb dX0_indexBehindLineEnds_34 (tgt := 4) rfl ?_
        have hl : lv_has ls 4 [(2, .int (nI (i + 1))), (3, .int (nI (lc_cnt g i + 1))), (0, .ref h), (1, .int (nI k0))] := lv_sub hl [0, 1, 2, 3] rfl
        exact ih (i + 1) ls (by omega) (by rw [lc_cnt_t hc]; exact hl)
  refine lv_iconst (v := 0) hx hb dX0_indexBehindLineEnds_0 (by decide) ?_
  refine lv_istore_n hx hb dX0_indexBehindLineEnds_1 rfl hl (by decide) rfl (fun ls hl => ?_)
  have hl : lv_has ls 4 [(2, .int 0), (0, .ref h), (1, .int (nI k0))] := hl
  refine lv_iconst (v := 0) hx hb dX0_indexBehindLineEnds_2 (by decide) ?_
  refine lv_istore_n hx hb dX0_indexBehindLineEnds_3 rfl hl (by decide) rfl (fun ls hl => ?_)
  have hl : lv_has ls 4 [(3, .int 0), (2, .int 0), (0, .ref h), (1, .int (nI k0))] := hl
  have hl : lv_has ls 4 [(2, .int 0), (3, .int 0), (0, .ref h), (1, .int (nI k0))] := lv_sub hl [1, 0, 2, 3] rfl
  exact loop j0 0 ls (by omega) hl
set_option maxHeartbeats 4000000 in
set_option maxRecDepth 100000 in
theorem k_digest (l : Launch) (D : va_G) (h q : Nat) (cA : ClassId) (e : Int32) (L c0 : Nat) (g : Nat → Int32) (hL : L ≤ 20000) (hc0 : c0 ≤ L) : Met l yX0_digest wsX0_digest ({ frames := 0, cells := 0, slots := 0, locals := 0 }) (lc_Rd [.ref h] D [(h, .inr (0, [.ref q, .int (nI c0), .int e])), (q, .inl (cA, L, .inl g))] [(cA, .int)]) (QcRead (lc_dig g c0)) 0 0 (fun _ => False) := by
  refine Met.ofW (cc := cX0_digest) (maxL := 3) (ret := (some .int)) (by decide) rfl ?_
  intro p e' s m args below meth c s₁ B hml hv
  obtain ⟨rfl, hP, hK⟩ := hv
  have hx := B.exec
  have hb := B.bytes
  have hr := B.returns
  have hts := atoms_spec (ws := wsX0_digest) B.pre
  have hown : s.vm.findClass RX0 = some m.cls := findClass_of_methodNamed B.named
  have hlocks := B.notSynchronized
  have hinX0 : ∀ w ∈ u_ws RX0 TX0 3, w ∈ wsX0_digest := fun w h => List.mem_cons_of_mem _ (lb_X0 w h)
  have hl := lv_entry ([.ref h]) (n := 3) (Nat.le_of_ble_eq_true rfl)
  rw [lg_entry_eq]
  generalize (lg_sl ([.ref h]) ++ List.replicate (3 - (lg_sl ([.ref h])).length) Slot.unset).toArray = ls at hl ⊢
  have hl : lv_has ls 3 [(0, .ref h)] := hl
  have loop : ∀ (k i : Nat) (ls : Array Slot), i + k = c0 → lv_has ls 3 [(2, .int (nI i)), (1, .int (lc_dig g i)), (0, .ref h)] → W p l e' (headSpec wsX0_digest ({ frames := 0, cells := 0, slots := 0, locals := 0 })).room s m ([.ref h] : List Value).toArray below meth c s.heap [] 0 0 (MQ below (QcRead (lc_dig g c0)) ([.ref h] : List Value).toArray s 0 0 (fun _ => False)) (F0 m 4 ls []) := by
    intro k
    induction k with
    | zero =>
      intro i ls hi hl
      have hi : i = c0 := by omega
      subst hi
      refine lv_iload_n hx hb dX0_digest_4 rfl (lv_at hl 0 rfl) ?_
      refine lv_aload_n hx hb dX0_digest_5 rfl (lv_at hl 2 rfl) ?_
      refine va_get (D := D) (ci := 0) (v := .int (nI i)) (C := RX0) (T := TX0) (N := 3) hx hb hts hinX0 hown hK hP 0 rfl rfl 1 (by decide) (hts _ (List.mem_cons_of_mem _ lb_36)) (fun _ h9 => h9) rfl dX0_digest_6 ?_
      refine lv_icmp_ge hx hb dX0_digest_9 (tgt := 31) rfl (fun _ => ?_) (fun hc => absurd (nI_le (Nat.le_refl i) (by omega)) hc)
      refine lv_iload_n hx hb dX0_digest_31 rfl (lv_at hl 1 rfl) ?_
      exact W.iret (v := lc_dig g i) hx hb hr (fun t ht _ => ⟨rfl, ht⟩) (fun _ h => nomatch h) dX0_digest_32
    | succ k ih =>
      intro i ls hi hl
      refine lv_iload_n hx hb dX0_digest_4 rfl (lv_at hl 0 rfl) ?_
      refine lv_aload_n hx hb dX0_digest_5 rfl (lv_at hl 2 rfl) ?_
      refine va_get (D := D) (ci := 0) (v := .int (nI c0)) (C := RX0) (T := TX0) (N := 3) hx hb hts hinX0 hown hK hP 0 rfl rfl 1 (by decide) (hts _ (List.mem_cons_of_mem _ lb_36)) (fun _ h9 => h9) rfl dX0_digest_6 ?_
      refine lv_icmp_ge hx hb dX0_digest_9 (tgt := 31) rfl (fun hc => absurd hc (nI_ge (show i < c0 by omega) (by omega))) (fun _ => ?_)
      refine lv_iload_n hx hb dX0_digest_12 rfl (lv_at hl 1 rfl) ?_
      refine lv_aload_n hx hb dX0_digest_13 rfl (lv_at hl 2 rfl) ?_
      refine va_get (D := D) (ci := 0) (v := .ref q) (C := RX0) (T := TX0) (N := 3) hx hb hts hinX0 hown hK hP 0 rfl rfl 0 (by decide) (hts _ (List.mem_cons_of_mem _ lb_35)) (fun _ h9 => h9) rfl dX0_digest_14 ?_
      refine lv_iload_n hx hb dX0_digest_17 rfl (lv_at hl 0 rfl) ?_
      refine va_iald (D := D) hx hb hK hP 1 0 rfl rfl (vp_in_nI (show i < L by omega) (by omega)) dX0_digest_18 ?_
      refine lc_top (y := g i) (congrArg _ (nI_clamp (by omega))) ?_
      refine lv_iload_n hx hb dX0_digest_19 rfl (lv_at hl 0 rfl) ?_
      refine lv_iconst (v := 1) hx hb dX0_digest_20 (by decide) ?_
      refine lv_iadd hx hb dX0_digest_21 ?_
      refine lc_top (y := nI (i + 1)) (nI_1 i) ?_
      refine lv_imul hx hb dX0_digest_22 ?_
      refine lv_iadd hx hb dX0_digest_23 ?_
      refine lv_istore_n hx hb dX0_digest_24 rfl hl (by decide) rfl (fun ls hl => ?_)
      have hl : lv_has ls 3 [(1, .int ((lc_dig g i) + ((g i) * (nI (i + 1))))), (2, .int (nI i)), (0, .ref h)] := hl
      refine lv_iinc (k := 1) (v := nI (i + 1)) hx hb dX0_digest_25 hl rfl (nI_1 i) (by decide) rfl (fun ls hl => ?_)
      have hl : lv_has ls 3 [(2, .int (nI (i + 1))), (1, .int ((lc_dig g i) + ((g i) * (nI (i + 1))))), (0, .ref h)] := hl
      refine lv_goto hx hb dX0_digest_28 (tgt := 4) rfl ?_
      have hl : lv_has ls 3 [(2, .int (nI (i + 1))), (1, .int ((lc_dig g i) + ((g i) * (nI (i + 1))))), (0, .ref h)] := lv_sub hl [0, 1, 2] rfl
      exact ih (i + 1) ls (by omega) hl
  refine lv_iconst (v := 0) hx hb dX0_digest_0 (by decide) ?_
  refine lv_istore_n hx hb dX0_digest_1 rfl hl (by decide) rfl (fun ls hl => ?_)
  have hl : lv_has ls 3 [(1, .int 0), (0, .ref h)] := hl
  refine lv_iconst (v := 0) hx hb dX0_digest_2 (by decide) ?_
  refine lv_istore_n hx hb dX0_digest_3 rfl hl (by decide) rfl (fun ls hl => ?_)
  have hl : lv_has ls 3 [(2, .int 0), (1, .int 0), (0, .ref h)] := hl
  have hl : lv_has ls 3 [(2, .int 0), (1, .int 0), (0, .ref h)] := lv_sub hl [0, 1, 2] rfl
  exact loop c0 0 ls (by omega) hl
set_option maxHeartbeats 4000000 in
set_option maxRecDepth 100000 in
theorem k_length (l : Launch) (D : va_G) (h q : Nat) (cA : ClassId) (n e : Int32) (L : Nat) (g : Nat → Int32) : Met l yX0_length wsX0_length ({ frames := 0, cells := 0, slots := 0, locals := 0 }) (lc_Rd [.ref h] D [(h, .inr (0, [.ref q, .int n, .int e])), (q, .inl (cA, L, .inl g))] [(cA, .int)]) (QcRead (n)) 0 0 (fun _ => False) := by
  refine Met.ofW (cc := cX0_length) (maxL := 1) (ret := (some .int)) (by decide) rfl ?_
  intro p e' s m args below meth c s₁ B hml hv
  obtain ⟨rfl, hP, hK⟩ := hv
  have hx := B.exec
  have hb := B.bytes
  have hr := B.returns
  have hts := atoms_spec (ws := wsX0_length) B.pre
  have hown : s.vm.findClass RX0 = some m.cls := findClass_of_methodNamed B.named
  have hlocks := B.notSynchronized
  have hinX0 : ∀ w ∈ u_ws RX0 TX0 3, w ∈ wsX0_length := fun w h => List.mem_cons_of_mem _ (lb_X0 w h)
  have hl := lv_entry ([.ref h]) (n := 1) (Nat.le_of_ble_eq_true rfl)
  rw [lg_entry_eq]
  generalize (lg_sl ([.ref h]) ++ List.replicate (1 - (lg_sl ([.ref h])).length) Slot.unset).toArray = ls at hl ⊢
  have hl : lv_has ls 1 [(0, .ref h)] := hl
  refine lv_aload_n hx hb dX0_length_0 rfl (lv_at hl 0 rfl) ?_
  refine va_get (D := D) (ci := 0) (v := .int n) (C := RX0) (T := TX0) (N := 3) hx hb hts hinX0 hown hK hP 0 rfl rfl 1 (by decide) (hts _ (List.mem_cons_of_mem _ lb_36)) (fun _ h9 => h9) rfl dX0_length_1 ?_
  exact W.iret (v := n) hx hb hr (fun t ht _ => ⟨rfl, ht⟩) (fun _ h => nomatch h) dX0_length_4
set_option maxHeartbeats 4000000 in
set_option maxRecDepth 100000 in
theorem k_lines (l : Launch) (D : va_G) (h q : Nat) (cA : ClassId) (n e : Int32) (L : Nat) (g : Nat → Int32) : Met l yX0_lines wsX0_lines ({ frames := 0, cells := 0, slots := 0, locals := 0 }) (lc_Rd [.ref h] D [(h, .inr (0, [.ref q, .int n, .int e])), (q, .inl (cA, L, .inl g))] [(cA, .int)]) (QcRead (e + 1)) 0 0 (fun _ => False) := by
  refine Met.ofW (cc := cX0_lines) (maxL := 1) (ret := (some .int)) (by decide) rfl ?_
  intro p e' s m args below meth c s₁ B hml hv
  obtain ⟨rfl, hP, hK⟩ := hv
  have hx := B.exec
  have hb := B.bytes
  have hr := B.returns
  have hts := atoms_spec (ws := wsX0_lines) B.pre
  have hown : s.vm.findClass RX0 = some m.cls := findClass_of_methodNamed B.named
  have hlocks := B.notSynchronized
  have hinX0 : ∀ w ∈ u_ws RX0 TX0 3, w ∈ wsX0_lines := fun w h => List.mem_cons_of_mem _ (lb_X0 w h)
  have hl := lv_entry ([.ref h]) (n := 1) (Nat.le_of_ble_eq_true rfl)
  rw [lg_entry_eq]
  generalize (lg_sl ([.ref h]) ++ List.replicate (1 - (lg_sl ([.ref h])).length) Slot.unset).toArray = ls at hl ⊢
  have hl : lv_has ls 1 [(0, .ref h)] := hl
  refine lv_aload_n hx hb dX0_lines_0 rfl (lv_at hl 0 rfl) ?_
  refine va_get (D := D) (ci := 0) (v := .int e) (C := RX0) (T := TX0) (N := 3) hx hb hts hinX0 hown hK hP 0 rfl rfl 2 (by decide) (hts _ (List.mem_cons_of_mem _ lb_37)) (fun _ h9 => h9) rfl dX0_lines_1 ?_
  refine lv_iconst (v := 1) hx hb dX0_lines_4 (by decide) ?_
  refine lv_iadd hx hb dX0_lines_5 ?_
  exact W.iret (v := e + 1) hx hb hr (fun t ht _ => ⟨rfl, ht⟩) (fun _ h => nomatch h) dX0_lines_6
set_option maxHeartbeats 4000000 in
set_option maxRecDepth 100000 in
theorem k_get (l : Launch) (D : va_G) (h q : Nat) (cA : ClassId) (e : Int32) (L c0 : Nat) (g : Nat → Int32) (hL : L ≤ 20000) (hc0 : c0 ≤ L) (i : Nat) (hi : i < c0) : Met l yX0_get wsX0_get ({ frames := 0, cells := 0, slots := 0, locals := 0 }) (lc_Rd [.ref h, .int (nI i)] D [(h, .inr (0, [.ref q, .int (nI c0), .int e])), (q, .inl (cA, L, .inl g))] [(cA, .int)]) (QcRead (g i)) 0 0 (fun _ => False) := by
  refine Met.ofW (cc := cX0_get) (maxL := 2) (ret := (some .int)) (by decide) rfl ?_
  intro p e' s m args below meth c s₁ B hml hv
  obtain ⟨rfl, hP, hK⟩ := hv
  have hx := B.exec
  have hb := B.bytes
  have hr := B.returns
  have hts := atoms_spec (ws := wsX0_get) B.pre
  have hown : s.vm.findClass RX0 = some m.cls := findClass_of_methodNamed B.named
  have hlocks := B.notSynchronized
  have hinX0 : ∀ w ∈ u_ws RX0 TX0 3, w ∈ wsX0_get := fun w h => List.mem_cons_of_mem _ (lb_X0 w h)
  have hl := lv_entry ([.ref h, .int (nI i)]) (n := 2) (Nat.le_of_ble_eq_true rfl)
  rw [lg_entry_eq]
  generalize (lg_sl ([.ref h, .int (nI i)]) ++ List.replicate (2 - (lg_sl ([.ref h, .int (nI i)])).length) Slot.unset).toArray = ls at hl ⊢
  have hl : lv_has ls 2 [(0, .ref h), (1, .int (nI i))] := hl
  refine lv_iload_n hx hb dX0_get_0 rfl (lv_at hl 1 rfl) ?_
  refine lv_if_lt hx hb dX0_get_1 (tgt := 12) rfl (fun hc => absurd hc (nI_pos (by omega))) (fun _ => ?_)
  refine lv_iload_n hx hb dX0_get_4 rfl (lv_at hl 1 rfl) ?_
  refine lv_aload_n hx hb dX0_get_5 rfl (lv_at hl 0 rfl) ?_
  refine va_get (D := D) (ci := 0) (v := .int (nI c0)) (C := RX0) (T := TX0) (N := 3) hx hb hts hinX0 hown hK hP 0 rfl rfl 1 (by decide) (hts _ (List.mem_cons_of_mem _ lb_36)) (fun _ h9 => h9) rfl dX0_get_6 ?_
  refine lv_icmp_lt hx hb dX0_get_9 (tgt := 20) rfl (fun _ => ?_) (fun hc => absurd (nI_lt hi (by omega)) hc)
  refine lv_aload_n hx hb dX0_get_20 rfl (lv_at hl 0 rfl) ?_
  refine va_get (D := D) (ci := 0) (v := .ref q) (C := RX0) (T := TX0) (N := 3) hx hb hts hinX0 hown hK hP 0 rfl rfl 0 (by decide) (hts _ (List.mem_cons_of_mem _ lb_35)) (fun _ h9 => h9) rfl dX0_get_21 ?_
  refine lv_iload_n hx hb dX0_get_24 rfl (lv_at hl 1 rfl) ?_
  refine va_iald (D := D) hx hb hK hP 1 0 rfl rfl (vp_in_nI (show i < L by omega) (by omega)) dX0_get_25 ?_
  refine lc_top (y := g i) (congrArg _ (nI_clamp (by omega))) ?_
  exact W.iret (v := g i) hx hb hr (fun t ht _ => ⟨rfl, ht⟩) (fun _ h => nomatch h) dX0_get_26
set_option maxHeartbeats 4000000 in
set_option maxRecDepth 100000 in
theorem k_line (l : Launch) (D : va_G) (h q : Nat) (cA : ClassId) (L c0 : Nat) (g : Nat → Int32) (hL : L ≤ 20000) (hc0 : c0 ≤ L) (k0 j0 : Nat) (hk0 : k0 ≤ lc_cnt g c0) (hj : lc_isL g k0 j0) (hj0 : j0 ≤ c0) : Met l yX0_line wsX0_line ({ frames := 1, cells := 0, slots := 0, locals := 24 }) (lc_Rd [.ref h, .int (nI k0)] D [(h, .inr (0, [.ref q, .int (nI c0), .int (nI (lc_cnt g c0))])), (q, .inl (cA, L, .inl g))] [(cA, .int)]) (QcRead (nI j0)) 0 0 (fun _ => False) := by
  refine Met.ofW (cc := cX0_line) (maxL := 2) (ret := (some .int)) (by decide) rfl ?_
  intro p e' s m args below meth c s₁ B hml hv
  obtain ⟨rfl, hP, hK⟩ := hv
  have hx := B.exec
  have hb := B.bytes
  have hr := B.returns
  have hts := atoms_spec (ws := wsX0_line) B.pre
  have hown : s.vm.findClass RX0 = some m.cls := findClass_of_methodNamed B.named
  have hlocks := B.notSynchronized
  have hinX0 : ∀ w ∈ u_ws RX0 TX0 3, w ∈ wsX0_line := fun w h => List.mem_cons_of_mem _ (lb_X0 w h)
  have hl := lv_entry ([.ref h, .int (nI k0)]) (n := 2) (Nat.le_of_ble_eq_true rfl)
  rw [lg_entry_eq]
  generalize (lg_sl ([.ref h, .int (nI k0)]) ++ List.replicate (2 - (lg_sl ([.ref h, .int (nI k0)])).length) Slot.unset).toArray = ls at hl ⊢
  have hl : lv_has ls 2 [(0, .ref h), (1, .int (nI k0))] := hl
  have hle := lc_cnt_le g c0
  refine lv_iload_n hx hb dX0_line_0 rfl (lv_at hl 1 rfl) ?_
  refine lv_if_lt hx hb dX0_line_1 (tgt := 12) rfl (fun hc => absurd hc (nI_pos (by omega))) (fun _ => ?_)
  refine lv_iload_n hx hb dX0_line_4 rfl (lv_at hl 1 rfl) ?_
  refine lv_aload_n hx hb dX0_line_5 rfl (lv_at hl 0 rfl) ?_
  refine va_get (D := D) (ci := 0) (v := .int (nI (lc_cnt g c0))) (C := RX0) (T := TX0) (N := 3) hx hb hts hinX0 hown hK hP 0 rfl rfl 2 (by decide) (hts _ (List.mem_cons_of_mem _ lb_37)) (fun _ h9 => h9) rfl dX0_line_6 ?_
  refine lv_icmp_le hx hb dX0_line_9 (tgt := 20) rfl (fun _ => ?_) (fun hc => absurd (nI_le hk0 (by omega)) hc)
  refine lv_aload_n hx hb dX0_line_20 rfl (lv_at hl 0 rfl) ?_
  refine lv_iload_n hx hb dX0_line_21 rfl (lv_at hl 1 rfl) ?_
  refine lc_callR (W.runV (As := [.int (nI k0)]) (rest := []) ⟨hx, hb, hml, hown, hts⟩ (k_index l D h q cA (nI (lc_cnt g c0)) L c0 g hL hc0 k0 j0 (by omega) hj hj0) (cwV 1 hts gX0_line_X0_indexBehindLineEnds rfl rfl rfl (by decide +kernel) ⟨Nat.le_of_ble_eq_true rfl, Nat.le_of_ble_eq_true rfl⟩) (lc_RdV (q0 := 0) (ci := 0) (q := (RX0, TX0, 3)) hP hK rfl rfl) rfl rfl hl.1 rfl (lv_room (Nat.le_of_ble_eq_true rfl)) dX0_line_22 ⟨Nat.le_refl _, Nat.le_refl _⟩) ?_
  exact W.iret (v := nI j0) hx hb hr (fun t ht _ => ⟨rfl, ht⟩) (fun _ h => nomatch h) dX0_line_25
set_option maxHeartbeats 4000000 in
set_option maxRecDepth 100000 in
theorem k_lineOf (l : Launch) (D : va_G) (h q : Nat) (cA : ClassId) (e : Int32) (L c0 : Nat) (g : Nat → Int32) (hL : L ≤ 20000) (hc0 : c0 ≤ L) (i : Nat) (hi : i ≤ c0) : Met l yX0_lineOf wsX0_lineOf ({ frames := 1, cells := 0, slots := 0, locals := 26 }) (lc_Rd [.ref h, .int (nI i)] D [(h, .inr (0, [.ref q, .int (nI c0), .int e])), (q, .inl (cA, L, .inl g))] [(cA, .int)]) (QcRead (nI (lc_cnt g i))) 0 0 (fun _ => False) := by
  refine Met.ofW (cc := cX0_lineOf) (maxL := 2) (ret := (some .int)) (by decide) rfl ?_
  intro p e' s m args below meth c s₁ B hml hv
  obtain ⟨rfl, hP, hK⟩ := hv
  have hx := B.exec
  have hb := B.bytes
  have hr := B.returns
  have hts := atoms_spec (ws := wsX0_lineOf) B.pre
  have hown : s.vm.findClass RX0 = some m.cls := findClass_of_methodNamed B.named
  have hlocks := B.notSynchronized
  have hinX0 : ∀ w ∈ u_ws RX0 TX0 3, w ∈ wsX0_lineOf := fun w h => List.mem_cons_of_mem _ (lb_X0 w h)
  have hl := lv_entry ([.ref h, .int (nI i)]) (n := 2) (Nat.le_of_ble_eq_true rfl)
  rw [lg_entry_eq]
  generalize (lg_sl ([.ref h, .int (nI i)]) ++ List.replicate (2 - (lg_sl ([.ref h, .int (nI i)])).length) Slot.unset).toArray = ls at hl ⊢
  have hl : lv_has ls 2 [(0, .ref h), (1, .int (nI i))] := hl
  refine lv_iload_n hx hb dX0_lineOf_0 rfl (lv_at hl 1 rfl) ?_
  refine lv_if_lt hx hb dX0_lineOf_1 (tgt := 12) rfl (fun hc => absurd hc (nI_pos (by omega))) (fun _ => ?_)
  refine lv_iload_n hx hb dX0_lineOf_4 rfl (lv_at hl 1 rfl) ?_
  refine lv_aload_n hx hb dX0_lineOf_5 rfl (lv_at hl 0 rfl) ?_
  refine va_get (D := D) (ci := 0) (v := .int (nI c0)) (C := RX0) (T := TX0) (N := 3) hx hb hts hinX0 hown hK hP 0 rfl rfl 1 (by decide) (hts _ (List.mem_cons_of_mem _ lb_36)) (fun _ h9 => h9) rfl dX0_lineOf_6 ?_
  refine lv_icmp_le hx hb dX0_lineOf_9 (tgt := 20) rfl (fun _ => ?_) (fun hc => absurd (nI_le hi (by omega)) hc)
  refine lv_aload_n hx hb dX0_lineOf_20 rfl (lv_at hl 0 rfl) ?_
  refine lv_iconst (v := 0) hx hb dX0_lineOf_21 (by decide) ?_
  refine lv_iload_n hx hb dX0_lineOf_22 rfl (lv_at hl 1 rfl) ?_
  refine lc_callR (W.runV (As := [.int (nI 0), .int (nI i)]) (rest := []) ⟨hx, hb, hml, hown, hts⟩ (k_lineEndsIn l D h q cA (nI c0) e L g hL 0 i (by omega) (by omega)) (cwV 2 hts gX0_lineOf_X0_lineEndsIn rfl rfl rfl (by decide +kernel) ⟨Nat.le_of_ble_eq_true rfl, Nat.le_of_ble_eq_true rfl⟩) (lc_RdV (q0 := 0) (ci := 0) (q := (RX0, TX0, 3)) hP hK rfl rfl) rfl rfl hl.1 rfl (lv_room (Nat.le_of_ble_eq_true rfl)) dX0_lineOf_23 ⟨Nat.le_refl _, Nat.le_refl _⟩) ?_
  exact W.iret (v := nI (lc_cnt g i)) hx hb hr (fun t ht _ => ⟨rfl, ht⟩) (fun _ h => nomatch h) dX0_lineOf_26
set_option maxHeartbeats 4000000 in
set_option maxRecDepth 100000 in
theorem k_moveTail (l : Launch) (D : va_G) (h q : Nat) (cA : ClassId) (sz : Nat) (e : Int32) (L c0 : Nat) (g : Nat → Int32) (hL : L ≤ 20000) (hc0 : c0 ≤ L) (a b : Nat) (ha : a ≤ c0) (hb0 : b + (c0 - a) ≤ L) : Met l yX0_moveTail wsX0_moveTail ({ frames := 1, cells := 0, slots := 0, locals := 24 }) (lc_Wr [.ref h, .int (nI a), .int (nI b)] D [(h, .inr (0, [.ref q, .int (nI c0), .int e])), (q, .inl (cA, L, .inl g))] [(cA, .int)] sz) (lc_QW (S := Unit) D (va_A [(h, .inr (0, [.ref q, .int (nI c0), .int e])), (q, .inl (cA, L, .inl g))] sz) (fun u => none) (fun u => [(h, .inr (0, [.ref q, .int (nI (c0 + b - a)), .int e])), (q, .inl (cA, L, .inl (va_cpy g g a b (c0 - a))))]) (fun u => [(cA, .int)]) (fun u => True)) 0 0 (va_A [(h, .inr (0, [.ref q, .int (nI c0), .int e])), (q, .inl (cA, L, .inl g))] sz) := by
  refine Met.ofW (cc := cX0_moveTail) (maxL := 3) (ret := none) (by decide) rfl ?_
  intro p e' s m args below meth c s₁ B hml hv
  obtain ⟨rfl, hsz, hP, hK, hD0⟩ := hv
  have hx := B.exec
  have hb := B.bytes
  have hr := B.returns
  have hts := atoms_spec (ws := wsX0_moveTail) B.pre
  have hown : s.vm.findClass RX0 = some m.cls := findClass_of_methodNamed B.named
  have hlocks := B.notSynchronized
  have hinX0 : ∀ w ∈ u_ws RX0 TX0 3, w ∈ wsX0_moveTail := fun w h => List.mem_cons_of_mem _ (lb_X0 w h)
  subst hsz
  have hD := hD0.self (sz := s.heap.size)
  generalize hAe : va_A [(h, .inr (0, [.ref q, .int (nI c0), .int e])), (q, .inl (cA, L, .inl g))] s.heap.size = A at hD ⊢
  have hA : ∀ q : Nat, s.heap.size ≤ q → A q := fun q h => by rw [← hAe]; exact Or.inr h
  have hS : va_S A s.heap s.heap [] := va_S.rf
  have hP : va_P D vwCl [(h, .inr (0, [.ref q, .int (nI c0), .int e])), (q, .inl (cA, L, .inl g))] s.heap := hP
  skip
  have hl := lv_entry ([.ref h, .int (nI a), .int (nI b)]) (n := 3) (Nat.le_of_ble_eq_true rfl)
  rw [lg_entry_eq]
  generalize (lg_sl ([.ref h, .int (nI a), .int (nI b)]) ++ List.replicate (3 - (lg_sl ([.ref h, .int (nI a), .int (nI b)])).length) Slot.unset).toArray = ls at hl ⊢
  have hl : lv_has ls 3 [(0, .ref h), (1, .int (nI a)), (2, .int (nI b))] := hl
  refine lv_aload_n hx hb dX0_moveTail_0 rfl (lv_at hl 0 rfl) ?_
  refine va_get (D := D) (ci := 0) (v := .ref q) (C := RX0) (T := TX0) (N := 3) hx hb hts hinX0 hown hK hP 0 rfl rfl 0 (by decide) (hts _ (List.mem_cons_of_mem _ lb_35)) (fun _ h9 => h9) rfl dX0_moveTail_1 ?_
  refine lv_iload_n hx hb dX0_moveTail_4 rfl (lv_at hl 1 rfl) ?_
  refine lv_aload_n hx hb dX0_moveTail_5 rfl (lv_at hl 0 rfl) ?_
  refine va_get (D := D) (ci := 0) (v := .ref q) (C := RX0) (T := TX0) (N := 3) hx hb hts hinX0 hown hK hP 0 rfl rfl 0 (by decide) (hts _ (List.mem_cons_of_mem _ lb_35)) (fun _ h9 => h9) rfl dX0_moveTail_6 ?_
  refine lv_iload_n hx hb dX0_moveTail_9 rfl (lv_at hl 2 rfl) ?_
  refine lv_aload_n hx hb dX0_moveTail_10 rfl (lv_at hl 0 rfl) ?_
  refine va_get (D := D) (ci := 0) (v := .int (nI c0)) (C := RX0) (T := TX0) (N := 3) hx hb hts hinX0 hown hK hP 0 rfl rfl 1 (by decide) (hts _ (List.mem_cons_of_mem _ lb_36)) (fun _ h9 => h9) rfl dX0_moveTail_11 ?_
  refine lv_iload_n hx hb dX0_moveTail_14 rfl (lv_at hl 1 rfl) ?_
  refine lv_isub hx hb dX0_moveTail_15 ?_
  refine lc_top (y := nI (c0 - a)) (pk_sub ha) ?_
  have ea : (nI a).toNatClampNeg = a := nI_clamp (by omega)
  have eb : (nI b).toNatClampNeg = b := nI_clamp (by omega)
  have ec : (nI (c0 - a)).toNatClampNeg = c0 - a := nI_clamp (by omega)
  refine va_copyi (D := D) (ty := .int) hx hb (hml.trans hl.1.symm) hown (hts _ (List.mem_cons_of_mem _ lb_173)) (hts _ (List.mem_cons_of_mem _ lb_168)) (hts _ (List.mem_cons_of_mem _ lb_167)) (hts _ (List.mem_cons_of_mem _ lb_25)) hK hP hD hS 1 1 0 0 rfl rfl rfl rfl rfl (nI_pos (by omega)) (nI_pos (by omega)) (nI_pos (by omega)) (by rw [ea, ec]; omega) (by rw [eb, ec]; omega) (fun _ _ => rfl) (Nat.le_of_ble_eq_true rfl) (Nat.le_of_ble_eq_true rfl) dX0_moveTail_16 (fun H locs hP hD hS => ?_)
  rw [ea, eb, ec] at hP hD
  have hP : va_P D vwCl [(h, .inr (0, [.ref q, .int (nI c0), .int e])), (q, .inl (cA, L, .inl (va_cpy g g a b (c0 - a))))] H := hP
  have hD : va_D A [(h, .inr (0, [.ref q, .int (nI c0), .int e])), (q, .inl (cA, L, .inl (va_cpy g g a b (c0 - a))))] := hD
  refine lv_aload_n hx hb dX0_moveTail_19 rfl (lv_at hl 0 rfl) ?_
  refine lv_dup hx hb dX0_moveTail_20 rfl ?_
  refine va_get (D := D) (ci := 0) (v := .int (nI c0)) (C := RX0) (T := TX0) (N := 3) hx hb hts hinX0 hown hK hP 0 rfl rfl 1 (by decide) (hts _ (List.mem_cons_of_mem _ lb_36)) (fun _ h9 => h9) rfl dX0_moveTail_21 ?_
  refine lv_iload_n hx hb dX0_moveTail_24 rfl (lv_at hl 2 rfl) ?_
  refine lv_iload_n hx hb dX0_moveTail_25 rfl (lv_at hl 1 rfl) ?_
  refine lv_isub hx hb dX0_moveTail_26 ?_
  refine lv_iadd hx hb dX0_moveTail_27 ?_
  refine lc_top (y := nI (c0 + b - a)) (lc_move (by omega)) ?_
  refine va_put (D := D) (ci := 0) (v := .int (nI (c0 + b - a))) (ty := .int) (C := RX0) (T := TX0) (N := 3) hx hb hts hinX0 tyX0 tyX0_ok nmX0 hown hK hP hD hS 0 rfl rfl 1 (by decide) (hts _ (List.mem_cons_of_mem _ lb_36)) (fun _ h9 => h9) rfl (by decide +kernel) rfl rfl (Nat.le_of_ble_eq_true rfl) dX0_moveTail_28 (fun H locs hP hD hS => ?_)
  have hP : va_P D vwCl [(h, .inr (0, [.ref q, .int (nI (c0 + b - a)), .int e])), (q, .inl (cA, L, .inl (va_cpy g g a b (c0 - a))))] H := hP
  have hD : va_D A [(h, .inr (0, [.ref q, .int (nI (c0 + b - a)), .int e])), (q, .inl (cA, L, .inl (va_cpy g g a b (c0 - a))))] := hD
  exact W.vret hx hb hr (fun t ht hW => ⟨(), rfl, trivial, by rw [ht]; exact hP, va_K.moved hW.alike hK, hD, hS.F ht⟩) hS.2.2 dX0_moveTail_31
set_option maxHeartbeats 4000000 in
set_option maxRecDepth 100000 in
theorem k_fill (l : Launch) (D : va_G) (h q : Nat) (cA : ClassId) (sz : Nat) (n e : Int32) (L : Nat) (g : Nat → Int32) (hL : L ≤ 20000) (a k0 : Nat) (v0 s0 : Int32) (hak : a + k0 ≤ L) : Met l yX0_fill wsX0_fill ({ frames := 0, cells := 0, slots := 0, locals := 0 }) (lc_Wr [.ref h, .int (nI a), .int v0, .int s0, .int (nI k0)] D [(h, .inr (0, [.ref q, .int n, .int e])), (q, .inl (cA, L, .inl g))] [(cA, .int)] sz) (lc_QW (S := (Nat → Int32)) D (va_A [(h, .inr (0, [.ref q, .int n, .int e])), (q, .inl (cA, L, .inl g))] sz) (fun u => none) (fun u => [(h, .inr (0, [.ref q, .int n, .int e])), (q, .inl (cA, L, .inl u))]) (fun u => [(cA, .int)]) (fun u => ∀ j, u j = if a ≤ j ∧ j < a + k0 then v0 + nI (j - a) * s0 else g j)) 0 0 (va_A [(h, .inr (0, [.ref q, .int n, .int e])), (q, .inl (cA, L, .inl g))] sz) := by
  refine Met.ofW (cc := cX0_fill) (maxL := 7) (ret := none) (by decide) rfl ?_
  intro p e' s m args below meth c s₁ B hml hv
  obtain ⟨rfl, hsz, hP, hK, hD0⟩ := hv
  have hx := B.exec
  have hb := B.bytes
  have hr := B.returns
  have hts := atoms_spec (ws := wsX0_fill) B.pre
  have hown : s.vm.findClass RX0 = some m.cls := findClass_of_methodNamed B.named
  have hlocks := B.notSynchronized
  have hinX0 : ∀ w ∈ u_ws RX0 TX0 3, w ∈ wsX0_fill := fun w h => List.mem_cons_of_mem _ (lb_X0 w h)
  subst hsz
  have hD := hD0.self (sz := s.heap.size)
  generalize hAe : va_A [(h, .inr (0, [.ref q, .int n, .int e])), (q, .inl (cA, L, .inl g))] s.heap.size = A at hD ⊢
  have hA : ∀ q : Nat, s.heap.size ≤ q → A q := fun q h => by rw [← hAe]; exact Or.inr h
  have hS : va_S A s.heap s.heap [] := va_S.rf
  have hP : va_P D vwCl [(h, .inr (0, [.ref q, .int n, .int e])), (q, .inl (cA, L, .inl g))] s.heap := hP
  skip
  have hl := lv_entry ([.ref h, .int (nI a), .int v0, .int s0, .int (nI k0)]) (n := 7) (Nat.le_of_ble_eq_true rfl)
  rw [lg_entry_eq]
  generalize (lg_sl ([.ref h, .int (nI a), .int v0, .int s0, .int (nI k0)]) ++ List.replicate (7 - (lg_sl ([.ref h, .int (nI a), .int v0, .int s0, .int (nI k0)])).length) Slot.unset).toArray = ls at hl ⊢
  have hl : lv_has ls 7 [(0, .ref h), (1, .int (nI a)), (2, .int v0), (3, .int s0), (4, .int (nI k0))] := hl
  have loop : ∀ (k i : Nat) (f : Nat → Int32) (H : Heap) (locs : List Loc) (ls : Array Slot), i + k = k0 → (∀ j, f j = if a ≤ j ∧ j < a + i then v0 + nI (j - a) * s0 else g j) → va_P D vwCl [(h, .inr (0, [.ref q, .int n, .int e])), (q, .inl (cA, L, .inl f))] H → va_D A [(h, .inr (0, [.ref q, .int n, .int e])), (q, .inl (cA, L, .inl f))] → va_S A s.heap H locs → lv_has ls 7 [(6, .int (nI (a + i))), (5, .int (v0 + nI i * s0)), (0, .ref h), (1, .int (nI a)), (2, .int v0), (3, .int s0), (4, .int (nI k0))] → W p l e' (headSpec wsX0_fill ({ frames := 0, cells := 0, slots := 0, locals := 0 })).room s m ([.ref h, .int (nI a), .int v0, .int s0, .int (nI k0)] : List Value).toArray below meth c H locs 0 0 (MQ below (lc_QW (S := (Nat → Int32)) D A (fun u => none) (fun u => [(h, .inr (0, [.ref q, .int n, .int e])), (q, .inl (cA, L, .inl u))]) (fun u => [(cA, .int)]) (fun u => ∀ j, u j = if a ≤ j ∧ j < a + k0 then v0 + nI (j - a) * s0 else g j)) ([.ref h, .int (nI a), .int v0, .int s0, .int (nI k0)] : List Value).toArray s 0 0 A) (F0 m 6 ls []) := by
    intro k
    induction k with
    | zero =>
      intro i f H locs ls hi hf hP hD hS hl
      have hi : i = k0 := by omega
      subst hi
      refine lv_iload hx hb dX0_fill_6 (lv_at hl 0 rfl) ?_
      refine lv_iload_n hx hb dX0_fill_8 rfl (lv_at hl 3 rfl) ?_
      refine lv_iload hx hb dX0_fill_9 (lv_at hl 6 rfl) ?_
      refine lv_iadd hx hb dX0_fill_11 ?_
      refine lc_top (y := nI (a + i)) (nI_add a i) ?_
      refine lv_icmp_ge hx hb dX0_fill_12 (tgt := 36) rfl (fun _ => ?_) (fun hc => absurd (nI_le (Nat.le_refl _) (by omega)) hc)
      exact W.vret hx hb hr (fun t ht hW => ⟨f, rfl, hf, by rw [ht]; exact hP, va_K.moved hW.alike hK, hD, hS.F ht⟩) hS.2.2 dX0_fill_36
    | succ k ih =>
      intro i f H locs ls hi hf hP hD hS hl
      refine lv_iload hx hb dX0_fill_6 (lv_at hl 0 rfl) ?_
      refine lv_iload_n hx hb dX0_fill_8 rfl (lv_at hl 3 rfl) ?_
      refine lv_iload hx hb dX0_fill_9 (lv_at hl 6 rfl) ?_
      refine lv_iadd hx hb dX0_fill_11 ?_
      refine lc_top (y := nI (a + k0)) (nI_add a k0) ?_
      refine lv_icmp_ge hx hb dX0_fill_12 (tgt := 36) rfl (fun hc => absurd hc (nI_ge (show a + i < a + k0 by omega) (by omega))) (fun _ => ?_)
      refine lv_aload_n hx hb dX0_fill_15 rfl (lv_at hl 2 rfl) ?_
      refine va_get (D := D) (ci := 0) (v := .ref q) (C := RX0) (T := TX0) (N := 3) hx hb hts hinX0 hown hK hP 0 rfl rfl 0 (by decide) (hts _ (List.mem_cons_of_mem _ lb_35)) (fun _ h9 => h9) rfl dX0_fill_16 ?_
      refine lv_iload hx hb dX0_fill_19 (lv_at hl 0 rfl) ?_
      refine lv_iload hx hb dX0_fill_21 (lv_at hl 1 rfl) ?_
      refine va_iast (D := D) hx hb hK hP hD hS 1 0 rfl rfl (vp_in_nI (show a + i < L by omega) (by omega)) dX0_fill_23 (fun H locs hP hD hS => ?_)
      rw [show (nI (a + i)).toNatClampNeg = a + i from nI_clamp (by omega)] at hP hD
      have hP : va_P D vwCl [(h, .inr (0, [.ref q, .int n, .int e])), (q, .inl (cA, L, .inl (upd f (a + i) (v0 + nI i * s0))))] H := hP
      have hD : va_D A [(h, .inr (0, [.ref q, .int n, .int e])), (q, .inl (cA, L, .inl (upd f (a + i) (v0 + nI i * s0))))] := hD
      refine lv_iload hx hb dX0_fill_24 (lv_at hl 1 rfl) ?_
      refine lv_iload_n hx hb dX0_fill_26 rfl (lv_at hl 5 rfl) ?_
      refine lv_iadd hx hb dX0_fill_27 ?_
      refine lc_top (y := v0 + nI (i + 1) * s0) (by rw [lc_step, Int32.add_assoc]) ?_
      refine lv_istore hx hb dX0_fill_28 hl (by decide) rfl (fun ls hl => ?_)
      have hl : lv_has ls 7 [(5, .int (v0 + nI (i + 1) * s0)), (6, .int (nI (a + i))), (0, .ref h), (1, .int (nI a)), (2, .int v0), (3, .int s0), (4, .int (nI k0))] := hl
      refine lv_iinc (k := 1) (v := nI (a + (i + 1))) hx hb dX0_fill_30 hl rfl (nI_1 (a + i)) (by decide) rfl (fun ls hl => ?_)
      have hl : lv_has ls 7 [(6, .int (nI (a + (i + 1)))), (5, .int (v0 + nI (i + 1) * s0)), (0, .ref h), (1, .int (nI a)), (2, .int v0), (3, .int s0), (4, .int (nI k0))] := hl
      refine lv_goto hx hb dX0_fill_33 (tgt := 6) rfl ?_
      have hl : lv_has ls 7 [(6, .int (nI (a + (i + 1)))), (5, .int (v0 + nI (i + 1) * s0)), (0, .ref h), (1, .int (nI a)), (2, .int v0), (3, .int s0), (4, .int (nI k0))] := lv_sub hl [0, 1, 2, 3, 4, 5, 6] rfl
      refine ih (i + 1) _ H locs ls (by omega) (fun j => ?_) hP hD hS hl
      by_cases hj : j = a + i
      · subst hj; rw [pk_us, if_pos (by omega), show a + i - a = i by omega]
      · rw [pk_un hj, hf j]
        by_cases h2 : a ≤ j ∧ j < a + i
        · rw [if_pos h2, if_pos (by omega)]
        · rw [if_neg h2, if_neg (by omega)]
  refine lv_iload_n hx hb dX0_fill_0 rfl (lv_at hl 2 rfl) ?_
  refine lv_istore hx hb dX0_fill_1 hl (by decide) rfl (fun ls hl => ?_)
  have hl : lv_has ls 7 [(5, .int v0), (0, .ref h), (1, .int (nI a)), (2, .int v0), (3, .int s0), (4, .int (nI k0))] := hl
  refine lv_iload_n hx hb dX0_fill_3 rfl (lv_at hl 2 rfl) ?_
  refine lv_istore hx hb dX0_fill_4 hl (by decide) rfl (fun ls hl => ?_)
  have hl : lv_has ls 7 [(6, .int (nI a)), (5, .int v0), (0, .ref h), (1, .int (nI a)), (2, .int v0), (3, .int s0), (4, .int (nI k0))] := hl
  have hl : lv_has ls 7 [(6, .int (nI a)), (5, .int v0), (0, .ref h), (1, .int (nI a)), (2, .int v0), (3, .int s0), (4, .int (nI k0))] := lv_sub hl [0, 1, 2, 3, 4, 5, 6] rfl
  refine loop k0 0 g s.heap [] ls (by omega) (fun j => by rw [if_neg (by omega)]) hP hD hS ?_
  rw [show v0 + nI 0 * s0 = v0 by rw [nI_0, Int32.zero_mul, Int32.add_zero]]
  exact hl
set_option maxHeartbeats 4000000 in
set_option maxRecDepth 100000 in
theorem k_get_bad (l : Launch) (D : va_G) (h q : Nat) (cA : ClassId)  (hst : l.stackTraces = false) (n e : Int32) (L : Nat) (g : Nat → Int32) (p0 : Int32) (hbad : p0 < 0 ∨ n ≤ p0) : vx_Met l yX0_get wsX0_get ({ frames := 6, cells := 1, slots := 6, locals := 81 }) (lc_Tx [.ref h, .int p0] D [(h, .inr (0, [.ref q, .int n, .int e])), (q, .inl (cA, L, .inl g))] [(cA, .int)] (fun _ => False)) lc_N (lc_X "java/util/NoSuchElementException") 1 6 (fun _ => False) := by
  refine vx_ofW (cc := cX0_get) (maxL := 2) (ret := (some .int)) (by decide) rfl ?_
  intro p e' s m args below meth c s₁ B hml htab hv
  obtain ⟨rfl, hP, hK, hZ⟩ := hv
  have hx := B.exec
  have hb := B.bytes
  have hr := B.returns
  have hts := atoms_spec (ws := wsX0_get) B.pre
  have hown : s.vm.findClass RX0 = some m.cls := findClass_of_methodNamed B.named
  have hlocks := B.notSynchronized
  have hinX0 : ∀ w ∈ u_ws RX0 TX0 3, w ∈ wsX0_get := fun w h => List.mem_cons_of_mem _ (lb_X0 w h)
  have hl := lv_entry ([.ref h, .int p0]) (n := 2) (Nat.le_of_ble_eq_true rfl)
  rw [lg_entry_eq]
  generalize (lg_sl ([.ref h, .int p0]) ++ List.replicate (2 - (lg_sl ([.ref h, .int p0])).length) Slot.unset).toArray = ls at hl ⊢
  have hl : lv_has ls 2 [(0, .ref h), (1, .int p0)] := hl
  have hat : ∀ w ∈ vx_at0 RX0 44 "java/util/NoSuchElementException" ["java/lang/RuntimeException", "java/lang/Exception"], w.before ([.ref h, .int p0] : List Value).toArray s = true := vx_hat (fun w hw => hts w (List.mem_cons_of_mem _ (lb_at_X0_44 w hw))) (B := lc_Nws) (by decide +kernel) (lc_nws hZ.2.2)
  have hthr : W p l e' (headSpec wsX0_get ({ frames := 6, cells := 1, slots := 6, locals := 81 })).room s m ([.ref h, .int p0] : List Value).toArray below meth c s.heap [] 0 0 (vx_MQ below lc_N (lc_X "java/util/NoSuchElementException") ([.ref h, .int p0] : List Value).toArray s 1 6 (fun _ => False)) (F0 m 12 ls []) := vx_throw0 hx hb hst hown (by decide +kernel) (by decide +kernel) (hts _ (List.mem_cons_of_mem _ lb_197)) (hts _ (List.mem_cons_of_mem _ lb_26)) hat (by decide +kernel) hZ.1 hZ.2.1 va_S.rf (hl.1.trans hml.symm) dX0_get_12 dX0_get_15 dX0_get_16 dX0_get_19 (fun x hx => (htab x hx).elim) (Nat.le_of_ble_eq_true rfl) (Nat.le_of_ble_eq_true rfl) (Nat.le_refl _) (Nat.le_refl _) hlocks (fun t _ hz hk => ⟨rfl, hz, fun q h1 _ => hk q h1⟩) (fun _ h => nomatch h) (Nat.le_refl _) (Nat.le_refl _)
  refine lv_iload_n hx hb dX0_get_0 rfl (lv_at hl 1 rfl) ?_
  refine lv_if_lt hx hb dX0_get_1 (tgt := 12) rfl (fun h1 => ?_) (fun h1 => ?_)
  · exact hthr
  · refine lv_iload_n hx hb dX0_get_4 rfl (lv_at hl 1 rfl) ?_
    refine lv_aload_n hx hb dX0_get_5 rfl (lv_at hl 0 rfl) ?_
    refine va_get (D := D) (ci := 0) (v := .int n) (C := RX0) (T := TX0) (N := 3) hx hb hts hinX0 hown hK hP 0 rfl rfl 1 (by decide) (hts _ (List.mem_cons_of_mem _ lb_36)) (fun _ h9 => h9) rfl dX0_get_6 ?_
    refine lv_icmp_lt hx hb dX0_get_9 (tgt := 20) rfl (fun hc => absurd hc (fun hc => hbad.elim h1 (fun hb9 => absurd hc (Int32.not_lt.mpr hb9)))) (fun _ => ?_)
    exact hthr
set_option maxHeartbeats 4000000 in
set_option maxRecDepth 100000 in
theorem k_line_bad (l : Launch) (D : va_G) (h q : Nat) (cA : ClassId)  (hst : l.stackTraces = false) (n e : Int32) (L : Nat) (g : Nat → Int32) (p0 : Int32) (hbad : p0 < 0 ∨ e < p0) : vx_Met l yX0_line wsX0_line ({ frames := 6, cells := 1, slots := 6, locals := 81 }) (lc_Tx [.ref h, .int p0] D [(h, .inr (0, [.ref q, .int n, .int e])), (q, .inl (cA, L, .inl g))] [(cA, .int)] (fun _ => False)) lc_N (lc_X "java/util/NoSuchElementException") 1 6 (fun _ => False) := by
  refine vx_ofW (cc := cX0_line) (maxL := 2) (ret := (some .int)) (by decide) rfl ?_
  intro p e' s m args below meth c s₁ B hml htab hv
  obtain ⟨rfl, hP, hK, hZ⟩ := hv
  have hx := B.exec
  have hb := B.bytes
  have hr := B.returns
  have hts := atoms_spec (ws := wsX0_line) B.pre
  have hown : s.vm.findClass RX0 = some m.cls := findClass_of_methodNamed B.named
  have hlocks := B.notSynchronized
  have hinX0 : ∀ w ∈ u_ws RX0 TX0 3, w ∈ wsX0_line := fun w h => List.mem_cons_of_mem _ (lb_X0 w h)
  have hl := lv_entry ([.ref h, .int p0]) (n := 2) (Nat.le_of_ble_eq_true rfl)
  rw [lg_entry_eq]
  generalize (lg_sl ([.ref h, .int p0]) ++ List.replicate (2 - (lg_sl ([.ref h, .int p0])).length) Slot.unset).toArray = ls at hl ⊢
  have hl : lv_has ls 2 [(0, .ref h), (1, .int p0)] := hl
  have hat : ∀ w ∈ vx_at0 RX0 44 "java/util/NoSuchElementException" ["java/lang/RuntimeException", "java/lang/Exception"], w.before ([.ref h, .int p0] : List Value).toArray s = true := vx_hat (fun w hw => hts w (List.mem_cons_of_mem _ (lb_at_X0_44 w hw))) (B := lc_Nws) (by decide +kernel) (lc_nws hZ.2.2)
  have hthr : W p l e' (headSpec wsX0_line ({ frames := 6, cells := 1, slots := 6, locals := 81 })).room s m ([.ref h, .int p0] : List Value).toArray below meth c s.heap [] 0 0 (vx_MQ below lc_N (lc_X "java/util/NoSuchElementException") ([.ref h, .int p0] : List Value).toArray s 1 6 (fun _ => False)) (F0 m 12 ls []) := vx_throw0 hx hb hst hown (by decide +kernel) (by decide +kernel) (hts _ (List.mem_cons_of_mem _ lb_197)) (hts _ (List.mem_cons_of_mem _ lb_26)) hat (by decide +kernel) hZ.1 hZ.2.1 va_S.rf (hl.1.trans hml.symm) dX0_line_12 dX0_line_15 dX0_line_16 dX0_line_19 (fun x hx => (htab x hx).elim) (Nat.le_of_ble_eq_true rfl) (Nat.le_of_ble_eq_true rfl) (Nat.le_refl _) (Nat.le_refl _) hlocks (fun t _ hz hk => ⟨rfl, hz, fun q h1 _ => hk q h1⟩) (fun _ h => nomatch h) (Nat.le_refl _) (Nat.le_refl _)
  refine lv_iload_n hx hb dX0_line_0 rfl (lv_at hl 1 rfl) ?_
  refine lv_if_lt hx hb dX0_line_1 (tgt := 12) rfl (fun h1 => ?_) (fun h1 => ?_)
  · exact hthr
  · refine lv_iload_n hx hb dX0_line_4 rfl (lv_at hl 1 rfl) ?_
    refine lv_aload_n hx hb dX0_line_5 rfl (lv_at hl 0 rfl) ?_
    refine va_get (D := D) (ci := 0) (v := .int e) (C := RX0) (T := TX0) (N := 3) hx hb hts hinX0 hown hK hP 0 rfl rfl 2 (by decide) (hts _ (List.mem_cons_of_mem _ lb_37)) (fun _ h9 => h9) rfl dX0_line_6 ?_
    refine lv_icmp_le hx hb dX0_line_9 (tgt := 20) rfl (fun hc => absurd hc (fun hc => hbad.elim h1 (fun hb9 => absurd hb9 (Int32.not_lt.mpr hc)))) (fun _ => ?_)
    exact hthr
set_option maxHeartbeats 4000000 in
set_option maxRecDepth 100000 in
theorem k_lineOf_bad (l : Launch) (D : va_G) (h q : Nat) (cA : ClassId)  (hst : l.stackTraces = false) (n e : Int32) (L : Nat) (g : Nat → Int32) (p0 : Int32) (hbad : p0 < 0 ∨ n < p0) : vx_Met l yX0_lineOf wsX0_lineOf ({ frames := 6, cells := 1, slots := 6, locals := 81 }) (lc_Tx [.ref h, .int p0] D [(h, .inr (0, [.ref q, .int n, .int e])), (q, .inl (cA, L, .inl g))] [(cA, .int)] (fun _ => False)) lc_N (lc_X "java/lang/IllegalArgumentException") 1 6 (fun _ => False) := by
  refine vx_ofW (cc := cX0_lineOf) (maxL := 2) (ret := (some .int)) (by decide) rfl ?_
  intro p e' s m args below meth c s₁ B hml htab hv
  obtain ⟨rfl, hP, hK, hZ⟩ := hv
  have hx := B.exec
  have hb := B.bytes
  have hr := B.returns
  have hts := atoms_spec (ws := wsX0_lineOf) B.pre
  have hown : s.vm.findClass RX0 = some m.cls := findClass_of_methodNamed B.named
  have hlocks := B.notSynchronized
  have hinX0 : ∀ w ∈ u_ws RX0 TX0 3, w ∈ wsX0_lineOf := fun w h => List.mem_cons_of_mem _ (lb_X0 w h)
  have hl := lv_entry ([.ref h, .int p0]) (n := 2) (Nat.le_of_ble_eq_true rfl)
  rw [lg_entry_eq]
  generalize (lg_sl ([.ref h, .int p0]) ++ List.replicate (2 - (lg_sl ([.ref h, .int p0])).length) Slot.unset).toArray = ls at hl ⊢
  have hl : lv_has ls 2 [(0, .ref h), (1, .int p0)] := hl
  have hat : ∀ w ∈ vx_at0 RX0 22 "java/lang/IllegalArgumentException" ["java/lang/RuntimeException", "java/lang/Exception"], w.before ([.ref h, .int p0] : List Value).toArray s = true := vx_hat (fun w hw => hts w (List.mem_cons_of_mem _ (lb_at_X0_22 w hw))) (B := lc_Nws) (by decide +kernel) (lc_nws hZ.2.2)
  have hthr : W p l e' (headSpec wsX0_lineOf ({ frames := 6, cells := 1, slots := 6, locals := 81 })).room s m ([.ref h, .int p0] : List Value).toArray below meth c s.heap [] 0 0 (vx_MQ below lc_N (lc_X "java/lang/IllegalArgumentException") ([.ref h, .int p0] : List Value).toArray s 1 6 (fun _ => False)) (F0 m 12 ls []) := vx_throw0 hx hb hst hown (by decide +kernel) (by decide +kernel) (hts _ (List.mem_cons_of_mem _ lb_67)) (hts _ (List.mem_cons_of_mem _ lb_21)) hat (by decide +kernel) hZ.1 hZ.2.1 va_S.rf (hl.1.trans hml.symm) dX0_lineOf_12 dX0_lineOf_15 dX0_lineOf_16 dX0_lineOf_19 (fun x hx => (htab x hx).elim) (Nat.le_of_ble_eq_true rfl) (Nat.le_of_ble_eq_true rfl) (Nat.le_refl _) (Nat.le_refl _) hlocks (fun t _ hz hk => ⟨rfl, hz, fun q h1 _ => hk q h1⟩) (fun _ h => nomatch h) (Nat.le_refl _) (Nat.le_refl _)
  refine lv_iload_n hx hb dX0_lineOf_0 rfl (lv_at hl 1 rfl) ?_
  refine lv_if_lt hx hb dX0_lineOf_1 (tgt := 12) rfl (fun h1 => ?_) (fun h1 => ?_)
  · exact hthr
  · refine lv_iload_n hx hb dX0_lineOf_4 rfl (lv_at hl 1 rfl) ?_
    refine lv_aload_n hx hb dX0_lineOf_5 rfl (lv_at hl 0 rfl) ?_
    refine va_get (D := D) (ci := 0) (v := .int n) (C := RX0) (T := TX0) (N := 3) hx hb hts hinX0 hown hK hP 0 rfl rfl 1 (by decide) (hts _ (List.mem_cons_of_mem _ lb_36)) (fun _ h9 => h9) rfl dX0_lineOf_6 ?_
    refine lv_icmp_le hx hb dX0_lineOf_9 (tgt := 20) rfl (fun hc => absurd hc (fun hc => hbad.elim h1 (fun hb9 => absurd hb9 (Int32.not_lt.mpr hc)))) (fun _ => ?_)
    exact hthr
set_option maxHeartbeats 4000000 in
set_option maxRecDepth 100000 in
theorem k_insert_bad (l : Launch) (D : va_G) (h q : Nat) (cA : ClassId)  (hst : l.stackTraces = false) (n e : Int32) (L : Nat) (g : Nat → Int32) (p0 p1 p2 p3 : Int32) (hbad : p0 < 0 ∨ n < p0 ∨ p3 < 1 ∨ 500 < p3) : vx_Met l yX0_insert wsX0_insert ({ frames := 6, cells := 1, slots := 6, locals := 81 }) (lc_Tx [.ref h, .int p0, .int p1, .int p2, .int p3] D [(h, .inr (0, [.ref q, .int n, .int e])), (q, .inl (cA, L, .inl g))] [(cA, .int)] (fun _ => False)) lc_N (lc_X "java/lang/IllegalArgumentException") 1 6 (fun _ => False) := by
  refine vx_ofW (cc := cX0_insert) (maxL := 5) (ret := (some .int)) (by decide) rfl ?_
  intro p e' s m args below meth c s₁ B hml htab hv
  obtain ⟨rfl, hP, hK, hZ⟩ := hv
  have hx := B.exec
  have hb := B.bytes
  have hr := B.returns
  have hts := atoms_spec (ws := wsX0_insert) B.pre
  have hown : s.vm.findClass RX0 = some m.cls := findClass_of_methodNamed B.named
  have hlocks := B.notSynchronized
  have hinX0 : ∀ w ∈ u_ws RX0 TX0 3, w ∈ wsX0_insert := fun w h => List.mem_cons_of_mem _ (lb_X0 w h)
  have hl := lv_entry ([.ref h, .int p0, .int p1, .int p2, .int p3]) (n := 5) (Nat.le_of_ble_eq_true rfl)
  rw [lg_entry_eq]
  generalize (lg_sl ([.ref h, .int p0, .int p1, .int p2, .int p3]) ++ List.replicate (5 - (lg_sl ([.ref h, .int p0, .int p1, .int p2, .int p3])).length) Slot.unset).toArray = ls at hl ⊢
  have hl : lv_has ls 5 [(0, .ref h), (1, .int p0), (2, .int p1), (3, .int p2), (4, .int p3)] := hl
  have hat : ∀ w ∈ vx_at0 RX0 22 "java/lang/IllegalArgumentException" ["java/lang/RuntimeException", "java/lang/Exception"], w.before ([.ref h, .int p0, .int p1, .int p2, .int p3] : List Value).toArray s = true := vx_hat (fun w hw => hts w (List.mem_cons_of_mem _ (lb_at_X0_22 w hw))) (B := lc_Nws) (by decide +kernel) (lc_nws hZ.2.2)
  have hthr : W p l e' (headSpec wsX0_insert ({ frames := 6, cells := 1, slots := 6, locals := 81 })).room s m ([.ref h, .int p0, .int p1, .int p2, .int p3] : List Value).toArray below meth c s.heap [] 0 0 (vx_MQ below lc_N (lc_X "java/lang/IllegalArgumentException") ([.ref h, .int p0, .int p1, .int p2, .int p3] : List Value).toArray s 1 6 (fun _ => False)) (F0 m 26 ls []) := vx_throw0 hx hb hst hown (by decide +kernel) (by decide +kernel) (hts _ (List.mem_cons_of_mem _ lb_67)) (hts _ (List.mem_cons_of_mem _ lb_21)) hat (by decide +kernel) hZ.1 hZ.2.1 va_S.rf (hl.1.trans hml.symm) dX0_insert_26 dX0_insert_29 dX0_insert_30 dX0_insert_33 (fun x hx => (htab x hx).elim) (Nat.le_of_ble_eq_true rfl) (Nat.le_of_ble_eq_true rfl) (Nat.le_refl _) (Nat.le_refl _) hlocks (fun t _ hz hk => ⟨rfl, hz, fun q h1 _ => hk q h1⟩) (fun _ h => nomatch h) (Nat.le_refl _) (Nat.le_refl _)
  refine lv_iload_n hx hb dX0_insert_0 rfl (lv_at hl 1 rfl) ?_
  refine lv_if_lt hx hb dX0_insert_1 (tgt := 26) rfl (fun h1 => ?_) (fun h1 => ?_)
  · exact hthr
  · refine lv_iload_n hx hb dX0_insert_4 rfl (lv_at hl 1 rfl) ?_
    refine lv_aload_n hx hb dX0_insert_5 rfl (lv_at hl 0 rfl) ?_
    refine va_get (D := D) (ci := 0) (v := .int n) (C := RX0) (T := TX0) (N := 3) hx hb hts hinX0 hown hK hP 0 rfl rfl 1 (by decide) (hts _ (List.mem_cons_of_mem _ lb_36)) (fun _ h9 => h9) rfl dX0_insert_6 ?_
    refine lv_icmp_gt hx hb dX0_insert_9 (tgt := 26) rfl (fun h2 => ?_) (fun h2 => ?_)
    · exact hthr
    · refine lv_iload hx hb dX0_insert_12 (lv_at hl 4 rfl) ?_
      refine lv_iconst (v := 1) hx hb dX0_insert_14 (by decide) ?_
      refine lv_icmp_lt hx hb dX0_insert_15 (tgt := 26) rfl (fun h3 => ?_) (fun h3 => ?_)
      · exact hthr
      · refine lv_iload hx hb dX0_insert_18 (lv_at hl 4 rfl) ?_
        refine lv_sipush (v := 500) hx hb dX0_insert_20 (by decide) ?_
        refine lv_icmp_le hx hb dX0_insert_23 (tgt := 34) rfl (fun hc => absurd hc (fun hc => hbad.elim h1 (fun hb9 => hb9.elim h2 (fun hb8 => hb8.elim h3 (fun hb7 => absurd hb7 (Int32.not_lt.mpr hc)))))) (fun _ => ?_)
        exact hthr
set_option maxHeartbeats 4000000 in
set_option maxRecDepth 100000 in
theorem k_insert_full (l : Launch) (D : va_G) (h q : Nat) (cA : ClassId)  (hst : l.stackTraces = false) (e : Int32) (L c0 : Nat) (g : Nat → Int32) (i0 k0 : Nat) (p1 p2 : Int32) (hc0 : c0 ≤ 20000) (hi0 : i0 ≤ c0) (hk0 : 1 ≤ k0) (hk5 : k0 ≤ 500) (hfull : 20000 < c0 + k0) : vx_Met l yX0_insert wsX0_insert ({ frames := 6, cells := 1, slots := 6, locals := 81 }) (lc_Tx [.ref h, .int (nI i0), .int p1, .int p2, .int (nI k0)] D [(h, .inr (0, [.ref q, .int (nI c0), .int e])), (q, .inl (cA, L, .inl g))] [(cA, .int)] (fun _ => False)) lc_N (lc_X "java/lang/IllegalStateException") 1 6 (fun _ => False) := by
  refine vx_ofW (cc := cX0_insert) (maxL := 5) (ret := (some .int)) (by decide) rfl ?_
  intro p e' s m args below meth c s₁ B hml htab hv
  obtain ⟨rfl, hP, hK, hZ⟩ := hv
  have hx := B.exec
  have hb := B.bytes
  have hr := B.returns
  have hts := atoms_spec (ws := wsX0_insert) B.pre
  have hown : s.vm.findClass RX0 = some m.cls := findClass_of_methodNamed B.named
  have hlocks := B.notSynchronized
  have hinX0 : ∀ w ∈ u_ws RX0 TX0 3, w ∈ wsX0_insert := fun w h => List.mem_cons_of_mem _ (lb_X0 w h)
  have hl := lv_entry ([.ref h, .int (nI i0), .int p1, .int p2, .int (nI k0)]) (n := 5) (Nat.le_of_ble_eq_true rfl)
  rw [lg_entry_eq]
  generalize (lg_sl ([.ref h, .int (nI i0), .int p1, .int p2, .int (nI k0)]) ++ List.replicate (5 - (lg_sl ([.ref h, .int (nI i0), .int p1, .int p2, .int (nI k0)])).length) Slot.unset).toArray = ls at hl ⊢
  have hl : lv_has ls 5 [(0, .ref h), (1, .int (nI i0)), (2, .int p1), (3, .int p2), (4, .int (nI k0))] := hl
  have hat : ∀ w ∈ vx_at0 RX0 25 "java/lang/IllegalStateException" ["java/lang/RuntimeException", "java/lang/Exception"], w.before ([.ref h, .int (nI i0), .int p1, .int p2, .int (nI k0)] : List Value).toArray s = true := vx_hat (fun w hw => hts w (List.mem_cons_of_mem _ (lb_at_X0_25 w hw))) (B := lc_Nws) (by decide +kernel) (lc_nws hZ.2.2)
  have hthr : W p l e' (headSpec wsX0_insert ({ frames := 6, cells := 1, slots := 6, locals := 81 })).room s m ([.ref h, .int (nI i0), .int p1, .int p2, .int (nI k0)] : List Value).toArray below meth c s.heap [] 0 0 (vx_MQ below lc_N (lc_X "java/lang/IllegalStateException") ([.ref h, .int (nI i0), .int p1, .int p2, .int (nI k0)] : List Value).toArray s 1 6 (fun _ => False)) (F0 m 47 ls []) := vx_throw0 hx hb hst hown (by decide +kernel) (by decide +kernel) (hts _ (List.mem_cons_of_mem _ lb_130)) (hts _ (List.mem_cons_of_mem _ lb_22)) hat (by decide +kernel) hZ.1 hZ.2.1 va_S.rf (hl.1.trans hml.symm) dX0_insert_47 dX0_insert_50 dX0_insert_51 dX0_insert_54 (fun x hx => (htab x hx).elim) (Nat.le_of_ble_eq_true rfl) (Nat.le_of_ble_eq_true rfl) (Nat.le_refl _) (Nat.le_refl _) hlocks (fun t _ hz hk => ⟨rfl, hz, fun q h1 _ => hk q h1⟩) (fun _ h => nomatch h) (Nat.le_refl _) (Nat.le_refl _)
  refine lv_iload_n hx hb dX0_insert_0 rfl (lv_at hl 1 rfl) ?_
  refine lv_if_lt hx hb dX0_insert_1 (tgt := 26) rfl (fun hc => absurd hc (nI_pos (by omega))) (fun _ => ?_)
  refine lv_iload_n hx hb dX0_insert_4 rfl (lv_at hl 1 rfl) ?_
  refine lv_aload_n hx hb dX0_insert_5 rfl (lv_at hl 0 rfl) ?_
  refine va_get (D := D) (ci := 0) (v := .int (nI c0)) (C := RX0) (T := TX0) (N := 3) hx hb hts hinX0 hown hK hP 0 rfl rfl 1 (by decide) (hts _ (List.mem_cons_of_mem _ lb_36)) (fun _ h9 => h9) rfl dX0_insert_6 ?_
  refine lv_icmp_gt hx hb dX0_insert_9 (tgt := 26) rfl (fun hc => absurd hc (nI_nlt hi0 (by omega))) (fun _ => ?_)
  refine lv_iload hx hb dX0_insert_12 (lv_at hl 4 rfl) ?_
  refine lv_iconst (v := 1) hx hb dX0_insert_14 (by decide) ?_
  refine lv_icmp_lt hx hb dX0_insert_15 (tgt := 26) rfl (fun hc => absurd hc (nI_nlt (b := 1) hk0 (by omega))) (fun _ => ?_)
  refine lv_iload hx hb dX0_insert_18 (lv_at hl 4 rfl) ?_
  refine lv_sipush (v := 500) hx hb dX0_insert_20 (by decide) ?_
  refine lv_icmp_le hx hb dX0_insert_23 (tgt := 34) rfl (fun _ => ?_) (fun hc => absurd (nI_le (b := 500) hk5 (by omega)) hc)
  refine lv_iload hx hb dX0_insert_34 (lv_at hl 4 rfl) ?_
  refine lv_sipush (v := 20000) hx hb dX0_insert_36 (by decide) ?_
  refine lv_aload_n hx hb dX0_insert_39 rfl (lv_at hl 0 rfl) ?_
  refine va_get (D := D) (ci := 0) (v := .int (nI c0)) (C := RX0) (T := TX0) (N := 3) hx hb hts hinX0 hown hK hP 0 rfl rfl 1 (by decide) (hts _ (List.mem_cons_of_mem _ lb_36)) (fun _ h9 => h9) rfl dX0_insert_40 ?_
  refine lv_isub hx hb dX0_insert_43 ?_
  refine lc_top (y := nI (20000 - c0)) (pk_sub (a := 20000) hc0) ?_
  refine lv_icmp_le hx hb dX0_insert_44 (tgt := 55) rfl (fun hc => absurd hc (nI_ge (show 20000 - c0 < k0 by omega) (by omega))) (fun _ => ?_)
  exact hthr
set_option maxHeartbeats 4000000 in
set_option maxRecDepth 100000 in
theorem k_delete_bad (l : Launch) (D : va_G) (h q : Nat) (cA : ClassId)  (hst : l.stackTraces = false) (n e : Int32) (L : Nat) (g : Nat → Int32) (p0 p1 : Int32) (hbad : p0 < 0 ∨ p1 < 1 ∨ n - p1 < p0) : vx_Met l yX0_delete wsX0_delete ({ frames := 6, cells := 1, slots := 6, locals := 81 }) (lc_Tx [.ref h, .int p0, .int p1] D [(h, .inr (0, [.ref q, .int n, .int e])), (q, .inl (cA, L, .inl g))] [(cA, .int)] (fun _ => False)) lc_N (lc_X "java/lang/IllegalArgumentException") 1 6 (fun _ => False) := by
  refine vx_ofW (cc := cX0_delete) (maxL := 3) (ret := (some .int)) (by decide) rfl ?_
  intro p e' s m args below meth c s₁ B hml htab hv
  obtain ⟨rfl, hP, hK, hZ⟩ := hv
  have hx := B.exec
  have hb := B.bytes
  have hr := B.returns
  have hts := atoms_spec (ws := wsX0_delete) B.pre
  have hown : s.vm.findClass RX0 = some m.cls := findClass_of_methodNamed B.named
  have hlocks := B.notSynchronized
  have hinX0 : ∀ w ∈ u_ws RX0 TX0 3, w ∈ wsX0_delete := fun w h => List.mem_cons_of_mem _ (lb_X0 w h)
  have hl := lv_entry ([.ref h, .int p0, .int p1]) (n := 3) (Nat.le_of_ble_eq_true rfl)
  rw [lg_entry_eq]
  generalize (lg_sl ([.ref h, .int p0, .int p1]) ++ List.replicate (3 - (lg_sl ([.ref h, .int p0, .int p1])).length) Slot.unset).toArray = ls at hl ⊢
  have hl : lv_has ls 3 [(0, .ref h), (1, .int p0), (2, .int p1)] := hl
  have hat : ∀ w ∈ vx_at0 RX0 22 "java/lang/IllegalArgumentException" ["java/lang/RuntimeException", "java/lang/Exception"], w.before ([.ref h, .int p0, .int p1] : List Value).toArray s = true := vx_hat (fun w hw => hts w (List.mem_cons_of_mem _ (lb_at_X0_22 w hw))) (B := lc_Nws) (by decide +kernel) (lc_nws hZ.2.2)
  have hthr : W p l e' (headSpec wsX0_delete ({ frames := 6, cells := 1, slots := 6, locals := 81 })).room s m ([.ref h, .int p0, .int p1] : List Value).toArray below meth c s.heap [] 0 0 (vx_MQ below lc_N (lc_X "java/lang/IllegalArgumentException") ([.ref h, .int p0, .int p1] : List Value).toArray s 1 6 (fun _ => False)) (F0 m 19 ls []) := vx_throw0 hx hb hst hown (by decide +kernel) (by decide +kernel) (hts _ (List.mem_cons_of_mem _ lb_67)) (hts _ (List.mem_cons_of_mem _ lb_21)) hat (by decide +kernel) hZ.1 hZ.2.1 va_S.rf (hl.1.trans hml.symm) dX0_delete_19 dX0_delete_22 dX0_delete_23 dX0_delete_26 (fun x hx => (htab x hx).elim) (Nat.le_of_ble_eq_true rfl) (Nat.le_of_ble_eq_true rfl) (Nat.le_refl _) (Nat.le_refl _) hlocks (fun t _ hz hk => ⟨rfl, hz, fun q h1 _ => hk q h1⟩) (fun _ h => nomatch h) (Nat.le_refl _) (Nat.le_refl _)
  refine lv_iload_n hx hb dX0_delete_0 rfl (lv_at hl 1 rfl) ?_
  refine lv_if_lt hx hb dX0_delete_1 (tgt := 19) rfl (fun h1 => ?_) (fun h1 => ?_)
  · exact hthr
  · refine lv_iload_n hx hb dX0_delete_4 rfl (lv_at hl 2 rfl) ?_
    refine lv_iconst (v := 1) hx hb dX0_delete_5 (by decide) ?_
    refine lv_icmp_lt hx hb dX0_delete_6 (tgt := 19) rfl (fun h2 => ?_) (fun h2 => ?_)
    · exact hthr
    · refine lv_iload_n hx hb dX0_delete_9 rfl (lv_at hl 1 rfl) ?_
      refine lv_aload_n hx hb dX0_delete_10 rfl (lv_at hl 0 rfl) ?_
      refine va_get (D := D) (ci := 0) (v := .int n) (C := RX0) (T := TX0) (N := 3) hx hb hts hinX0 hown hK hP 0 rfl rfl 1 (by decide) (hts _ (List.mem_cons_of_mem _ lb_36)) (fun _ h9 => h9) rfl dX0_delete_11 ?_
      refine lv_iload_n hx hb dX0_delete_14 rfl (lv_at hl 2 rfl) ?_
      refine lv_isub hx hb dX0_delete_15 ?_
      refine lv_icmp_le hx hb dX0_delete_16 (tgt := 27) rfl (fun hc => absurd hc (fun hc => hbad.elim h1 (fun hb9 => hb9.elim h2 (fun hb8 => absurd hb8 (Int32.not_lt.mpr hc))))) (fun _ => ?_)
      exact hthr
set_option maxHeartbeats 4000000 in
set_option maxRecDepth 100000 in
theorem k_copyOf (l : Launch) (D : va_G) (q : Nat) (cA : ClassId) (sz L N : Nat) (g : Nat → Int32) (hLN : L < N) (hN : N ≤ 20000) : Met l yJ_copyOf wsJ_copyOf ({ frames := 1, cells := 1, slots := N, locals := 24 }) (lc_Wr [.ref q, .int (nI N)] D [(q, .inl (cA, L, .inl g))] [(cA, .int)] sz) (lc_QW (S := (Nat × ClassId)) D (va_A [(q, .inl (cA, L, .inl g))] sz) (fun u => some (.ref u.1)) (fun u => [(q, .inl (cA, L, .inl g)), (u.1, .inl (u.2, N, .inl (va_cpy g (fun _ => 0) 0 0 L)))]) (fun u => [(cA, .int), (u.2, .int)]) (fun _ => True)) 1 N (va_A [(q, .inl (cA, L, .inl g))] sz) := by
  refine Met.ofW (cc := cJ_copyOf) (maxL := 3) (ret := (some (.array .int))) (by decide) rfl ?_
  intro p e' s m args below meth c s₁ B hml hv
  obtain ⟨rfl, hsz, hP, hK, hD0⟩ := hv
  have hx := B.exec
  have hb := B.bytes
  have hr := B.returns
  have hts := atoms_spec (ws := wsJ_copyOf) B.pre
  have hown : s.vm.findClass RJ = some m.cls := findClass_of_methodNamed B.named
  have hlocks := B.notSynchronized
  subst hsz
  have hD := hD0.self (sz := s.heap.size)
  generalize hAe : va_A [(q, .inl (cA, L, .inl g))] s.heap.size = A at hD ⊢
  have hA : ∀ q : Nat, s.heap.size ≤ q → A q := fun q h => by rw [← hAe]; exact Or.inr h
  have hS : va_S A s.heap s.heap [] := va_S.rf
  have hP : va_P D vwCl [(q, .inl (cA, L, .inl g))] s.heap := hP
  have hl := lv_entry ([.ref q, .int (nI N)]) (n := 3) (Nat.le_of_ble_eq_true rfl)
  rw [lg_entry_eq]
  generalize (lg_sl ([.ref q, .int (nI N)]) ++ List.replicate (3 - (lg_sl ([.ref q, .int (nI N)])).length) Slot.unset).toArray = ls at hl ⊢
  have hl : lv_has ls 3 [(0, .ref q), (1, .int (nI N))] := hl
  refine lv_iload_n hx hb dJ_copyOf_0 rfl (lv_at hl 1 rfl) ?_
  refine lv_aload_n hx hb dJ_copyOf_1 rfl (lv_at hl 0 rfl) ?_
  refine va_alen (D := D) (v := nI L) hx hb hK hP 0 0 rfl rfl rfl dJ_copyOf_2 ?_
  refine lv_icmp_ne hx hb dJ_copyOf_3 (tgt := 14) rfl (fun _ => ?_) (fun hc => absurd hc (fun hc => absurd ((nI_eq (by omega) (by omega)).mp hc) (by omega)))
  refine lv_iload_n hx hb dJ_copyOf_14 rfl (lv_at hl 1 rfl) ?_
  refine va_newa (D := D) (a0 := (N, .inl (fun _ => 0))) (N' := N) hx hb (atype := .int) (hts _ (List.mem_cons_of_mem _ lb_45)) rfl hK hP hD hS hA (fun _ => rfl) (nI_pos (by omega)) (nI_clamp (by omega)) (by show N * 4 ≤ 536870912; omega) (Nat.le_refl _) (by show 0 + N ≤ N; omega) dJ_copyOf_15 (fun q1 cA1 H hK hP hD hS => ?_)
  have hP : va_P D vwCl [(q, .inl (cA, L, .inl g)), (q1, .inl (cA1, N, .inl (fun _ => 0)))] H := hP
  have hD : va_D A [(q, .inl (cA, L, .inl g)), (q1, .inl (cA1, N, .inl (fun _ => 0)))] := hD
  have hK : va_K D vwCl [(cA, .int), (cA1, .int)] s := hK
  refine lv_astore_n hx hb dJ_copyOf_17 rfl hl (by decide) rfl (fun ls hl => ?_)
  have hl : lv_has ls 3 [(2, .ref q1), (0, .ref q), (1, .int (nI N))] := hl
  refine lv_aload_n hx hb dJ_copyOf_18 rfl (lv_at hl 1 rfl) ?_
  refine lv_iconst (v := 0) hx hb dJ_copyOf_19 (by decide) ?_
  refine lv_aload_n hx hb dJ_copyOf_20 rfl (lv_at hl 0 rfl) ?_
  refine lv_iconst (v := 0) hx hb dJ_copyOf_21 (by decide) ?_
  refine lv_aload_n hx hb dJ_copyOf_22 rfl (lv_at hl 1 rfl) ?_
  refine va_alen (D := D) (v := nI L) hx hb hK hP 0 0 rfl rfl rfl dJ_copyOf_23 ?_
  refine lv_iload_n hx hb dJ_copyOf_24 rfl (lv_at hl 2 rfl) ?_
  refine va_mmin hx hb (hml.trans hl.1.symm) hown (hts _ (List.mem_cons_of_mem _ lb_165)) (hts _ (List.mem_cons_of_mem _ lb_150)) (hts _ (List.mem_cons_of_mem _ lb_23)) (hts _ (List.mem_cons_of_mem _ lb_151)) (Nat.le_of_ble_eq_true rfl) (Nat.le_of_ble_eq_true rfl) (Nat.le_refl _) (by show 0 + N ≤ N; omega) dJ_copyOf_25 ?_
  refine lc_top (y := nI L) ((lc_min (by omega) (by omega)).trans (congrArg nI (by omega))) ?_
  have eL : (nI L).toNatClampNeg = L := nI_clamp (by omega)
  have e0 : (0 : Int32).toNatClampNeg = 0 := sb_cl0
  refine va_copyi (D := D) (ty := .int) hx hb (hml.trans hl.1.symm) hown (hts _ (List.mem_cons_of_mem _ lb_166)) (hts _ (List.mem_cons_of_mem _ lb_168)) (hts _ (List.mem_cons_of_mem _ lb_167)) (hts _ (List.mem_cons_of_mem _ lb_25)) hK hP hD hS 0 1 0 1 rfl rfl rfl rfl rfl (by decide) (by decide) (nI_pos (by omega)) (by rw [e0, eL]; omega) (by rw [e0, eL]; omega) (fun _ _ => rfl) (Nat.le_of_ble_eq_true rfl) (Nat.le_of_ble_eq_true rfl) dJ_copyOf_28 (fun H locs hP hD hS => ?_)
  rw [e0, eL] at hP hD
  have hP : va_P D vwCl [(q, .inl (cA, L, .inl g)), (q1, .inl (cA1, N, .inl (va_cpy g (fun _ => 0) 0 0 L)))] H := hP
  have hD : va_D A [(q, .inl (cA, L, .inl g)), (q1, .inl (cA1, N, .inl (va_cpy g (fun _ => 0) 0 0 L)))] := hD
  refine lv_aload_n hx hb dJ_copyOf_31 rfl (lv_at hl 0 rfl) ?_
  refine W.widen (k := 1) (n := N) (Nat.le_refl _) (by omega) ?_
  exact W.aret (v := .ref q1) hx hb hr (Or.inr ⟨_, rfl⟩) (Or.inr ⟨_, rfl⟩) (fun t ht hW => ⟨(q1, cA1), rfl, trivial, by rw [ht]; exact hP, va_K.moved hW.alike hK, hD, hS.F ht⟩) hS.2.2 dJ_copyOf_32
set_option maxHeartbeats 4000000 in
set_option maxRecDepth 100000 in
theorem k_makeRoom (l : Launch) (D : va_G) (h q : Nat) (cA : ClassId) (sz : Nat) (n e : Int32) (L md : Nat) (g : Nat → Int32) (hL5 : 512 ≤ L) (hL : L ≤ 20000) (hmd : md ≤ 20000) (hmd5 : md ≤ L + 500) : Met l yX0_makeRoomFor wsX0_makeRoomFor ({ frames := 2, cells := 1, slots := lc_gr L md, locals := 60 }) (lc_Wr [.ref h, .int (nI md)] D [(h, .inr (0, [.ref q, .int n, .int e])), (q, .inl (cA, L, .inl g))] [(cA, .int)] sz) (lc_QW (S := (Nat × ClassId × (Nat → Int32))) D (va_A [(h, .inr (0, [.ref q, .int n, .int e])), (q, .inl (cA, L, .inl g))] sz) (fun u => none) (fun u => [(h, .inr (0, [.ref u.1, .int n, .int e])), (u.1, .inl (u.2.1, lc_L L md, .inl u.2.2))]) (fun u => [(u.2.1, .int)]) (fun u => ∀ j, j < L → u.2.2 j = g j)) 1 (lc_gr L md) (va_A [(h, .inr (0, [.ref q, .int n, .int e])), (q, .inl (cA, L, .inl g))] sz) := by
  refine Met.ofW (cc := cX0_makeRoomFor) (maxL := 3) (ret := none) (by decide) rfl ?_
  intro p e' s m args below meth c s₁ B hml hv
  obtain ⟨rfl, hsz, hP, hK, hD0⟩ := hv
  have hx := B.exec
  have hb := B.bytes
  have hr := B.returns
  have hts := atoms_spec (ws := wsX0_makeRoomFor) B.pre
  have hown : s.vm.findClass RX0 = some m.cls := findClass_of_methodNamed B.named
  have hlocks := B.notSynchronized
  have hinX0 : ∀ w ∈ u_ws RX0 TX0 3, w ∈ wsX0_makeRoomFor := fun w h => List.mem_cons_of_mem _ (lb_X0 w h)
  subst hsz
  have hD := hD0.self (sz := s.heap.size)
  generalize hAe : va_A [(h, .inr (0, [.ref q, .int n, .int e])), (q, .inl (cA, L, .inl g))] s.heap.size = A at hD ⊢
  have hA : ∀ q : Nat, s.heap.size ≤ q → A q := fun q h => by rw [← hAe]; exact Or.inr h
  have hS : va_S A s.heap s.heap [] := va_S.rf
  have hP : va_P D vwCl [(h, .inr (0, [.ref q, .int n, .int e])), (q, .inl (cA, L, .inl g))] s.heap := hP
  skip
  have hl := lv_entry ([.ref h, .int (nI md)]) (n := 3) (Nat.le_of_ble_eq_true rfl)
  rw [lg_entry_eq]
  generalize (lg_sl ([.ref h, .int (nI md)]) ++ List.replicate (3 - (lg_sl ([.ref h, .int (nI md)])).length) Slot.unset).toArray = ls at hl ⊢
  have hl : lv_has ls 3 [(0, .ref h), (1, .int (nI md))] := hl
  rcases Nat.lt_or_ge L md with hgr | hno
  · refine lv_iload_n hx hb dX0_makeRoomFor_0 rfl (lv_at hl 1 rfl) ?_
    refine lv_aload_n hx hb dX0_makeRoomFor_1 rfl (lv_at hl 0 rfl) ?_
    refine va_get (D := D) (ci := 0) (v := .ref q) (C := RX0) (T := TX0) (N := 3) hx hb hts hinX0 hown hK hP 0 rfl rfl 0 (by decide) (hts _ (List.mem_cons_of_mem _ lb_35)) (fun _ h9 => h9) rfl dX0_makeRoomFor_2 ?_
    refine va_alen (D := D) (v := nI L) hx hb hK hP 1 0 rfl rfl rfl dX0_makeRoomFor_5 ?_
    refine lv_icmp_gt hx hb dX0_makeRoomFor_6 (tgt := 10) rfl (fun _ => ?_) (fun hc => absurd (nI_lt hgr (by omega)) hc)
    have eL : lc_L L md = min (2 * L) 20000 := if_neg (by omega)
    have eg : lc_gr L md = min (2 * L) 20000 := if_neg (by omega)
    refine lv_iconst (v := 2) hx hb dX0_makeRoomFor_10 (by decide) ?_
    refine lv_aload_n hx hb dX0_makeRoomFor_11 rfl (lv_at hl 0 rfl) ?_
    refine va_get (D := D) (ci := 0) (v := .ref q) (C := RX0) (T := TX0) (N := 3) hx hb hts hinX0 hown hK hP 0 rfl rfl 0 (by decide) (hts _ (List.mem_cons_of_mem _ lb_35)) (fun _ h9 => h9) rfl dX0_makeRoomFor_12 ?_
    refine va_alen (D := D) (v := nI L) hx hb hK hP 1 0 rfl rfl rfl dX0_makeRoomFor_15 ?_
    refine lv_imul hx hb dX0_makeRoomFor_16 ?_
    refine lc_top (y := nI (2 * L)) (pk_mul 2 L) ?_
    refine lv_sipush (v := 20000) hx hb dX0_makeRoomFor_17 (by decide) ?_
    refine va_mmin hx hb (hml.trans hl.1.symm) hown (hts _ (List.mem_cons_of_mem _ lb_149)) (hts _ (List.mem_cons_of_mem _ lb_150)) (hts _ (List.mem_cons_of_mem _ lb_23)) (hts _ (List.mem_cons_of_mem _ lb_151)) (Nat.le_of_ble_eq_true rfl) (Nat.le_of_ble_eq_true rfl) (Nat.zero_le _) (Nat.zero_le _) dX0_makeRoomFor_20 ?_
    refine lc_top (y := nI (min (2 * L) 20000)) (lc_min (b := 20000) (by omega) (by omega)) ?_
    refine lv_istore_n hx hb dX0_makeRoomFor_23 rfl hl (by decide) rfl (fun ls hl => ?_)
    have hl : lv_has ls 3 [(2, .int (nI (min (2 * L) 20000))), (0, .ref h), (1, .int (nI md))] := hl
    refine lv_aload_n hx hb dX0_makeRoomFor_24 rfl (lv_at hl 1 rfl) ?_
    refine lv_aload_n hx hb dX0_makeRoomFor_25 rfl (lv_at hl 1 rfl) ?_
    refine va_get (D := D) (ci := 0) (v := .ref q) (C := RX0) (T := TX0) (N := 3) hx hb hts hinX0 hown hK hP 0 rfl rfl 0 (by decide) (hts _ (List.mem_cons_of_mem _ lb_35)) (fun _ h9 => h9) rfl dX0_makeRoomFor_26 ?_
    refine lv_iload_n hx hb dX0_makeRoomFor_29 rfl (lv_at hl 2 rfl) ?_
    refine lv_iload_n hx hb dX0_makeRoomFor_30 rfl (lv_at hl 0 rfl) ?_
    refine va_mmax hx hb (hml.trans hl.1.symm) hown (hts _ (List.mem_cons_of_mem _ lb_152)) (hts _ (List.mem_cons_of_mem _ lb_153)) (hts _ (List.mem_cons_of_mem _ lb_23)) (hts _ (List.mem_cons_of_mem _ lb_154)) (Nat.le_of_ble_eq_true rfl) (Nat.le_of_ble_eq_true rfl) (Nat.zero_le _) (Nat.zero_le _) dX0_makeRoomFor_31 ?_
    refine lc_top (y := nI (min (2 * L) 20000)) (lc_max (by omega) (by omega)) ?_
    have hF := va_free (wc := [(q, .inl (cA, L, .inl g))]) hD hS hA [1] rfl
    have hPc := hP.sub (ws' := [(q, .inl (cA, L, .inl g))]) [1] rfl
    have hDc := hD.sub (ws' := [(q, .inl (cA, L, .inl g))]) [1] (by decide) rfl
    refine lc_callW (va_runS (As := [.ref q, .int (nI (min (2 * L) 20000))]) (rest := [.ref h]) ⟨hx, hb, hml, hown, hts⟩ (k_copyOf l D q cA s.heap.size L (min (2 * L) 20000) g (by omega) (by omega)) (va_cwS 2 hts gX0_makeRoomFor_J_copyOf rfl rfl rfl (by decide +kernel) ⟨Nat.le_of_ble_eq_true rfl, Nat.le_of_ble_eq_true rfl⟩) (lc_WrS hPc hK hDc) rfl rfl hl.1 rfl (lv_room (Nat.le_of_ble_eq_true rfl)) dX0_makeRoomFor_34 ⟨Nat.le_refl _, by show 0 + min (2 * L) 20000 ≤ lc_gr L md; omega⟩) hS (fun q h => hF q h) (fun u H locs hp hP1 hK1 hD1 hz hk hS => ?_)
    obtain ⟨q1, cA1⟩ := u
    dsimp only at hp hP1 hK1 hD1
    obtain ⟨hP, hD⟩ := va_join (wr := [(h, .inr (0, [.ref q, .int n, .int e]))]) (w1 := [(q, .inl (cA, L, .inl g)), (q1, .inl (cA1, min (2 * L) 20000, .inl (va_cpy g (fun _ => 0) 0 0 L)))]) hP hD [1] [0] rfl rfl (by decide) (by decide) hk hF hP1 hD1
    have hK := (hK.sub (tys' := []) [] rfl).app hK1
    have hK : va_K D vwCl [(cA, .int), (cA1, .int)] s := hK
    have hP : va_P D vwCl [(h, .inr (0, [.ref q, .int n, .int e])), (q, .inl (cA, L, .inl g)), (q1, .inl (cA1, min (2 * L) 20000, .inl (va_cpy g (fun _ => 0) 0 0 L)))] H := hP
    have hD : va_D A [(h, .inr (0, [.ref q, .int n, .int e])), (q, .inl (cA, L, .inl g)), (q1, .inl (cA1, min (2 * L) 20000, .inl (va_cpy g (fun _ => 0) 0 0 L)))] := hD
    refine W.eq (g2 := F0 m 37 ls [.ref q1, .ref h]) rfl ?_
    refine va_put (D := D) (ci := 0) (v := .ref q1) (ty := .array .int) (C := RX0) (T := TX0) (N := 3) hx hb hts hinX0 tyX0 tyX0_ok nmX0 hown hK hP hD hS 0 rfl rfl 0 (by decide) (hts _ (List.mem_cons_of_mem _ lb_35)) (fun _ h9 => h9) rfl (by decide +kernel) rfl rfl (Nat.le_of_ble_eq_true rfl) dX0_makeRoomFor_37 (fun H locs hP hD hS => ?_)
    have hP : va_P D vwCl [(h, .inr (0, [.ref q1, .int n, .int e])), (q, .inl (cA, L, .inl g)), (q1, .inl (cA1, min (2 * L) 20000, .inl (va_cpy g (fun _ => 0) 0 0 L)))] H := hP
    have hD : va_D A [(h, .inr (0, [.ref q1, .int n, .int e])), (q, .inl (cA, L, .inl g)), (q1, .inl (cA1, min (2 * L) 20000, .inl (va_cpy g (fun _ => 0) 0 0 L)))] := hD
    rw [← eL] at hP hD
    have hP := hP.sub (ws' := [(h, .inr (0, [.ref q1, .int n, .int e])), (q1, .inl (cA1, lc_L L md, .inl (va_cpy g (fun _ => 0) 0 0 L)))]) [0, 2] rfl
    have hD := hD.sub (ws' := [(h, .inr (0, [.ref q1, .int n, .int e])), (q1, .inl (cA1, lc_L L md, .inl (va_cpy g (fun _ => 0) 0 0 L)))]) [0, 2] (by decide) rfl
    have hK := hK.sub (tys' := [(cA1, .int)]) [1] rfl
    refine W.widen (k := 1) (n := lc_gr L md) (Nat.le_refl _) (by omega) ?_
    exact W.vret hx hb hr (fun t ht hW => ⟨(q1, cA1, va_cpy g (fun _ => 0) 0 0 L), rfl, (fun j hj => by show va_cpy g (fun _ => 0) 0 0 L j = g j; rw [pk_cpy_in (by omega) (by omega)]; congr 1; omega), by rw [ht]; exact hP, va_K.moved hW.alike hK, hD, hS.F ht⟩) hS.2.2 dX0_makeRoomFor_40
  · refine lv_iload_n hx hb dX0_makeRoomFor_0 rfl (lv_at hl 1 rfl) ?_
    refine lv_aload_n hx hb dX0_makeRoomFor_1 rfl (lv_at hl 0 rfl) ?_
    refine va_get (D := D) (ci := 0) (v := .ref q) (C := RX0) (T := TX0) (N := 3) hx hb hts hinX0 hown hK hP 0 rfl rfl 0 (by decide) (hts _ (List.mem_cons_of_mem _ lb_35)) (fun _ h9 => h9) rfl dX0_makeRoomFor_2 ?_
    refine va_alen (D := D) (v := nI L) hx hb hK hP 1 0 rfl rfl rfl dX0_makeRoomFor_5 ?_
    refine lv_icmp_gt hx hb dX0_makeRoomFor_6 (tgt := 10) rfl (fun hc => absurd hc (nI_nlt hno (by omega))) (fun _ => ?_)
    have eL : lc_L L md = L := if_pos hno
    have hP : va_P D vwCl [(h, .inr (0, [.ref q, .int n, .int e])), (q, .inl (cA, lc_L L md, .inl g))] s.heap := by rw [eL]; exact hP
    have hD : va_D A [(h, .inr (0, [.ref q, .int n, .int e])), (q, .inl (cA, lc_L L md, .inl g))] := by rw [eL]; exact hD
    refine W.widen (k := 1) (n := lc_gr L md) (Nat.zero_le _) (Nat.zero_le _) ?_
    exact W.vret hx hb hr (fun t ht hW => ⟨(q, cA, g), rfl, (fun _ _ => rfl), by rw [ht]; exact hP, va_K.moved hW.alike hK, hD, hS.F ht⟩) hS.2.2 dX0_makeRoomFor_9
set_option maxHeartbeats 4000000 in
set_option maxRecDepth 100000 in
theorem k_insert (l : Launch) (D : va_G) (h q : Nat) (cA : ClassId) (sz : Nat) (L c0 : Nat) (g : Nat → Int32) (hL5 : 512 ≤ L) (hL : L ≤ 20000) (hc0 : c0 ≤ L) (i0 k0 : Nat) (v0 s0 : Int32) (hi0 : i0 ≤ c0) (hk0 : 1 ≤ k0) (hk5 : k0 ≤ 500) (hfit : c0 + k0 ≤ 20000) : Met l yX0_insert wsX0_insert ({ frames := 6, cells := 1, slots := lc_gr L (c0 + k0), locals := 90 }) (lc_Wr [.ref h, .int (nI i0), .int v0, .int s0, .int (nI k0)] D [(h, .inr (0, [.ref q, .int (nI c0), .int (nI (lc_cnt g c0))])), (q, .inl (cA, L, .inl g))] [(cA, .int)] sz) (lc_QW (S := (Nat × ClassId × (Nat → Int32))) D (va_A [(h, .inr (0, [.ref q, .int (nI c0), .int (nI (lc_cnt g c0))])), (q, .inl (cA, L, .inl g))] sz) (fun u => some (.int (nI (c0 + k0)))) (fun u => [(h, .inr (0, [.ref u.1, .int (nI (c0 + k0)), .int (nI (lc_cnt u.2.2 (c0 + k0)))])), (u.1, .inl (u.2.1, lc_L L (c0 + k0), .inl u.2.2))]) (fun u => [(u.2.1, .int)]) (fun u => ∀ j, j < c0 + k0 → u.2.2 j = lc_ins g i0 v0 s0 k0 j)) 1 (lc_gr L (c0 + k0)) (va_A [(h, .inr (0, [.ref q, .int (nI c0), .int (nI (lc_cnt g c0))])), (q, .inl (cA, L, .inl g))] sz) := by
  refine Met.ofW (cc := cX0_insert) (maxL := 5) (ret := (some .int)) (by decide) rfl ?_
  intro p e' s m args below meth c s₁ B hml hv
  obtain ⟨rfl, hsz, hP, hK, hD0⟩ := hv
  have hx := B.exec
  have hb := B.bytes
  have hr := B.returns
  have hts := atoms_spec (ws := wsX0_insert) B.pre
  have hown : s.vm.findClass RX0 = some m.cls := findClass_of_methodNamed B.named
  have hlocks := B.notSynchronized
  have hinX0 : ∀ w ∈ u_ws RX0 TX0 3, w ∈ wsX0_insert := fun w h => List.mem_cons_of_mem _ (lb_X0 w h)
  subst hsz
  have hD := hD0.self (sz := s.heap.size)
  generalize hAe : va_A [(h, .inr (0, [.ref q, .int (nI c0), .int (nI (lc_cnt g c0))])), (q, .inl (cA, L, .inl g))] s.heap.size = A at hD ⊢
  have hA : ∀ q : Nat, s.heap.size ≤ q → A q := fun q h => by rw [← hAe]; exact Or.inr h
  have hS : va_S A s.heap s.heap [] := va_S.rf
  have hP : va_P D vwCl [(h, .inr (0, [.ref q, .int (nI c0), .int (nI (lc_cnt g c0))])), (q, .inl (cA, L, .inl g))] s.heap := hP
  skip
  have hl := lv_entry ([.ref h, .int (nI i0), .int v0, .int s0, .int (nI k0)]) (n := 5) (Nat.le_of_ble_eq_true rfl)
  rw [lg_entry_eq]
  generalize (lg_sl ([.ref h, .int (nI i0), .int v0, .int s0, .int (nI k0)]) ++ List.replicate (5 - (lg_sl ([.ref h, .int (nI i0), .int v0, .int s0, .int (nI k0)])).length) Slot.unset).toArray = ls at hl ⊢
  have hl : lv_has ls 5 [(0, .ref h), (1, .int (nI i0)), (2, .int v0), (3, .int s0), (4, .int (nI k0))] := hl
  obtain ⟨hm1, hm2, hm3⟩ := lc_L_in hL5 hL hfit (show c0 + k0 ≤ L + 500 by omega)
  have hle := lc_cnt_le g c0
  refine lv_iload_n hx hb dX0_insert_0 rfl (lv_at hl 1 rfl) ?_
  refine lv_if_lt hx hb dX0_insert_1 (tgt := 26) rfl (fun hc => absurd hc (nI_pos (by omega))) (fun _ => ?_)
  refine lv_iload_n hx hb dX0_insert_4 rfl (lv_at hl 1 rfl) ?_
  refine lv_aload_n hx hb dX0_insert_5 rfl (lv_at hl 0 rfl) ?_
  refine va_get (D := D) (ci := 0) (v := .int (nI c0)) (C := RX0) (T := TX0) (N := 3) hx hb hts hinX0 hown hK hP 0 rfl rfl 1 (by decide) (hts _ (List.mem_cons_of_mem _ lb_36)) (fun _ h9 => h9) rfl dX0_insert_6 ?_
  refine lv_icmp_gt hx hb dX0_insert_9 (tgt := 26) rfl (fun hc => absurd hc (nI_nlt hi0 (by omega))) (fun _ => ?_)
  refine lv_iload hx hb dX0_insert_12 (lv_at hl 4 rfl) ?_
  refine lv_iconst (v := 1) hx hb dX0_insert_14 (by decide) ?_
  refine lv_icmp_lt hx hb dX0_insert_15 (tgt := 26) rfl (fun hc => absurd hc (nI_nlt (b := 1) hk0 (by omega))) (fun _ => ?_)
  refine lv_iload hx hb dX0_insert_18 (lv_at hl 4 rfl) ?_
  refine lv_sipush (v := 500) hx hb dX0_insert_20 (by decide) ?_
  refine lv_icmp_le hx hb dX0_insert_23 (tgt := 34) rfl (fun _ => ?_) (fun hc => absurd (nI_le (b := 500) hk5 (by omega)) hc)
  refine lv_iload hx hb dX0_insert_34 (lv_at hl 4 rfl) ?_
  refine lv_sipush (v := 20000) hx hb dX0_insert_36 (by decide) ?_
  refine lv_aload_n hx hb dX0_insert_39 rfl (lv_at hl 0 rfl) ?_
  refine va_get (D := D) (ci := 0) (v := .int (nI c0)) (C := RX0) (T := TX0) (N := 3) hx hb hts hinX0 hown hK hP 0 rfl rfl 1 (by decide) (hts _ (List.mem_cons_of_mem _ lb_36)) (fun _ h9 => h9) rfl dX0_insert_40 ?_
  refine lv_isub hx hb dX0_insert_43 ?_
  refine lc_top (y := nI (20000 - c0)) (pk_sub (a := 20000) (show c0 ≤ 20000 by omega)) ?_
  refine lv_icmp_le hx hb dX0_insert_44 (tgt := 55) rfl (fun _ => ?_) (fun hc => absurd (nI_le (show k0 ≤ 20000 - c0 by omega) (by omega)) hc)
  refine lv_aload_n hx hb dX0_insert_55 rfl (lv_at hl 0 rfl) ?_
  refine lv_aload_n hx hb dX0_insert_56 rfl (lv_at hl 0 rfl) ?_
  refine va_get (D := D) (ci := 0) (v := .int (nI c0)) (C := RX0) (T := TX0) (N := 3) hx hb hts hinX0 hown hK hP 0 rfl rfl 1 (by decide) (hts _ (List.mem_cons_of_mem _ lb_36)) (fun _ h9 => h9) rfl dX0_insert_57 ?_
  refine lv_iload hx hb dX0_insert_60 (lv_at hl 4 rfl) ?_
  refine lv_iadd hx hb dX0_insert_62 ?_
  refine lc_top (y := nI (c0 + k0)) (nI_add c0 k0) ?_
  have hF := va_free (wc := [(h, .inr (0, [.ref q, .int (nI c0), .int (nI (lc_cnt g c0))])), (q, .inl (cA, L, .inl g))]) hD hS hA [0, 1] rfl
  refine lc_callW (va_runV (As := [.int (nI (c0 + k0))]) (rest := []) ⟨hx, hb, hml, hown, hts⟩ (k_makeRoom l D h q cA s.heap.size (nI c0) (nI (lc_cnt g c0)) L (c0 + k0) g hL5 hL hfit (by omega)) (cwV 1 hts gX0_insert_X0_makeRoomFor rfl rfl rfl (by decide +kernel) ⟨Nat.le_of_ble_eq_true rfl, Nat.le_of_ble_eq_true rfl⟩) (lc_WrV (q0 := 0) (ci := 0) (q := (RX0, TX0, 3)) hP hK hD rfl rfl) rfl rfl hl.1 rfl (lv_room (Nat.le_of_ble_eq_true rfl)) dX0_insert_63 ⟨Nat.le_refl _, by show 0 + lc_gr L (c0 + k0) ≤ lc_gr L (c0 + k0); omega⟩) hS (fun q h => hF q h) (fun u H locs hp hP hK hD1 hz hk hS => ?_)
  obtain ⟨q1, cA1, g1⟩ := u
  dsimp only at hp hP hK hD1
  have hp1 := hp
  have hD := hD1.weaken (fun _ _ _ h => hF _ h)
  have hK : va_K D vwCl [(cA1, .int)] s := hK
  have hP : va_P D vwCl [(h, .inr (0, [.ref q1, .int (nI c0), .int (nI (lc_cnt g c0))])), (q1, .inl (cA1, lc_L L (c0 + k0), .inl g1))] H := hP
  have hD : va_D A [(h, .inr (0, [.ref q1, .int (nI c0), .int (nI (lc_cnt g c0))])), (q1, .inl (cA1, lc_L L (c0 + k0), .inl g1))] := hD
  refine W.eq (g2 := F0 m 66 ls []) rfl ?_
  generalize hL1 : lc_L L (c0 + k0) = L1 at hP hD hm1 hm2 hm3 ⊢
  refine lv_aload_n hx hb dX0_insert_66 rfl (lv_at hl 0 rfl) ?_
  refine lv_iload_n hx hb dX0_insert_67 rfl (lv_at hl 1 rfl) ?_
  refine lv_iload_n hx hb dX0_insert_68 rfl (lv_at hl 1 rfl) ?_
  refine lv_iload hx hb dX0_insert_69 (lv_at hl 4 rfl) ?_
  refine lv_iadd hx hb dX0_insert_71 ?_
  refine lc_top (y := nI (i0 + k0)) (nI_add i0 k0) ?_
  have hF := va_free (wc := [(h, .inr (0, [.ref q1, .int (nI c0), .int (nI (lc_cnt g c0))])), (q1, .inl (cA1, L1, .inl g1))]) hD hS hA [0, 1] rfl
  refine lc_callW (va_runV (As := [.int (nI i0), .int (nI (i0 + k0))]) (rest := []) ⟨hx, hb, hml, hown, hts⟩ (k_moveTail l D h q1 cA1 H.size (nI (lc_cnt g c0)) L1 c0 g1 hm3 (by omega) i0 (i0 + k0) hi0 (by omega)) (cwV 2 hts gX0_insert_X0_moveTail rfl rfl rfl (by decide +kernel) ⟨Nat.le_of_ble_eq_true rfl, Nat.le_of_ble_eq_true rfl⟩) (lc_WrV (q0 := 0) (ci := 0) (q := (RX0, TX0, 3)) hP hK hD rfl rfl) rfl rfl hl.1 rfl (lv_room (Nat.le_of_ble_eq_true rfl)) dX0_insert_72 ⟨Nat.le_refl _, by show 0 + lc_gr L (c0 + k0) + 0 ≤ lc_gr L (c0 + k0); omega⟩) hS (fun q h => hF q h) (fun u H locs hp hP hK hD1 hz hk hS => ?_)
  have hD := hD1.weaken (fun _ _ _ h => hF _ h)
  have hK : va_K D vwCl [(cA1, .int)] s := hK
  have hP : va_P D vwCl [(h, .inr (0, [.ref q1, .int (nI (c0 + (i0 + k0) - i0)), .int (nI (lc_cnt g c0))])), (q1, .inl (cA1, L1, .inl (va_cpy g1 g1 i0 (i0 + k0) (c0 - i0))))] H := hP
  have hD : va_D A [(h, .inr (0, [.ref q1, .int (nI (c0 + (i0 + k0) - i0)), .int (nI (lc_cnt g c0))])), (q1, .inl (cA1, L1, .inl (va_cpy g1 g1 i0 (i0 + k0) (c0 - i0))))] := hD
  refine W.eq (g2 := F0 m 75 ls []) rfl ?_
  rw [show c0 + (i0 + k0) - i0 = c0 + k0 by omega] at hP hD
  generalize hg2 : va_cpy g1 g1 i0 (i0 + k0) (c0 - i0) = g2 at hP hD
  refine lv_aload_n hx hb dX0_insert_75 rfl (lv_at hl 0 rfl) ?_
  refine lv_iload_n hx hb dX0_insert_76 rfl (lv_at hl 1 rfl) ?_
  refine lv_iload_n hx hb dX0_insert_77 rfl (lv_at hl 2 rfl) ?_
  refine lv_iload_n hx hb dX0_insert_78 rfl (lv_at hl 3 rfl) ?_
  refine lv_iload hx hb dX0_insert_79 (lv_at hl 4 rfl) ?_
  have hF := va_free (wc := [(h, .inr (0, [.ref q1, .int (nI (c0 + k0)), .int (nI (lc_cnt g c0))])), (q1, .inl (cA1, L1, .inl g2))]) hD hS hA [0, 1] rfl
  refine lc_callW (va_runV (As := [.int (nI i0), .int v0, .int s0, .int (nI k0)]) (rest := []) ⟨hx, hb, hml, hown, hts⟩ (k_fill l D h q1 cA1 H.size (nI (c0 + k0)) (nI (lc_cnt g c0)) L1 g2 hm3 i0 k0 v0 s0 (by omega)) (cwV 4 hts gX0_insert_X0_fill rfl rfl rfl (by decide +kernel) ⟨Nat.le_of_ble_eq_true rfl, Nat.le_of_ble_eq_true rfl⟩) (lc_WrV (q0 := 0) (ci := 0) (q := (RX0, TX0, 3)) hP hK hD rfl rfl) rfl rfl hl.1 rfl (lv_room (Nat.le_of_ble_eq_true rfl)) dX0_insert_81 ⟨Nat.le_refl _, by show 0 + lc_gr L (c0 + k0) + 0 + 0 ≤ lc_gr L (c0 + k0); omega⟩) hS (fun q h => hF q h) (fun u H locs hp hP hK hD1 hz hk hS => ?_)
  have hp2 := hp
  obtain ⟨g3, hg3⟩ : ∃ z : Nat → Int32, z = u := ⟨u, rfl⟩
  rw [← hg3] at hp2 hP hD1
  have hD := hD1.weaken (fun _ _ _ h => hF _ h)
  have hK : va_K D vwCl [(cA1, .int)] s := hK
  have hP : va_P D vwCl [(h, .inr (0, [.ref q1, .int (nI (c0 + k0)), .int (nI (lc_cnt g c0))])), (q1, .inl (cA1, L1, .inl g3))] H := hP
  have hD : va_D A [(h, .inr (0, [.ref q1, .int (nI (c0 + k0)), .int (nI (lc_cnt g c0))])), (q1, .inl (cA1, L1, .inl g3))] := hD
  refine W.eq (g2 := F0 m 84 ls []) rfl ?_
  have hpost : ∀ j, j < c0 + k0 → g3 j = lc_ins g i0 v0 s0 k0 j := by
    intro j hj
    rw [hp2 j]
    unfold lc_ins
    by_cases h1 : j < i0
    · rw [if_pos h1, if_neg (by omega), ← hg2, pk_cpy_out (by omega), hp1 _ (by omega)]
    · rw [if_neg h1]
      by_cases h2 : j < i0 + k0
      · rw [if_pos h2, if_pos (by omega)]
      · rw [if_neg h2, if_neg (by omega), ← hg2, pk_cpy_in (by omega) (by omega), hp1 _ (by omega)]; congr 1; omega
  have hcnt := lc_ins_cnt hi0 hpost
  have hle3 := lc_cnt_le g3 (c0 + k0)
  refine lv_aload_n hx hb dX0_insert_84 rfl (lv_at hl 0 rfl) ?_
  refine lv_dup hx hb dX0_insert_85 rfl ?_
  refine va_get (D := D) (ci := 0) (v := .int (nI (lc_cnt g c0))) (C := RX0) (T := TX0) (N := 3) hx hb hts hinX0 hown hK hP 0 rfl rfl 2 (by decide) (hts _ (List.mem_cons_of_mem _ lb_37)) (fun _ h9 => h9) rfl dX0_insert_86 ?_
  refine lv_aload_n hx hb dX0_insert_89 rfl (lv_at hl 0 rfl) ?_
  refine lv_iload_n hx hb dX0_insert_90 rfl (lv_at hl 1 rfl) ?_
  refine lv_iload_n hx hb dX0_insert_91 rfl (lv_at hl 1 rfl) ?_
  refine lv_iload hx hb dX0_insert_92 (lv_at hl 4 rfl) ?_
  refine lv_iadd hx hb dX0_insert_94 ?_
  refine lc_top (y := nI (i0 + k0)) (nI_add i0 k0) ?_
  refine lc_callR (W.runV (As := [.int (nI i0), .int (nI (i0 + k0))]) (rest := [.int (nI (lc_cnt g c0)), .ref h]) ⟨hx, hb, hml, hown, hts⟩ (k_lineEndsIn l D h q1 cA1 (nI (c0 + k0)) (nI (lc_cnt g c0)) L1 g3 hm3 i0 (i0 + k0) (by omega) (by omega)) (cwV 2 hts gX0_insert_X0_lineEndsIn rfl rfl rfl (by decide +kernel) ⟨Nat.le_of_ble_eq_true rfl, Nat.le_of_ble_eq_true rfl⟩) (lc_RdV (q0 := 0) (ci := 0) (q := (RX0, TX0, 3)) hP hK rfl rfl) rfl rfl hl.1 rfl (lv_room (Nat.le_of_ble_eq_true rfl)) dX0_insert_95 ⟨Nat.le_refl _, by show 0 + lc_gr L (c0 + k0) + 0 + 0 + 0 ≤ lc_gr L (c0 + k0); omega⟩) ?_
  refine lv_iadd hx hb dX0_insert_98 ?_
  refine lc_top (y := nI (lc_cnt g3 (c0 + k0))) ((nI_add _ _).trans (congrArg nI hcnt.symm)) ?_
  refine va_put (D := D) (ci := 0) (v := .int (nI (lc_cnt g3 (c0 + k0)))) (ty := .int) (C := RX0) (T := TX0) (N := 3) hx hb hts hinX0 tyX0 tyX0_ok nmX0 hown hK hP hD hS 0 rfl rfl 2 (by decide) (hts _ (List.mem_cons_of_mem _ lb_37)) (fun _ h9 => h9) rfl (by decide +kernel) rfl rfl (Nat.le_of_ble_eq_true rfl) dX0_insert_99 (fun H locs hP hD hS => ?_)
  have hP : va_P D vwCl [(h, .inr (0, [.ref q1, .int (nI (c0 + k0)), .int (nI (lc_cnt g3 (c0 + k0)))])), (q1, .inl (cA1, L1, .inl g3))] H := hP
  have hD : va_D A [(h, .inr (0, [.ref q1, .int (nI (c0 + k0)), .int (nI (lc_cnt g3 (c0 + k0)))])), (q1, .inl (cA1, L1, .inl g3))] := hD
  refine lv_aload_n hx hb dX0_insert_102 rfl (lv_at hl 0 rfl) ?_
  refine va_get (D := D) (ci := 0) (v := .int (nI (c0 + k0))) (C := RX0) (T := TX0) (N := 3) hx hb hts hinX0 hown hK hP 0 rfl rfl 1 (by decide) (hts _ (List.mem_cons_of_mem _ lb_36)) (fun _ h9 => h9) rfl dX0_insert_103 ?_
  subst hL1
  refine W.widen (k := 1) (n := lc_gr L (c0 + k0)) (Nat.le_refl _) (by omega) ?_
  exact W.iret (v := nI (c0 + k0)) hx hb hr (fun t ht hW => ⟨(q1, cA1, g3), rfl, hpost, by rw [ht]; exact hP, va_K.moved hW.alike hK, hD, hS.F ht⟩) hS.2.2 dX0_insert_106
set_option maxHeartbeats 4000000 in
set_option maxRecDepth 100000 in
theorem k_delete (l : Launch) (D : va_G) (h q : Nat) (cA : ClassId) (sz : Nat) (L c0 : Nat) (g : Nat → Int32) (hL : L ≤ 20000) (hc0 : c0 ≤ L) (i0 k0 : Nat) (hk0 : 1 ≤ k0) (hik : i0 + k0 ≤ c0) : Met l yX0_delete wsX0_delete ({ frames := 6, cells := 0, slots := 0, locals := 90 }) (lc_Wr [.ref h, .int (nI i0), .int (nI k0)] D [(h, .inr (0, [.ref q, .int (nI c0), .int (nI (lc_cnt g c0))])), (q, .inl (cA, L, .inl g))] [(cA, .int)] sz) (lc_QW (S := (Nat → Int32)) D (va_A [(h, .inr (0, [.ref q, .int (nI c0), .int (nI (lc_cnt g c0))])), (q, .inl (cA, L, .inl g))] sz) (fun u => some (.int (nI (c0 - k0)))) (fun u => [(h, .inr (0, [.ref q, .int (nI (c0 - k0)), .int (nI (lc_cnt u (c0 - k0)))])), (q, .inl (cA, L, .inl u))]) (fun u => [(cA, .int)]) (fun u => ∀ j, j < c0 - k0 → u j = lc_del g i0 k0 j)) 0 0 (va_A [(h, .inr (0, [.ref q, .int (nI c0), .int (nI (lc_cnt g c0))])), (q, .inl (cA, L, .inl g))] sz) := by
  refine Met.ofW (cc := cX0_delete) (maxL := 3) (ret := (some .int)) (by decide) rfl ?_
  intro p e' s m args below meth c s₁ B hml hv
  obtain ⟨rfl, hsz, hP, hK, hD0⟩ := hv
  have hx := B.exec
  have hb := B.bytes
  have hr := B.returns
  have hts := atoms_spec (ws := wsX0_delete) B.pre
  have hown : s.vm.findClass RX0 = some m.cls := findClass_of_methodNamed B.named
  have hlocks := B.notSynchronized
  have hinX0 : ∀ w ∈ u_ws RX0 TX0 3, w ∈ wsX0_delete := fun w h => List.mem_cons_of_mem _ (lb_X0 w h)
  subst hsz
  have hD := hD0.self (sz := s.heap.size)
  generalize hAe : va_A [(h, .inr (0, [.ref q, .int (nI c0), .int (nI (lc_cnt g c0))])), (q, .inl (cA, L, .inl g))] s.heap.size = A at hD ⊢
  have hA : ∀ q : Nat, s.heap.size ≤ q → A q := fun q h => by rw [← hAe]; exact Or.inr h
  have hS : va_S A s.heap s.heap [] := va_S.rf
  have hP : va_P D vwCl [(h, .inr (0, [.ref q, .int (nI c0), .int (nI (lc_cnt g c0))])), (q, .inl (cA, L, .inl g))] s.heap := hP
  skip
  have hl := lv_entry ([.ref h, .int (nI i0), .int (nI k0)]) (n := 3) (Nat.le_of_ble_eq_true rfl)
  rw [lg_entry_eq]
  generalize (lg_sl ([.ref h, .int (nI i0), .int (nI k0)]) ++ List.replicate (3 - (lg_sl ([.ref h, .int (nI i0), .int (nI k0)])).length) Slot.unset).toArray = ls at hl ⊢
  have hl : lv_has ls 3 [(0, .ref h), (1, .int (nI i0)), (2, .int (nI k0))] := hl
  have hle := lc_cnt_le g c0
  refine lv_iload_n hx hb dX0_delete_0 rfl (lv_at hl 1 rfl) ?_
  refine lv_if_lt hx hb dX0_delete_1 (tgt := 19) rfl (fun hc => absurd hc (nI_pos (by omega))) (fun _ => ?_)
  refine lv_iload_n hx hb dX0_delete_4 rfl (lv_at hl 2 rfl) ?_
  refine lv_iconst (v := 1) hx hb dX0_delete_5 (by decide) ?_
  refine lv_icmp_lt hx hb dX0_delete_6 (tgt := 19) rfl (fun hc => absurd hc (nI_nlt (b := 1) hk0 (by omega))) (fun _ => ?_)
  refine lv_iload_n hx hb dX0_delete_9 rfl (lv_at hl 1 rfl) ?_
  refine lv_aload_n hx hb dX0_delete_10 rfl (lv_at hl 0 rfl) ?_
  refine va_get (D := D) (ci := 0) (v := .int (nI c0)) (C := RX0) (T := TX0) (N := 3) hx hb hts hinX0 hown hK hP 0 rfl rfl 1 (by decide) (hts _ (List.mem_cons_of_mem _ lb_36)) (fun _ h9 => h9) rfl dX0_delete_11 ?_
  refine lv_iload_n hx hb dX0_delete_14 rfl (lv_at hl 2 rfl) ?_
  refine lv_isub hx hb dX0_delete_15 ?_
  refine lc_top (y := nI (c0 - k0)) (pk_sub (by omega)) ?_
  refine lv_icmp_le hx hb dX0_delete_16 (tgt := 27) rfl (fun _ => ?_) (fun hc => absurd (nI_le (show i0 ≤ c0 - k0 by omega) (by omega)) hc)
  refine lv_aload_n hx hb dX0_delete_27 rfl (lv_at hl 0 rfl) ?_
  refine lv_dup hx hb dX0_delete_28 rfl ?_
  refine va_get (D := D) (ci := 0) (v := .int (nI (lc_cnt g c0))) (C := RX0) (T := TX0) (N := 3) hx hb hts hinX0 hown hK hP 0 rfl rfl 2 (by decide) (hts _ (List.mem_cons_of_mem _ lb_37)) (fun _ h9 => h9) rfl dX0_delete_29 ?_
  refine lv_aload_n hx hb dX0_delete_32 rfl (lv_at hl 0 rfl) ?_
  refine lv_iload_n hx hb dX0_delete_33 rfl (lv_at hl 1 rfl) ?_
  refine lv_iload_n hx hb dX0_delete_34 rfl (lv_at hl 1 rfl) ?_
  refine lv_iload_n hx hb dX0_delete_35 rfl (lv_at hl 2 rfl) ?_
  refine lv_iadd hx hb dX0_delete_36 ?_
  refine lc_top (y := nI (i0 + k0)) (nI_add i0 k0) ?_
  refine lc_callR (W.runV (As := [.int (nI i0), .int (nI (i0 + k0))]) (rest := [.int (nI (lc_cnt g c0)), .ref h]) ⟨hx, hb, hml, hown, hts⟩ (k_lineEndsIn l D h q cA (nI c0) (nI (lc_cnt g c0)) L g hL i0 (i0 + k0) (by omega) (by omega)) (cwV 2 hts gX0_delete_X0_lineEndsIn rfl rfl rfl (by decide +kernel) ⟨Nat.le_of_ble_eq_true rfl, Nat.le_of_ble_eq_true rfl⟩) (lc_RdV (q0 := 0) (ci := 0) (q := (RX0, TX0, 3)) hP hK rfl rfl) rfl rfl hl.1 rfl (lv_room (Nat.le_of_ble_eq_true rfl)) dX0_delete_37 ⟨Nat.le_refl _, Nat.le_refl _⟩) ?_
  have hpost : ∀ j, j < c0 - k0 → va_cpy g g (i0 + k0) i0 (c0 - (i0 + k0)) j = lc_del g i0 k0 j := by
    intro j hj
    unfold lc_del
    by_cases h1 : j < i0
    · rw [if_pos h1, pk_cpy_out (by omega)]
    · rw [if_neg h1, pk_cpy_in (by omega) (by omega)]; congr 1; omega
  have hcnt := lc_del_cnt hik hpost
  refine lv_isub hx hb dX0_delete_40 ?_
  refine lc_top (y := nI (lc_cnt (va_cpy g g (i0 + k0) i0 (c0 - (i0 + k0))) (c0 - k0))) ((pk_sub (by omega)).trans (congrArg nI (by omega))) ?_
  refine va_put (D := D) (ci := 0) (v := .int (nI (lc_cnt (va_cpy g g (i0 + k0) i0 (c0 - (i0 + k0))) (c0 - k0)))) (ty := .int) (C := RX0) (T := TX0) (N := 3) hx hb hts hinX0 tyX0 tyX0_ok nmX0 hown hK hP hD hS 0 rfl rfl 2 (by decide) (hts _ (List.mem_cons_of_mem _ lb_37)) (fun _ h9 => h9) rfl (by decide +kernel) rfl rfl (Nat.le_of_ble_eq_true rfl) dX0_delete_41 (fun H locs hP hD hS => ?_)
  have hP : va_P D vwCl [(h, .inr (0, [.ref q, .int (nI c0), .int (nI (lc_cnt (va_cpy g g (i0 + k0) i0 (c0 - (i0 + k0))) (c0 - k0)))])), (q, .inl (cA, L, .inl g))] H := hP
  have hD : va_D A [(h, .inr (0, [.ref q, .int (nI c0), .int (nI (lc_cnt (va_cpy g g (i0 + k0) i0 (c0 - (i0 + k0))) (c0 - k0)))])), (q, .inl (cA, L, .inl g))] := hD
  refine lv_aload_n hx hb dX0_delete_44 rfl (lv_at hl 0 rfl) ?_
  refine lv_iload_n hx hb dX0_delete_45 rfl (lv_at hl 1 rfl) ?_
  refine lv_iload_n hx hb dX0_delete_46 rfl (lv_at hl 2 rfl) ?_
  refine lv_iadd hx hb dX0_delete_47 ?_
  refine lc_top (y := nI (i0 + k0)) (nI_add i0 k0) ?_
  refine lv_iload_n hx hb dX0_delete_48 rfl (lv_at hl 1 rfl) ?_
  have hF := va_free (wc := [(h, .inr (0, [.ref q, .int (nI c0), .int (nI (lc_cnt (va_cpy g g (i0 + k0) i0 (c0 - (i0 + k0))) (c0 - k0)))])), (q, .inl (cA, L, .inl g))]) hD hS hA [0, 1] rfl
  refine lc_callW (va_runV (As := [.int (nI (i0 + k0)), .int (nI i0)]) (rest := []) ⟨hx, hb, hml, hown, hts⟩ (k_moveTail l D h q cA H.size (nI (lc_cnt (va_cpy g g (i0 + k0) i0 (c0 - (i0 + k0))) (c0 - k0))) L c0 g hL hc0 (i0 + k0) i0 hik (by omega)) (cwV 2 hts gX0_delete_X0_moveTail rfl rfl rfl (by decide +kernel) ⟨Nat.le_of_ble_eq_true rfl, Nat.le_of_ble_eq_true rfl⟩) (lc_WrV (q0 := 0) (ci := 0) (q := (RX0, TX0, 3)) hP hK hD rfl rfl) rfl rfl hl.1 rfl (lv_room (Nat.le_of_ble_eq_true rfl)) dX0_delete_49 ⟨Nat.le_refl _, Nat.le_refl _⟩) hS (fun q h => hF q h) (fun u H locs hp hP hK hD1 hz hk hS => ?_)
  have hD := hD1.weaken (fun _ _ _ h => hF _ h)
  have hK : va_K D vwCl [(cA, .int)] s := hK
  have hP : va_P D vwCl [(h, .inr (0, [.ref q, .int (nI (c0 + i0 - (i0 + k0))), .int (nI (lc_cnt (va_cpy g g (i0 + k0) i0 (c0 - (i0 + k0))) (c0 - k0)))])), (q, .inl (cA, L, .inl (va_cpy g g (i0 + k0) i0 (c0 - (i0 + k0)))))] H := hP
  have hD : va_D A [(h, .inr (0, [.ref q, .int (nI (c0 + i0 - (i0 + k0))), .int (nI (lc_cnt (va_cpy g g (i0 + k0) i0 (c0 - (i0 + k0))) (c0 - k0)))])), (q, .inl (cA, L, .inl (va_cpy g g (i0 + k0) i0 (c0 - (i0 + k0)))))] := hD
  refine W.eq (g2 := F0 m 52 ls []) rfl ?_
  rw [show c0 + i0 - (i0 + k0) = c0 - k0 by omega] at hP hD
  refine lv_aload_n hx hb dX0_delete_52 rfl (lv_at hl 0 rfl) ?_
  refine va_get (D := D) (ci := 0) (v := .int (nI (c0 - k0))) (C := RX0) (T := TX0) (N := 3) hx hb hts hinX0 hown hK hP 0 rfl rfl 1 (by decide) (hts _ (List.mem_cons_of_mem _ lb_36)) (fun _ h9 => h9) rfl dX0_delete_53 ?_
  exact W.iret (v := nI (c0 - k0)) hx hb hr (fun t ht hW => ⟨va_cpy g g (i0 + k0) i0 (c0 - (i0 + k0)), rfl, hpost, by rw [ht]; exact hP, va_K.moved hW.alike hK, hD, hS.F ht⟩) hS.2.2 dX0_delete_56
