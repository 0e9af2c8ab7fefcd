set_option maxHeartbeats 4000000 in
set_option maxRecDepth 100000 in
theorem q_loop {p : Program} {l : Launch} {e : Env} {s : State} {m : MethodId} {below : List Frame} {meth : Method} {c : Code} {b L : Nat} {xs : Nat → Int32} (C0 : lw_At p s m meth c b L xs) (hst : l.stackTraces = false) (hL : L ≤ 2560) {D : va_G} (hZ : lc_TZ (fun q => s.heap.size ≤ q) s s.heap) {h hm o : Nat} : ∀ (k t pt : Nat) (H : Heap) (locs : List Loc) (ls : Array Slot), L < 5 * (t + k) + 5 → 5 * t ≤ L → lc_I D s H locs h hm o pt → lv_has ls 7 [(4, .int (nI (5 * t))), (0, .ref b), (1, .ref h), (2, .ref hm), (3, .ref o)] → W p l e room_1 s m #[Value.ref b] below meth c H locs (5 + 2 * t) (20519 + 12 * t + pt) (lw_Z below #[Value.ref b] s) (F0 m 23 ls []) := by
  intro k
  induction k with
  | zero =>
    intro t pt H locs ls hk ht hI hl
    have C1 := C0
    obtain ⟨hx, hb, hr, hml, hown, hts, hX, hbl, hlocks, hgv⟩ := C1
    have hI1 := hI
    obtain ⟨q, cA, Lx, c0, g, qm, cM, th, r, cJ, fo, hL5, hLx, hc0, heq, hpt, hP, hD, hK, hS⟩ := hI1
    have hA : ∀ q : Nat, s.heap.size ≤ q → (fun q => s.heap.size ≤ q) q := fun q h => h
    have hbA : ¬ (fun q => s.heap.size ≤ q) b := fun h => absurd hbl (Nat.not_lt.mpr h)
    refine lv_iload hx hb dL_law_23 (lv_at hl 0 rfl) ?_
    refine lv_aload_n hx hb dL_law_25 rfl (lv_at hl 1 rfl) ?_
    refine va_slen hx hb hX hbl hbA hS dL_law_26 ?_
    refine lc_top (y := nI L) rfl ?_
    refine lv_iconst (v := 5) hx hb dL_law_27 (by decide) ?_
    refine lv_isub hx hb dL_law_28 ?_
    refine lv_icmp_gt hx hb dL_law_29 (tgt := 457) rfl (fun _ => ?_) (fun hc => absurd (lc_exit (by omega) (by omega) (by omega)) hc)
    refine lv_iconst (v := 1) hx hb dL_law_457 (by decide) ?_
    refine va_forget (fun q hq => hS.2.2 q hq) ?_
    refine W.widen (k := 601024) (n := 7293034) (by omega) (by omega) ?_
    exact lw_ret hx hb hr hlocks dL_law_458
  | succ k ih =>
    intro t pt H locs ls hk ht hI hl
    have C1 := C0
    obtain ⟨hx, hb, hr, hml, hown, hts, hX, hbl, hlocks, hgv⟩ := C1
    have hI1 := hI
    obtain ⟨q, cA, Lx, c0, g, qm, cM, th, r, cJ, fo, hL5, hLx, hc0, heq, hpt, hP, hD, hK, hS⟩ := hI1
    have hA : ∀ q : Nat, s.heap.size ≤ q → (fun q => s.heap.size ≤ q) q := fun q h => h
    have hbA : ¬ (fun q => s.heap.size ≤ q) b := fun h => absurd hbl (Nat.not_lt.mpr h)
    refine lv_iload hx hb dL_law_23 (lv_at hl 0 rfl) ?_
    refine lv_aload_n hx hb dL_law_25 rfl (lv_at hl 1 rfl) ?_
    refine va_slen hx hb hX hbl hbA hS dL_law_26 ?_
    refine lc_top (y := nI L) rfl ?_
    refine lv_iconst (v := 5) hx hb dL_law_27 (by decide) ?_
    refine lv_isub hx hb dL_law_28 ?_
    by_cases hgo : 5 * t + 5 ≤ L
    · refine lv_icmp_gt hx hb dL_law_29 (tgt := 457) rfl (fun hc => absurd hc (lc_noexit hgo (by omega))) (fun _ => ?_)
      refine lv_aload_n hx hb dL_law_32 rfl (lv_at hl 1 rfl) ?_
      refine lv_iload hx hb dL_law_33 (lv_at hl 0 rfl) ?_
      refine va_sld hx hb hX hbl hbA hS (vp_in_nI (show 5 * t < L by omega) (by omega)) dL_law_35 ?_
      refine lc_top (y := xs (5 * t)) (congrArg xs (nI_clamp (by omega))) ?_
      refine lv_bipush (v := 7) hx hb dL_law_36 (by decide) ?_
      refine lv_iand hx hb dL_law_38 ?_
      obtain ⟨a, ha, hae⟩ := pk_andE (xs (5 * t)) (m := 7) 3 (by decide)
      refine lc_top (y := nI a) (hae) ?_
      have next : ∀ (pt : Nat) (H : Heap) (locs : List Loc) (ls : Array Slot), lc_I D s H locs h hm o pt → lv_has ls 7 [(4, .int (nI (5 * t))), (0, .ref b), (1, .ref h), (2, .ref hm), (3, .ref o)] → W p l e room_1 s m #[Value.ref b] below meth c H locs (5 + 2 * (t + 1)) (20519 + 12 * (t + 1) + pt) (lw_Z below #[Value.ref b] s) (F0 m 451 ls []) := by
        intro pt H locs ls hI hl
        refine lv_iinc (k := 0) (v := nI (5 * (t + 1))) hx hb dL_law_451 hl rfl ((nI_add (5 * t) 5).trans (congrArg nI (by omega))) (by decide) rfl (fun ls hl => ?_)
        have hl : lv_has ls 7 [(4, .int (nI (5 * (t + 1)))), (0, .ref b), (1, .ref h), (2, .ref hm), (3, .ref o)] := hl
        refine lv_goto hx hb dL_law_454 (tgt := 23) rfl ?_
        exact ih (t + 1) pt H locs ls (by omega) (by omega) hI hl
      have ha8 : a = 0 ∨ a = 1 ∨ a = 2 ∨ a = 3 ∨ a = 4 ∨ a = 5 ∨ a = 6 ∨ a = 7 := by omega
      rcases ha8 with rfl | rfl | rfl | rfl | rfl | rfl | rfl | rfl
      · refine lv_tableIn hx hb dL_law_39 (off := 45) (tgt := 84) (by decide) (by decide) (by decide) rfl ?_
        exact q_insert C0 hst hL hZ hgo next hI hl
      · refine lv_tableIn hx hb dL_law_39 (off := 137) (tgt := 176) (by decide) (by decide) (by decide) rfl ?_
        exact q_delete C0 hst hL hZ hgo next hI hl
      · refine lv_tableIn hx hb dL_law_39 (off := 205) (tgt := 244) (by decide) (by decide) (by decide) rfl ?_
        exact q_get C0 hst hL hZ hgo next hI hl
      · refine lv_tableIn hx hb dL_law_39 (off := 261) (tgt := 300) (by decide) (by decide) (by decide) rfl ?_
        exact q_length C0 hst hL hZ hgo next hI hl
      · refine lv_tableIn hx hb dL_law_39 (off := 274) (tgt := 313) (by decide) (by decide) (by decide) rfl ?_
        exact q_lines C0 hst hL hZ hgo next hI hl
      · refine lv_tableIn hx hb dL_law_39 (off := 287) (tgt := 326) (by decide) (by decide) (by decide) rfl ?_
        exact q_line C0 hst hL hZ hgo next hI hl
      · refine lv_tableIn hx hb dL_law_39 (off := 343) (tgt := 382) (by decide) (by decide) (by decide) rfl ?_
        exact q_lineOf C0 hst hL hZ hgo next hI hl
      · refine lv_tableIn hx hb dL_law_39 (off := 399) (tgt := 438) (by decide) (by decide) (by decide) rfl ?_
        exact q_digest C0 hst hL hZ hgo next hI hl
    · refine lv_icmp_gt hx hb dL_law_29 (tgt := 457) rfl (fun _ => ?_) (fun hc => absurd (lc_exit (by omega) (by omega) (by omega)) hc)
      refine lv_iconst (v := 1) hx hb dL_law_457 (by decide) ?_
      refine va_forget (fun q hq => hS.2.2 q hq) ?_
      refine W.widen (k := 601024) (n := 7293034) (by omega) (by omega) ?_
      exact lw_ret hx hb hr hlocks dL_law_458
set_option maxHeartbeats 4000000 in
set_option maxRecDepth 100000 in
theorem q_start {p : Program} {l : Launch} {e : Env} {s : State} {m : MethodId} {below : List Frame} {meth : Method} {c : Code} {b L : Nat} {xs : Nat → Int32} (C0 : lw_At p s m meth c b L xs) (hst : l.stackTraces = false) (hL : L ≤ 2560) {D : va_G} (hZ : lc_TZ (fun q => s.heap.size ≤ q) s s.heap) (hK : va_K D vwCl [] s) : W p l e room_1 s m #[Value.ref b] below meth c s.heap [] 0 0 (lw_Z below #[Value.ref b] s) (entryFrame m ([Value.ref b] : List Value).toArray 7) := by
  have C1 := C0
  obtain ⟨hx, hb, hr, hml, hown, hts, hX, hbl, hlocks, hgv⟩ := C1
  have hts : ∀ w ∈ wsL_law, w.before #[Value.ref b] s = true := fun w h => hts w (lc_lawin w h)
  have hA : ∀ q : Nat, s.heap.size ≤ q → (fun q => s.heap.size ≤ q) q := fun q h => h
  have hP : va_P D vwCl [] s.heap := fun k q h => by cases h
  have hD : va_D (fun q => s.heap.size ≤ q) [] := ⟨fun i j p q h => (by cases h), fun k q h => (by cases h)⟩
  have hS : va_S (fun q => s.heap.size ≤ q) s.heap s.heap [] := va_S.rf
  have hl := lv_entry ([.ref b]) (n := 7) (Nat.le_of_ble_eq_true rfl)
  rw [lg_entry_eq]
  generalize (lg_sl ([.ref b]) ++ List.replicate (7 - (lg_sl ([.ref b])).length) Slot.unset).toArray = ls at hl ⊢
  have hl : lv_has ls 7 [(0, .ref b)] := hl
  refine va_new (D := D) (ci := 0) (fs := [.null, .int 0, .int 0]) (C := RX0) (T := TX0) (N := 3) hx hb hts (fun w h => List.mem_cons_of_mem _ (lb_X0 w h)) tyX0 tyX0_ok hown (hts _ (List.mem_cons_of_mem _ lb_27)) (hts _ (List.mem_cons_of_mem _ lb_28)) (hts _ (List.mem_cons_of_mem _ lb_16)) hK hP hD hS hA rfl (fun j hj => by rcases (show j = 0 ∨ j = 1 ∨ j = 2 by omega) with rfl | rfl | rfl <;> rfl) (by show _ ≤ (601024 : Nat); omega) (by show _ ≤ (7293034 : Nat); omega) dL_law_0 (fun h H hP hD hS => ?_)
  have hP : va_P D vwCl [(h, .inr (0, [.null, .int 0, .int 0]))] H := hP
  have hD : va_D (fun q => s.heap.size ≤ q) [(h, .inr (0, [.null, .int 0, .int 0]))] := hD
  refine lv_dup hx hb dL_law_3 rfl ?_
  have hPc := hP.sub (ws' := [(h, .inr (0, [.null, .int 0, .int 0]))]) [0] rfl
  have hDc := hD.sub (ws' := [(h, .inr (0, [.null, .int 0, .int 0]))]) [0] (by decide) rfl
  have hKc := hK.sub (tys' := []) [] rfl
  have hF := va_free (wc := [(h, .inr (0, [.null, .int 0, .int 0]))]) hD hS hA [0] rfl
  refine lc_callW (va_runI (As := []) (rest := [.ref h]) ⟨hx, hb, hml, hown, hts⟩ (k_init l D h H.size) (cwI 0 hts gL_law_X0_init rfl rfl rfl (hts _ (List.mem_cons_of_mem _ lb_16)) (hts _ (List.mem_cons_of_mem _ lb_29)) (hts _ (List.mem_cons_of_mem _ lb_30)) rfl (by decide +kernel) ⟨Nat.le_of_ble_eq_true rfl, Nat.le_of_ble_eq_true rfl⟩) (lc_WrS hPc hKc hDc) rfl rfl hl.1 rfl (lv_room (Nat.le_of_ble_eq_true rfl)) dL_law_4 ⟨by show _ ≤ (601024 : Nat); omega, by show _ ≤ (7293034 : Nat); omega⟩) hS (fun q h => hF q h) (fun u H locs hp hP1 hK1 hD1 hz hk hS => ?_)
  obtain ⟨q, cA⟩ := u
  dsimp only at hP1 hK1 hD1
  obtain ⟨hP, hD⟩ := va_join (wr := []) (w1 := [(h, .inr (0, [.ref q, .int 0, .int 0])), (q, .inl (cA, 512, .inl (fun _ => 0)))]) hP hD [0] [] rfl rfl (by decide) (by decide) hk hF hP1 hD1
  have hK := hK.app hK1
  have hP : va_P D vwCl [(h, .inr (0, [.ref q, .int 0, .int 0])), (q, .inl (cA, 512, .inl (fun _ => 0)))] H := hP
  have hD : va_D (fun q => s.heap.size ≤ q) [(h, .inr (0, [.ref q, .int 0, .int 0])), (q, .inl (cA, 512, .inl (fun _ => 0)))] := hD
  have hK : va_K D vwCl [(cA, .int)] s := hK
  clear hPc hDc hKc hF hz hk hP1 hK1 hD1
  refine W.eq (g2 := F0 m 7 ls [.ref h]) rfl ?_
  refine lv_astore_n hx hb dL_law_7 rfl hl (by decide) rfl (fun ls hl => ?_)
  have hl : lv_has ls 7 [(1, .ref h), (0, .ref b)] := hl
  refine va_new (D := D) (ci := 1) (fs := [.null, .int 0, .int 0]) (C := RX1) (T := TX1) (N := 3) hx hb hts (fun w h => List.mem_cons_of_mem _ (lb_X1 w h)) tyX1 tyX1_ok hown (hts _ (List.mem_cons_of_mem _ lb_230)) (hts _ (List.mem_cons_of_mem _ lb_231)) (hts _ (List.mem_cons_of_mem _ lb_17)) hK hP hD hS hA rfl (fun j hj => by rcases (show j = 0 ∨ j = 1 ∨ j = 2 by omega) with rfl | rfl | rfl <;> rfl) (by show _ ≤ (601024 : Nat); omega) (by show _ ≤ (7293034 : Nat); omega) dL_law_8 (fun hm H hP hD hS => ?_)
  have hP : va_P D vwCl [(h, .inr (0, [.ref q, .int 0, .int 0])), (q, .inl (cA, 512, .inl (fun _ => 0))), (hm, .inr (1, [.null, .int 0, .int 0]))] H := hP
  have hD : va_D (fun q => s.heap.size ≤ q) [(h, .inr (0, [.ref q, .int 0, .int 0])), (q, .inl (cA, 512, .inl (fun _ => 0))), (hm, .inr (1, [.null, .int 0, .int 0]))] := hD
  refine lv_dup hx hb dL_law_11 rfl ?_
  have hPc := hP.sub (ws' := [(hm, .inr (1, [.null, .int 0, .int 0]))]) [2] rfl
  have hDc := hD.sub (ws' := [(hm, .inr (1, [.null, .int 0, .int 0]))]) [2] (by decide) rfl
  have hKc := hK.sub (tys' := []) [] rfl
  have hF := va_free (wc := [(hm, .inr (1, [.null, .int 0, .int 0]))]) hD hS hA [2] rfl
  refine lc_callW (va_runI (As := []) (rest := [.ref hm]) ⟨hx, hb, hml, hown, hts⟩ (m_init l D hm H.size) (cwI 0 hts gL_law_X1_init rfl rfl rfl (hts _ (List.mem_cons_of_mem _ lb_17)) (hts _ (List.mem_cons_of_mem _ lb_232)) (hts _ (List.mem_cons_of_mem _ lb_233)) rfl (by decide +kernel) ⟨Nat.le_of_ble_eq_true rfl, Nat.le_of_ble_eq_true rfl⟩) (lc_WrS hPc hKc hDc) rfl rfl hl.1 rfl (lv_room (Nat.le_of_ble_eq_true rfl)) dL_law_12 ⟨by show _ ≤ (601024 : Nat); omega, by show _ ≤ (7293034 : Nat); omega⟩) hS (fun q h => hF q h) (fun u H locs hp hP1 hK1 hD1 hz hk hS => ?_)
  obtain ⟨qm, cM⟩ := u
  dsimp only at hP1 hK1 hD1
  obtain ⟨hP, hD⟩ := va_join (wr := [(h, .inr (0, [.ref q, .int 0, .int 0])), (q, .inl (cA, 512, .inl (fun _ => 0)))]) (w1 := [(hm, .inr (1, [.ref qm, .int 0, .int 0])), (qm, .inl (cM, 20000, .inl (fun _ => 0)))]) hP hD [2] [0, 1] rfl rfl (by decide) (by decide) hk hF hP1 hD1
  have hK := hK.app hK1
  have hP : va_P D vwCl [(h, .inr (0, [.ref q, .int 0, .int 0])), (q, .inl (cA, 512, .inl (fun _ => 0))), (hm, .inr (1, [.ref qm, .int 0, .int 0])), (qm, .inl (cM, 20000, .inl (fun _ => 0)))] H := hP
  have hD : va_D (fun q => s.heap.size ≤ q) [(h, .inr (0, [.ref q, .int 0, .int 0])), (q, .inl (cA, 512, .inl (fun _ => 0))), (hm, .inr (1, [.ref qm, .int 0, .int 0])), (qm, .inl (cM, 20000, .inl (fun _ => 0)))] := hD
  have hK : va_K D vwCl [(cA, .int), (cM, .int)] s := hK
  clear hPc hDc hKc hF hz hk hP1 hK1 hD1
  refine W.eq (g2 := F0 m 15 ls [.ref hm]) rfl ?_
  refine lv_astore_n hx hb dL_law_15 rfl hl (by decide) rfl (fun ls hl => ?_)
  have hl : lv_has ls 7 [(2, .ref hm), (1, .ref h), (0, .ref b)] := hl
  refine lv_iconst (v := 1) hx hb dL_law_16 (by decide) ?_
  refine va_newa (D := D) (a0 := (1, .inr (.inl (fun _ => 0)))) (N' := 1) hx hb (atype := .long) (hts _ (List.mem_cons_of_mem _ lb_327)) rfl hK hP hD hS hA (fun _ => rfl) (by decide) (by decide) (by decide) (by show _ ≤ (601024 : Nat); omega) (by show _ ≤ (7293034 : Nat); omega) dL_law_17 (fun o cJ H hK hP hD hS => ?_)
  have hP : va_P D vwCl [(h, .inr (0, [.ref q, .int 0, .int 0])), (q, .inl (cA, 512, .inl (fun _ => 0))), (hm, .inr (1, [.ref qm, .int 0, .int 0])), (qm, .inl (cM, 20000, .inl (fun _ => 0))), (o, .inl (cJ, 1, .inr (.inl (fun _ => 0))))] H := hP
  have hD : va_D (fun q => s.heap.size ≤ q) [(h, .inr (0, [.ref q, .int 0, .int 0])), (q, .inl (cA, 512, .inl (fun _ => 0))), (hm, .inr (1, [.ref qm, .int 0, .int 0])), (qm, .inl (cM, 20000, .inl (fun _ => 0))), (o, .inl (cJ, 1, .inr (.inl (fun _ => 0))))] := hD
  have hK : va_K D vwCl [(cA, .int), (cM, .int), (cJ, .long)] s := hK
  refine lv_astore_n hx hb dL_law_19 rfl hl (by decide) rfl (fun ls hl => ?_)
  have hl : lv_has ls 7 [(3, .ref o), (2, .ref hm), (1, .ref h), (0, .ref b)] := hl
  refine lv_iconst (v := 0) hx hb dL_law_20 (by decide) ?_
  refine lv_istore hx hb dL_law_21 hl (by decide) rfl (fun ls hl => ?_)
  have hl : lv_has ls 7 [(4, .int 0), (3, .ref o), (2, .ref hm), (1, .ref h), (0, .ref b)] := hl
  have hl : lv_has ls 7 [(4, .int 0), (0, .ref b), (1, .ref h), (2, .ref hm), (3, .ref o)] := lv_sub hl [0, 4, 3, 2, 1] rfl
  refine W.widen (k := 5 + 2 * 0) (n := 20519 + 12 * 0 + 0) (by omega) (by omega) ?_
  exact q_loop C0 hst hL hZ L 0 0 H _ ls (by omega) (by omega) ⟨q, cA, 512, 0, (fun _ => 0), qm, cM, 0, (fun _ => 0), cJ, (fun _ => 0), by decide, by decide, by decide, fun j h => absurd h (Nat.not_lt_zero j), Or.inr ⟨by decide, by decide⟩, hP, hD, hK, hS⟩ hl
