/-- between two calls of the script: the class holds c0 numbers g, the reference the same numbers, pt slots were made by growth -/
def lc_I (D : va_G) (s : State) (H : Heap) (locs : List Loc) (h hm o pt : Nat) : Prop := ∃ (q : Nat) (cA : ClassId) (Lx c0 : Nat) (g : Nat → Int32) (qm : Nat) (cM : ClassId) (th : Int32) (r : Nat → Int32) (cJ : ClassId) (fo : Nat → Int64), 512 ≤ Lx ∧ Lx ≤ 20000 ∧ c0 ≤ Lx ∧ (∀ j, j < c0 → r j = g j) ∧ ((Lx = 20000 ∧ pt ≤ 60000) ∨ (Lx < 20000 ∧ pt ≤ 2 * Lx)) ∧ va_P D vwCl [(h, .inr (0, [.ref q, .int (nI c0), .int (nI (lc_cnt g c0))])), (q, .inl (cA, Lx, .inl g)), (hm, .inr (1, [.ref qm, .int (nI c0), .int th])), (qm, .inl (cM, 20000, .inl r)), (o, .inl (cJ, 1, .inr (.inl fo)))] H ∧ va_D (fun q => s.heap.size ≤ q) [(h, .inr (0, [.ref q, .int (nI c0), .int (nI (lc_cnt g c0))])), (q, .inl (cA, Lx, .inl g)), (hm, .inr (1, [.ref qm, .int (nI c0), .int th])), (qm, .inl (cM, 20000, .inl r)), (o, .inl (cJ, 1, .inr (.inl fo)))] ∧ va_K D vwCl [(cA, .int), (cM, .int), (cJ, .long)] s ∧ va_S (fun q => s.heap.size ≤ q) s.heap H locs

set_option maxHeartbeats 4000000 in
set_option maxRecDepth 100000 in
theorem q_length {p : Program} {l : Launch} {e : Env} {s : State} {m : MethodId} {below : List Frame} {meth : Method} {c : Code} {b L : Nat} {xs : Nat → Int32} (C0 : lw_At p s m meth c b L xs) (hst : l.stackTraces = false) (hL : L ≤ 2560) {D : va_G} (hZ : lc_TZ (fun q => s.heap.size ≤ q) s s.heap) {h hm o t : Nat} (ht : 5 * t + 5 ≤ L) (next : ∀ (pt : Nat) (H : Heap) (locs : List Loc) (ls : Array Slot), lc_I D s H locs h hm o pt → lv_has ls 7 [(4, .int (nI (5 * t))), (0, .ref b), (1, .ref h), (2, .ref hm), (3, .ref o)] → W p l e room_1 s m #[Value.ref b] below meth c H locs (5 + 2 * (t + 1)) (20519 + 12 * (t + 1) + pt) (lw_Z below #[Value.ref b] s) (F0 m 451 ls [])) {pt : Nat} {H : Heap} {locs : List Loc} {ls : Array Slot} (hI : lc_I D s H locs h hm o pt) (hl : lv_has ls 7 [(4, .int (nI (5 * t))), (0, .ref b), (1, .ref h), (2, .ref hm), (3, .ref o)]) : W p l e room_1 s m #[Value.ref b] below meth c H locs (5 + 2 * t) (20519 + 12 * t + pt) (lw_Z below #[Value.ref b] s) (F0 m 300 ls []) := by
  obtain ⟨hx, hb, hr, hml, hown, hts, hX, hbl, hlocks, hgv⟩ := C0
  have hts : ∀ w ∈ wsL_law, w.before #[Value.ref b] s = true := fun w h => hts w (lc_lawin w h)
  obtain ⟨q, cA, Lx, c0, g, qm, cM, th, r, cJ, fo, hL5, hLx, hc0, heq, hpt, hP, hD, hK, hS⟩ := hI
  have hA : ∀ q : Nat, s.heap.size ≤ q → (fun q => s.heap.size ≤ q) q := fun q h => h
  have hbA : ¬ (fun q => s.heap.size ≤ q) b := fun h => absurd hbl (Nat.not_lt.mpr h)
  refine lv_aload_n hx hb dL_law_300 rfl (lv_at hl 2 rfl) ?_
  refine lc_callR (W.runV (As := []) (rest := []) ⟨hx, hb, hml, hown, hts⟩ (k_length l D h q cA (nI c0) (nI (lc_cnt g c0)) Lx g) (cwV 0 hts gL_law_X0_length rfl rfl rfl (by decide +kernel) ⟨Nat.le_of_ble_eq_true rfl, Nat.le_of_ble_eq_true rfl⟩) (lc_RdV (q0 := 0) (ci := 0) (q := (RX0, TX0, 3)) (hP.sub (ws' := [(h, .inr (0, [.ref q, .int (nI c0), .int (nI (lc_cnt g c0))])), (q, .inl (cA, Lx, .inl g))]) [0, 1] rfl) (hK.sub (tys' := [(cA, .int)]) [0] rfl) rfl rfl) rfl rfl hl.1 rfl (lv_room (Nat.le_of_ble_eq_true rfl)) dL_law_301 ⟨by show _ ≤ (601024 : Nat); omega, by show _ ≤ (7293034 : Nat); omega⟩) ?_
  refine lv_aload_n hx hb dL_law_304 rfl (lv_at hl 3 rfl) ?_
  have hPc := hP.sub (ws' := [(hm, .inr (1, [.ref qm, .int (nI c0), .int th])), (qm, .inl (cM, 20000, .inl r))]) [2, 3] rfl
  have hDc := hD.sub (ws' := [(hm, .inr (1, [.ref qm, .int (nI c0), .int th])), (qm, .inl (cM, 20000, .inl r))]) [2, 3] (by decide) rfl
  have hKc := hK.sub (tys' := [(cM, .int)]) [1] rfl
  have hF := va_free (wc := [(hm, .inr (1, [.ref qm, .int (nI c0), .int th])), (qm, .inl (cM, 20000, .inl r))]) hD hS hA [2, 3] rfl
  refine lc_callW (va_runV (As := []) (rest := [.int (nI c0)]) ⟨hx, hb, hml, hown, hts⟩ (m_length l D hm qm cM H.size (nI c0) th r) (cwV 0 hts gL_law_X1_length rfl rfl rfl (by decide +kernel) ⟨Nat.le_of_ble_eq_true rfl, Nat.le_of_ble_eq_true rfl⟩) (lc_WrV (q0 := 0) (ci := 1) (q := (RX1, TX1, 3)) hPc hKc hDc rfl rfl) rfl rfl hl.1 rfl (lv_room (Nat.le_of_ble_eq_true rfl)) dL_law_305 ⟨by show _ ≤ (601024 : Nat); omega, by show _ ≤ (7293034 : Nat); omega⟩) hS (fun q h => hF q h) (fun u H locs hp hP1 hK1 hD1 hz hk hS => ?_)
  obtain ⟨hP, hD⟩ := va_join (wr := [(h, .inr (0, [.ref q, .int (nI c0), .int (nI (lc_cnt g c0))])), (q, .inl (cA, Lx, .inl g)), (o, .inl (cJ, 1, .inr (.inl fo)))]) (w1 := [(hm, .inr (1, [.ref qm, .int (nI c0), .int 0])), (qm, .inl (cM, 20000, .inl r))]) hP hD [2, 3] [0, 1, 4] rfl rfl (by decide) (by decide) hk hF hP1 hD1
  have hK := (hK.sub (tys' := [(cA, .int), (cJ, .long)]) [0, 2] rfl).app hK1
  have hP := hP.sub (ws' := [(h, .inr (0, [.ref q, .int (nI c0), .int (nI (lc_cnt g c0))])), (q, .inl (cA, Lx, .inl g)), (hm, .inr (1, [.ref qm, .int (nI c0), .int 0])), (qm, .inl (cM, 20000, .inl r)), (o, .inl (cJ, 1, .inr (.inl fo)))]) [0, 1, 3, 4, 2] rfl
  have hD := hD.sub (ws' := [(h, .inr (0, [.ref q, .int (nI c0), .int (nI (lc_cnt g c0))])), (q, .inl (cA, Lx, .inl g)), (hm, .inr (1, [.ref qm, .int (nI c0), .int 0])), (qm, .inl (cM, 20000, .inl r)), (o, .inl (cJ, 1, .inr (.inl fo)))]) [0, 1, 3, 4, 2] (by decide) rfl
  have hK := hK.sub (tys' := [(cA, .int), (cM, .int), (cJ, .long)]) [0, 2, 1] rfl
  clear hz hk hPc hDc hKc hF hP1 hK1 hD1
  refine W.eq (g2 := F0 m 308 ls [.int (nI c0), .int (nI c0)]) rfl ?_
  refine lv_icmp_eq hx hb dL_law_308 (tgt := 451) rfl (fun _ => ?_) (fun hc => absurd (rfl) hc)
  have hl : lv_has ls 7 [(4, .int (nI (5 * t))), (0, .ref b), (1, .ref h), (2, .ref hm), (3, .ref o)] := lv_sub hl [0, 1, 2, 3, 4] rfl
  refine W.widen (k := 5 + 2 * (t + 1)) (n := 20519 + 12 * (t + 1) + pt) (by omega) (by omega) ?_
  exact next pt H locs ls ⟨q, cA, Lx, c0, g, qm, cM, 0, r, cJ, fo, hL5, hLx, hc0, heq, hpt, hP, hD, hK, hS⟩ hl
set_option maxHeartbeats 4000000 in
set_option maxRecDepth 100000 in
theorem q_lines {p : Program} {l : Launch} {e : Env} {s : State} {m : MethodId} {below : List Frame} {meth : Method} {c : Code} {b L : Nat} {xs : Nat → Int32} (C0 : lw_At p s m meth c b L xs) (hst : l.stackTraces = false) (hL : L ≤ 2560) {D : va_G} (hZ : lc_TZ (fun q => s.heap.size ≤ q) s s.heap) {h hm o t : Nat} (ht : 5 * t + 5 ≤ L) (next : ∀ (pt : Nat) (H : Heap) (locs : List Loc) (ls : Array Slot), lc_I D s H locs h hm o pt → lv_has ls 7 [(4, .int (nI (5 * t))), (0, .ref b), (1, .ref h), (2, .ref hm), (3, .ref o)] → W p l e room_1 s m #[Value.ref b] below meth c H locs (5 + 2 * (t + 1)) (20519 + 12 * (t + 1) + pt) (lw_Z below #[Value.ref b] s) (F0 m 451 ls [])) {pt : Nat} {H : Heap} {locs : List Loc} {ls : Array Slot} (hI : lc_I D s H locs h hm o pt) (hl : lv_has ls 7 [(4, .int (nI (5 * t))), (0, .ref b), (1, .ref h), (2, .ref hm), (3, .ref o)]) : W p l e room_1 s m #[Value.ref b] below meth c H locs (5 + 2 * t) (20519 + 12 * t + pt) (lw_Z below #[Value.ref b] s) (F0 m 313 ls []) := by
  obtain ⟨hx, hb, hr, hml, hown, hts, hX, hbl, hlocks, hgv⟩ := C0
  have hts : ∀ w ∈ wsL_law, w.before #[Value.ref b] s = true := fun w h => hts w (lc_lawin w h)
  obtain ⟨q, cA, Lx, c0, g, qm, cM, th, r, cJ, fo, hL5, hLx, hc0, heq, hpt, hP, hD, hK, hS⟩ := hI
  have hA : ∀ q : Nat, s.heap.size ≤ q → (fun q => s.heap.size ≤ q) q := fun q h => h
  have hbA : ¬ (fun q => s.heap.size ≤ q) b := fun h => absurd hbl (Nat.not_lt.mpr h)
  refine lv_aload_n hx hb dL_law_313 rfl (lv_at hl 2 rfl) ?_
  refine lc_callR (W.runV (As := []) (rest := []) ⟨hx, hb, hml, hown, hts⟩ (k_lines l D h q cA (nI c0) (nI (lc_cnt g c0)) Lx g) (cwV 0 hts gL_law_X0_lines rfl rfl rfl (by decide +kernel) ⟨Nat.le_of_ble_eq_true rfl, Nat.le_of_ble_eq_true rfl⟩) (lc_RdV (q0 := 0) (ci := 0) (q := (RX0, TX0, 3)) (hP.sub (ws' := [(h, .inr (0, [.ref q, .int (nI c0), .int (nI (lc_cnt g c0))])), (q, .inl (cA, Lx, .inl g))]) [0, 1] rfl) (hK.sub (tys' := [(cA, .int)]) [0] rfl) rfl rfl) rfl rfl hl.1 rfl (lv_room (Nat.le_of_ble_eq_true rfl)) dL_law_314 ⟨by show _ ≤ (601024 : Nat); omega, by show _ ≤ (7293034 : Nat); omega⟩) ?_
  refine lv_aload_n hx hb dL_law_317 rfl (lv_at hl 3 rfl) ?_
  have hPc := hP.sub (ws' := [(hm, .inr (1, [.ref qm, .int (nI c0), .int th])), (qm, .inl (cM, 20000, .inl r))]) [2, 3] rfl
  have hDc := hD.sub (ws' := [(hm, .inr (1, [.ref qm, .int (nI c0), .int th])), (qm, .inl (cM, 20000, .inl r))]) [2, 3] (by decide) rfl
  have hKc := hK.sub (tys' := [(cM, .int)]) [1] rfl
  have hF := va_free (wc := [(hm, .inr (1, [.ref qm, .int (nI c0), .int th])), (qm, .inl (cM, 20000, .inl r))]) hD hS hA [2, 3] rfl
  refine lc_callW (va_runV (As := []) (rest := [.int (nI (lc_cnt g c0) + 1)]) ⟨hx, hb, hml, hown, hts⟩ (m_lines l D hm qm cM H.size th c0 r (by omega)) (cwV 0 hts gL_law_X1_lines rfl rfl rfl (by decide +kernel) ⟨Nat.le_of_ble_eq_true rfl, Nat.le_of_ble_eq_true rfl⟩) (lc_WrV (q0 := 0) (ci := 1) (q := (RX1, TX1, 3)) hPc hKc hDc rfl rfl) rfl rfl hl.1 rfl (lv_room (Nat.le_of_ble_eq_true rfl)) dL_law_318 ⟨by show _ ≤ (601024 : Nat); omega, by show _ ≤ (7293034 : Nat); omega⟩) hS (fun q h => hF q h) (fun u H locs hp hP1 hK1 hD1 hz hk hS => ?_)
  obtain ⟨hP, hD⟩ := va_join (wr := [(h, .inr (0, [.ref q, .int (nI c0), .int (nI (lc_cnt g c0))])), (q, .inl (cA, Lx, .inl g)), (o, .inl (cJ, 1, .inr (.inl fo)))]) (w1 := [(hm, .inr (1, [.ref qm, .int (nI c0), .int 0])), (qm, .inl (cM, 20000, .inl r))]) hP hD [2, 3] [0, 1, 4] rfl rfl (by decide) (by decide) hk hF hP1 hD1
  have hK := (hK.sub (tys' := [(cA, .int), (cJ, .long)]) [0, 2] rfl).app hK1
  have hP := hP.sub (ws' := [(h, .inr (0, [.ref q, .int (nI c0), .int (nI (lc_cnt g c0))])), (q, .inl (cA, Lx, .inl g)), (hm, .inr (1, [.ref qm, .int (nI c0), .int 0])), (qm, .inl (cM, 20000, .inl r)), (o, .inl (cJ, 1, .inr (.inl fo)))]) [0, 1, 3, 4, 2] rfl
  have hD := hD.sub (ws' := [(h, .inr (0, [.ref q, .int (nI c0), .int (nI (lc_cnt g c0))])), (q, .inl (cA, Lx, .inl g)), (hm, .inr (1, [.ref qm, .int (nI c0), .int 0])), (qm, .inl (cM, 20000, .inl r)), (o, .inl (cJ, 1, .inr (.inl fo)))]) [0, 1, 3, 4, 2] (by decide) rfl
  have hK := hK.sub (tys' := [(cA, .int), (cM, .int), (cJ, .long)]) [0, 2, 1] rfl
  clear hz hk hPc hDc hKc hF hP1 hK1 hD1
  refine W.eq (g2 := F0 m 321 ls [.int (nI (lc_cnt r c0) + 1), .int (nI (lc_cnt g c0) + 1)]) rfl ?_
  refine lv_icmp_eq hx hb dL_law_321 (tgt := 451) rfl (fun _ => ?_) (fun hc => absurd (by rw [lc_cnt_congr heq]) hc)
  have hl : lv_has ls 7 [(4, .int (nI (5 * t))), (0, .ref b), (1, .ref h), (2, .ref hm), (3, .ref o)] := lv_sub hl [0, 1, 2, 3, 4] rfl
  refine W.widen (k := 5 + 2 * (t + 1)) (n := 20519 + 12 * (t + 1) + pt) (by omega) (by omega) ?_
  exact next pt H locs ls ⟨q, cA, Lx, c0, g, qm, cM, 0, r, cJ, fo, hL5, hLx, hc0, heq, hpt, hP, hD, hK, hS⟩ hl
set_option maxHeartbeats 4000000 in
set_option maxRecDepth 100000 in
theorem q_digest {p : Program} {l : Launch} {e : Env} {s : State} {m : MethodId} {below : List Frame} {meth : Method} {c : Code} {b L : Nat} {xs : Nat → Int32} (C0 : lw_At p s m meth c b L xs) (hst : l.stackTraces = false) (hL : L ≤ 2560) {D : va_G} (hZ : lc_TZ (fun q => s.heap.size ≤ q) s s.heap) {h hm o t : Nat} (ht : 5 * t + 5 ≤ L) (next : ∀ (pt : Nat) (H : Heap) (locs : List Loc) (ls : Array Slot), lc_I D s H locs h hm o pt → lv_has ls 7 [(4, .int (nI (5 * t))), (0, .ref b), (1, .ref h), (2, .ref hm), (3, .ref o)] → W p l e room_1 s m #[Value.ref b] below meth c H locs (5 + 2 * (t + 1)) (20519 + 12 * (t + 1) + pt) (lw_Z below #[Value.ref b] s) (F0 m 451 ls [])) {pt : Nat} {H : Heap} {locs : List Loc} {ls : Array Slot} (hI : lc_I D s H locs h hm o pt) (hl : lv_has ls 7 [(4, .int (nI (5 * t))), (0, .ref b), (1, .ref h), (2, .ref hm), (3, .ref o)]) : W p l e room_1 s m #[Value.ref b] below meth c H locs (5 + 2 * t) (20519 + 12 * t + pt) (lw_Z below #[Value.ref b] s) (F0 m 438 ls []) := by
  obtain ⟨hx, hb, hr, hml, hown, hts, hX, hbl, hlocks, hgv⟩ := C0
  have hts : ∀ w ∈ wsL_law, w.before #[Value.ref b] s = true := fun w h => hts w (lc_lawin w h)
  obtain ⟨q, cA, Lx, c0, g, qm, cM, th, r, cJ, fo, hL5, hLx, hc0, heq, hpt, hP, hD, hK, hS⟩ := hI
  have hA : ∀ q : Nat, s.heap.size ≤ q → (fun q => s.heap.size ≤ q) q := fun q h => h
  have hbA : ¬ (fun q => s.heap.size ≤ q) b := fun h => absurd hbl (Nat.not_lt.mpr h)
  refine lv_aload_n hx hb dL_law_438 rfl (lv_at hl 2 rfl) ?_
  refine lc_callR (W.runV (As := []) (rest := []) ⟨hx, hb, hml, hown, hts⟩ (k_digest l D h q cA (nI (lc_cnt g c0)) Lx c0 g hLx hc0) (cwV 0 hts gL_law_X0_digest rfl rfl rfl (by decide +kernel) ⟨Nat.le_of_ble_eq_true rfl, Nat.le_of_ble_eq_true rfl⟩) (lc_RdV (q0 := 0) (ci := 0) (q := (RX0, TX0, 3)) (hP.sub (ws' := [(h, .inr (0, [.ref q, .int (nI c0), .int (nI (lc_cnt g c0))])), (q, .inl (cA, Lx, .inl g))]) [0, 1] rfl) (hK.sub (tys' := [(cA, .int)]) [0] rfl) rfl rfl) rfl rfl hl.1 rfl (lv_room (Nat.le_of_ble_eq_true rfl)) dL_law_439 ⟨by show _ ≤ (601024 : Nat); omega, by show _ ≤ (7293034 : Nat); omega⟩) ?_
  refine lv_aload_n hx hb dL_law_442 rfl (lv_at hl 3 rfl) ?_
  have hPc := hP.sub (ws' := [(hm, .inr (1, [.ref qm, .int (nI c0), .int th])), (qm, .inl (cM, 20000, .inl r))]) [2, 3] rfl
  have hDc := hD.sub (ws' := [(hm, .inr (1, [.ref qm, .int (nI c0), .int th])), (qm, .inl (cM, 20000, .inl r))]) [2, 3] (by decide) rfl
  have hKc := hK.sub (tys' := [(cM, .int)]) [1] rfl
  have hF := va_free (wc := [(hm, .inr (1, [.ref qm, .int (nI c0), .int th])), (qm, .inl (cM, 20000, .inl r))]) hD hS hA [2, 3] rfl
  refine lc_callW (va_runV (As := []) (rest := [.int (lc_dig g c0)]) ⟨hx, hb, hml, hown, hts⟩ (m_digest l D hm qm cM H.size th c0 r (by omega)) (cwV 0 hts gL_law_X1_digest rfl rfl rfl (by decide +kernel) ⟨Nat.le_of_ble_eq_true rfl, Nat.le_of_ble_eq_true rfl⟩) (lc_WrV (q0 := 0) (ci := 1) (q := (RX1, TX1, 3)) hPc hKc hDc rfl rfl) rfl rfl hl.1 rfl (lv_room (Nat.le_of_ble_eq_true rfl)) dL_law_443 ⟨by show _ ≤ (601024 : Nat); omega, by show _ ≤ (7293034 : Nat); omega⟩) hS (fun q h => hF q h) (fun u H locs hp hP1 hK1 hD1 hz hk hS => ?_)
  obtain ⟨hP, hD⟩ := va_join (wr := [(h, .inr (0, [.ref q, .int (nI c0), .int (nI (lc_cnt g c0))])), (q, .inl (cA, Lx, .inl g)), (o, .inl (cJ, 1, .inr (.inl fo)))]) (w1 := [(hm, .inr (1, [.ref qm, .int (nI c0), .int 0])), (qm, .inl (cM, 20000, .inl r))]) hP hD [2, 3] [0, 1, 4] rfl rfl (by decide) (by decide) hk hF hP1 hD1
  have hK := (hK.sub (tys' := [(cA, .int), (cJ, .long)]) [0, 2] rfl).app hK1
  have hP := hP.sub (ws' := [(h, .inr (0, [.ref q, .int (nI c0), .int (nI (lc_cnt g c0))])), (q, .inl (cA, Lx, .inl g)), (hm, .inr (1, [.ref qm, .int (nI c0), .int 0])), (qm, .inl (cM, 20000, .inl r)), (o, .inl (cJ, 1, .inr (.inl fo)))]) [0, 1, 3, 4, 2] rfl
  have hD := hD.sub (ws' := [(h, .inr (0, [.ref q, .int (nI c0), .int (nI (lc_cnt g c0))])), (q, .inl (cA, Lx, .inl g)), (hm, .inr (1, [.ref qm, .int (nI c0), .int 0])), (qm, .inl (cM, 20000, .inl r)), (o, .inl (cJ, 1, .inr (.inl fo)))]) [0, 1, 3, 4, 2] (by decide) rfl
  have hK := hK.sub (tys' := [(cA, .int), (cM, .int), (cJ, .long)]) [0, 2, 1] rfl
  clear hz hk hPc hDc hKc hF hP1 hK1 hD1
  refine W.eq (g2 := F0 m 446 ls [.int (lc_dig r c0), .int (lc_dig g c0)]) rfl ?_
  refine lv_icmp_eq hx hb dL_law_446 (tgt := 451) rfl (fun _ => ?_) (fun hc => absurd (by rw [lc_dig_congr heq]) hc)
  have hl : lv_has ls 7 [(4, .int (nI (5 * t))), (0, .ref b), (1, .ref h), (2, .ref hm), (3, .ref o)] := lv_sub hl [0, 1, 2, 3, 4] rfl
  refine W.widen (k := 5 + 2 * (t + 1)) (n := 20519 + 12 * (t + 1) + pt) (by omega) (by omega) ?_
  exact next pt H locs ls ⟨q, cA, Lx, c0, g, qm, cM, 0, r, cJ, fo, hL5, hLx, hc0, heq, hpt, hP, hD, hK, hS⟩ hl
set_option maxHeartbeats 4000000 in
set_option maxRecDepth 100000 in
theorem q_get {p : Program} {l : Launch} {e : Env} {s : State} {m : MethodId} {below : List Frame} {meth : Method} {c : Code} {b L : Nat} {xs : Nat → Int32} (C0 : lw_At p s m meth c b L xs) (hst : l.stackTraces = false) (hL : L ≤ 2560) {D : va_G} (hZ : lc_TZ (fun q => s.heap.size ≤ q) s s.heap) {h hm o t : Nat} (ht : 5 * t + 5 ≤ L) (next : ∀ (pt : Nat) (H : Heap) (locs : List Loc) (ls : Array Slot), lc_I D s H locs h hm o pt → lv_has ls 7 [(4, .int (nI (5 * t))), (0, .ref b), (1, .ref h), (2, .ref hm), (3, .ref o)] → W p l e room_1 s m #[Value.ref b] below meth c H locs (5 + 2 * (t + 1)) (20519 + 12 * (t + 1) + pt) (lw_Z below #[Value.ref b] s) (F0 m 451 ls [])) {pt : Nat} {H : Heap} {locs : List Loc} {ls : Array Slot} (hI : lc_I D s H locs h hm o pt) (hl : lv_has ls 7 [(4, .int (nI (5 * t))), (0, .ref b), (1, .ref h), (2, .ref hm), (3, .ref o)]) : W p l e room_1 s m #[Value.ref b] below meth c H locs (5 + 2 * t) (20519 + 12 * t + pt) (lw_Z below #[Value.ref b] s) (F0 m 244 ls []) := by
  obtain ⟨hx, hb, hr, hml, hown, hts, hX, hbl, hlocks, hgv⟩ := C0
  have hts : ∀ w ∈ wsL_law, w.before #[Value.ref b] s = true := fun w h => hts w (lc_lawin w h)
  obtain ⟨q, cA, Lx, c0, g, qm, cM, th, r, cJ, fo, hL5, hLx, hc0, heq, hpt, hP, hD, hK, hS⟩ := hI
  have hA : ∀ q : Nat, s.heap.size ≤ q → (fun q => s.heap.size ≤ q) q := fun q h => h
  have hbA : ¬ (fun q => s.heap.size ≤ q) b := fun h => absurd hbl (Nat.not_lt.mpr h)
  obtain ⟨p0, hp0⟩ : ∃ z, xs (5 * t + 1) = z := ⟨_, rfl⟩
  by_cases hbad : p0 < 0 ∨ nI c0 ≤ p0
  · refine lv_aload_n hx hb dL_law_244 rfl (lv_at hl 2 rfl) ?_
    refine lv_aload_n hx hb dL_law_245 rfl (lv_at hl 1 rfl) ?_
    refine lv_iload hx hb dL_law_246 (lv_at hl 0 rfl) ?_
    refine lv_iconst (v := 1) hx hb dL_law_248 (by decide) ?_
    refine lv_iadd hx hb dL_law_249 ?_
    refine lc_top (y := nI (5 * t + 1)) (nI_add (5 * t) 1) ?_
    refine va_sld hx hb hX hbl hbA hS (vp_in_nI (show 5 * t + 1 < L by omega) (by omega)) dL_law_250 ?_
    refine lc_top (y := p0) ((congrArg xs (nI_clamp (by omega))).trans hp0) ?_
    refine lv_aload_n hx hb dL_law_251 rfl (lv_at hl 4 rfl) ?_
    refine lc_callB (vx_runSW (hh := [(0, 9, 12, 25)]) (As := [.ref h, .int p0, .ref o]) (rest := []) ⟨hx, hb, hml, hown, hts⟩ (w_get_bad l D h q cA o cJ hst (nI c0) (nI (lc_cnt g c0)) Lx g p0 hbad) (vx_cwSW 3 hts gL_law_L_get rfl rfl rfl (by decide +kernel) ⟨Nat.le_of_ble_eq_true rfl, Nat.le_of_ble_eq_true rfl⟩) (lc_TxS (hP.sub (ws' := [(h, .inr (0, [.ref q, .int (nI c0), .int (nI (lc_cnt g c0))])), (q, .inl (cA, Lx, .inl g))]) [0, 1] rfl) (hK.sub (tys' := [(cA, .int)]) [0] rfl) ((hZ.kept hS.2.1).narrow (fun _ h => h.elim))) rfl rfl hl.1 rfl (lv_room (Nat.le_of_ble_eq_true rfl)) dL_law_252 ⟨by show _ ≤ (601024 : Nat); omega, by show _ ≤ (7293034 : Nat); omega⟩) (fun H1 hz hk => ?_)
    have hP := lc_keptP hP hk
    have hS := lc_keptS hS hz hk
    clear hz hk
    generalize H1 = H at hP hS ⊢
    refine lv_istore hx hb dL_law_255 hl (by decide) rfl (fun ls hl => ?_)
    have hl : lv_has ls 7 [(5, .int 1), (4, .int (nI (5 * t))), (0, .ref b), (1, .ref h), (2, .ref hm), (3, .ref o)] := hl
    refine lv_aload_n hx hb dL_law_257 rfl (lv_at hl 4 rfl) ?_
    refine lv_aload_n hx hb dL_law_258 rfl (lv_at hl 2 rfl) ?_
    refine lv_iload hx hb dL_law_259 (lv_at hl 1 rfl) ?_
    refine lv_iconst (v := 1) hx hb dL_law_261 (by decide) ?_
    refine lv_iadd hx hb dL_law_262 ?_
    refine lc_top (y := nI (5 * t + 1)) (nI_add (5 * t) 1) ?_
    refine va_sld hx hb hX hbl hbA hS (vp_in_nI (show 5 * t + 1 < L by omega) (by omega)) dL_law_263 ?_
    refine lc_top (y := p0) ((congrArg xs (nI_clamp (by omega))).trans hp0) ?_
    have hPc := hP.sub (ws' := [(hm, .inr (1, [.ref qm, .int (nI c0), .int th])), (qm, .inl (cM, 20000, .inl r))]) [2, 3] rfl
    have hDc := hD.sub (ws' := [(hm, .inr (1, [.ref qm, .int (nI c0), .int th])), (qm, .inl (cM, 20000, .inl r))]) [2, 3] (by decide) rfl
    have hKc := hK.sub (tys' := [(cM, .int)]) [1] rfl
    have hF := va_free (wc := [(hm, .inr (1, [.ref qm, .int (nI c0), .int th])), (qm, .inl (cM, 20000, .inl r))]) hD hS hA [2, 3] rfl
    refine lc_callW (vx_runVW (hh := [(5, 10, 11, 27)]) (As := [.int p0]) (rest := []) ⟨hx, hb, hml, hown, hts⟩ (m_get_bad l D hm qm cM H.size hst (nI c0) th r p0 hbad) (vx_cwVW 1 hts gL_law_X1_get rfl rfl rfl (by decide +kernel) ⟨Nat.le_of_ble_eq_true rfl, Nat.le_of_ble_eq_true rfl⟩) (lc_WTV (q0 := 0) (ci := 1) (q := (RX1, TX1, 3)) hPc hKc hDc ((hZ.kept hS.2.1).narrow (fun q h => hF q h)) rfl rfl) rfl rfl hl.1 rfl (lv_room (Nat.le_of_ble_eq_true rfl)) dL_law_264 ⟨by show _ ≤ (601024 : Nat); omega, by show _ ≤ (7293034 : Nat); omega⟩) hS (fun q h => hF q h) (fun u H locs hp hP1 hK1 hD1 hz hk hS => ?_)
    obtain ⟨hP, hD⟩ := va_join (wr := [(h, .inr (0, [.ref q, .int (nI c0), .int (nI (lc_cnt g c0))])), (q, .inl (cA, Lx, .inl g)), (o, .inl (cJ, 1, .inr (.inl fo)))]) (w1 := [(hm, .inr (1, [.ref qm, .int (nI c0), .int 1])), (qm, .inl (cM, 20000, .inl r))]) hP hD [2, 3] [0, 1, 4] rfl rfl (by decide) (by decide) hk hF hP1 hD1
    have hK := (hK.sub (tys' := [(cA, .int), (cJ, .long)]) [0, 2] rfl).app hK1
    have hP := hP.sub (ws' := [(h, .inr (0, [.ref q, .int (nI c0), .int (nI (lc_cnt g c0))])), (q, .inl (cA, Lx, .inl g)), (hm, .inr (1, [.ref qm, .int (nI c0), .int 1])), (qm, .inl (cM, 20000, .inl r)), (o, .inl (cJ, 1, .inr (.inl fo)))]) [0, 1, 3, 4, 2] rfl
    have hD := hD.sub (ws' := [(h, .inr (0, [.ref q, .int (nI c0), .int (nI (lc_cnt g c0))])), (q, .inl (cA, Lx, .inl g)), (hm, .inr (1, [.ref qm, .int (nI c0), .int 1])), (qm, .inl (cM, 20000, .inl r)), (o, .inl (cJ, 1, .inr (.inl fo)))]) [0, 1, 3, 4, 2] (by decide) rfl
    have hK := hK.sub (tys' := [(cA, .int), (cM, .int), (cJ, .long)]) [0, 2, 1] rfl
    clear hz hk hPc hDc hKc hF hP1 hK1 hD1
    refine W.eq (g2 := F0 m 267 ls [.int 0]) rfl ?_
    refine lv_istore hx hb dL_law_267 hl (by decide) rfl (fun ls hl => ?_)
    have hl : lv_has ls 7 [(6, .int 0), (5, .int 1), (4, .int (nI (5 * t))), (0, .ref b), (1, .ref h), (2, .ref hm), (3, .ref o)] := hl
    refine lv_aload_n hx hb dL_law_269 rfl (lv_at hl 5 rfl) ?_
    refine lc_callR (W.runV (As := []) (rest := []) ⟨hx, hb, hml, hown, hts⟩ (m_thrown l D hm qm cM (nI c0) 1 r) (cwV 0 hts gL_law_X1_thrown rfl rfl rfl (by decide +kernel) ⟨Nat.le_of_ble_eq_true rfl, Nat.le_of_ble_eq_true rfl⟩) (lc_RdV (q0 := 0) (ci := 1) (q := (RX1, TX1, 3)) (hP.sub (ws' := [(hm, .inr (1, [.ref qm, .int (nI c0), .int 1])), (qm, .inl (cM, 20000, .inl r))]) [2, 3] rfl) (hK.sub (tys' := [(cM, .int)]) [1] rfl) rfl rfl) rfl rfl hl.1 rfl (lv_room (Nat.le_of_ble_eq_true rfl)) dL_law_270 ⟨by show _ ≤ (601024 : Nat); omega, by show _ ≤ (7293034 : Nat); omega⟩) ?_
    refine lv_iload hx hb dL_law_273 (lv_at hl 1 rfl) ?_
    refine lv_icmp_eq hx hb dL_law_275 (tgt := 280) rfl (fun _ => ?_) (fun hc => absurd (rfl) hc)
    refine lv_iload hx hb dL_law_280 (lv_at hl 1 rfl) ?_
    refine lv_if_ne hx hb dL_law_282 (tgt := 297) rfl (fun _ => ?_) (fun hc => absurd hc (by decide))
    refine lv_goto hx hb dL_law_297 (tgt := 451) rfl ?_
    have hl : lv_has ls 7 [(4, .int (nI (5 * t))), (0, .ref b), (1, .ref h), (2, .ref hm), (3, .ref o)] := lv_sub hl [2, 3, 4, 5, 6] rfl
    refine W.widen (k := 5 + 2 * (t + 1)) (n := 20519 + 12 * (t + 1) + pt) (by omega) (by omega) ?_
    exact next pt H locs ls ⟨q, cA, Lx, c0, g, qm, cM, 1, r, cJ, fo, hL5, hLx, hc0, heq, hpt, hP, hD, hK, hS⟩ hl
  · obtain ⟨i, hi, rfl⟩ := lc_okG hbad (by omega)
    refine lv_aload_n hx hb dL_law_244 rfl (lv_at hl 2 rfl) ?_
    refine lv_aload_n hx hb dL_law_245 rfl (lv_at hl 1 rfl) ?_
    refine lv_iload hx hb dL_law_246 (lv_at hl 0 rfl) ?_
    refine lv_iconst (v := 1) hx hb dL_law_248 (by decide) ?_
    refine lv_iadd hx hb dL_law_249 ?_
    refine lc_top (y := nI (5 * t + 1)) (nI_add (5 * t) 1) ?_
    refine va_sld hx hb hX hbl hbA hS (vp_in_nI (show 5 * t + 1 < L by omega) (by omega)) dL_law_250 ?_
    refine lc_top (y := nI i) ((congrArg xs (nI_clamp (by omega))).trans hp0) ?_
    refine lv_aload_n hx hb dL_law_251 rfl (lv_at hl 4 rfl) ?_
    have hPc := hP.sub (ws' := [(h, .inr (0, [.ref q, .int (nI c0), .int (nI (lc_cnt g c0))])), (q, .inl (cA, Lx, .inl g)), (o, .inl (cJ, 1, .inr (.inl fo)))]) [0, 1, 4] rfl
    have hDc := hD.sub (ws' := [(h, .inr (0, [.ref q, .int (nI c0), .int (nI (lc_cnt g c0))])), (q, .inl (cA, Lx, .inl g)), (o, .inl (cJ, 1, .inr (.inl fo)))]) [0, 1, 4] (by decide) rfl
    have hKc := hK.sub (tys' := [(cA, .int), (cJ, .long)]) [0, 2] rfl
    have hF := va_free (wc := [(h, .inr (0, [.ref q, .int (nI c0), .int (nI (lc_cnt g c0))])), (q, .inl (cA, Lx, .inl g)), (o, .inl (cJ, 1, .inr (.inl fo)))]) hD hS hA [0, 1, 4] rfl
    refine lc_callW (vx_runSW (hh := [(0, 9, 12, 25)]) (As := [.ref h, .int (nI i), .ref o]) (rest := []) ⟨hx, hb, hml, hown, hts⟩ (w_get l D h q cA o cJ H.size fo (nI (lc_cnt g c0)) Lx c0 g hLx hc0 i hi) (vx_cwSW 3 hts gL_law_L_get rfl rfl rfl (by decide +kernel) ⟨Nat.le_of_ble_eq_true rfl, Nat.le_of_ble_eq_true rfl⟩) (lc_WrS hPc hKc hDc) rfl rfl hl.1 rfl (lv_room (Nat.le_of_ble_eq_true rfl)) dL_law_252 ⟨by show _ ≤ (601024 : Nat); omega, by show _ ≤ (7293034 : Nat); omega⟩) hS (fun q h => hF q h) (fun u H locs hp hP1 hK1 hD1 hz hk hS => ?_)
    obtain ⟨fo1, hfo1⟩ : ∃ z : Nat → Int64, z = u := ⟨u, rfl⟩
    rw [← hfo1] at hp hP1 hD1
    have hpf := hp
    obtain ⟨hP, hD⟩ := va_join (wr := [(hm, .inr (1, [.ref qm, .int (nI c0), .int th])), (qm, .inl (cM, 20000, .inl r))]) (w1 := [(h, .inr (0, [.ref q, .int (nI c0), .int (nI (lc_cnt g c0))])), (q, .inl (cA, Lx, .inl g)), (o, .inl (cJ, 1, .inr (.inl fo1)))]) hP hD [0, 1, 4] [2, 3] rfl rfl (by decide) (by decide) hk hF hP1 hD1
    have hK := (hK.sub (tys' := [(cM, .int)]) [1] rfl).app hK1
    have hP := hP.sub (ws' := [(h, .inr (0, [.ref q, .int (nI c0), .int (nI (lc_cnt g c0))])), (q, .inl (cA, Lx, .inl g)), (hm, .inr (1, [.ref qm, .int (nI c0), .int th])), (qm, .inl (cM, 20000, .inl r)), (o, .inl (cJ, 1, .inr (.inl fo1)))]) [2, 3, 0, 1, 4] rfl
    have hD := hD.sub (ws' := [(h, .inr (0, [.ref q, .int (nI c0), .int (nI (lc_cnt g c0))])), (q, .inl (cA, Lx, .inl g)), (hm, .inr (1, [.ref qm, .int (nI c0), .int th])), (qm, .inl (cM, 20000, .inl r)), (o, .inl (cJ, 1, .inr (.inl fo1)))]) [2, 3, 0, 1, 4] (by decide) rfl
    have hK := hK.sub (tys' := [(cA, .int), (cM, .int), (cJ, .long)]) [1, 0, 2] rfl
    clear hz hk hPc hDc hKc hF hP1 hK1 hD1
    refine W.eq (g2 := F0 m 255 ls [.int 0]) rfl ?_
    refine lv_istore hx hb dL_law_255 hl (by decide) rfl (fun ls hl => ?_)
    have hl : lv_has ls 7 [(5, .int 0), (4, .int (nI (5 * t))), (0, .ref b), (1, .ref h), (2, .ref hm), (3, .ref o)] := hl
    refine lv_aload_n hx hb dL_law_257 rfl (lv_at hl 4 rfl) ?_
    refine lv_aload_n hx hb dL_law_258 rfl (lv_at hl 2 rfl) ?_
    refine lv_iload hx hb dL_law_259 (lv_at hl 1 rfl) ?_
    refine lv_iconst (v := 1) hx hb dL_law_261 (by decide) ?_
    refine lv_iadd hx hb dL_law_262 ?_
    refine lc_top (y := nI (5 * t + 1)) (nI_add (5 * t) 1) ?_
    refine va_sld hx hb hX hbl hbA hS (vp_in_nI (show 5 * t + 1 < L by omega) (by omega)) dL_law_263 ?_
    refine lc_top (y := nI i) ((congrArg xs (nI_clamp (by omega))).trans hp0) ?_
    have hPc := hP.sub (ws' := [(hm, .inr (1, [.ref qm, .int (nI c0), .int th])), (qm, .inl (cM, 20000, .inl r))]) [2, 3] rfl
    have hDc := hD.sub (ws' := [(hm, .inr (1, [.ref qm, .int (nI c0), .int th])), (qm, .inl (cM, 20000, .inl r))]) [2, 3] (by decide) rfl
    have hKc := hK.sub (tys' := [(cM, .int)]) [1] rfl
    have hF := va_free (wc := [(hm, .inr (1, [.ref qm, .int (nI c0), .int th])), (qm, .inl (cM, 20000, .inl r))]) hD hS hA [2, 3] rfl
    refine lc_callW (vx_runVW (hh := [(5, 10, 11, 27)]) (As := [.int (nI i)]) (rest := []) ⟨hx, hb, hml, hown, hts⟩ (m_get l D hm qm cM H.size th c0 r (by omega) i hi) (vx_cwVW 1 hts gL_law_X1_get rfl rfl rfl (by decide +kernel) ⟨Nat.le_of_ble_eq_true rfl, Nat.le_of_ble_eq_true rfl⟩) (lc_WrV (q0 := 0) (ci := 1) (q := (RX1, TX1, 3)) hPc hKc hDc rfl rfl) rfl rfl hl.1 rfl (lv_room (Nat.le_of_ble_eq_true rfl)) dL_law_264 ⟨by show _ ≤ (601024 : Nat); omega, by show _ ≤ (7293034 : Nat); omega⟩) hS (fun q h => hF q h) (fun u H locs hp hP1 hK1 hD1 hz hk hS => ?_)
    obtain ⟨hP, hD⟩ := va_join (wr := [(h, .inr (0, [.ref q, .int (nI c0), .int (nI (lc_cnt g c0))])), (q, .inl (cA, Lx, .inl g)), (o, .inl (cJ, 1, .inr (.inl fo1)))]) (w1 := [(hm, .inr (1, [.ref qm, .int (nI c0), .int 0])), (qm, .inl (cM, 20000, .inl r))]) hP hD [2, 3] [0, 1, 4] rfl rfl (by decide) (by decide) hk hF hP1 hD1
    have hK := (hK.sub (tys' := [(cA, .int), (cJ, .long)]) [0, 2] rfl).app hK1
    have hP := hP.sub (ws' := [(h, .inr (0, [.ref q, .int (nI c0), .int (nI (lc_cnt g c0))])), (q, .inl (cA, Lx, .inl g)), (hm, .inr (1, [.ref qm, .int (nI c0), .int 0])), (qm, .inl (cM, 20000, .inl r)), (o, .inl (cJ, 1, .inr (.inl fo1)))]) [0, 1, 3, 4, 2] rfl
    have hD := hD.sub (ws' := [(h, .inr (0, [.ref q, .int (nI c0), .int (nI (lc_cnt g c0))])), (q, .inl (cA, Lx, .inl g)), (hm, .inr (1, [.ref qm, .int (nI c0), .int 0])), (qm, .inl (cM, 20000, .inl r)), (o, .inl (cJ, 1, .inr (.inl fo1)))]) [0, 1, 3, 4, 2] (by decide) rfl
    have hK := hK.sub (tys' := [(cA, .int), (cM, .int), (cJ, .long)]) [0, 2, 1] rfl
    clear hz hk hPc hDc hKc hF hP1 hK1 hD1
    refine W.eq (g2 := F0 m 267 ls [.int (r i)]) rfl ?_
    refine lc_top (y := g i) (heq i hi) ?_
    refine lv_istore hx hb dL_law_267 hl (by decide) rfl (fun ls hl => ?_)
    have hl : lv_has ls 7 [(6, .int (g i)), (5, .int 0), (4, .int (nI (5 * t))), (0, .ref b), (1, .ref h), (2, .ref hm), (3, .ref o)] := hl
    refine lv_aload_n hx hb dL_law_269 rfl (lv_at hl 5 rfl) ?_
    refine lc_callR (W.runV (As := []) (rest := []) ⟨hx, hb, hml, hown, hts⟩ (m_thrown l D hm qm cM (nI c0) 0 r) (cwV 0 hts gL_law_X1_thrown rfl rfl rfl (by decide +kernel) ⟨Nat.le_of_ble_eq_true rfl, Nat.le_of_ble_eq_true rfl⟩) (lc_RdV (q0 := 0) (ci := 1) (q := (RX1, TX1, 3)) (hP.sub (ws' := [(hm, .inr (1, [.ref qm, .int (nI c0), .int 0])), (qm, .inl (cM, 20000, .inl r))]) [2, 3] rfl) (hK.sub (tys' := [(cM, .int)]) [1] rfl) rfl rfl) rfl rfl hl.1 rfl (lv_room (Nat.le_of_ble_eq_true rfl)) dL_law_270 ⟨by show _ ≤ (601024 : Nat); omega, by show _ ≤ (7293034 : Nat); omega⟩) ?_
    refine lv_iload hx hb dL_law_273 (lv_at hl 1 rfl) ?_
    refine lv_icmp_eq hx hb dL_law_275 (tgt := 280) rfl (fun _ => ?_) (fun hc => absurd (rfl) hc)
    refine lv_iload hx hb dL_law_280 (lv_at hl 1 rfl) ?_
    refine lv_if_ne hx hb dL_law_282 (tgt := 297) rfl (fun hc => absurd (rfl) hc) (fun _ => ?_)
    refine lv_aload_n hx hb dL_law_285 rfl (lv_at hl 6 rfl) ?_
    refine lv_iconst (v := 0) hx hb dL_law_286 (by decide) ?_
    refine va_lald (D := D) hx hb hK hP 4 2 rfl rfl (vp_in_nI (n := 0) (N := 1) (by decide) (by decide)) dL_law_287 ?_
    refine lc_topl (y := (g i).toInt64) ((congrArg fo1 sb_cl0).trans hpf) ?_
    refine lv_iload hx hb dL_law_288 (lv_at hl 0 rfl) ?_
    refine lv_i2l (v := (g i).toInt64) hx hb dL_law_290 rfl ?_
    refine W.lcmp hx hb dL_law_291 ?_
    refine lc_top (y := 0) (lc_cmp _) ?_
    refine lv_if_eq hx hb dL_law_292 (tgt := 297) rfl (fun _ => ?_) (fun hc => absurd (rfl) hc)
    refine lv_goto hx hb dL_law_297 (tgt := 451) rfl ?_
    have hl : lv_has ls 7 [(4, .int (nI (5 * t))), (0, .ref b), (1, .ref h), (2, .ref hm), (3, .ref o)] := lv_sub hl [2, 3, 4, 5, 6] rfl
    refine W.widen (k := 5 + 2 * (t + 1)) (n := 20519 + 12 * (t + 1) + pt) (by omega) (by omega) ?_
    exact next pt H locs ls ⟨q, cA, Lx, c0, g, qm, cM, 0, r, cJ, fo1, hL5, hLx, hc0, heq, hpt, hP, hD, hK, hS⟩ hl
set_option maxHeartbeats 4000000 in
set_option maxRecDepth 100000 in
theorem q_line {p : Program} {l : Launch} {e : Env} {s : State} {m : MethodId} {below : List Frame} {meth : Method} {c : Code} {b L : Nat} {xs : Nat → Int32} (C0 : lw_At p s m meth c b L xs) (hst : l.stackTraces = false) (hL : L ≤ 2560) {D : va_G} (hZ : lc_TZ (fun q => s.heap.size ≤ q) s s.heap) {h hm o t : Nat} (ht : 5 * t + 5 ≤ L) (next : ∀ (pt : Nat) (H : Heap) (locs : List Loc) (ls : Array Slot), lc_I D s H locs h hm o pt → lv_has ls 7 [(4, .int (nI (5 * t))), (0, .ref b), (1, .ref h), (2, .ref hm), (3, .ref o)] → W p l e room_1 s m #[Value.ref b] below meth c H locs (5 + 2 * (t + 1)) (20519 + 12 * (t + 1) + pt) (lw_Z below #[Value.ref b] s) (F0 m 451 ls [])) {pt : Nat} {H : Heap} {locs : List Loc} {ls : Array Slot} (hI : lc_I D s H locs h hm o pt) (hl : lv_has ls 7 [(4, .int (nI (5 * t))), (0, .ref b), (1, .ref h), (2, .ref hm), (3, .ref o)]) : W p l e room_1 s m #[Value.ref b] below meth c H locs (5 + 2 * t) (20519 + 12 * t + pt) (lw_Z below #[Value.ref b] s) (F0 m 326 ls []) := by
  obtain ⟨hx, hb, hr, hml, hown, hts, hX, hbl, hlocks, hgv⟩ := C0
  have hts : ∀ w ∈ wsL_law, w.before #[Value.ref b] s = true := fun w h => hts w (lc_lawin w h)
  obtain ⟨q, cA, Lx, c0, g, qm, cM, th, r, cJ, fo, hL5, hLx, hc0, heq, hpt, hP, hD, hK, hS⟩ := hI
  have hA : ∀ q : Nat, s.heap.size ≤ q → (fun q => s.heap.size ≤ q) q := fun q h => h
  have hbA : ¬ (fun q => s.heap.size ≤ q) b := fun h => absurd hbl (Nat.not_lt.mpr h)
  obtain ⟨p0, hp0⟩ : ∃ z, xs (5 * t + 1) = z := ⟨_, rfl⟩
  have hle := lc_cnt_le g c0
  by_cases hbad : p0 < 0 ∨ nI (lc_cnt g c0) < p0
  · refine lv_aload_n hx hb dL_law_326 rfl (lv_at hl 2 rfl) ?_
    refine lv_aload_n hx hb dL_law_327 rfl (lv_at hl 1 rfl) ?_
    refine lv_iload hx hb dL_law_328 (lv_at hl 0 rfl) ?_
    refine lv_iconst (v := 1) hx hb dL_law_330 (by decide) ?_
    refine lv_iadd hx hb dL_law_331 ?_
    refine lc_top (y := nI (5 * t + 1)) (nI_add (5 * t) 1) ?_
    refine va_sld hx hb hX hbl hbA hS (vp_in_nI (show 5 * t + 1 < L by omega) (by omega)) dL_law_332 ?_
    refine lc_top (y := p0) ((congrArg xs (nI_clamp (by omega))).trans hp0) ?_
    refine lv_aload_n hx hb dL_law_333 rfl (lv_at hl 4 rfl) ?_
    refine lc_callB (vx_runSW (hh := [(0, 9, 12, 25)]) (As := [.ref h, .int p0, .ref o]) (rest := []) ⟨hx, hb, hml, hown, hts⟩ (w_line_bad l D h q cA o cJ hst (nI c0) (nI (lc_cnt g c0)) Lx g p0 hbad) (vx_cwSW 3 hts gL_law_L_line rfl rfl rfl (by decide +kernel) ⟨Nat.le_of_ble_eq_true rfl, Nat.le_of_ble_eq_true rfl⟩) (lc_TxS (hP.sub (ws' := [(h, .inr (0, [.ref q, .int (nI c0), .int (nI (lc_cnt g c0))])), (q, .inl (cA, Lx, .inl g))]) [0, 1] rfl) (hK.sub (tys' := [(cA, .int)]) [0] rfl) ((hZ.kept hS.2.1).narrow (fun _ h => h.elim))) rfl rfl hl.1 rfl (lv_room (Nat.le_of_ble_eq_true rfl)) dL_law_334 ⟨by show _ ≤ (601024 : Nat); omega, by show _ ≤ (7293034 : Nat); omega⟩) (fun H1 hz hk => ?_)
    have hP := lc_keptP hP hk
    have hS := lc_keptS hS hz hk
    clear hz hk
    generalize H1 = H at hP hS ⊢
    refine lv_istore hx hb dL_law_337 hl (by decide) rfl (fun ls hl => ?_)
    have hl : lv_has ls 7 [(5, .int 1), (4, .int (nI (5 * t))), (0, .ref b), (1, .ref h), (2, .ref hm), (3, .ref o)] := hl
    refine lv_aload_n hx hb dL_law_339 rfl (lv_at hl 4 rfl) ?_
    refine lv_aload_n hx hb dL_law_340 rfl (lv_at hl 2 rfl) ?_
    refine lv_iload hx hb dL_law_341 (lv_at hl 1 rfl) ?_
    refine lv_iconst (v := 1) hx hb dL_law_343 (by decide) ?_
    refine lv_iadd hx hb dL_law_344 ?_
    refine lc_top (y := nI (5 * t + 1)) (nI_add (5 * t) 1) ?_
    refine va_sld hx hb hX hbl hbA hS (vp_in_nI (show 5 * t + 1 < L by omega) (by omega)) dL_law_345 ?_
    refine lc_top (y := p0) ((congrArg xs (nI_clamp (by omega))).trans hp0) ?_
    have hPc := hP.sub (ws' := [(hm, .inr (1, [.ref qm, .int (nI c0), .int th])), (qm, .inl (cM, 20000, .inl r))]) [2, 3] rfl
    have hDc := hD.sub (ws' := [(hm, .inr (1, [.ref qm, .int (nI c0), .int th])), (qm, .inl (cM, 20000, .inl r))]) [2, 3] (by decide) rfl
    have hKc := hK.sub (tys' := [(cM, .int)]) [1] rfl
    have hF := va_free (wc := [(hm, .inr (1, [.ref qm, .int (nI c0), .int th])), (qm, .inl (cM, 20000, .inl r))]) hD hS hA [2, 3] rfl
    refine lc_callW (vx_runVW (hh := [(5, 10, 11, 27)]) (As := [.int p0]) (rest := []) ⟨hx, hb, hml, hown, hts⟩ (m_line_bad l D hm qm cM H.size hst th c0 r (by omega) p0 (by rw [lc_cnt_congr heq]; exact hbad)) (vx_cwVW 1 hts gL_law_X1_line rfl rfl rfl (by decide +kernel) ⟨Nat.le_of_ble_eq_true rfl, Nat.le_of_ble_eq_true rfl⟩) (lc_WTV (q0 := 0) (ci := 1) (q := (RX1, TX1, 3)) hPc hKc hDc ((hZ.kept hS.2.1).narrow (fun q h => hF q h)) rfl rfl) rfl rfl hl.1 rfl (lv_room (Nat.le_of_ble_eq_true rfl)) dL_law_346 ⟨by show _ ≤ (601024 : Nat); omega, by show _ ≤ (7293034 : Nat); omega⟩) hS (fun q h => hF q h) (fun u H locs hp hP1 hK1 hD1 hz hk hS => ?_)
    obtain ⟨hP, hD⟩ := va_join (wr := [(h, .inr (0, [.ref q, .int (nI c0), .int (nI (lc_cnt g c0))])), (q, .inl (cA, Lx, .inl g)), (o, .inl (cJ, 1, .inr (.inl fo)))]) (w1 := [(hm, .inr (1, [.ref qm, .int (nI c0), .int 1])), (qm, .inl (cM, 20000, .inl r))]) hP hD [2, 3] [0, 1, 4] rfl rfl (by decide) (by decide) hk hF hP1 hD1
    have hK := (hK.sub (tys' := [(cA, .int), (cJ, .long)]) [0, 2] rfl).app hK1
    have hP := hP.sub (ws' := [(h, .inr (0, [.ref q, .int (nI c0), .int (nI (lc_cnt g c0))])), (q, .inl (cA, Lx, .inl g)), (hm, .inr (1, [.ref qm, .int (nI c0), .int 1])), (qm, .inl (cM, 20000, .inl r)), (o, .inl (cJ, 1, .inr (.inl fo)))]) [0, 1, 3, 4, 2] rfl
    have hD := hD.sub (ws' := [(h, .inr (0, [.ref q, .int (nI c0), .int (nI (lc_cnt g c0))])), (q, .inl (cA, Lx, .inl g)), (hm, .inr (1, [.ref qm, .int (nI c0), .int 1])), (qm, .inl (cM, 20000, .inl r)), (o, .inl (cJ, 1, .inr (.inl fo)))]) [0, 1, 3, 4, 2] (by decide) rfl
    have hK := hK.sub (tys' := [(cA, .int), (cM, .int), (cJ, .long)]) [0, 2, 1] rfl
    clear hz hk hPc hDc hKc hF hP1 hK1 hD1
    refine W.eq (g2 := F0 m 349 ls [.int 0]) rfl ?_
    refine lv_istore hx hb dL_law_349 hl (by decide) rfl (fun ls hl => ?_)
    have hl : lv_has ls 7 [(6, .int 0), (5, .int 1), (4, .int (nI (5 * t))), (0, .ref b), (1, .ref h), (2, .ref hm), (3, .ref o)] := hl
    refine lv_aload_n hx hb dL_law_351 rfl (lv_at hl 5 rfl) ?_
    refine lc_callR (W.runV (As := []) (rest := []) ⟨hx, hb, hml, hown, hts⟩ (m_thrown l D hm qm cM (nI c0) 1 r) (cwV 0 hts gL_law_X1_thrown rfl rfl rfl (by decide +kernel) ⟨Nat.le_of_ble_eq_true rfl, Nat.le_of_ble_eq_true rfl⟩) (lc_RdV (q0 := 0) (ci := 1) (q := (RX1, TX1, 3)) (hP.sub (ws' := [(hm, .inr (1, [.ref qm, .int (nI c0), .int 1])), (qm, .inl (cM, 20000, .inl r))]) [2, 3] rfl) (hK.sub (tys' := [(cM, .int)]) [1] rfl) rfl rfl) rfl rfl hl.1 rfl (lv_room (Nat.le_of_ble_eq_true rfl)) dL_law_352 ⟨by show _ ≤ (601024 : Nat); omega, by show _ ≤ (7293034 : Nat); omega⟩) ?_
    refine lv_iload hx hb dL_law_355 (lv_at hl 1 rfl) ?_
    refine lv_icmp_eq hx hb dL_law_357 (tgt := 362) rfl (fun _ => ?_) (fun hc => absurd (rfl) hc)
    refine lv_iload hx hb dL_law_362 (lv_at hl 1 rfl) ?_
    refine lv_if_ne hx hb dL_law_364 (tgt := 379) rfl (fun _ => ?_) (fun hc => absurd hc (by decide))
    refine lv_goto hx hb dL_law_379 (tgt := 451) rfl ?_
    have hl : lv_has ls 7 [(4, .int (nI (5 * t))), (0, .ref b), (1, .ref h), (2, .ref hm), (3, .ref o)] := lv_sub hl [2, 3, 4, 5, 6] rfl
    refine W.widen (k := 5 + 2 * (t + 1)) (n := 20519 + 12 * (t + 1) + pt) (by omega) (by omega) ?_
    exact next pt H locs ls ⟨q, cA, Lx, c0, g, qm, cM, 1, r, cJ, fo, hL5, hLx, hc0, heq, hpt, hP, hD, hK, hS⟩ hl
  · obtain ⟨i, hi, rfl⟩ := lc_okL hbad (by omega)
    obtain ⟨j0, hj0, hj⟩ := lc_isL_ex hi
    refine lv_aload_n hx hb dL_law_326 rfl (lv_at hl 2 rfl) ?_
    refine lv_aload_n hx hb dL_law_327 rfl (lv_at hl 1 rfl) ?_
    refine lv_iload hx hb dL_law_328 (lv_at hl 0 rfl) ?_
    refine lv_iconst (v := 1) hx hb dL_law_330 (by decide) ?_
    refine lv_iadd hx hb dL_law_331 ?_
    refine lc_top (y := nI (5 * t + 1)) (nI_add (5 * t) 1) ?_
    refine va_sld hx hb hX hbl hbA hS (vp_in_nI (show 5 * t + 1 < L by omega) (by omega)) dL_law_332 ?_
    refine lc_top (y := nI i) ((congrArg xs (nI_clamp (by omega))).trans hp0) ?_
    refine lv_aload_n hx hb dL_law_333 rfl (lv_at hl 4 rfl) ?_
    have hPc := hP.sub (ws' := [(h, .inr (0, [.ref q, .int (nI c0), .int (nI (lc_cnt g c0))])), (q, .inl (cA, Lx, .inl g)), (o, .inl (cJ, 1, .inr (.inl fo)))]) [0, 1, 4] rfl
    have hDc := hD.sub (ws' := [(h, .inr (0, [.ref q, .int (nI c0), .int (nI (lc_cnt g c0))])), (q, .inl (cA, Lx, .inl g)), (o, .inl (cJ, 1, .inr (.inl fo)))]) [0, 1, 4] (by decide) rfl
    have hKc := hK.sub (tys' := [(cA, .int), (cJ, .long)]) [0, 2] rfl
    have hF := va_free (wc := [(h, .inr (0, [.ref q, .int (nI c0), .int (nI (lc_cnt g c0))])), (q, .inl (cA, Lx, .inl g)), (o, .inl (cJ, 1, .inr (.inl fo)))]) hD hS hA [0, 1, 4] rfl
    refine lc_callW (vx_runSW (hh := [(0, 9, 12, 25)]) (As := [.ref h, .int (nI i), .ref o]) (rest := []) ⟨hx, hb, hml, hown, hts⟩ (w_line l D h q cA o cJ H.size fo Lx c0 g hLx hc0 i j0 hi hj hj0) (vx_cwSW 3 hts gL_law_L_line rfl rfl rfl (by decide +kernel) ⟨Nat.le_of_ble_eq_true rfl, Nat.le_of_ble_eq_true rfl⟩) (lc_WrS hPc hKc hDc) rfl rfl hl.1 rfl (lv_room (Nat.le_of_ble_eq_true rfl)) dL_law_334 ⟨by show _ ≤ (601024 : Nat); omega, by show _ ≤ (7293034 : Nat); omega⟩) hS (fun q h => hF q h) (fun u H locs hp hP1 hK1 hD1 hz hk hS => ?_)
    obtain ⟨fo1, hfo1⟩ : ∃ z : Nat → Int64, z = u := ⟨u, rfl⟩
    rw [← hfo1] at hp hP1 hD1
    have hpf := hp
    obtain ⟨hP, hD⟩ := va_join (wr := [(hm, .inr (1, [.ref qm, .int (nI c0), .int th])), (qm, .inl (cM, 20000, .inl r))]) (w1 := [(h, .inr (0, [.ref q, .int (nI c0), .int (nI (lc_cnt g c0))])), (q, .inl (cA, Lx, .inl g)), (o, .inl (cJ, 1, .inr (.inl fo1)))]) hP hD [0, 1, 4] [2, 3] rfl rfl (by decide) (by decide) hk hF hP1 hD1
    have hK := (hK.sub (tys' := [(cM, .int)]) [1] rfl).app hK1
    have hP := hP.sub (ws' := [(h, .inr (0, [.ref q, .int (nI c0), .int (nI (lc_cnt g c0))])), (q, .inl (cA, Lx, .inl g)), (hm, .inr (1, [.ref qm, .int (nI c0), .int th])), (qm, .inl (cM, 20000, .inl r)), (o, .inl (cJ, 1, .inr (.inl fo1)))]) [2, 3, 0, 1, 4] rfl
    have hD := hD.sub (ws' := [(h, .inr (0, [.ref q, .int (nI c0), .int (nI (lc_cnt g c0))])), (q, .inl (cA, Lx, .inl g)), (hm, .inr (1, [.ref qm, .int (nI c0), .int th])), (qm, .inl (cM, 20000, .inl r)), (o, .inl (cJ, 1, .inr (.inl fo1)))]) [2, 3, 0, 1, 4] (by decide) rfl
    have hK := hK.sub (tys' := [(cA, .int), (cM, .int), (cJ, .long)]) [1, 0, 2] rfl
    clear hz hk hPc hDc hKc hF hP1 hK1 hD1
    refine W.eq (g2 := F0 m 337 ls [.int 0]) rfl ?_
    refine lv_istore hx hb dL_law_337 hl (by decide) rfl (fun ls hl => ?_)
    have hl : lv_has ls 7 [(5, .int 0), (4, .int (nI (5 * t))), (0, .ref b), (1, .ref h), (2, .ref hm), (3, .ref o)] := hl
    refine lv_aload_n hx hb dL_law_339 rfl (lv_at hl 4 rfl) ?_
    refine lv_aload_n hx hb dL_law_340 rfl (lv_at hl 2 rfl) ?_
    refine lv_iload hx hb dL_law_341 (lv_at hl 1 rfl) ?_
    refine lv_iconst (v := 1) hx hb dL_law_343 (by decide) ?_
    refine lv_iadd hx hb dL_law_344 ?_
    refine lc_top (y := nI (5 * t + 1)) (nI_add (5 * t) 1) ?_
    refine va_sld hx hb hX hbl hbA hS (vp_in_nI (show 5 * t + 1 < L by omega) (by omega)) dL_law_345 ?_
    refine lc_top (y := nI i) ((congrArg xs (nI_clamp (by omega))).trans hp0) ?_
    have hPc := hP.sub (ws' := [(hm, .inr (1, [.ref qm, .int (nI c0), .int th])), (qm, .inl (cM, 20000, .inl r))]) [2, 3] rfl
    have hDc := hD.sub (ws' := [(hm, .inr (1, [.ref qm, .int (nI c0), .int th])), (qm, .inl (cM, 20000, .inl r))]) [2, 3] (by decide) rfl
    have hKc := hK.sub (tys' := [(cM, .int)]) [1] rfl
    have hF := va_free (wc := [(hm, .inr (1, [.ref qm, .int (nI c0), .int th])), (qm, .inl (cM, 20000, .inl r))]) hD hS hA [2, 3] rfl
    refine lc_callW (vx_runVW (hh := [(5, 10, 11, 27)]) (As := [.int (nI i)]) (rest := []) ⟨hx, hb, hml, hown, hts⟩ (m_line l D hm qm cM H.size th c0 r (by omega) i j0 (by rw [lc_cnt_congr heq]; exact hi) (lc_isL_congr (fun j h => (heq j h).symm) hj0 hj) hj0) (vx_cwVW 1 hts gL_law_X1_line rfl rfl rfl (by decide +kernel) ⟨Nat.le_of_ble_eq_true rfl, Nat.le_of_ble_eq_true rfl⟩) (lc_WrV (q0 := 0) (ci := 1) (q := (RX1, TX1, 3)) hPc hKc hDc rfl rfl) rfl rfl hl.1 rfl (lv_room (Nat.le_of_ble_eq_true rfl)) dL_law_346 ⟨by show _ ≤ (601024 : Nat); omega, by show _ ≤ (7293034 : Nat); omega⟩) hS (fun q h => hF q h) (fun u H locs hp hP1 hK1 hD1 hz hk hS => ?_)
    obtain ⟨hP, hD⟩ := va_join (wr := [(h, .inr (0, [.ref q, .int (nI c0), .int (nI (lc_cnt g c0))])), (q, .inl (cA, Lx, .inl g)), (o, .inl (cJ, 1, .inr (.inl fo1)))]) (w1 := [(hm, .inr (1, [.ref qm, .int (nI c0), .int 0])), (qm, .inl (cM, 20000, .inl r))]) hP hD [2, 3] [0, 1, 4] rfl rfl (by decide) (by decide) hk hF hP1 hD1
    have hK := (hK.sub (tys' := [(cA, .int), (cJ, .long)]) [0, 2] rfl).app hK1
    have hP := hP.sub (ws' := [(h, .inr (0, [.ref q, .int (nI c0), .int (nI (lc_cnt g c0))])), (q, .inl (cA, Lx, .inl g)), (hm, .inr (1, [.ref qm, .int (nI c0), .int 0])), (qm, .inl (cM, 20000, .inl r)), (o, .inl (cJ, 1, .inr (.inl fo1)))]) [0, 1, 3, 4, 2] rfl
    have hD := hD.sub (ws' := [(h, .inr (0, [.ref q, .int (nI c0), .int (nI (lc_cnt g c0))])), (q, .inl (cA, Lx, .inl g)), (hm, .inr (1, [.ref qm, .int (nI c0), .int 0])), (qm, .inl (cM, 20000, .inl r)), (o, .inl (cJ, 1, .inr (.inl fo1)))]) [0, 1, 3, 4, 2] (by decide) rfl
    have hK := hK.sub (tys' := [(cA, .int), (cM, .int), (cJ, .long)]) [0, 2, 1] rfl
    clear hz hk hPc hDc hKc hF hP1 hK1 hD1
    refine W.eq (g2 := F0 m 349 ls [.int (nI j0)]) rfl ?_
    refine lv_istore hx hb dL_law_349 hl (by decide) rfl (fun ls hl => ?_)
    have hl : lv_has ls 7 [(6, .int (nI j0)), (5, .int 0), (4, .int (nI (5 * t))), (0, .ref b), (1, .ref h), (2, .ref hm), (3, .ref o)] := hl
    refine lv_aload_n hx hb dL_law_351 rfl (lv_at hl 5 rfl) ?_
    refine lc_callR (W.runV (As := []) (rest := []) ⟨hx, hb, hml, hown, hts⟩ (m_thrown l D hm qm cM (nI c0) 0 r) (cwV 0 hts gL_law_X1_thrown rfl rfl rfl (by decide +kernel) ⟨Nat.le_of_ble_eq_true rfl, Nat.le_of_ble_eq_true rfl⟩) (lc_RdV (q0 := 0) (ci := 1) (q := (RX1, TX1, 3)) (hP.sub (ws' := [(hm, .inr (1, [.ref qm, .int (nI c0), .int 0])), (qm, .inl (cM, 20000, .inl r))]) [2, 3] rfl) (hK.sub (tys' := [(cM, .int)]) [1] rfl) rfl rfl) rfl rfl hl.1 rfl (lv_room (Nat.le_of_ble_eq_true rfl)) dL_law_352 ⟨by show _ ≤ (601024 : Nat); omega, by show _ ≤ (7293034 : Nat); omega⟩) ?_
    refine lv_iload hx hb dL_law_355 (lv_at hl 1 rfl) ?_
    refine lv_icmp_eq hx hb dL_law_357 (tgt := 362) rfl (fun _ => ?_) (fun hc => absurd (rfl) hc)
    refine lv_iload hx hb dL_law_362 (lv_at hl 1 rfl) ?_
    refine lv_if_ne hx hb dL_law_364 (tgt := 379) rfl (fun hc => absurd (rfl) hc) (fun _ => ?_)
    refine lv_aload_n hx hb dL_law_367 rfl (lv_at hl 6 rfl) ?_
    refine lv_iconst (v := 0) hx hb dL_law_368 (by decide) ?_
    refine va_lald (D := D) hx hb hK hP 4 2 rfl rfl (vp_in_nI (n := 0) (N := 1) (by decide) (by decide)) dL_law_369 ?_
    refine lc_topl (y := (nI j0).toInt64) ((congrArg fo1 sb_cl0).trans hpf) ?_
    refine lv_iload hx hb dL_law_370 (lv_at hl 0 rfl) ?_
    refine lv_i2l (v := (nI j0).toInt64) hx hb dL_law_372 rfl ?_
    refine W.lcmp hx hb dL_law_373 ?_
    refine lc_top (y := 0) (lc_cmp _) ?_
    refine lv_if_eq hx hb dL_law_374 (tgt := 379) rfl (fun _ => ?_) (fun hc => absurd (rfl) hc)
    refine lv_goto hx hb dL_law_379 (tgt := 451) rfl ?_
    have hl : lv_has ls 7 [(4, .int (nI (5 * t))), (0, .ref b), (1, .ref h), (2, .ref hm), (3, .ref o)] := lv_sub hl [2, 3, 4, 5, 6] rfl
    refine W.widen (k := 5 + 2 * (t + 1)) (n := 20519 + 12 * (t + 1) + pt) (by omega) (by omega) ?_
    exact next pt H locs ls ⟨q, cA, Lx, c0, g, qm, cM, 0, r, cJ, fo1, hL5, hLx, hc0, heq, hpt, hP, hD, hK, hS⟩ hl
set_option maxHeartbeats 4000000 in
set_option maxRecDepth 100000 in
theorem q_lineOf {p : Program} {l : Launch} {e : Env} {s : State} {m : MethodId} {below : List Frame} {meth : Method} {c : Code} {b L : Nat} {xs : Nat → Int32} (C0 : lw_At p s m meth c b L xs) (hst : l.stackTraces = false) (hL : L ≤ 2560) {D : va_G} (hZ : lc_TZ (fun q => s.heap.size ≤ q) s s.heap) {h hm o t : Nat} (ht : 5 * t + 5 ≤ L) (next : ∀ (pt : Nat) (H : Heap) (locs : List Loc) (ls : Array Slot), lc_I D s H locs h hm o pt → lv_has ls 7 [(4, .int (nI (5 * t))), (0, .ref b), (1, .ref h), (2, .ref hm), (3, .ref o)] → W p l e room_1 s m #[Value.ref b] below meth c H locs (5 + 2 * (t + 1)) (20519 + 12 * (t + 1) + pt) (lw_Z below #[Value.ref b] s) (F0 m 451 ls [])) {pt : Nat} {H : Heap} {locs : List Loc} {ls : Array Slot} (hI : lc_I D s H locs h hm o pt) (hl : lv_has ls 7 [(4, .int (nI (5 * t))), (0, .ref b), (1, .ref h), (2, .ref hm), (3, .ref o)]) : W p l e room_1 s m #[Value.ref b] below meth c H locs (5 + 2 * t) (20519 + 12 * t + pt) (lw_Z below #[Value.ref b] s) (F0 m 382 ls []) := by
  obtain ⟨hx, hb, hr, hml, hown, hts, hX, hbl, hlocks, hgv⟩ := C0
  have hts : ∀ w ∈ wsL_law, w.before #[Value.ref b] s = true := fun w h => hts w (lc_lawin w h)
  obtain ⟨q, cA, Lx, c0, g, qm, cM, th, r, cJ, fo, hL5, hLx, hc0, heq, hpt, hP, hD, hK, hS⟩ := hI
  have hA : ∀ q : Nat, s.heap.size ≤ q → (fun q => s.heap.size ≤ q) q := fun q h => h
  have hbA : ¬ (fun q => s.heap.size ≤ q) b := fun h => absurd hbl (Nat.not_lt.mpr h)
  obtain ⟨p0, hp0⟩ : ∃ z, xs (5 * t + 1) = z := ⟨_, rfl⟩
  by_cases hbad : p0 < 0 ∨ nI c0 < p0
  · refine lv_aload_n hx hb dL_law_382 rfl (lv_at hl 2 rfl) ?_
    refine lv_aload_n hx hb dL_law_383 rfl (lv_at hl 1 rfl) ?_
    refine lv_iload hx hb dL_law_384 (lv_at hl 0 rfl) ?_
    refine lv_iconst (v := 1) hx hb dL_law_386 (by decide) ?_
    refine lv_iadd hx hb dL_law_387 ?_
    refine lc_top (y := nI (5 * t + 1)) (nI_add (5 * t) 1) ?_
    refine va_sld hx hb hX hbl hbA hS (vp_in_nI (show 5 * t + 1 < L by omega) (by omega)) dL_law_388 ?_
    refine lc_top (y := p0) ((congrArg xs (nI_clamp (by omega))).trans hp0) ?_
    refine lv_aload_n hx hb dL_law_389 rfl (lv_at hl 4 rfl) ?_
    refine lc_callB (vx_runSW (hh := [(0, 9, 12, 13)]) (As := [.ref h, .int p0, .ref o]) (rest := []) ⟨hx, hb, hml, hown, hts⟩ (w_lineOf_bad l D h q cA o cJ hst (nI c0) (nI (lc_cnt g c0)) Lx g p0 hbad) (vx_cwSW 3 hts gL_law_L_lineOf rfl rfl rfl (by decide +kernel) ⟨Nat.le_of_ble_eq_true rfl, Nat.le_of_ble_eq_true rfl⟩) (lc_TxS (hP.sub (ws' := [(h, .inr (0, [.ref q, .int (nI c0), .int (nI (lc_cnt g c0))])), (q, .inl (cA, Lx, .inl g))]) [0, 1] rfl) (hK.sub (tys' := [(cA, .int)]) [0] rfl) ((hZ.kept hS.2.1).narrow (fun _ h => h.elim))) rfl rfl hl.1 rfl (lv_room (Nat.le_of_ble_eq_true rfl)) dL_law_390 ⟨by show _ ≤ (601024 : Nat); omega, by show _ ≤ (7293034 : Nat); omega⟩) (fun H1 hz hk => ?_)
    have hP := lc_keptP hP hk
    have hS := lc_keptS hS hz hk
    clear hz hk
    generalize H1 = H at hP hS ⊢
    refine lv_istore hx hb dL_law_393 hl (by decide) rfl (fun ls hl => ?_)
    have hl : lv_has ls 7 [(5, .int 1), (4, .int (nI (5 * t))), (0, .ref b), (1, .ref h), (2, .ref hm), (3, .ref o)] := hl
    refine lv_aload_n hx hb dL_law_395 rfl (lv_at hl 4 rfl) ?_
    refine lv_aload_n hx hb dL_law_396 rfl (lv_at hl 2 rfl) ?_
    refine lv_iload hx hb dL_law_397 (lv_at hl 1 rfl) ?_
    refine lv_iconst (v := 1) hx hb dL_law_399 (by decide) ?_
    refine lv_iadd hx hb dL_law_400 ?_
    refine lc_top (y := nI (5 * t + 1)) (nI_add (5 * t) 1) ?_
    refine va_sld hx hb hX hbl hbA hS (vp_in_nI (show 5 * t + 1 < L by omega) (by omega)) dL_law_401 ?_
    refine lc_top (y := p0) ((congrArg xs (nI_clamp (by omega))).trans hp0) ?_
    have hPc := hP.sub (ws' := [(hm, .inr (1, [.ref qm, .int (nI c0), .int th])), (qm, .inl (cM, 20000, .inl r))]) [2, 3] rfl
    have hDc := hD.sub (ws' := [(hm, .inr (1, [.ref qm, .int (nI c0), .int th])), (qm, .inl (cM, 20000, .inl r))]) [2, 3] (by decide) rfl
    have hKc := hK.sub (tys' := [(cM, .int)]) [1] rfl
    have hF := va_free (wc := [(hm, .inr (1, [.ref qm, .int (nI c0), .int th])), (qm, .inl (cM, 20000, .inl r))]) hD hS hA [2, 3] rfl
    refine lc_callW (vx_runVW (hh := [(5, 10, 11, 13)]) (As := [.int p0]) (rest := []) ⟨hx, hb, hml, hown, hts⟩ (m_lineOf_bad l D hm qm cM H.size hst (nI c0) th r p0 hbad) (vx_cwVW 1 hts gL_law_X1_lineOf rfl rfl rfl (by decide +kernel) ⟨Nat.le_of_ble_eq_true rfl, Nat.le_of_ble_eq_true rfl⟩) (lc_WTV (q0 := 0) (ci := 1) (q := (RX1, TX1, 3)) hPc hKc hDc ((hZ.kept hS.2.1).narrow (fun q h => hF q h)) rfl rfl) rfl rfl hl.1 rfl (lv_room (Nat.le_of_ble_eq_true rfl)) dL_law_402 ⟨by show _ ≤ (601024 : Nat); omega, by show _ ≤ (7293034 : Nat); omega⟩) hS (fun q h => hF q h) (fun u H locs hp hP1 hK1 hD1 hz hk hS => ?_)
    obtain ⟨hP, hD⟩ := va_join (wr := [(h, .inr (0, [.ref q, .int (nI c0), .int (nI (lc_cnt g c0))])), (q, .inl (cA, Lx, .inl g)), (o, .inl (cJ, 1, .inr (.inl fo)))]) (w1 := [(hm, .inr (1, [.ref qm, .int (nI c0), .int 1])), (qm, .inl (cM, 20000, .inl r))]) hP hD [2, 3] [0, 1, 4] rfl rfl (by decide) (by decide) hk hF hP1 hD1
    have hK := (hK.sub (tys' := [(cA, .int), (cJ, .long)]) [0, 2] rfl).app hK1
    have hP := hP.sub (ws' := [(h, .inr (0, [.ref q, .int (nI c0), .int (nI (lc_cnt g c0))])), (q, .inl (cA, Lx, .inl g)), (hm, .inr (1, [.ref qm, .int (nI c0), .int 1])), (qm, .inl (cM, 20000, .inl r)), (o, .inl (cJ, 1, .inr (.inl fo)))]) [0, 1, 3, 4, 2] rfl
    have hD := hD.sub (ws' := [(h, .inr (0, [.ref q, .int (nI c0), .int (nI (lc_cnt g c0))])), (q, .inl (cA, Lx, .inl g)), (hm, .inr (1, [.ref qm, .int (nI c0), .int 1])), (qm, .inl (cM, 20000, .inl r)), (o, .inl (cJ, 1, .inr (.inl fo)))]) [0, 1, 3, 4, 2] (by decide) rfl
    have hK := hK.sub (tys' := [(cA, .int), (cM, .int), (cJ, .long)]) [0, 2, 1] rfl
    clear hz hk hPc hDc hKc hF hP1 hK1 hD1
    refine W.eq (g2 := F0 m 405 ls [.int 0]) rfl ?_
    refine lv_istore hx hb dL_law_405 hl (by decide) rfl (fun ls hl => ?_)
    have hl : lv_has ls 7 [(6, .int 0), (5, .int 1), (4, .int (nI (5 * t))), (0, .ref b), (1, .ref h), (2, .ref hm), (3, .ref o)] := hl
    refine lv_aload_n hx hb dL_law_407 rfl (lv_at hl 5 rfl) ?_
    refine lc_callR (W.runV (As := []) (rest := []) ⟨hx, hb, hml, hown, hts⟩ (m_thrown l D hm qm cM (nI c0) 1 r) (cwV 0 hts gL_law_X1_thrown rfl rfl rfl (by decide +kernel) ⟨Nat.le_of_ble_eq_true rfl, Nat.le_of_ble_eq_true rfl⟩) (lc_RdV (q0 := 0) (ci := 1) (q := (RX1, TX1, 3)) (hP.sub (ws' := [(hm, .inr (1, [.ref qm, .int (nI c0), .int 1])), (qm, .inl (cM, 20000, .inl r))]) [2, 3] rfl) (hK.sub (tys' := [(cM, .int)]) [1] rfl) rfl rfl) rfl rfl hl.1 rfl (lv_room (Nat.le_of_ble_eq_true rfl)) dL_law_408 ⟨by show _ ≤ (601024 : Nat); omega, by show _ ≤ (7293034 : Nat); omega⟩) ?_
    refine lv_iload hx hb dL_law_411 (lv_at hl 1 rfl) ?_
    refine lv_icmp_eq hx hb dL_law_413 (tgt := 418) rfl (fun _ => ?_) (fun hc => absurd (rfl) hc)
    refine lv_iload hx hb dL_law_418 (lv_at hl 1 rfl) ?_
    refine lv_if_ne hx hb dL_law_420 (tgt := 435) rfl (fun _ => ?_) (fun hc => absurd hc (by decide))
    refine lv_goto hx hb dL_law_435 (tgt := 451) rfl ?_
    have hl : lv_has ls 7 [(4, .int (nI (5 * t))), (0, .ref b), (1, .ref h), (2, .ref hm), (3, .ref o)] := lv_sub hl [2, 3, 4, 5, 6] rfl
    refine W.widen (k := 5 + 2 * (t + 1)) (n := 20519 + 12 * (t + 1) + pt) (by omega) (by omega) ?_
    exact next pt H locs ls ⟨q, cA, Lx, c0, g, qm, cM, 1, r, cJ, fo, hL5, hLx, hc0, heq, hpt, hP, hD, hK, hS⟩ hl
  · obtain ⟨i, hi, rfl⟩ := lc_okL hbad (by omega)
    refine lv_aload_n hx hb dL_law_382 rfl (lv_at hl 2 rfl) ?_
    refine lv_aload_n hx hb dL_law_383 rfl (lv_at hl 1 rfl) ?_
    refine lv_iload hx hb dL_law_384 (lv_at hl 0 rfl) ?_
    refine lv_iconst (v := 1) hx hb dL_law_386 (by decide) ?_
    refine lv_iadd hx hb dL_law_387 ?_
    refine lc_top (y := nI (5 * t + 1)) (nI_add (5 * t) 1) ?_
    refine va_sld hx hb hX hbl hbA hS (vp_in_nI (show 5 * t + 1 < L by omega) (by omega)) dL_law_388 ?_
    refine lc_top (y := nI i) ((congrArg xs (nI_clamp (by omega))).trans hp0) ?_
    refine lv_aload_n hx hb dL_law_389 rfl (lv_at hl 4 rfl) ?_
    have hPc := hP.sub (ws' := [(h, .inr (0, [.ref q, .int (nI c0), .int (nI (lc_cnt g c0))])), (q, .inl (cA, Lx, .inl g)), (o, .inl (cJ, 1, .inr (.inl fo)))]) [0, 1, 4] rfl
    have hDc := hD.sub (ws' := [(h, .inr (0, [.ref q, .int (nI c0), .int (nI (lc_cnt g c0))])), (q, .inl (cA, Lx, .inl g)), (o, .inl (cJ, 1, .inr (.inl fo)))]) [0, 1, 4] (by decide) rfl
    have hKc := hK.sub (tys' := [(cA, .int), (cJ, .long)]) [0, 2] rfl
    have hF := va_free (wc := [(h, .inr (0, [.ref q, .int (nI c0), .int (nI (lc_cnt g c0))])), (q, .inl (cA, Lx, .inl g)), (o, .inl (cJ, 1, .inr (.inl fo)))]) hD hS hA [0, 1, 4] rfl
    refine lc_callW (vx_runSW (hh := [(0, 9, 12, 13)]) (As := [.ref h, .int (nI i), .ref o]) (rest := []) ⟨hx, hb, hml, hown, hts⟩ (w_lineOf l D h q cA o cJ H.size fo (nI (lc_cnt g c0)) Lx c0 g hLx hc0 i hi) (vx_cwSW 3 hts gL_law_L_lineOf rfl rfl rfl (by decide +kernel) ⟨Nat.le_of_ble_eq_true rfl, Nat.le_of_ble_eq_true rfl⟩) (lc_WrS hPc hKc hDc) rfl rfl hl.1 rfl (lv_room (Nat.le_of_ble_eq_true rfl)) dL_law_390 ⟨by show _ ≤ (601024 : Nat); omega, by show _ ≤ (7293034 : Nat); omega⟩) hS (fun q h => hF q h) (fun u H locs hp hP1 hK1 hD1 hz hk hS => ?_)
    obtain ⟨fo1, hfo1⟩ : ∃ z : Nat → Int64, z = u := ⟨u, rfl⟩
    rw [← hfo1] at hp hP1 hD1
    have hpf := hp
    obtain ⟨hP, hD⟩ := va_join (wr := [(hm, .inr (1, [.ref qm, .int (nI c0), .int th])), (qm, .inl (cM, 20000, .inl r))]) (w1 := [(h, .inr (0, [.ref q, .int (nI c0), .int (nI (lc_cnt g c0))])), (q, .inl (cA, Lx, .inl g)), (o, .inl (cJ, 1, .inr (.inl fo1)))]) hP hD [0, 1, 4] [2, 3] rfl rfl (by decide) (by decide) hk hF hP1 hD1
    have hK := (hK.sub (tys' := [(cM, .int)]) [1] rfl).app hK1
    have hP := hP.sub (ws' := [(h, .inr (0, [.ref q, .int (nI c0), .int (nI (lc_cnt g c0))])), (q, .inl (cA, Lx, .inl g)), (hm, .inr (1, [.ref qm, .int (nI c0), .int th])), (qm, .inl (cM, 20000, .inl r)), (o, .inl (cJ, 1, .inr (.inl fo1)))]) [2, 3, 0, 1, 4] rfl
    have hD := hD.sub (ws' := [(h, .inr (0, [.ref q, .int (nI c0), .int (nI (lc_cnt g c0))])), (q, .inl (cA, Lx, .inl g)), (hm, .inr (1, [.ref qm, .int (nI c0), .int th])), (qm, .inl (cM, 20000, .inl r)), (o, .inl (cJ, 1, .inr (.inl fo1)))]) [2, 3, 0, 1, 4] (by decide) rfl
    have hK := hK.sub (tys' := [(cA, .int), (cM, .int), (cJ, .long)]) [1, 0, 2] rfl
    clear hz hk hPc hDc hKc hF hP1 hK1 hD1
    refine W.eq (g2 := F0 m 393 ls [.int 0]) rfl ?_
    refine lv_istore hx hb dL_law_393 hl (by decide) rfl (fun ls hl => ?_)
    have hl : lv_has ls 7 [(5, .int 0), (4, .int (nI (5 * t))), (0, .ref b), (1, .ref h), (2, .ref hm), (3, .ref o)] := hl
    refine lv_aload_n hx hb dL_law_395 rfl (lv_at hl 4 rfl) ?_
    refine lv_aload_n hx hb dL_law_396 rfl (lv_at hl 2 rfl) ?_
    refine lv_iload hx hb dL_law_397 (lv_at hl 1 rfl) ?_
    refine lv_iconst (v := 1) hx hb dL_law_399 (by decide) ?_
    refine lv_iadd hx hb dL_law_400 ?_
    refine lc_top (y := nI (5 * t + 1)) (nI_add (5 * t) 1) ?_
    refine va_sld hx hb hX hbl hbA hS (vp_in_nI (show 5 * t + 1 < L by omega) (by omega)) dL_law_401 ?_
    refine lc_top (y := nI i) ((congrArg xs (nI_clamp (by omega))).trans hp0) ?_
    have hPc := hP.sub (ws' := [(hm, .inr (1, [.ref qm, .int (nI c0), .int th])), (qm, .inl (cM, 20000, .inl r))]) [2, 3] rfl
    have hDc := hD.sub (ws' := [(hm, .inr (1, [.ref qm, .int (nI c0), .int th])), (qm, .inl (cM, 20000, .inl r))]) [2, 3] (by decide) rfl
    have hKc := hK.sub (tys' := [(cM, .int)]) [1] rfl
    have hF := va_free (wc := [(hm, .inr (1, [.ref qm, .int (nI c0), .int th])), (qm, .inl (cM, 20000, .inl r))]) hD hS hA [2, 3] rfl
    refine lc_callW (vx_runVW (hh := [(5, 10, 11, 13)]) (As := [.int (nI i)]) (rest := []) ⟨hx, hb, hml, hown, hts⟩ (m_lineOf l D hm qm cM H.size th c0 r (by omega) i hi) (vx_cwVW 1 hts gL_law_X1_lineOf rfl rfl rfl (by decide +kernel) ⟨Nat.le_of_ble_eq_true rfl, Nat.le_of_ble_eq_true rfl⟩) (lc_WrV (q0 := 0) (ci := 1) (q := (RX1, TX1, 3)) hPc hKc hDc rfl rfl) rfl rfl hl.1 rfl (lv_room (Nat.le_of_ble_eq_true rfl)) dL_law_402 ⟨by show _ ≤ (601024 : Nat); omega, by show _ ≤ (7293034 : Nat); omega⟩) hS (fun q h => hF q h) (fun u H locs hp hP1 hK1 hD1 hz hk hS => ?_)
    obtain ⟨hP, hD⟩ := va_join (wr := [(h, .inr (0, [.ref q, .int (nI c0), .int (nI (lc_cnt g c0))])), (q, .inl (cA, Lx, .inl g)), (o, .inl (cJ, 1, .inr (.inl fo1)))]) (w1 := [(hm, .inr (1, [.ref qm, .int (nI c0), .int 0])), (qm, .inl (cM, 20000, .inl r))]) hP hD [2, 3] [0, 1, 4] rfl rfl (by decide) (by decide) hk hF hP1 hD1
    have hK := (hK.sub (tys' := [(cA, .int), (cJ, .long)]) [0, 2] rfl).app hK1
    have hP := hP.sub (ws' := [(h, .inr (0, [.ref q, .int (nI c0), .int (nI (lc_cnt g c0))])), (q, .inl (cA, Lx, .inl g)), (hm, .inr (1, [.ref qm, .int (nI c0), .int 0])), (qm, .inl (cM, 20000, .inl r)), (o, .inl (cJ, 1, .inr (.inl fo1)))]) [0, 1, 3, 4, 2] rfl
    have hD := hD.sub (ws' := [(h, .inr (0, [.ref q, .int (nI c0), .int (nI (lc_cnt g c0))])), (q, .inl (cA, Lx, .inl g)), (hm, .inr (1, [.ref qm, .int (nI c0), .int 0])), (qm, .inl (cM, 20000, .inl r)), (o, .inl (cJ, 1, .inr (.inl fo1)))]) [0, 1, 3, 4, 2] (by decide) rfl
    have hK := hK.sub (tys' := [(cA, .int), (cM, .int), (cJ, .long)]) [0, 2, 1] rfl
    clear hz hk hPc hDc hKc hF hP1 hK1 hD1
    refine W.eq (g2 := F0 m 405 ls [.int (nI (lc_cnt r i))]) rfl ?_
    refine lc_top (y := nI (lc_cnt g i)) (by rw [lc_cnt_congr (fun j h => heq j (by omega))]) ?_
    refine lv_istore hx hb dL_law_405 hl (by decide) rfl (fun ls hl => ?_)
    have hl : lv_has ls 7 [(6, .int (nI (lc_cnt g i))), (5, .int 0), (4, .int (nI (5 * t))), (0, .ref b), (1, .ref h), (2, .ref hm), (3, .ref o)] := hl
    refine lv_aload_n hx hb dL_law_407 rfl (lv_at hl 5 rfl) ?_
    refine lc_callR (W.runV (As := []) (rest := []) ⟨hx, hb, hml, hown, hts⟩ (m_thrown l D hm qm cM (nI c0) 0 r) (cwV 0 hts gL_law_X1_thrown rfl rfl rfl (by decide +kernel) ⟨Nat.le_of_ble_eq_true rfl, Nat.le_of_ble_eq_true rfl⟩) (lc_RdV (q0 := 0) (ci := 1) (q := (RX1, TX1, 3)) (hP.sub (ws' := [(hm, .inr (1, [.ref qm, .int (nI c0), .int 0])), (qm, .inl (cM, 20000, .inl r))]) [2, 3] rfl) (hK.sub (tys' := [(cM, .int)]) [1] rfl) rfl rfl) rfl rfl hl.1 rfl (lv_room (Nat.le_of_ble_eq_true rfl)) dL_law_408 ⟨by show _ ≤ (601024 : Nat); omega, by show _ ≤ (7293034 : Nat); omega⟩) ?_
    refine lv_iload hx hb dL_law_411 (lv_at hl 1 rfl) ?_
    refine lv_icmp_eq hx hb dL_law_413 (tgt := 418) rfl (fun _ => ?_) (fun hc => absurd (rfl) hc)
    refine lv_iload hx hb dL_law_418 (lv_at hl 1 rfl) ?_
    refine lv_if_ne hx hb dL_law_420 (tgt := 435) rfl (fun hc => absurd (rfl) hc) (fun _ => ?_)
    refine lv_aload_n hx hb dL_law_423 rfl (lv_at hl 6 rfl) ?_
    refine lv_iconst (v := 0) hx hb dL_law_424 (by decide) ?_
    refine va_lald (D := D) hx hb hK hP 4 2 rfl rfl (vp_in_nI (n := 0) (N := 1) (by decide) (by decide)) dL_law_425 ?_
    refine lc_topl (y := (nI (lc_cnt g i)).toInt64) ((congrArg fo1 sb_cl0).trans hpf) ?_
    refine lv_iload hx hb dL_law_426 (lv_at hl 0 rfl) ?_
    refine lv_i2l (v := (nI (lc_cnt g i)).toInt64) hx hb dL_law_428 rfl ?_
    refine W.lcmp hx hb dL_law_429 ?_
    refine lc_top (y := 0) (lc_cmp _) ?_
    refine lv_if_eq hx hb dL_law_430 (tgt := 435) rfl (fun _ => ?_) (fun hc => absurd (rfl) hc)
    refine lv_goto hx hb dL_law_435 (tgt := 451) rfl ?_
    have hl : lv_has ls 7 [(4, .int (nI (5 * t))), (0, .ref b), (1, .ref h), (2, .ref hm), (3, .ref o)] := lv_sub hl [2, 3, 4, 5, 6] rfl
    refine W.widen (k := 5 + 2 * (t + 1)) (n := 20519 + 12 * (t + 1) + pt) (by omega) (by omega) ?_
    exact next pt H locs ls ⟨q, cA, Lx, c0, g, qm, cM, 0, r, cJ, fo1, hL5, hLx, hc0, heq, hpt, hP, hD, hK, hS⟩ hl
set_option maxHeartbeats 4000000 in
set_option maxRecDepth 100000 in
theorem q_delete {p : Program} {l : Launch} {e : Env} {s : State} {m : MethodId} {below : List Frame} {meth : Method} {c : Code} {b L : Nat} {xs : Nat → Int32} (C0 : lw_At p s m meth c b L xs) (hst : l.stackTraces = false) (hL : L ≤ 2560) {D : va_G} (hZ : lc_TZ (fun q => s.heap.size ≤ q) s s.heap) {h hm o t : Nat} (ht : 5 * t + 5 ≤ L) (next : ∀ (pt : Nat) (H : Heap) (locs : List Loc) (ls : Array Slot), lc_I D s H locs h hm o pt → lv_has ls 7 [(4, .int (nI (5 * t))), (0, .ref b), (1, .ref h), (2, .ref hm), (3, .ref o)] → W p l e room_1 s m #[Value.ref b] below meth c H locs (5 + 2 * (t + 1)) (20519 + 12 * (t + 1) + pt) (lw_Z below #[Value.ref b] s) (F0 m 451 ls [])) {pt : Nat} {H : Heap} {locs : List Loc} {ls : Array Slot} (hI : lc_I D s H locs h hm o pt) (hl : lv_has ls 7 [(4, .int (nI (5 * t))), (0, .ref b), (1, .ref h), (2, .ref hm), (3, .ref o)]) : W p l e room_1 s m #[Value.ref b] below meth c H locs (5 + 2 * t) (20519 + 12 * t + pt) (lw_Z below #[Value.ref b] s) (F0 m 176 ls []) := by
  obtain ⟨hx, hb, hr, hml, hown, hts, hX, hbl, hlocks, hgv⟩ := C0
  have hts : ∀ w ∈ wsL_law, w.before #[Value.ref b] s = true := fun w h => hts w (lc_lawin w h)
  obtain ⟨q, cA, Lx, c0, g, qm, cM, th, r, cJ, fo, hL5, hLx, hc0, heq, hpt, hP, hD, hK, hS⟩ := hI
  have hA : ∀ q : Nat, s.heap.size ≤ q → (fun q => s.heap.size ≤ q) q := fun q h => h
  have hbA : ¬ (fun q => s.heap.size ≤ q) b := fun h => absurd hbl (Nat.not_lt.mpr h)
  obtain ⟨p0, hp0⟩ : ∃ z, xs (5 * t + 1) = z := ⟨_, rfl⟩
  obtain ⟨p1, hp1⟩ : ∃ z, xs (5 * t + 2) = z := ⟨_, rfl⟩
  by_cases hbad : p0 < 0 ∨ p1 < 1 ∨ nI c0 < p1 ∨ nI c0 - p1 < p0
  · refine lv_aload_n hx hb dL_law_176 rfl (lv_at hl 2 rfl) ?_
    refine lv_aload_n hx hb dL_law_177 rfl (lv_at hl 1 rfl) ?_
    refine lv_iload hx hb dL_law_178 (lv_at hl 0 rfl) ?_
    refine lv_iconst (v := 1) hx hb dL_law_180 (by decide) ?_
    refine lv_iadd hx hb dL_law_181 ?_
    refine lc_top (y := nI (5 * t + 1)) (nI_add (5 * t) 1) ?_
    refine va_sld hx hb hX hbl hbA hS (vp_in_nI (show 5 * t + 1 < L by omega) (by omega)) dL_law_182 ?_
    refine lc_top (y := p0) ((congrArg xs (nI_clamp (by omega))).trans hp0) ?_
    refine lv_aload_n hx hb dL_law_183 rfl (lv_at hl 1 rfl) ?_
    refine lv_iload hx hb dL_law_184 (lv_at hl 0 rfl) ?_
    refine lv_iconst (v := 2) hx hb dL_law_186 (by decide) ?_
    refine lv_iadd hx hb dL_law_187 ?_
    refine lc_top (y := nI (5 * t + 2)) (nI_add (5 * t) 2) ?_
    refine va_sld hx hb hX hbl hbA hS (vp_in_nI (show 5 * t + 2 < L by omega) (by omega)) dL_law_188 ?_
    refine lc_top (y := p1) ((congrArg xs (nI_clamp (by omega))).trans hp1) ?_
    refine lv_aload_n hx hb dL_law_189 rfl (lv_at hl 4 rfl) ?_
    refine lc_callB (vx_runSW (hh := [(0, 10, 13, 13)]) (As := [.ref h, .int p0, .int p1, .ref o]) (rest := []) ⟨hx, hb, hml, hown, hts⟩ (w_delete_bad l D h q cA o cJ hst (nI c0) (nI (lc_cnt g c0)) Lx g p0 p1 (lc_badD hbad (by omega))) (vx_cwSW 4 hts gL_law_L_delete rfl rfl rfl (by decide +kernel) ⟨Nat.le_of_ble_eq_true rfl, Nat.le_of_ble_eq_true rfl⟩) (lc_TxS (hP.sub (ws' := [(h, .inr (0, [.ref q, .int (nI c0), .int (nI (lc_cnt g c0))])), (q, .inl (cA, Lx, .inl g))]) [0, 1] rfl) (hK.sub (tys' := [(cA, .int)]) [0] rfl) ((hZ.kept hS.2.1).narrow (fun _ h => h.elim))) rfl rfl hl.1 rfl (lv_room (Nat.le_of_ble_eq_true rfl)) dL_law_190 ⟨by show _ ≤ (601024 : Nat); omega, by show _ ≤ (7293034 : Nat); omega⟩) (fun H1 hz hk => ?_)
    have hP := lc_keptP hP hk
    have hS := lc_keptS hS hz hk
    clear hz hk
    generalize H1 = H at hP hS ⊢
    refine lv_istore hx hb dL_law_193 hl (by decide) rfl (fun ls hl => ?_)
    have hl : lv_has ls 7 [(5, .int 1), (4, .int (nI (5 * t))), (0, .ref b), (1, .ref h), (2, .ref hm), (3, .ref o)] := hl
    refine lv_aload_n hx hb dL_law_195 rfl (lv_at hl 4 rfl) ?_
    refine lv_aload_n hx hb dL_law_196 rfl (lv_at hl 2 rfl) ?_
    refine lv_iload hx hb dL_law_197 (lv_at hl 1 rfl) ?_
    refine lv_iconst (v := 1) hx hb dL_law_199 (by decide) ?_
    refine lv_iadd hx hb dL_law_200 ?_
    refine lc_top (y := nI (5 * t + 1)) (nI_add (5 * t) 1) ?_
    refine va_sld hx hb hX hbl hbA hS (vp_in_nI (show 5 * t + 1 < L by omega) (by omega)) dL_law_201 ?_
    refine lc_top (y := p0) ((congrArg xs (nI_clamp (by omega))).trans hp0) ?_
    refine lv_aload_n hx hb dL_law_202 rfl (lv_at hl 2 rfl) ?_
    refine lv_iload hx hb dL_law_203 (lv_at hl 1 rfl) ?_
    refine lv_iconst (v := 2) hx hb dL_law_205 (by decide) ?_
    refine lv_iadd hx hb dL_law_206 ?_
    refine lc_top (y := nI (5 * t + 2)) (nI_add (5 * t) 2) ?_
    refine va_sld hx hb hX hbl hbA hS (vp_in_nI (show 5 * t + 2 < L by omega) (by omega)) dL_law_207 ?_
    refine lc_top (y := p1) ((congrArg xs (nI_clamp (by omega))).trans hp1) ?_
    have hPc := hP.sub (ws' := [(hm, .inr (1, [.ref qm, .int (nI c0), .int th])), (qm, .inl (cM, 20000, .inl r))]) [2, 3] rfl
    have hDc := hD.sub (ws' := [(hm, .inr (1, [.ref qm, .int (nI c0), .int th])), (qm, .inl (cM, 20000, .inl r))]) [2, 3] (by decide) rfl
    have hKc := hK.sub (tys' := [(cM, .int)]) [1] rfl
    have hF := va_free (wc := [(hm, .inr (1, [.ref qm, .int (nI c0), .int th])), (qm, .inl (cM, 20000, .inl r))]) hD hS hA [2, 3] rfl
    refine lc_callW (vx_runVW (hh := [(5, 11, 12, 13)]) (As := [.int p0, .int p1]) (rest := []) ⟨hx, hb, hml, hown, hts⟩ (m_delete_bad l D hm qm cM H.size hst (nI c0) th r p0 p1 hbad) (vx_cwVW 2 hts gL_law_X1_delete rfl rfl rfl (by decide +kernel) ⟨Nat.le_of_ble_eq_true rfl, Nat.le_of_ble_eq_true rfl⟩) (lc_WTV (q0 := 0) (ci := 1) (q := (RX1, TX1, 3)) hPc hKc hDc ((hZ.kept hS.2.1).narrow (fun q h => hF q h)) rfl rfl) rfl rfl hl.1 rfl (lv_room (Nat.le_of_ble_eq_true rfl)) dL_law_208 ⟨by show _ ≤ (601024 : Nat); omega, by show _ ≤ (7293034 : Nat); omega⟩) hS (fun q h => hF q h) (fun u H locs hp hP1 hK1 hD1 hz hk hS => ?_)
    obtain ⟨hP, hD⟩ := va_join (wr := [(h, .inr (0, [.ref q, .int (nI c0), .int (nI (lc_cnt g c0))])), (q, .inl (cA, Lx, .inl g)), (o, .inl (cJ, 1, .inr (.inl fo)))]) (w1 := [(hm, .inr (1, [.ref qm, .int (nI c0), .int 1])), (qm, .inl (cM, 20000, .inl r))]) hP hD [2, 3] [0, 1, 4] rfl rfl (by decide) (by decide) hk hF hP1 hD1
    have hK := (hK.sub (tys' := [(cA, .int), (cJ, .long)]) [0, 2] rfl).app hK1
    have hP := hP.sub (ws' := [(h, .inr (0, [.ref q, .int (nI c0), .int (nI (lc_cnt g c0))])), (q, .inl (cA, Lx, .inl g)), (hm, .inr (1, [.ref qm, .int (nI c0), .int 1])), (qm, .inl (cM, 20000, .inl r)), (o, .inl (cJ, 1, .inr (.inl fo)))]) [0, 1, 3, 4, 2] rfl
    have hD := hD.sub (ws' := [(h, .inr (0, [.ref q, .int (nI c0), .int (nI (lc_cnt g c0))])), (q, .inl (cA, Lx, .inl g)), (hm, .inr (1, [.ref qm, .int (nI c0), .int 1])), (qm, .inl (cM, 20000, .inl r)), (o, .inl (cJ, 1, .inr (.inl fo)))]) [0, 1, 3, 4, 2] (by decide) rfl
    have hK := hK.sub (tys' := [(cA, .int), (cM, .int), (cJ, .long)]) [0, 2, 1] rfl
    clear hz hk hPc hDc hKc hF hP1 hK1 hD1
    refine W.eq (g2 := F0 m 211 ls [.int 0]) rfl ?_
    refine lv_istore hx hb dL_law_211 hl (by decide) rfl (fun ls hl => ?_)
    have hl : lv_has ls 7 [(6, .int 0), (5, .int 1), (4, .int (nI (5 * t))), (0, .ref b), (1, .ref h), (2, .ref hm), (3, .ref o)] := hl
    refine lv_aload_n hx hb dL_law_213 rfl (lv_at hl 5 rfl) ?_
    refine lc_callR (W.runV (As := []) (rest := []) ⟨hx, hb, hml, hown, hts⟩ (m_thrown l D hm qm cM (nI c0) 1 r) (cwV 0 hts gL_law_X1_thrown rfl rfl rfl (by decide +kernel) ⟨Nat.le_of_ble_eq_true rfl, Nat.le_of_ble_eq_true rfl⟩) (lc_RdV (q0 := 0) (ci := 1) (q := (RX1, TX1, 3)) (hP.sub (ws' := [(hm, .inr (1, [.ref qm, .int (nI c0), .int 1])), (qm, .inl (cM, 20000, .inl r))]) [2, 3] rfl) (hK.sub (tys' := [(cM, .int)]) [1] rfl) rfl rfl) rfl rfl hl.1 rfl (lv_room (Nat.le_of_ble_eq_true rfl)) dL_law_214 ⟨by show _ ≤ (601024 : Nat); omega, by show _ ≤ (7293034 : Nat); omega⟩) ?_
    refine lv_iload hx hb dL_law_217 (lv_at hl 1 rfl) ?_
    refine lv_icmp_eq hx hb dL_law_219 (tgt := 224) rfl (fun _ => ?_) (fun hc => absurd (rfl) hc)
    refine lv_iload hx hb dL_law_224 (lv_at hl 1 rfl) ?_
    refine lv_if_ne hx hb dL_law_226 (tgt := 241) rfl (fun _ => ?_) (fun hc => absurd hc (by decide))
    refine lv_goto hx hb dL_law_241 (tgt := 451) rfl ?_
    have hl : lv_has ls 7 [(4, .int (nI (5 * t))), (0, .ref b), (1, .ref h), (2, .ref hm), (3, .ref o)] := lv_sub hl [2, 3, 4, 5, 6] rfl
    refine W.widen (k := 5 + 2 * (t + 1)) (n := 20519 + 12 * (t + 1) + pt) (by omega) (by omega) ?_
    exact next pt H locs ls ⟨q, cA, Lx, c0, g, qm, cM, 1, r, cJ, fo, hL5, hLx, hc0, heq, hpt, hP, hD, hK, hS⟩ hl
  · obtain ⟨i0, k0, rfl, rfl, hk0, hik⟩ := lc_okD hbad (by omega)
    refine lv_aload_n hx hb dL_law_176 rfl (lv_at hl 2 rfl) ?_
    refine lv_aload_n hx hb dL_law_177 rfl (lv_at hl 1 rfl) ?_
    refine lv_iload hx hb dL_law_178 (lv_at hl 0 rfl) ?_
    refine lv_iconst (v := 1) hx hb dL_law_180 (by decide) ?_
    refine lv_iadd hx hb dL_law_181 ?_
    refine lc_top (y := nI (5 * t + 1)) (nI_add (5 * t) 1) ?_
    refine va_sld hx hb hX hbl hbA hS (vp_in_nI (show 5 * t + 1 < L by omega) (by omega)) dL_law_182 ?_
    refine lc_top (y := nI i0) ((congrArg xs (nI_clamp (by omega))).trans hp0) ?_
    refine lv_aload_n hx hb dL_law_183 rfl (lv_at hl 1 rfl) ?_
    refine lv_iload hx hb dL_law_184 (lv_at hl 0 rfl) ?_
    refine lv_iconst (v := 2) hx hb dL_law_186 (by decide) ?_
    refine lv_iadd hx hb dL_law_187 ?_
    refine lc_top (y := nI (5 * t + 2)) (nI_add (5 * t) 2) ?_
    refine va_sld hx hb hX hbl hbA hS (vp_in_nI (show 5 * t + 2 < L by omega) (by omega)) dL_law_188 ?_
    refine lc_top (y := nI k0) ((congrArg xs (nI_clamp (by omega))).trans hp1) ?_
    refine lv_aload_n hx hb dL_law_189 rfl (lv_at hl 4 rfl) ?_
    have hPc := hP.sub (ws' := [(h, .inr (0, [.ref q, .int (nI c0), .int (nI (lc_cnt g c0))])), (q, .inl (cA, Lx, .inl g)), (o, .inl (cJ, 1, .inr (.inl fo)))]) [0, 1, 4] rfl
    have hDc := hD.sub (ws' := [(h, .inr (0, [.ref q, .int (nI c0), .int (nI (lc_cnt g c0))])), (q, .inl (cA, Lx, .inl g)), (o, .inl (cJ, 1, .inr (.inl fo)))]) [0, 1, 4] (by decide) rfl
    have hKc := hK.sub (tys' := [(cA, .int), (cJ, .long)]) [0, 2] rfl
    have hF := va_free (wc := [(h, .inr (0, [.ref q, .int (nI c0), .int (nI (lc_cnt g c0))])), (q, .inl (cA, Lx, .inl g)), (o, .inl (cJ, 1, .inr (.inl fo)))]) hD hS hA [0, 1, 4] rfl
    refine lc_callW (vx_runSW (hh := [(0, 10, 13, 13)]) (As := [.ref h, .int (nI i0), .int (nI k0), .ref o]) (rest := []) ⟨hx, hb, hml, hown, hts⟩ (w_delete l D h q cA o cJ H.size fo Lx c0 g hLx hc0 i0 k0 hk0 hik) (vx_cwSW 4 hts gL_law_L_delete rfl rfl rfl (by decide +kernel) ⟨Nat.le_of_ble_eq_true rfl, Nat.le_of_ble_eq_true rfl⟩) (lc_WrS hPc hKc hDc) rfl rfl hl.1 rfl (lv_room (Nat.le_of_ble_eq_true rfl)) dL_law_190 ⟨by show _ ≤ (601024 : Nat); omega, by show _ ≤ (7293034 : Nat); omega⟩) hS (fun q h => hF q h) (fun u H locs hp hP1 hK1 hD1 hz hk hS => ?_)
    obtain ⟨g1, fo1⟩ := u
    dsimp only at hp hP1 hK1 hD1
    obtain ⟨hpg, hpf⟩ := hp
    obtain ⟨hP, hD⟩ := va_join (wr := [(hm, .inr (1, [.ref qm, .int (nI c0), .int th])), (qm, .inl (cM, 20000, .inl r))]) (w1 := [(h, .inr (0, [.ref q, .int (nI (c0 - k0)), .int (nI (lc_cnt g1 (c0 - k0)))])), (q, .inl (cA, Lx, .inl g1)), (o, .inl (cJ, 1, .inr (.inl fo1)))]) hP hD [0, 1, 4] [2, 3] rfl rfl (by decide) (by decide) hk hF hP1 hD1
    have hK := (hK.sub (tys' := [(cM, .int)]) [1] rfl).app hK1
    have hP := hP.sub (ws' := [(h, .inr (0, [.ref q, .int (nI (c0 - k0)), .int (nI (lc_cnt g1 (c0 - k0)))])), (q, .inl (cA, Lx, .inl g1)), (hm, .inr (1, [.ref qm, .int (nI c0), .int th])), (qm, .inl (cM, 20000, .inl r)), (o, .inl (cJ, 1, .inr (.inl fo1)))]) [2, 3, 0, 1, 4] rfl
    have hD := hD.sub (ws' := [(h, .inr (0, [.ref q, .int (nI (c0 - k0)), .int (nI (lc_cnt g1 (c0 - k0)))])), (q, .inl (cA, Lx, .inl g1)), (hm, .inr (1, [.ref qm, .int (nI c0), .int th])), (qm, .inl (cM, 20000, .inl r)), (o, .inl (cJ, 1, .inr (.inl fo1)))]) [2, 3, 0, 1, 4] (by decide) rfl
    have hK := hK.sub (tys' := [(cA, .int), (cM, .int), (cJ, .long)]) [1, 0, 2] rfl
    clear hz hk hPc hDc hKc hF hP1 hK1 hD1
    refine W.eq (g2 := F0 m 193 ls [.int 0]) rfl ?_
    refine lv_istore hx hb dL_law_193 hl (by decide) rfl (fun ls hl => ?_)
    have hl : lv_has ls 7 [(5, .int 0), (4, .int (nI (5 * t))), (0, .ref b), (1, .ref h), (2, .ref hm), (3, .ref o)] := hl
    refine lv_aload_n hx hb dL_law_195 rfl (lv_at hl 4 rfl) ?_
    refine lv_aload_n hx hb dL_law_196 rfl (lv_at hl 2 rfl) ?_
    refine lv_iload hx hb dL_law_197 (lv_at hl 1 rfl) ?_
    refine lv_iconst (v := 1) hx hb dL_law_199 (by decide) ?_
    refine lv_iadd hx hb dL_law_200 ?_
    refine lc_top (y := nI (5 * t + 1)) (nI_add (5 * t) 1) ?_
    refine va_sld hx hb hX hbl hbA hS (vp_in_nI (show 5 * t + 1 < L by omega) (by omega)) dL_law_201 ?_
    refine lc_top (y := nI i0) ((congrArg xs (nI_clamp (by omega))).trans hp0) ?_
    refine lv_aload_n hx hb dL_law_202 rfl (lv_at hl 2 rfl) ?_
    refine lv_iload hx hb dL_law_203 (lv_at hl 1 rfl) ?_
    refine lv_iconst (v := 2) hx hb dL_law_205 (by decide) ?_
    refine lv_iadd hx hb dL_law_206 ?_
    refine lc_top (y := nI (5 * t + 2)) (nI_add (5 * t) 2) ?_
    refine va_sld hx hb hX hbl hbA hS (vp_in_nI (show 5 * t + 2 < L by omega) (by omega)) dL_law_207 ?_
    refine lc_top (y := nI k0) ((congrArg xs (nI_clamp (by omega))).trans hp1) ?_
    have hPc := hP.sub (ws' := [(hm, .inr (1, [.ref qm, .int (nI c0), .int th])), (qm, .inl (cM, 20000, .inl r))]) [2, 3] rfl
    have hDc := hD.sub (ws' := [(hm, .inr (1, [.ref qm, .int (nI c0), .int th])), (qm, .inl (cM, 20000, .inl r))]) [2, 3] (by decide) rfl
    have hKc := hK.sub (tys' := [(cM, .int)]) [1] rfl
    have hF := va_free (wc := [(hm, .inr (1, [.ref qm, .int (nI c0), .int th])), (qm, .inl (cM, 20000, .inl r))]) hD hS hA [2, 3] rfl
    refine lc_callW (vx_runVW (hh := [(5, 11, 12, 13)]) (As := [.int (nI i0), .int (nI k0)]) (rest := []) ⟨hx, hb, hml, hown, hts⟩ (m_delete l D hm qm cM H.size th c0 r (by omega) i0 k0 hk0 hik) (vx_cwVW 2 hts gL_law_X1_delete rfl rfl rfl (by decide +kernel) ⟨Nat.le_of_ble_eq_true rfl, Nat.le_of_ble_eq_true rfl⟩) (lc_WrV (q0 := 0) (ci := 1) (q := (RX1, TX1, 3)) hPc hKc hDc rfl rfl) rfl rfl hl.1 rfl (lv_room (Nat.le_of_ble_eq_true rfl)) dL_law_208 ⟨by show _ ≤ (601024 : Nat); omega, by show _ ≤ (7293034 : Nat); omega⟩) hS (fun q h => hF q h) (fun u H locs hp hP1 hK1 hD1 hz hk hS => ?_)
    obtain ⟨r1, hr1⟩ : ∃ z : Nat → Int32, z = u := ⟨u, rfl⟩
    rw [← hr1] at hp hP1 hD1
    have hpr := hp
    obtain ⟨hP, hD⟩ := va_join (wr := [(h, .inr (0, [.ref q, .int (nI (c0 - k0)), .int (nI (lc_cnt g1 (c0 - k0)))])), (q, .inl (cA, Lx, .inl g1)), (o, .inl (cJ, 1, .inr (.inl fo1)))]) (w1 := [(hm, .inr (1, [.ref qm, .int (nI (c0 - k0)), .int 0])), (qm, .inl (cM, 20000, .inl r1))]) hP hD [2, 3] [0, 1, 4] rfl rfl (by decide) (by decide) hk hF hP1 hD1
    have hK := (hK.sub (tys' := [(cA, .int), (cJ, .long)]) [0, 2] rfl).app hK1
    have hP := hP.sub (ws' := [(h, .inr (0, [.ref q, .int (nI (c0 - k0)), .int (nI (lc_cnt g1 (c0 - k0)))])), (q, .inl (cA, Lx, .inl g1)), (hm, .inr (1, [.ref qm, .int (nI (c0 - k0)), .int 0])), (qm, .inl (cM, 20000, .inl r1)), (o, .inl (cJ, 1, .inr (.inl fo1)))]) [0, 1, 3, 4, 2] rfl
    have hD := hD.sub (ws' := [(h, .inr (0, [.ref q, .int (nI (c0 - k0)), .int (nI (lc_cnt g1 (c0 - k0)))])), (q, .inl (cA, Lx, .inl g1)), (hm, .inr (1, [.ref qm, .int (nI (c0 - k0)), .int 0])), (qm, .inl (cM, 20000, .inl r1)), (o, .inl (cJ, 1, .inr (.inl fo1)))]) [0, 1, 3, 4, 2] (by decide) rfl
    have hK := hK.sub (tys' := [(cA, .int), (cM, .int), (cJ, .long)]) [0, 2, 1] rfl
    clear hz hk hPc hDc hKc hF hP1 hK1 hD1
    refine W.eq (g2 := F0 m 211 ls [.int (nI (c0 - k0))]) rfl ?_
    refine lv_istore hx hb dL_law_211 hl (by decide) rfl (fun ls hl => ?_)
    have hl : lv_has ls 7 [(6, .int (nI (c0 - k0))), (5, .int 0), (4, .int (nI (5 * t))), (0, .ref b), (1, .ref h), (2, .ref hm), (3, .ref o)] := hl
    refine lv_aload_n hx hb dL_law_213 rfl (lv_at hl 5 rfl) ?_
    refine lc_callR (W.runV (As := []) (rest := []) ⟨hx, hb, hml, hown, hts⟩ (m_thrown l D hm qm cM (nI (c0 - k0)) 0 r1) (cwV 0 hts gL_law_X1_thrown rfl rfl rfl (by decide +kernel) ⟨Nat.le_of_ble_eq_true rfl, Nat.le_of_ble_eq_true rfl⟩) (lc_RdV (q0 := 0) (ci := 1) (q := (RX1, TX1, 3)) (hP.sub (ws' := [(hm, .inr (1, [.ref qm, .int (nI (c0 - k0)), .int 0])), (qm, .inl (cM, 20000, .inl r1))]) [2, 3] rfl) (hK.sub (tys' := [(cM, .int)]) [1] rfl) rfl rfl) rfl rfl hl.1 rfl (lv_room (Nat.le_of_ble_eq_true rfl)) dL_law_214 ⟨by show _ ≤ (601024 : Nat); omega, by show _ ≤ (7293034 : Nat); omega⟩) ?_
    refine lv_iload hx hb dL_law_217 (lv_at hl 1 rfl) ?_
    refine lv_icmp_eq hx hb dL_law_219 (tgt := 224) rfl (fun _ => ?_) (fun hc => absurd (rfl) hc)
    refine lv_iload hx hb dL_law_224 (lv_at hl 1 rfl) ?_
    refine lv_if_ne hx hb dL_law_226 (tgt := 241) rfl (fun hc => absurd (rfl) hc) (fun _ => ?_)
    refine lv_aload_n hx hb dL_law_229 rfl (lv_at hl 6 rfl) ?_
    refine lv_iconst (v := 0) hx hb dL_law_230 (by decide) ?_
    refine va_lald (D := D) hx hb hK hP 4 2 rfl rfl (vp_in_nI (n := 0) (N := 1) (by decide) (by decide)) dL_law_231 ?_
    refine lc_topl (y := (nI (c0 - k0)).toInt64) ((congrArg fo1 sb_cl0).trans hpf) ?_
    refine lv_iload hx hb dL_law_232 (lv_at hl 0 rfl) ?_
    refine lv_i2l (v := (nI (c0 - k0)).toInt64) hx hb dL_law_234 rfl ?_
    refine W.lcmp hx hb dL_law_235 ?_
    refine lc_top (y := 0) (lc_cmp _) ?_
    refine lv_if_eq hx hb dL_law_236 (tgt := 241) rfl (fun _ => ?_) (fun hc => absurd (rfl) hc)
    refine lv_goto hx hb dL_law_241 (tgt := 451) rfl ?_
    have hl : lv_has ls 7 [(4, .int (nI (5 * t))), (0, .ref b), (1, .ref h), (2, .ref hm), (3, .ref o)] := lv_sub hl [2, 3, 4, 5, 6] rfl
    refine W.widen (k := 5 + 2 * (t + 1)) (n := 20519 + 12 * (t + 1) + pt) (by omega) (by omega) ?_
    exact next pt H locs ls ⟨q, cA, Lx, (c0 - k0), g1, qm, cM, 0, r1, cJ, fo1, hL5, hLx, (by omega), (fun j hj => by rw [hpr j hj, hpg j hj]; exact lc_del_congr heq hik j hj), hpt, hP, hD, hK, hS⟩ hl
set_option maxHeartbeats 4000000 in
set_option maxRecDepth 100000 in
theorem q_insert {p : Program} {l : Launch} {e : Env} {s : State} {m : MethodId} {below : List Frame} {meth : Method} {c : Code} {b L : Nat} {xs : Nat → Int32} (C0 : lw_At p s m meth c b L xs) (hst : l.stackTraces = false) (hL : L ≤ 2560) {D : va_G} (hZ : lc_TZ (fun q => s.heap.size ≤ q) s s.heap) {h hm o t : Nat} (ht : 5 * t + 5 ≤ L) (next : ∀ (pt : Nat) (H : Heap) (locs : List Loc) (ls : Array Slot), lc_I D s H locs h hm o pt → lv_has ls 7 [(4, .int (nI (5 * t))), (0, .ref b), (1, .ref h), (2, .ref hm), (3, .ref o)] → W p l e room_1 s m #[Value.ref b] below meth c H locs (5 + 2 * (t + 1)) (20519 + 12 * (t + 1) + pt) (lw_Z below #[Value.ref b] s) (F0 m 451 ls [])) {pt : Nat} {H : Heap} {locs : List Loc} {ls : Array Slot} (hI : lc_I D s H locs h hm o pt) (hl : lv_has ls 7 [(4, .int (nI (5 * t))), (0, .ref b), (1, .ref h), (2, .ref hm), (3, .ref o)]) : W p l e room_1 s m #[Value.ref b] below meth c H locs (5 + 2 * t) (20519 + 12 * t + pt) (lw_Z below #[Value.ref b] s) (F0 m 84 ls []) := by
  obtain ⟨hx, hb, hr, hml, hown, hts, hX, hbl, hlocks, hgv⟩ := C0
  have hts : ∀ w ∈ wsL_law, w.before #[Value.ref b] s = true := fun w h => hts w (lc_lawin w h)
  obtain ⟨q, cA, Lx, c0, g, qm, cM, th, r, cJ, fo, hL5, hLx, hc0, heq, hpt, hP, hD, hK, hS⟩ := hI
  have hA : ∀ q : Nat, s.heap.size ≤ q → (fun q => s.heap.size ≤ q) q := fun q h => h
  have hbA : ¬ (fun q => s.heap.size ≤ q) b := fun h => absurd hbl (Nat.not_lt.mpr h)
  obtain ⟨p0, hp0⟩ : ∃ z, xs (5 * t + 1) = z := ⟨_, rfl⟩
  obtain ⟨p1, hp1⟩ : ∃ z, xs (5 * t + 2) = z := ⟨_, rfl⟩
  obtain ⟨p2, hp2⟩ : ∃ z, xs (5 * t + 3) = z := ⟨_, rfl⟩
  obtain ⟨p3, hp3⟩ : ∃ z, xs (5 * t + 4) = z := ⟨_, rfl⟩
  by_cases hbad : p0 < 0 ∨ nI c0 < p0 ∨ p3 < 1 ∨ 500 < p3
  · refine lv_aload_n hx hb dL_law_84 rfl (lv_at hl 2 rfl) ?_
    refine lv_aload_n hx hb dL_law_85 rfl (lv_at hl 1 rfl) ?_
    refine lv_iload hx hb dL_law_86 (lv_at hl 0 rfl) ?_
    refine lv_iconst (v := 1) hx hb dL_law_88 (by decide) ?_
    refine lv_iadd hx hb dL_law_89 ?_
    refine lc_top (y := nI (5 * t + 1)) (nI_add (5 * t) 1) ?_
    refine va_sld hx hb hX hbl hbA hS (vp_in_nI (show 5 * t + 1 < L by omega) (by omega)) dL_law_90 ?_
    refine lc_top (y := p0) ((congrArg xs (nI_clamp (by omega))).trans hp0) ?_
    refine lv_aload_n hx hb dL_law_91 rfl (lv_at hl 1 rfl) ?_
    refine lv_iload hx hb dL_law_92 (lv_at hl 0 rfl) ?_
    refine lv_iconst (v := 2) hx hb dL_law_94 (by decide) ?_
    refine lv_iadd hx hb dL_law_95 ?_
    refine lc_top (y := nI (5 * t + 2)) (nI_add (5 * t) 2) ?_
    refine va_sld hx hb hX hbl hbA hS (vp_in_nI (show 5 * t + 2 < L by omega) (by omega)) dL_law_96 ?_
    refine lc_top (y := p1) ((congrArg xs (nI_clamp (by omega))).trans hp1) ?_
    refine lv_aload_n hx hb dL_law_97 rfl (lv_at hl 1 rfl) ?_
    refine lv_iload hx hb dL_law_98 (lv_at hl 0 rfl) ?_
    refine lv_iconst (v := 3) hx hb dL_law_100 (by decide) ?_
    refine lv_iadd hx hb dL_law_101 ?_
    refine lc_top (y := nI (5 * t + 3)) (nI_add (5 * t) 3) ?_
    refine va_sld hx hb hX hbl hbA hS (vp_in_nI (show 5 * t + 3 < L by omega) (by omega)) dL_law_102 ?_
    refine lc_top (y := p2) ((congrArg xs (nI_clamp (by omega))).trans hp2) ?_
    refine lv_aload_n hx hb dL_law_103 rfl (lv_at hl 1 rfl) ?_
    refine lv_iload hx hb dL_law_104 (lv_at hl 0 rfl) ?_
    refine lv_iconst (v := 4) hx hb dL_law_106 (by decide) ?_
    refine lv_iadd hx hb dL_law_107 ?_
    refine lc_top (y := nI (5 * t + 4)) (nI_add (5 * t) 4) ?_
    refine va_sld hx hb hX hbl hbA hS (vp_in_nI (show 5 * t + 4 < L by omega) (by omega)) dL_law_108 ?_
    refine lc_top (y := p3) ((congrArg xs (nI_clamp (by omega))).trans hp3) ?_
    refine lv_aload_n hx hb dL_law_109 rfl (lv_at hl 4 rfl) ?_
    refine lc_callB (vx_runSW (hh := [(0, 14, 17, 13), (0, 14, 21, 15)]) (As := [.ref h, .int p0, .int p1, .int p2, .int p3, .ref o]) (rest := []) ⟨hx, hb, hml, hown, hts⟩ (w_insert_bad l D h q cA o cJ hst (nI c0) (nI (lc_cnt g c0)) Lx g p0 p1 p2 p3 hbad) (vx_cwSW 6 hts gL_law_L_insert rfl rfl rfl (by decide +kernel) ⟨Nat.le_of_ble_eq_true rfl, Nat.le_of_ble_eq_true rfl⟩) (lc_TxS (hP.sub (ws' := [(h, .inr (0, [.ref q, .int (nI c0), .int (nI (lc_cnt g c0))])), (q, .inl (cA, Lx, .inl g))]) [0, 1] rfl) (hK.sub (tys' := [(cA, .int)]) [0] rfl) ((hZ.kept hS.2.1).narrow (fun _ h => h.elim))) rfl rfl hl.1 rfl (lv_room (Nat.le_of_ble_eq_true rfl)) dL_law_110 ⟨by show _ ≤ (601024 : Nat); omega, by show _ ≤ (7293034 : Nat); omega⟩) (fun H1 hz hk => ?_)
    have hP := lc_keptP hP hk
    have hS := lc_keptS hS hz hk
    clear hz hk
    generalize H1 = H at hP hS ⊢
    refine lv_istore hx hb dL_law_113 hl (by decide) rfl (fun ls hl => ?_)
    have hl : lv_has ls 7 [(5, .int 1), (4, .int (nI (5 * t))), (0, .ref b), (1, .ref h), (2, .ref hm), (3, .ref o)] := hl
    refine lv_aload_n hx hb dL_law_115 rfl (lv_at hl 4 rfl) ?_
    refine lv_aload_n hx hb dL_law_116 rfl (lv_at hl 2 rfl) ?_
    refine lv_iload hx hb dL_law_117 (lv_at hl 1 rfl) ?_
    refine lv_iconst (v := 1) hx hb dL_law_119 (by decide) ?_
    refine lv_iadd hx hb dL_law_120 ?_
    refine lc_top (y := nI (5 * t + 1)) (nI_add (5 * t) 1) ?_
    refine va_sld hx hb hX hbl hbA hS (vp_in_nI (show 5 * t + 1 < L by omega) (by omega)) dL_law_121 ?_
    refine lc_top (y := p0) ((congrArg xs (nI_clamp (by omega))).trans hp0) ?_
    refine lv_aload_n hx hb dL_law_122 rfl (lv_at hl 2 rfl) ?_
    refine lv_iload hx hb dL_law_123 (lv_at hl 1 rfl) ?_
    refine lv_iconst (v := 2) hx hb dL_law_125 (by decide) ?_
    refine lv_iadd hx hb dL_law_126 ?_
    refine lc_top (y := nI (5 * t + 2)) (nI_add (5 * t) 2) ?_
    refine va_sld hx hb hX hbl hbA hS (vp_in_nI (show 5 * t + 2 < L by omega) (by omega)) dL_law_127 ?_
    refine lc_top (y := p1) ((congrArg xs (nI_clamp (by omega))).trans hp1) ?_
    refine lv_aload_n hx hb dL_law_128 rfl (lv_at hl 2 rfl) ?_
    refine lv_iload hx hb dL_law_129 (lv_at hl 1 rfl) ?_
    refine lv_iconst (v := 3) hx hb dL_law_131 (by decide) ?_
    refine lv_iadd hx hb dL_law_132 ?_
    refine lc_top (y := nI (5 * t + 3)) (nI_add (5 * t) 3) ?_
    refine va_sld hx hb hX hbl hbA hS (vp_in_nI (show 5 * t + 3 < L by omega) (by omega)) dL_law_133 ?_
    refine lc_top (y := p2) ((congrArg xs (nI_clamp (by omega))).trans hp2) ?_
    refine lv_aload_n hx hb dL_law_134 rfl (lv_at hl 2 rfl) ?_
    refine lv_iload hx hb dL_law_135 (lv_at hl 1 rfl) ?_
    refine lv_iconst (v := 4) hx hb dL_law_137 (by decide) ?_
    refine lv_iadd hx hb dL_law_138 ?_
    refine lc_top (y := nI (5 * t + 4)) (nI_add (5 * t) 4) ?_
    refine va_sld hx hb hX hbl hbA hS (vp_in_nI (show 5 * t + 4 < L by omega) (by omega)) dL_law_139 ?_
    refine lc_top (y := p3) ((congrArg xs (nI_clamp (by omega))).trans hp3) ?_
    have hPc := hP.sub (ws' := [(hm, .inr (1, [.ref qm, .int (nI c0), .int th])), (qm, .inl (cM, 20000, .inl r))]) [2, 3] rfl
    have hDc := hD.sub (ws' := [(hm, .inr (1, [.ref qm, .int (nI c0), .int th])), (qm, .inl (cM, 20000, .inl r))]) [2, 3] (by decide) rfl
    have hKc := hK.sub (tys' := [(cM, .int)]) [1] rfl
    have hF := va_free (wc := [(hm, .inr (1, [.ref qm, .int (nI c0), .int th])), (qm, .inl (cM, 20000, .inl r))]) hD hS hA [2, 3] rfl
    refine lc_callW (vx_runVW (hh := [(5, 14, 15, 13), (5, 14, 25, 24)]) (As := [.int p0, .int p1, .int p2, .int p3]) (rest := []) ⟨hx, hb, hml, hown, hts⟩ (m_insert_bad l D hm qm cM H.size hst (nI c0) th r p0 p1 p2 p3 hbad) (vx_cwVW 4 hts gL_law_X1_insert rfl rfl rfl (by decide +kernel) ⟨Nat.le_of_ble_eq_true rfl, Nat.le_of_ble_eq_true rfl⟩) (lc_WTV (q0 := 0) (ci := 1) (q := (RX1, TX1, 3)) hPc hKc hDc ((hZ.kept hS.2.1).narrow (fun q h => hF q h)) rfl rfl) rfl rfl hl.1 rfl (lv_room (Nat.le_of_ble_eq_true rfl)) dL_law_140 ⟨by show _ ≤ (601024 : Nat); omega, by show _ ≤ (7293034 : Nat); omega⟩) hS (fun q h => hF q h) (fun u H locs hp hP1 hK1 hD1 hz hk hS => ?_)
    obtain ⟨hP, hD⟩ := va_join (wr := [(h, .inr (0, [.ref q, .int (nI c0), .int (nI (lc_cnt g c0))])), (q, .inl (cA, Lx, .inl g)), (o, .inl (cJ, 1, .inr (.inl fo)))]) (w1 := [(hm, .inr (1, [.ref qm, .int (nI c0), .int 1])), (qm, .inl (cM, 20000, .inl r))]) hP hD [2, 3] [0, 1, 4] rfl rfl (by decide) (by decide) hk hF hP1 hD1
    have hK := (hK.sub (tys' := [(cA, .int), (cJ, .long)]) [0, 2] rfl).app hK1
    have hP := hP.sub (ws' := [(h, .inr (0, [.ref q, .int (nI c0), .int (nI (lc_cnt g c0))])), (q, .inl (cA, Lx, .inl g)), (hm, .inr (1, [.ref qm, .int (nI c0), .int 1])), (qm, .inl (cM, 20000, .inl r)), (o, .inl (cJ, 1, .inr (.inl fo)))]) [0, 1, 3, 4, 2] rfl
    have hD := hD.sub (ws' := [(h, .inr (0, [.ref q, .int (nI c0), .int (nI (lc_cnt g c0))])), (q, .inl (cA, Lx, .inl g)), (hm, .inr (1, [.ref qm, .int (nI c0), .int 1])), (qm, .inl (cM, 20000, .inl r)), (o, .inl (cJ, 1, .inr (.inl fo)))]) [0, 1, 3, 4, 2] (by decide) rfl
    have hK := hK.sub (tys' := [(cA, .int), (cM, .int), (cJ, .long)]) [0, 2, 1] rfl
    clear hz hk hPc hDc hKc hF hP1 hK1 hD1
    refine W.eq (g2 := F0 m 143 ls [.int 0]) rfl ?_
    refine lv_istore hx hb dL_law_143 hl (by decide) rfl (fun ls hl => ?_)
    have hl : lv_has ls 7 [(6, .int 0), (5, .int 1), (4, .int (nI (5 * t))), (0, .ref b), (1, .ref h), (2, .ref hm), (3, .ref o)] := hl
    refine lv_aload_n hx hb dL_law_145 rfl (lv_at hl 5 rfl) ?_
    refine lc_callR (W.runV (As := []) (rest := []) ⟨hx, hb, hml, hown, hts⟩ (m_thrown l D hm qm cM (nI c0) 1 r) (cwV 0 hts gL_law_X1_thrown rfl rfl rfl (by decide +kernel) ⟨Nat.le_of_ble_eq_true rfl, Nat.le_of_ble_eq_true rfl⟩) (lc_RdV (q0 := 0) (ci := 1) (q := (RX1, TX1, 3)) (hP.sub (ws' := [(hm, .inr (1, [.ref qm, .int (nI c0), .int 1])), (qm, .inl (cM, 20000, .inl r))]) [2, 3] rfl) (hK.sub (tys' := [(cM, .int)]) [1] rfl) rfl rfl) rfl rfl hl.1 rfl (lv_room (Nat.le_of_ble_eq_true rfl)) dL_law_146 ⟨by show _ ≤ (601024 : Nat); omega, by show _ ≤ (7293034 : Nat); omega⟩) ?_
    refine lv_iload hx hb dL_law_149 (lv_at hl 1 rfl) ?_
    refine lv_icmp_eq hx hb dL_law_151 (tgt := 156) rfl (fun _ => ?_) (fun hc => absurd (rfl) hc)
    refine lv_iload hx hb dL_law_156 (lv_at hl 1 rfl) ?_
    refine lv_if_ne hx hb dL_law_158 (tgt := 173) rfl (fun _ => ?_) (fun hc => absurd hc (by decide))
    refine lv_goto hx hb dL_law_173 (tgt := 451) rfl ?_
    have hl : lv_has ls 7 [(4, .int (nI (5 * t))), (0, .ref b), (1, .ref h), (2, .ref hm), (3, .ref o)] := lv_sub hl [2, 3, 4, 5, 6] rfl
    refine W.widen (k := 5 + 2 * (t + 1)) (n := 20519 + 12 * (t + 1) + pt) (by omega) (by omega) ?_
    exact next pt H locs ls ⟨q, cA, Lx, c0, g, qm, cM, 1, r, cJ, fo, hL5, hLx, hc0, heq, hpt, hP, hD, hK, hS⟩ hl
  · obtain ⟨i0, k0, rfl, rfl, hi0, hk0, hk5⟩ := lc_okI hbad (by omega)
    by_cases hfull : 20000 < c0 + k0
    · refine lv_aload_n hx hb dL_law_84 rfl (lv_at hl 2 rfl) ?_
      refine lv_aload_n hx hb dL_law_85 rfl (lv_at hl 1 rfl) ?_
      refine lv_iload hx hb dL_law_86 (lv_at hl 0 rfl) ?_
      refine lv_iconst (v := 1) hx hb dL_law_88 (by decide) ?_
      refine lv_iadd hx hb dL_law_89 ?_
      refine lc_top (y := nI (5 * t + 1)) (nI_add (5 * t) 1) ?_
      refine va_sld hx hb hX hbl hbA hS (vp_in_nI (show 5 * t + 1 < L by omega) (by omega)) dL_law_90 ?_
      refine lc_top (y := nI i0) ((congrArg xs (nI_clamp (by omega))).trans hp0) ?_
      refine lv_aload_n hx hb dL_law_91 rfl (lv_at hl 1 rfl) ?_
      refine lv_iload hx hb dL_law_92 (lv_at hl 0 rfl) ?_
      refine lv_iconst (v := 2) hx hb dL_law_94 (by decide) ?_
      refine lv_iadd hx hb dL_law_95 ?_
      refine lc_top (y := nI (5 * t + 2)) (nI_add (5 * t) 2) ?_
      refine va_sld hx hb hX hbl hbA hS (vp_in_nI (show 5 * t + 2 < L by omega) (by omega)) dL_law_96 ?_
      refine lc_top (y := p1) ((congrArg xs (nI_clamp (by omega))).trans hp1) ?_
      refine lv_aload_n hx hb dL_law_97 rfl (lv_at hl 1 rfl) ?_
      refine lv_iload hx hb dL_law_98 (lv_at hl 0 rfl) ?_
      refine lv_iconst (v := 3) hx hb dL_law_100 (by decide) ?_
      refine lv_iadd hx hb dL_law_101 ?_
      refine lc_top (y := nI (5 * t + 3)) (nI_add (5 * t) 3) ?_
      refine va_sld hx hb hX hbl hbA hS (vp_in_nI (show 5 * t + 3 < L by omega) (by omega)) dL_law_102 ?_
      refine lc_top (y := p2) ((congrArg xs (nI_clamp (by omega))).trans hp2) ?_
      refine lv_aload_n hx hb dL_law_103 rfl (lv_at hl 1 rfl) ?_
      refine lv_iload hx hb dL_law_104 (lv_at hl 0 rfl) ?_
      refine lv_iconst (v := 4) hx hb dL_law_106 (by decide) ?_
      refine lv_iadd hx hb dL_law_107 ?_
      refine lc_top (y := nI (5 * t + 4)) (nI_add (5 * t) 4) ?_
      refine va_sld hx hb hX hbl hbA hS (vp_in_nI (show 5 * t + 4 < L by omega) (by omega)) dL_law_108 ?_
      refine lc_top (y := nI k0) ((congrArg xs (nI_clamp (by omega))).trans hp3) ?_
      refine lv_aload_n hx hb dL_law_109 rfl (lv_at hl 4 rfl) ?_
      refine lc_callB (vx_runSW (hh := [(0, 14, 17, 13), (0, 14, 21, 15)]) (As := [.ref h, .int (nI i0), .int p1, .int p2, .int (nI k0), .ref o]) (rest := []) ⟨hx, hb, hml, hown, hts⟩ (w_insert_full l D h q cA o cJ hst (nI (lc_cnt g c0)) Lx c0 g i0 k0 p1 p2 (by omega) hi0 hk0 hk5 hfull) (vx_cwSW 6 hts gL_law_L_insert rfl rfl rfl (by decide +kernel) ⟨Nat.le_of_ble_eq_true rfl, Nat.le_of_ble_eq_true rfl⟩) (lc_TxS (hP.sub (ws' := [(h, .inr (0, [.ref q, .int (nI c0), .int (nI (lc_cnt g c0))])), (q, .inl (cA, Lx, .inl g))]) [0, 1] rfl) (hK.sub (tys' := [(cA, .int)]) [0] rfl) ((hZ.kept hS.2.1).narrow (fun _ h => h.elim))) rfl rfl hl.1 rfl (lv_room (Nat.le_of_ble_eq_true rfl)) dL_law_110 ⟨by show _ ≤ (601024 : Nat); omega, by show _ ≤ (7293034 : Nat); omega⟩) (fun H1 hz hk => ?_)
      have hP := lc_keptP hP hk
      have hS := lc_keptS hS hz hk
      clear hz hk
      generalize H1 = H at hP hS ⊢
      refine lv_istore hx hb dL_law_113 hl (by decide) rfl (fun ls hl => ?_)
      have hl : lv_has ls 7 [(5, .int 2), (4, .int (nI (5 * t))), (0, .ref b), (1, .ref h), (2, .ref hm), (3, .ref o)] := hl
      refine lv_aload_n hx hb dL_law_115 rfl (lv_at hl 4 rfl) ?_
      refine lv_aload_n hx hb dL_law_116 rfl (lv_at hl 2 rfl) ?_
      refine lv_iload hx hb dL_law_117 (lv_at hl 1 rfl) ?_
      refine lv_iconst (v := 1) hx hb dL_law_119 (by decide) ?_
      refine lv_iadd hx hb dL_law_120 ?_
      refine lc_top (y := nI (5 * t + 1)) (nI_add (5 * t) 1) ?_
      refine va_sld hx hb hX hbl hbA hS (vp_in_nI (show 5 * t + 1 < L by omega) (by omega)) dL_law_121 ?_
      refine lc_top (y := nI i0) ((congrArg xs (nI_clamp (by omega))).trans hp0) ?_
      refine lv_aload_n hx hb dL_law_122 rfl (lv_at hl 2 rfl) ?_
      refine lv_iload hx hb dL_law_123 (lv_at hl 1 rfl) ?_
      refine lv_iconst (v := 2) hx hb dL_law_125 (by decide) ?_
      refine lv_iadd hx hb dL_law_126 ?_
      refine lc_top (y := nI (5 * t + 2)) (nI_add (5 * t) 2) ?_
      refine va_sld hx hb hX hbl hbA hS (vp_in_nI (show 5 * t + 2 < L by omega) (by omega)) dL_law_127 ?_
      refine lc_top (y := p1) ((congrArg xs (nI_clamp (by omega))).trans hp1) ?_
      refine lv_aload_n hx hb dL_law_128 rfl (lv_at hl 2 rfl) ?_
      refine lv_iload hx hb dL_law_129 (lv_at hl 1 rfl) ?_
      refine lv_iconst (v := 3) hx hb dL_law_131 (by decide) ?_
      refine lv_iadd hx hb dL_law_132 ?_
      refine lc_top (y := nI (5 * t + 3)) (nI_add (5 * t) 3) ?_
      refine va_sld hx hb hX hbl hbA hS (vp_in_nI (show 5 * t + 3 < L by omega) (by omega)) dL_law_133 ?_
      refine lc_top (y := p2) ((congrArg xs (nI_clamp (by omega))).trans hp2) ?_
      refine lv_aload_n hx hb dL_law_134 rfl (lv_at hl 2 rfl) ?_
      refine lv_iload hx hb dL_law_135 (lv_at hl 1 rfl) ?_
      refine lv_iconst (v := 4) hx hb dL_law_137 (by decide) ?_
      refine lv_iadd hx hb dL_law_138 ?_
      refine lc_top (y := nI (5 * t + 4)) (nI_add (5 * t) 4) ?_
      refine va_sld hx hb hX hbl hbA hS (vp_in_nI (show 5 * t + 4 < L by omega) (by omega)) dL_law_139 ?_
      refine lc_top (y := nI k0) ((congrArg xs (nI_clamp (by omega))).trans hp3) ?_
      have hPc := hP.sub (ws' := [(hm, .inr (1, [.ref qm, .int (nI c0), .int th])), (qm, .inl (cM, 20000, .inl r))]) [2, 3] rfl
      have hDc := hD.sub (ws' := [(hm, .inr (1, [.ref qm, .int (nI c0), .int th])), (qm, .inl (cM, 20000, .inl r))]) [2, 3] (by decide) rfl
      have hKc := hK.sub (tys' := [(cM, .int)]) [1] rfl
      have hF := va_free (wc := [(hm, .inr (1, [.ref qm, .int (nI c0), .int th])), (qm, .inl (cM, 20000, .inl r))]) hD hS hA [2, 3] rfl
      refine lc_callW (vx_runVW (hh := [(5, 14, 15, 13), (5, 14, 25, 24)]) (As := [.int (nI i0), .int p1, .int p2, .int (nI k0)]) (rest := []) ⟨hx, hb, hml, hown, hts⟩ (m_insert_full l D hm qm cM H.size hst th c0 r i0 k0 p1 p2 (by omega) hi0 hk0 hk5 hfull) (vx_cwVW 4 hts gL_law_X1_insert rfl rfl rfl (by decide +kernel) ⟨Nat.le_of_ble_eq_true rfl, Nat.le_of_ble_eq_true rfl⟩) (lc_WTV (q0 := 0) (ci := 1) (q := (RX1, TX1, 3)) hPc hKc hDc ((hZ.kept hS.2.1).narrow (fun q h => hF q h)) rfl rfl) rfl rfl hl.1 rfl (lv_room (Nat.le_of_ble_eq_true rfl)) dL_law_140 ⟨by show _ ≤ (601024 : Nat); omega, by show _ ≤ (7293034 : Nat); omega⟩) hS (fun q h => hF q h) (fun u H locs hp hP1 hK1 hD1 hz hk hS => ?_)
      obtain ⟨hP, hD⟩ := va_join (wr := [(h, .inr (0, [.ref q, .int (nI c0), .int (nI (lc_cnt g c0))])), (q, .inl (cA, Lx, .inl g)), (o, .inl (cJ, 1, .inr (.inl fo)))]) (w1 := [(hm, .inr (1, [.ref qm, .int (nI c0), .int 2])), (qm, .inl (cM, 20000, .inl r))]) hP hD [2, 3] [0, 1, 4] rfl rfl (by decide) (by decide) hk hF hP1 hD1
      have hK := (hK.sub (tys' := [(cA, .int), (cJ, .long)]) [0, 2] rfl).app hK1
      have hP := hP.sub (ws' := [(h, .inr (0, [.ref q, .int (nI c0), .int (nI (lc_cnt g c0))])), (q, .inl (cA, Lx, .inl g)), (hm, .inr (1, [.ref qm, .int (nI c0), .int 2])), (qm, .inl (cM, 20000, .inl r)), (o, .inl (cJ, 1, .inr (.inl fo)))]) [0, 1, 3, 4, 2] rfl
      have hD := hD.sub (ws' := [(h, .inr (0, [.ref q, .int (nI c0), .int (nI (lc_cnt g c0))])), (q, .inl (cA, Lx, .inl g)), (hm, .inr (1, [.ref qm, .int (nI c0), .int 2])), (qm, .inl (cM, 20000, .inl r)), (o, .inl (cJ, 1, .inr (.inl fo)))]) [0, 1, 3, 4, 2] (by decide) rfl
      have hK := hK.sub (tys' := [(cA, .int), (cM, .int), (cJ, .long)]) [0, 2, 1] rfl
      clear hz hk hPc hDc hKc hF hP1 hK1 hD1
      refine W.eq (g2 := F0 m 143 ls [.int 0]) rfl ?_
      refine lv_istore hx hb dL_law_143 hl (by decide) rfl (fun ls hl => ?_)
      have hl : lv_has ls 7 [(6, .int 0), (5, .int 2), (4, .int (nI (5 * t))), (0, .ref b), (1, .ref h), (2, .ref hm), (3, .ref o)] := hl
      refine lv_aload_n hx hb dL_law_145 rfl (lv_at hl 5 rfl) ?_
      refine lc_callR (W.runV (As := []) (rest := []) ⟨hx, hb, hml, hown, hts⟩ (m_thrown l D hm qm cM (nI c0) 2 r) (cwV 0 hts gL_law_X1_thrown rfl rfl rfl (by decide +kernel) ⟨Nat.le_of_ble_eq_true rfl, Nat.le_of_ble_eq_true rfl⟩) (lc_RdV (q0 := 0) (ci := 1) (q := (RX1, TX1, 3)) (hP.sub (ws' := [(hm, .inr (1, [.ref qm, .int (nI c0), .int 2])), (qm, .inl (cM, 20000, .inl r))]) [2, 3] rfl) (hK.sub (tys' := [(cM, .int)]) [1] rfl) rfl rfl) rfl rfl hl.1 rfl (lv_room (Nat.le_of_ble_eq_true rfl)) dL_law_146 ⟨by show _ ≤ (601024 : Nat); omega, by show _ ≤ (7293034 : Nat); omega⟩) ?_
      refine lv_iload hx hb dL_law_149 (lv_at hl 1 rfl) ?_
      refine lv_icmp_eq hx hb dL_law_151 (tgt := 156) rfl (fun _ => ?_) (fun hc => absurd (rfl) hc)
      refine lv_iload hx hb dL_law_156 (lv_at hl 1 rfl) ?_
      refine lv_if_ne hx hb dL_law_158 (tgt := 173) rfl (fun _ => ?_) (fun hc => absurd hc (by decide))
      refine lv_goto hx hb dL_law_173 (tgt := 451) rfl ?_
      have hl : lv_has ls 7 [(4, .int (nI (5 * t))), (0, .ref b), (1, .ref h), (2, .ref hm), (3, .ref o)] := lv_sub hl [2, 3, 4, 5, 6] rfl
      refine W.widen (k := 5 + 2 * (t + 1)) (n := 20519 + 12 * (t + 1) + pt) (by omega) (by omega) ?_
      exact next pt H locs ls ⟨q, cA, Lx, c0, g, qm, cM, 2, r, cJ, fo, hL5, hLx, hc0, heq, hpt, hP, hD, hK, hS⟩ hl
    · have hfit : c0 + k0 ≤ 20000 := by omega
      obtain ⟨hm1, hm2, hm3⟩ := lc_L_in hL5 hLx hfit (show c0 + k0 ≤ Lx + 500 by omega)
      have hpt1 := lc_pot hLx hfit hpt
      have hgr := lc_pot_le hpt hLx (m := c0 + k0)
      refine lv_aload_n hx hb dL_law_84 rfl (lv_at hl 2 rfl) ?_
      refine lv_aload_n hx hb dL_law_85 rfl (lv_at hl 1 rfl) ?_
      refine lv_iload hx hb dL_law_86 (lv_at hl 0 rfl) ?_
      refine lv_iconst (v := 1) hx hb dL_law_88 (by decide) ?_
      refine lv_iadd hx hb dL_law_89 ?_
      refine lc_top (y := nI (5 * t + 1)) (nI_add (5 * t) 1) ?_
      refine va_sld hx hb hX hbl hbA hS (vp_in_nI (show 5 * t + 1 < L by omega) (by omega)) dL_law_90 ?_
      refine lc_top (y := nI i0) ((congrArg xs (nI_clamp (by omega))).trans hp0) ?_
      refine lv_aload_n hx hb dL_law_91 rfl (lv_at hl 1 rfl) ?_
      refine lv_iload hx hb dL_law_92 (lv_at hl 0 rfl) ?_
      refine lv_iconst (v := 2) hx hb dL_law_94 (by decide) ?_
      refine lv_iadd hx hb dL_law_95 ?_
      refine lc_top (y := nI (5 * t + 2)) (nI_add (5 * t) 2) ?_
      refine va_sld hx hb hX hbl hbA hS (vp_in_nI (show 5 * t + 2 < L by omega) (by omega)) dL_law_96 ?_
      refine lc_top (y := p1) ((congrArg xs (nI_clamp (by omega))).trans hp1) ?_
      refine lv_aload_n hx hb dL_law_97 rfl (lv_at hl 1 rfl) ?_
      refine lv_iload hx hb dL_law_98 (lv_at hl 0 rfl) ?_
      refine lv_iconst (v := 3) hx hb dL_law_100 (by decide) ?_
      refine lv_iadd hx hb dL_law_101 ?_
      refine lc_top (y := nI (5 * t + 3)) (nI_add (5 * t) 3) ?_
      refine va_sld hx hb hX hbl hbA hS (vp_in_nI (show 5 * t + 3 < L by omega) (by omega)) dL_law_102 ?_
      refine lc_top (y := p2) ((congrArg xs (nI_clamp (by omega))).trans hp2) ?_
      refine lv_aload_n hx hb dL_law_103 rfl (lv_at hl 1 rfl) ?_
      refine lv_iload hx hb dL_law_104 (lv_at hl 0 rfl) ?_
      refine lv_iconst (v := 4) hx hb dL_law_106 (by decide) ?_
      refine lv_iadd hx hb dL_law_107 ?_
      refine lc_top (y := nI (5 * t + 4)) (nI_add (5 * t) 4) ?_
      refine va_sld hx hb hX hbl hbA hS (vp_in_nI (show 5 * t + 4 < L by omega) (by omega)) dL_law_108 ?_
      refine lc_top (y := nI k0) ((congrArg xs (nI_clamp (by omega))).trans hp3) ?_
      refine lv_aload_n hx hb dL_law_109 rfl (lv_at hl 4 rfl) ?_
      have hPc := hP.sub (ws' := [(h, .inr (0, [.ref q, .int (nI c0), .int (nI (lc_cnt g c0))])), (q, .inl (cA, Lx, .inl g)), (o, .inl (cJ, 1, .inr (.inl fo)))]) [0, 1, 4] rfl
      have hDc := hD.sub (ws' := [(h, .inr (0, [.ref q, .int (nI c0), .int (nI (lc_cnt g c0))])), (q, .inl (cA, Lx, .inl g)), (o, .inl (cJ, 1, .inr (.inl fo)))]) [0, 1, 4] (by decide) rfl
      have hKc := hK.sub (tys' := [(cA, .int), (cJ, .long)]) [0, 2] rfl
      have hF := va_free (wc := [(h, .inr (0, [.ref q, .int (nI c0), .int (nI (lc_cnt g c0))])), (q, .inl (cA, Lx, .inl g)), (o, .inl (cJ, 1, .inr (.inl fo)))]) hD hS hA [0, 1, 4] rfl
      refine lc_callW (vx_runSW (hh := [(0, 14, 17, 13), (0, 14, 21, 15)]) (As := [.ref h, .int (nI i0), .int p1, .int p2, .int (nI k0), .ref o]) (rest := []) ⟨hx, hb, hml, hown, hts⟩ (w_insert l D h q cA o cJ H.size fo Lx c0 g hL5 hLx hc0 i0 k0 p1 p2 hi0 hk0 hk5 hfit) (vx_cwSW 6 hts gL_law_L_insert rfl rfl rfl (by decide +kernel) ⟨Nat.le_of_ble_eq_true rfl, Nat.le_of_ble_eq_true rfl⟩) (lc_WrS hPc hKc hDc) rfl rfl hl.1 rfl (lv_room (Nat.le_of_ble_eq_true rfl)) dL_law_110 ⟨by show _ ≤ (601024 : Nat); omega, by show _ ≤ (7293034 : Nat); omega⟩) hS (fun q h => hF q h) (fun u H locs hp hP1 hK1 hD1 hz hk hS => ?_)
      obtain ⟨⟨q1, cA1, g1⟩, fo1⟩ := u
      dsimp only at hp hP1 hK1 hD1
      obtain ⟨hpg, hpf⟩ := hp
      obtain ⟨hP, hD⟩ := va_join (wr := [(hm, .inr (1, [.ref qm, .int (nI c0), .int th])), (qm, .inl (cM, 20000, .inl r))]) (w1 := [(h, .inr (0, [.ref q1, .int (nI (c0 + k0)), .int (nI (lc_cnt g1 (c0 + k0)))])), (q1, .inl (cA1, lc_L Lx (c0 + k0), .inl g1)), (o, .inl (cJ, 1, .inr (.inl fo1)))]) hP hD [0, 1, 4] [2, 3] rfl rfl (by decide) (by decide) hk hF hP1 hD1
      have hK := (hK.sub (tys' := [(cM, .int)]) [1] rfl).app hK1
      have hP := hP.sub (ws' := [(h, .inr (0, [.ref q1, .int (nI (c0 + k0)), .int (nI (lc_cnt g1 (c0 + k0)))])), (q1, .inl (cA1, lc_L Lx (c0 + k0), .inl g1)), (hm, .inr (1, [.ref qm, .int (nI c0), .int th])), (qm, .inl (cM, 20000, .inl r)), (o, .inl (cJ, 1, .inr (.inl fo1)))]) [2, 3, 0, 1, 4] rfl
      have hD := hD.sub (ws' := [(h, .inr (0, [.ref q1, .int (nI (c0 + k0)), .int (nI (lc_cnt g1 (c0 + k0)))])), (q1, .inl (cA1, lc_L Lx (c0 + k0), .inl g1)), (hm, .inr (1, [.ref qm, .int (nI c0), .int th])), (qm, .inl (cM, 20000, .inl r)), (o, .inl (cJ, 1, .inr (.inl fo1)))]) [2, 3, 0, 1, 4] (by decide) rfl
      have hK := hK.sub (tys' := [(cA1, .int), (cM, .int), (cJ, .long)]) [1, 0, 2] rfl
      clear hz hk hPc hDc hKc hF hP1 hK1 hD1
      refine W.eq (g2 := F0 m 113 ls [.int 0]) rfl ?_
      refine lv_istore hx hb dL_law_113 hl (by decide) rfl (fun ls hl => ?_)
      have hl : lv_has ls 7 [(5, .int 0), (4, .int (nI (5 * t))), (0, .ref b), (1, .ref h), (2, .ref hm), (3, .ref o)] := hl
      refine lv_aload_n hx hb dL_law_115 rfl (lv_at hl 4 rfl) ?_
      refine lv_aload_n hx hb dL_law_116 rfl (lv_at hl 2 rfl) ?_
      refine lv_iload hx hb dL_law_117 (lv_at hl 1 rfl) ?_
      refine lv_iconst (v := 1) hx hb dL_law_119 (by decide) ?_
      refine lv_iadd hx hb dL_law_120 ?_
      refine lc_top (y := nI (5 * t + 1)) (nI_add (5 * t) 1) ?_
      refine va_sld hx hb hX hbl hbA hS (vp_in_nI (show 5 * t + 1 < L by omega) (by omega)) dL_law_121 ?_
      refine lc_top (y := nI i0) ((congrArg xs (nI_clamp (by omega))).trans hp0) ?_
      refine lv_aload_n hx hb dL_law_122 rfl (lv_at hl 2 rfl) ?_
      refine lv_iload hx hb dL_law_123 (lv_at hl 1 rfl) ?_
      refine lv_iconst (v := 2) hx hb dL_law_125 (by decide) ?_
      refine lv_iadd hx hb dL_law_126 ?_
      refine lc_top (y := nI (5 * t + 2)) (nI_add (5 * t) 2) ?_
      refine va_sld hx hb hX hbl hbA hS (vp_in_nI (show 5 * t + 2 < L by omega) (by omega)) dL_law_127 ?_
      refine lc_top (y := p1) ((congrArg xs (nI_clamp (by omega))).trans hp1) ?_
      refine lv_aload_n hx hb dL_law_128 rfl (lv_at hl 2 rfl) ?_
      refine lv_iload hx hb dL_law_129 (lv_at hl 1 rfl) ?_
      refine lv_iconst (v := 3) hx hb dL_law_131 (by decide) ?_
      refine lv_iadd hx hb dL_law_132 ?_
      refine lc_top (y := nI (5 * t + 3)) (nI_add (5 * t) 3) ?_
      refine va_sld hx hb hX hbl hbA hS (vp_in_nI (show 5 * t + 3 < L by omega) (by omega)) dL_law_133 ?_
      refine lc_top (y := p2) ((congrArg xs (nI_clamp (by omega))).trans hp2) ?_
      refine lv_aload_n hx hb dL_law_134 rfl (lv_at hl 2 rfl) ?_
      refine lv_iload hx hb dL_law_135 (lv_at hl 1 rfl) ?_
      refine lv_iconst (v := 4) hx hb dL_law_137 (by decide) ?_
      refine lv_iadd hx hb dL_law_138 ?_
      refine lc_top (y := nI (5 * t + 4)) (nI_add (5 * t) 4) ?_
      refine va_sld hx hb hX hbl hbA hS (vp_in_nI (show 5 * t + 4 < L by omega) (by omega)) dL_law_139 ?_
      refine lc_top (y := nI k0) ((congrArg xs (nI_clamp (by omega))).trans hp3) ?_
      have hPc := hP.sub (ws' := [(hm, .inr (1, [.ref qm, .int (nI c0), .int th])), (qm, .inl (cM, 20000, .inl r))]) [2, 3] rfl
      have hDc := hD.sub (ws' := [(hm, .inr (1, [.ref qm, .int (nI c0), .int th])), (qm, .inl (cM, 20000, .inl r))]) [2, 3] (by decide) rfl
      have hKc := hK.sub (tys' := [(cM, .int)]) [1] rfl
      have hF := va_free (wc := [(hm, .inr (1, [.ref qm, .int (nI c0), .int th])), (qm, .inl (cM, 20000, .inl r))]) hD hS hA [2, 3] rfl
      refine lc_callW (vx_runVW (hh := [(5, 14, 15, 13), (5, 14, 25, 24)]) (As := [.int (nI i0), .int p1, .int p2, .int (nI k0)]) (rest := []) ⟨hx, hb, hml, hown, hts⟩ (m_insert l D hm qm cM H.size th c0 r i0 k0 p1 p2 hi0 hk0 hk5 hfit) (vx_cwVW 4 hts gL_law_X1_insert rfl rfl rfl (by decide +kernel) ⟨Nat.le_of_ble_eq_true rfl, Nat.le_of_ble_eq_true rfl⟩) (lc_WrV (q0 := 0) (ci := 1) (q := (RX1, TX1, 3)) hPc hKc hDc rfl rfl) rfl rfl hl.1 rfl (lv_room (Nat.le_of_ble_eq_true rfl)) dL_law_140 ⟨by show _ ≤ (601024 : Nat); omega, by show _ ≤ (7293034 : Nat); omega⟩) hS (fun q h => hF q h) (fun u H locs hp hP1 hK1 hD1 hz hk hS => ?_)
      obtain ⟨r1, hr1⟩ : ∃ z : Nat → Int32, z = u := ⟨u, rfl⟩
      rw [← hr1] at hp hP1 hD1
      have hpr := hp
      obtain ⟨hP, hD⟩ := va_join (wr := [(h, .inr (0, [.ref q1, .int (nI (c0 + k0)), .int (nI (lc_cnt g1 (c0 + k0)))])), (q1, .inl (cA1, lc_L Lx (c0 + k0), .inl g1)), (o, .inl (cJ, 1, .inr (.inl fo1)))]) (w1 := [(hm, .inr (1, [.ref qm, .int (nI (c0 + k0)), .int 0])), (qm, .inl (cM, 20000, .inl r1))]) hP hD [2, 3] [0, 1, 4] rfl rfl (by decide) (by decide) hk hF hP1 hD1
      have hK := (hK.sub (tys' := [(cA1, .int), (cJ, .long)]) [0, 2] rfl).app hK1
      have hP := hP.sub (ws' := [(h, .inr (0, [.ref q1, .int (nI (c0 + k0)), .int (nI (lc_cnt g1 (c0 + k0)))])), (q1, .inl (cA1, lc_L Lx (c0 + k0), .inl g1)), (hm, .inr (1, [.ref qm, .int (nI (c0 + k0)), .int 0])), (qm, .inl (cM, 20000, .inl r1)), (o, .inl (cJ, 1, .inr (.inl fo1)))]) [0, 1, 3, 4, 2] rfl
      have hD := hD.sub (ws' := [(h, .inr (0, [.ref q1, .int (nI (c0 + k0)), .int (nI (lc_cnt g1 (c0 + k0)))])), (q1, .inl (cA1, lc_L Lx (c0 + k0), .inl g1)), (hm, .inr (1, [.ref qm, .int (nI (c0 + k0)), .int 0])), (qm, .inl (cM, 20000, .inl r1)), (o, .inl (cJ, 1, .inr (.inl fo1)))]) [0, 1, 3, 4, 2] (by decide) rfl
      have hK := hK.sub (tys' := [(cA1, .int), (cM, .int), (cJ, .long)]) [0, 2, 1] rfl
      clear hz hk hPc hDc hKc hF hP1 hK1 hD1
      refine W.eq (g2 := F0 m 143 ls [.int (nI (c0 + k0))]) rfl ?_
      refine lv_istore hx hb dL_law_143 hl (by decide) rfl (fun ls hl => ?_)
      have hl : lv_has ls 7 [(6, .int (nI (c0 + k0))), (5, .int 0), (4, .int (nI (5 * t))), (0, .ref b), (1, .ref h), (2, .ref hm), (3, .ref o)] := hl
      refine lv_aload_n hx hb dL_law_145 rfl (lv_at hl 5 rfl) ?_
      refine lc_callR (W.runV (As := []) (rest := []) ⟨hx, hb, hml, hown, hts⟩ (m_thrown l D hm qm cM (nI (c0 + k0)) 0 r1) (cwV 0 hts gL_law_X1_thrown rfl rfl rfl (by decide +kernel) ⟨Nat.le_of_ble_eq_true rfl, Nat.le_of_ble_eq_true rfl⟩) (lc_RdV (q0 := 0) (ci := 1) (q := (RX1, TX1, 3)) (hP.sub (ws' := [(hm, .inr (1, [.ref qm, .int (nI (c0 + k0)), .int 0])), (qm, .inl (cM, 20000, .inl r1))]) [2, 3] rfl) (hK.sub (tys' := [(cM, .int)]) [1] rfl) rfl rfl) rfl rfl hl.1 rfl (lv_room (Nat.le_of_ble_eq_true rfl)) dL_law_146 ⟨by show _ ≤ (601024 : Nat); omega, by show _ ≤ (7293034 : Nat); omega⟩) ?_
      refine lv_iload hx hb dL_law_149 (lv_at hl 1 rfl) ?_
      refine lv_icmp_eq hx hb dL_law_151 (tgt := 156) rfl (fun _ => ?_) (fun hc => absurd (rfl) hc)
      refine lv_iload hx hb dL_law_156 (lv_at hl 1 rfl) ?_
      refine lv_if_ne hx hb dL_law_158 (tgt := 173) rfl (fun hc => absurd (rfl) hc) (fun _ => ?_)
      refine lv_aload_n hx hb dL_law_161 rfl (lv_at hl 6 rfl) ?_
      refine lv_iconst (v := 0) hx hb dL_law_162 (by decide) ?_
      refine va_lald (D := D) hx hb hK hP 4 2 rfl rfl (vp_in_nI (n := 0) (N := 1) (by decide) (by decide)) dL_law_163 ?_
      refine lc_topl (y := (nI (c0 + k0)).toInt64) ((congrArg fo1 sb_cl0).trans hpf) ?_
      refine lv_iload hx hb dL_law_164 (lv_at hl 0 rfl) ?_
      refine lv_i2l (v := (nI (c0 + k0)).toInt64) hx hb dL_law_166 rfl ?_
      refine W.lcmp hx hb dL_law_167 ?_
      refine lc_top (y := 0) (lc_cmp _) ?_
      refine lv_if_eq hx hb dL_law_168 (tgt := 173) rfl (fun _ => ?_) (fun hc => absurd (rfl) hc)
      refine lv_goto hx hb dL_law_173 (tgt := 451) rfl ?_
      have hl : lv_has ls 7 [(4, .int (nI (5 * t))), (0, .ref b), (1, .ref h), (2, .ref hm), (3, .ref o)] := lv_sub hl [2, 3, 4, 5, 6] rfl
      refine W.widen (k := 5 + 2 * (t + 1)) (n := 20519 + 12 * (t + 1) + (pt + lc_gr Lx (c0 + k0))) (by omega) (by omega) ?_
      exact next (pt + lc_gr Lx (c0 + k0)) H locs ls ⟨q1, cA1, (lc_L Lx (c0 + k0)), (c0 + k0), g1, qm, cM, 0, r1, cJ, fo1, (by omega), hm3, hm1, (fun j hj => by rw [hpr j hj, hpg j hj]; exact lc_ins_congr heq hi0 j hj), hpt1, hP, hD, hK, hS⟩ hl
