section LcRows
variable {p : Program} {l : Launch} {e : Env} {R : Room} {s : State} {m : MethodId} {args : Array Value} {below : List Frame} {meth : Method} {c : Code} {H : Heap} {locs : List Loc} {cells slots : Nat} {Q : State → Prop}
variable {pc : Nat} {ls : Array Slot} {rest st0 : List Value} {a : Array Value} {A0 A1 : Nat → Prop} {H0 : Heap} {mc ms : Nat} {free : Addr → Prop} {D : va_G}
theorem lc_topl {x y : Int64} (h : x = y) (k : W p l e R s m args below meth c H locs cells slots Q (F0 m pc ls (.long y :: rest))) : W p l e R s m args below meth c H locs cells slots Q (F0 m pc ls (.long x :: rest)) := h ▸ k
theorem lc_top {x y : Int32} (h : x = y) (k : W p l e R s m args below meth c H locs cells slots Q (F0 m pc ls (.int y :: rest))) : W p l e R s m args below meth c H locs cells slots Q (F0 m pc ls (.int x :: rest)) := h ▸ k
/-- what a reading method asks -/
def lc_Rd (av : List Value) (D : va_G) (w : va_W) (tys : List (ClassId × FieldType)) : Array Value → State → Prop := va_Pc av (fun U => va_P D vwCl w U.heap ∧ va_K D vwCl tys U)
theorem lc_Rd_blind {av : List Value} {w : va_W} {tys : List (ClassId × FieldType)} : FrameBlind (lc_Rd av D w tys) := fun a U g mk q => ⟨q.1, q.2.1, va_K.moved (u := U) (U := U.calling g mk a) (Vm.Alike.refl U.vm) q.2.2⟩
theorem lc_RdS {av : List Value} {w : va_W} {tys : List (ClassId × FieldType)} (hP : va_P D vwCl w H) (hK : va_K D vwCl tys s) : PreS s H (lc_Rd av D w tys) av := ⟨lc_Rd_blind, fun U hU hW => ⟨rfl, by rw [hU]; exact hP, va_K.moved hW.alike hK⟩⟩
theorem lc_RdV {As : List Value} {w : va_W} {tys : List (ClassId × FieldType)} {b ci q0 : Nat} {fs : List Value} {q : vw_C} (hP : va_P D vwCl w H) (hK : va_K D vwCl tys s) (he : w[q0]? = some (b, .inr (ci, fs))) (hc : vwCl[ci]? = some q) : PreV s H q.1 b (lc_Rd (.ref b :: As) D w tys) As := ⟨lc_Rd_blind, va_recv hK hP hc he, fun U hU hW => ⟨rfl, by rw [hU]; exact hP, va_K.moved hW.alike hK⟩⟩
/-- what a writing method asks -/
def lc_Wr (av : List Value) (D : va_G) (w : va_W) (tys : List (ClassId × FieldType)) (sz : Nat) : Array Value → State → Prop := va_Pc av (fun U => U.heap.size = sz ∧ va_P D vwCl w U.heap ∧ va_K D vwCl tys U ∧ va_D (fun _ => True) w)
theorem lc_Wr_blind {av : List Value} {w : va_W} {tys : List (ClassId × FieldType)} {sz : Nat} : FrameBlind (lc_Wr av D w tys sz) := fun a U g mk q => ⟨q.1, q.2.1, q.2.2.1, va_K.moved (u := U) (U := U.calling g mk a) (Vm.Alike.refl U.vm) q.2.2.2.1, q.2.2.2.2⟩
theorem lc_WrS {av : List Value} {w : va_W} {tys : List (ClassId × FieldType)} (hP : va_P D vwCl w H) (hK : va_K D vwCl tys s) (hD : va_D A0 w) : PreS s H (lc_Wr av D w tys H.size) av := ⟨lc_Wr_blind, fun U hU hW => ⟨rfl, by rw [hU], by rw [hU]; exact hP, va_K.moved hW.alike hK, hD.weaken (fun _ _ _ _ => trivial)⟩⟩
theorem lc_WrV {As : List Value} {w : va_W} {tys : List (ClassId × FieldType)} {b ci q0 : Nat} {fs : List Value} {q : vw_C} (hP : va_P D vwCl w H) (hK : va_K D vwCl tys s) (hD : va_D A0 w) (he : w[q0]? = some (b, .inr (ci, fs))) (hc : vwCl[ci]? = some q) : PreV s H q.1 b (lc_Wr (.ref b :: As) D w tys H.size) As := ⟨lc_Wr_blind, va_recv hK hP hc he, fun U hU hW => ⟨rfl, by rw [hU], by rw [hU]; exact hP, va_K.moved hW.alike hK, hD.weaken (fun _ _ _ _ => trivial)⟩⟩
/-- .. and what it leaves -/
def lc_QW {S : Type} (D : va_G) (A : Nat → Prop) (rv : S → Option Value) (w : S → va_W) (tys : S → List (ClassId × FieldType)) (post : S → Prop) : Array Value → State → Outcome → State → Prop := fun _ st o t => ∃ u : S, o = .returned (rv u) ∧ post u ∧ va_P D vwCl (w u) t.heap ∧ va_K D vwCl (tys u) t ∧ va_D A (w u) ∧ va_F A st t
theorem lc_callW {S : Type} {rv : S → Option Value} {w : S → va_W} {tys : S → List (ClassId × FieldType)} {post : S → Prop} (hr : va_Run p l e R s m args below meth c H locs cells slots mc ms (F0 m pc ls st0) rest (lc_QW D A1 rv w tys post a) A1) (hS : va_S A0 H0 H locs) (hA : ∀ q, A1 q → A0 q)
    (kk : ∀ (u : S) (H1 : Heap) (locs1 : List Loc), post u → va_P D vwCl (w u) H1 → va_K D vwCl (tys u) s → va_D A1 (w u) → H.size ≤ H1.size → (∀ q : Nat, q < H.size → ¬ A1 q → H1[q]? = H[q]?) → va_S A0 H0 H1 locs1 → W p l e R s m args below meth c H1 locs1 (cells + mc) (slots + ms) Q (F0 m (pc + 3) ls ((rv u).toList ++ rest))) : W p l e R s m args below meth c H locs cells slots Q (F0 m pc ls st0) := by
  intro T hT X
  obtain ⟨v, st₀, t, T', L, h0, X', hL, e1, e2, ⟨u, hv, hp, hP, hK, hD, hz, hk⟩, st⟩ := hr T hT X
  cases hv
  rw [h0] at hz hk
  obtain ⟨t2, a1, b1⟩ := kk u T'.heap (locs ++ L) hp (by rw [e1]; exact hP) (va_K.moved (by rw [← e2]; exact X'.warmed.alike.symm) hK) hD (by rw [e1]; exact hz) (fun q h1 h2 => by rw [e1]; exact hk q h1 h2)
    ⟨Nat.le_trans hS.1 (by rw [e1]; exact hz), fun q h1 h2 => by rw [e1, hk q (Nat.lt_of_lt_of_le h1 hS.1) (fun z => h2 (hA q z))]; exact hS.2.1 q h1 h2, fun q hq => by
      rcases List.mem_append.mp hq with h | h
      · exact hS.2.2 q h
      · exact hA _ (hL q h)⟩ T' rfl X'
  exact ⟨t2, st t2 a1, b1⟩
theorem lc_callR {r : Int32} (hr : CallRun p l e R s m args below meth c H locs cells slots 0 0 (F0 m pc ls st0) rest (QcRead r a) (fun _ => False)) (kk : W p l e R s m args below meth c H locs cells slots Q (F0 m (pc + 3) ls (.int r :: rest))) : W p l e R s m args below meth c H locs cells slots Q (F0 m pc ls st0) := W.callR hr kk
def lc_QV : Array Value → State → Outcome → State → Prop := fun _ st o t => o = .returned none ∧ t.heap = st.heap
theorem lc_callV (hr : CallRun p l e R s m args below meth c H locs cells slots 0 0 (F0 m pc ls st0) rest (lc_QV a) (fun _ => False)) (kk : W p l e R s m args below meth c H locs cells slots Q (F0 m (pc + 3) ls rest)) : W p l e R s m args below meth c H locs cells slots Q (F0 m pc ls st0) := by
  intro T hT X
  obtain ⟨v, st₀, t, T', L, h0, X', hL, e1, ⟨hv, hh⟩, st⟩ := hr T hT X
  cases hv
  obtain ⟨t2, a1, b1⟩ := kk T' (by rw [e1, hh, h0]) (Stand.forget X' (fun q h => (hL q h).elim))
  exact ⟨t2, st t2 a1, b1⟩
/-- the words of a throw that a table's warming leaves, but that are no good words -/
def lc_Nws : List Cond := [.castable "java/lang/IllegalArgumentException" "java/lang/IllegalArgumentException", .castable "java/lang/IllegalStateException" "java/lang/IllegalStateException", .castable "java/util/NoSuchElementException" "java/util/NoSuchElementException", .declares ⟨"java/lang/RuntimeException", "<init>", "()V"⟩, .declares ⟨"java/lang/Exception", "<init>", "()V"⟩, .declares ⟨"java/lang/Throwable", "<init>", "()V"⟩]
def lc_NW (U : State) : Prop := va_Nw (.castable "java/lang/IllegalArgumentException" "java/lang/IllegalArgumentException") U ∧ va_Nw (.castable "java/lang/IllegalStateException" "java/lang/IllegalStateException") U ∧ va_Nw (.castable "java/util/NoSuchElementException" "java/util/NoSuchElementException") U ∧ va_Nw (.declares ⟨"java/lang/RuntimeException", "<init>", "()V"⟩) U ∧ va_Nw (.declares ⟨"java/lang/Exception", "<init>", "()V"⟩) U ∧ va_Nw (.declares ⟨"java/lang/Throwable", "<init>", "()V"⟩) U ∧ va_Nc "java/lang/IllegalStateException" "java/lang/IllegalArgumentException" U
theorem lc_NW.warm {s U : State} (hW : s.WarmedH U.vm) (h : lc_NW s) : lc_NW U := ⟨h.1.warmC hW, h.2.1.warmC hW, h.2.2.1.warmC hW, h.2.2.2.1.warmD hW, h.2.2.2.2.1.warmD hW, h.2.2.2.2.2.1.warmD hW, h.2.2.2.2.2.2.moved hW.alike⟩
theorem lc_nws {s : State} {args : Array Value} (h : lc_NW s) : ∀ w ∈ lc_Nws, w.before args s = true := vx_c (h.1.use rfl) (vx_c (h.2.1.use rfl) (vx_c (h.2.2.1.use rfl) (vx_c (h.2.2.2.1.use rfl) (vx_c (h.2.2.2.2.1.use rfl) (vx_c (h.2.2.2.2.2.1.use rfl) vx_n)))))
/-- the two statics that a new exception is given, and those words -/
def lc_TZ (A : Nat → Prop) (U : State) (H : Heap) : Prop := vx_Zq Bundle.tN "UNASSIGNED_STACK" Bundle.steD A U H ∧ vx_Zq Bundle.tN "SUPPRESSED_SENTINEL" Bundle.listD A U H ∧ lc_NW U
theorem lc_TZ.moved {A : Nat → Prop} {u U : State} {H : Heap} (hW : u.WarmedH U.vm) (h : lc_TZ A u H) : lc_TZ A U H := ⟨h.1.moved hW.alike, h.2.1.moved hW.alike, h.2.2.warm hW⟩
theorem lc_TZ.kept {A : Nat → Prop} {U : State} {H H1 : Heap} (h : lc_TZ A U H) (hq : ∀ a : Nat, a < H.size → ¬ A a → H1[a]? = H[a]?) : lc_TZ A U H1 := ⟨h.1.kept hq, h.2.1.kept hq, h.2.2⟩
theorem lc_TZ.narrow {A B : Nat → Prop} {U : State} {H : Heap} (h : lc_TZ A U H) (hAB : ∀ q, B q → A q) : lc_TZ B U H := ⟨h.1.narrow hAB, h.2.1.narrow hAB, h.2.2⟩
/-- what a throwing method asks -/
def lc_Tx (av : List Value) (D : va_G) (w : va_W) (tys : List (ClassId × FieldType)) (A : Nat → Prop) : Array Value → State → Prop := va_Pc av (fun U => va_P D vwCl w U.heap ∧ va_K D vwCl tys U ∧ lc_TZ A U U.heap)
theorem lc_Tx_blind {av : List Value} {w : va_W} {tys : List (ClassId × FieldType)} {A : Nat → Prop} : FrameBlind (lc_Tx av D w tys A) := fun a U g mk q => ⟨q.1, q.2.1, va_K.moved (u := U) (U := U.calling g mk a) (Vm.Alike.refl U.vm) q.2.2.1, lc_TZ.moved (u := U) (U := U.calling g mk a) (State.WarmedH.refl U) q.2.2.2⟩
theorem lc_TxS {av : List Value} {w : va_W} {tys : List (ClassId × FieldType)} {A : Nat → Prop} (hP : va_P D vwCl w H) (hK : va_K D vwCl tys s) (hZ : lc_TZ A s H) : PreS s H (lc_Tx av D w tys A) av := ⟨lc_Tx_blind, fun U hU hW => ⟨rfl, by rw [hU]; exact hP, va_K.moved hW.alike hK, by rw [hU]; exact hZ.moved hW⟩⟩
theorem lc_TxV {As : List Value} {w : va_W} {tys : List (ClassId × FieldType)} {A : Nat → Prop} {b ci q0 : Nat} {fs : List Value} {q : vw_C} (hP : va_P D vwCl w H) (hK : va_K D vwCl tys s) (hZ : lc_TZ A s H) (he : w[q0]? = some (b, .inr (ci, fs))) (hc : vwCl[ci]? = some q) : PreV s H q.1 b (lc_Tx (.ref b :: As) D w tys A) As := ⟨lc_Tx_blind, va_recv hK hP hc he, fun U hU hW => ⟨rfl, by rw [hU]; exact hP, va_K.moved hW.alike hK, by rw [hU]; exact hZ.moved hW⟩⟩
/-- what a method asks that writes, and catches what it calls throws -/
def lc_WT (av : List Value) (D : va_G) (w : va_W) (tys : List (ClassId × FieldType)) (sz : Nat) : Array Value → State → Prop := va_Pc av (fun U => U.heap.size = sz ∧ va_P D vwCl w U.heap ∧ va_K D vwCl tys U ∧ va_D (fun _ => True) w ∧ lc_TZ (va_A w sz) U U.heap)
theorem lc_WT_blind {av : List Value} {w : va_W} {tys : List (ClassId × FieldType)} {sz : Nat} : FrameBlind (lc_WT av D w tys sz) := fun a U g mk q => ⟨q.1, q.2.1, q.2.2.1, va_K.moved (u := U) (U := U.calling g mk a) (Vm.Alike.refl U.vm) q.2.2.2.1, q.2.2.2.2.1, lc_TZ.moved (u := U) (U := U.calling g mk a) (State.WarmedH.refl U) q.2.2.2.2.2⟩
theorem lc_WTS {av : List Value} {w : va_W} {tys : List (ClassId × FieldType)} (hP : va_P D vwCl w H) (hK : va_K D vwCl tys s) (hD : va_D A0 w) (hZ : lc_TZ (va_A w H.size) s H) : PreS s H (lc_WT av D w tys H.size) av := ⟨lc_WT_blind, fun U hU hW => ⟨rfl, by rw [hU], by rw [hU]; exact hP, va_K.moved hW.alike hK, hD.weaken (fun _ _ _ _ => trivial), by rw [hU]; exact hZ.moved hW⟩⟩
theorem lc_WTV {As : List Value} {w : va_W} {tys : List (ClassId × FieldType)} {b ci q0 : Nat} {fs : List Value} {q : vw_C} (hP : va_P D vwCl w H) (hK : va_K D vwCl tys s) (hD : va_D A0 w) (hZ : lc_TZ (va_A w H.size) s H) (he : w[q0]? = some (b, .inr (ci, fs))) (hc : vwCl[ci]? = some q) : PreV s H q.1 b (lc_WT (.ref b :: As) D w tys H.size) As := ⟨lc_WT_blind, va_recv hK hP hc he, fun U hU hW => ⟨rfl, by rw [hU], by rw [hU]; exact hP, va_K.moved hW.alike hK, hD.weaken (fun _ _ _ _ => trivial), by rw [hU]; exact hZ.moved hW⟩⟩
/-- .. and how it leaves: E0 thrown, all that was there is there -/
def lc_X (E0 : String) : String → State → State → Prop := fun E st t => E = E0 ∧ va_F (fun _ => False) st t
def lc_N : Array Value → State → Outcome → State → Prop := fun _ _ _ _ => False
theorem lc_callX {E0 : String} (hr : vx_Run p l e R s m args below meth c H locs cells slots mc ms (F0 m pc ls st0) rest (lc_N a) (lc_X E0) (fun _ => False))
    (kx : ∀ (ce : Cell) (q9 : Addr) (H1 : Heap), H.size ≤ H1.size → (∀ q : Nat, q < H.size → H1[q]? = H[q]?) → H1[q9]? = some ce → ce.vm = .none → s.vm.findClass E0 = some ce.cls → vx_W p l e R s m args below meth c H1 locs (cells + mc) (slots + ms) Q (F0 m pc ls rest) q9) : W p l e R s m args below meth c H locs cells slots Q (F0 m pc ls st0) := by
  intro T hT X
  rcases hr T hT X with ⟨v, st₀, t, T', L, h0, X', hL, e1, e2, hF, st⟩ | ⟨q, st₀, t, T', L, E, ce, h0, X', hL, e1, e2, ⟨rfl, hz, hk⟩, hce, hcv, hcl, st⟩
  · exact hF.elim
  · rw [h0] at hz hk
    have hL0 : L = [] := List.eq_nil_iff_forall_not_mem.mpr (fun z h => hL z h)
    subst hL0
    rw [List.append_nil] at X'
    obtain ⟨t2, a1, b1⟩ := kx ce q T'.heap (by rw [e1]; exact hz) (fun q h1 => by rw [e1]; exact hk q h1 (fun z => z)) (by rw [e1]; exact hce) hcv hcl T' rfl X'
    exact ⟨t2, st.trans a1, b1⟩
/-- a method that answers r, and leaves all that was there -/
def lc_QB (r : Int32) : Array Value → State → Outcome → State → Prop := fun _ st o t => o = .returned (some (.int r)) ∧ va_F (fun _ => False) st t
theorem lc_callB {r : Int32} (hr : va_Run p l e R s m args below meth c H locs cells slots mc ms (F0 m pc ls st0) rest (lc_QB r a) (fun _ => False))
    (kk : ∀ H1 : Heap, H.size ≤ H1.size → (∀ q : Nat, q < H.size → H1[q]? = H[q]?) → W p l e R s m args below meth c H1 locs (cells + mc) (slots + ms) Q (F0 m (pc + 3) ls (.int r :: rest))) : W p l e R s m args below meth c H locs cells slots Q (F0 m pc ls st0) := by
  intro T hT X
  obtain ⟨v, st₀, t, T', L, h0, X', hL, e1, e2, ⟨hv, hz, hk⟩, st⟩ := hr T hT X
  cases hv
  rw [h0] at hz hk
  have hL0 : L = [] := List.eq_nil_iff_forall_not_mem.mpr (fun z h => hL z h)
  subst hL0
  rw [List.append_nil] at X'
  obtain ⟨t2, a1, b1⟩ := kk T'.heap (by rw [e1]; exact hz) (fun q h1 => by rw [e1]; exact hk q h1 (fun z => z)) T' rfl X'
  exact ⟨t2, st t2 a1, b1⟩
theorem lc_keptP {w : va_W} {H1 : Heap} (hP : va_P D vwCl w H) (hk : ∀ q : Nat, q < H.size → H1[q]? = H[q]?) : va_P D vwCl w H1 := hP.kept (fun k q h => hk q.1 ((hP k q h).lt))
theorem lc_keptS {H1 : Heap} (hS : va_S A0 H0 H locs) (hz : H.size ≤ H1.size) (hk : ∀ q : Nat, q < H.size → H1[q]? = H[q]?) : va_S A0 H0 H1 locs := ⟨Nat.le_trans hS.1 hz, fun q h1 h2 => (hk q (Nat.lt_of_lt_of_le h1 hS.1)).trans (hS.2.1 q h1 h2), hS.2.2⟩
end LcRows
