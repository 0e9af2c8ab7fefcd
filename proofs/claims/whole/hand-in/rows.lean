section
-- ===== PART A: goes FIRST, ahead of the names: the tables' words, and 'selects' of the private methods out of them =====
/-- a private method of a class that the tables say can be made, by its rows of tables_1 -/
def lw_okq (q : MethodName × Nat) : Prop := (q.1.cls ≠ "java/lang/invoke/MethodHandle" ∧ q.1.cls ≠ "java/lang/invoke/VarHandle") ∧ Cond.instantiable q.1.cls q.2 ∈ tables_1 ∧ Cond.privateMethod q.1 ∈ tables_1 ∧ Cond.instanceMethod q.1 ∈ tables_1
theorem lw_p0 : lw_okq (⟨"java/lang/Throwable", "fillInStackTrace", "(I)Ljava/lang/Throwable;"⟩, 6) := ⟨⟨by decide +kernel, by decide +kernel⟩, List.mem_of_getElem? (i := 91) (by decide +kernel), List.mem_of_getElem? (i := 89) (by decide +kernel), List.mem_of_getElem? (i := 90) (by decide +kernel)⟩
theorem lw_p1 : lw_okq (⟨"LineChunks", "makeRoomFor", "(I)V"⟩, 3) := ⟨⟨by decide +kernel, by decide +kernel⟩, List.mem_of_getElem? (i := 13) (by decide +kernel), List.mem_of_getElem? (i := 131) (by decide +kernel), List.mem_of_getElem? (i := 132) (by decide +kernel)⟩
theorem lw_p2 : lw_okq (⟨"LineChunks", "moveTail", "(II)V"⟩, 3) := ⟨⟨by decide +kernel, by decide +kernel⟩, List.mem_of_getElem? (i := 13) (by decide +kernel), List.mem_of_getElem? (i := 155) (by decide +kernel), List.mem_of_getElem? (i := 156) (by decide +kernel)⟩
theorem lw_p3 : lw_okq (⟨"LineChunks", "fill", "(IIII)V"⟩, 3) := ⟨⟨by decide +kernel, by decide +kernel⟩, List.mem_of_getElem? (i := 13) (by decide +kernel), List.mem_of_getElem? (i := 160) (by decide +kernel), List.mem_of_getElem? (i := 161) (by decide +kernel)⟩
theorem lw_p4 : lw_okq (⟨"LineChunks", "lineEndsIn", "(II)I"⟩, 3) := ⟨⟨by decide +kernel, by decide +kernel⟩, List.mem_of_getElem? (i := 13) (by decide +kernel), List.mem_of_getElem? (i := 164) (by decide +kernel), List.mem_of_getElem? (i := 165) (by decide +kernel)⟩
theorem lw_p5 : lw_okq (⟨"LineChunks", "indexBehindLineEnds", "(I)I"⟩, 3) := ⟨⟨by decide +kernel, by decide +kernel⟩, List.mem_of_getElem? (i := 13) (by decide +kernel), List.mem_of_getElem? (i := 205) (by decide +kernel), List.mem_of_getElem? (i := 206) (by decide +kernel)⟩
theorem lw_p6 : lw_okq (⟨"LineChunksModel", "insert0", "(IIII)I"⟩, 3) := ⟨⟨by decide +kernel, by decide +kernel⟩, List.mem_of_getElem? (i := 216) (by decide +kernel), List.mem_of_getElem? (i := 242) (by decide +kernel), List.mem_of_getElem? (i := 243) (by decide +kernel)⟩
theorem lw_p7 : lw_okq (⟨"LineChunksModel", "delete0", "(II)I"⟩, 3) := ⟨⟨by decide +kernel, by decide +kernel⟩, List.mem_of_getElem? (i := 216) (by decide +kernel), List.mem_of_getElem? (i := 255) (by decide +kernel), List.mem_of_getElem? (i := 256) (by decide +kernel)⟩
theorem lw_p8 : lw_okq (⟨"LineChunksModel", "get0", "(I)I"⟩, 3) := ⟨⟨by decide +kernel, by decide +kernel⟩, List.mem_of_getElem? (i := 216) (by decide +kernel), List.mem_of_getElem? (i := 264) (by decide +kernel), List.mem_of_getElem? (i := 265) (by decide +kernel)⟩
theorem lw_p9 : lw_okq (⟨"LineChunksModel", "length0", "()I"⟩, 3) := ⟨⟨by decide +kernel, by decide +kernel⟩, List.mem_of_getElem? (i := 216) (by decide +kernel), List.mem_of_getElem? (i := 273) (by decide +kernel), List.mem_of_getElem? (i := 274) (by decide +kernel)⟩
theorem lw_p10 : lw_okq (⟨"LineChunksModel", "lines0", "()I"⟩, 3) := ⟨⟨by decide +kernel, by decide +kernel⟩, List.mem_of_getElem? (i := 216) (by decide +kernel), List.mem_of_getElem? (i := 281) (by decide +kernel), List.mem_of_getElem? (i := 282) (by decide +kernel)⟩
theorem lw_p11 : lw_okq (⟨"LineChunksModel", "endsBefore", "(I)I"⟩, 3) := ⟨⟨by decide +kernel, by decide +kernel⟩, List.mem_of_getElem? (i := 216) (by decide +kernel), List.mem_of_getElem? (i := 285) (by decide +kernel), List.mem_of_getElem? (i := 286) (by decide +kernel)⟩
theorem lw_p12 : lw_okq (⟨"LineChunksModel", "line0", "(I)I"⟩, 3) := ⟨⟨by decide +kernel, by decide +kernel⟩, List.mem_of_getElem? (i := 216) (by decide +kernel), List.mem_of_getElem? (i := 293) (by decide +kernel), List.mem_of_getElem? (i := 294) (by decide +kernel)⟩
theorem lw_p13 : lw_okq (⟨"LineChunksModel", "lineOf0", "(I)I"⟩, 3) := ⟨⟨by decide +kernel, by decide +kernel⟩, List.mem_of_getElem? (i := 216) (by decide +kernel), List.mem_of_getElem? (i := 301) (by decide +kernel), List.mem_of_getElem? (i := 302) (by decide +kernel)⟩
theorem lw_p14 : lw_okq (⟨"LineChunksModel", "digest0", "()I"⟩, 3) := ⟨⟨by decide +kernel, by decide +kernel⟩, List.mem_of_getElem? (i := 216) (by decide +kernel), List.mem_of_getElem? (i := 309) (by decide +kernel), List.mem_of_getElem? (i := 310) (by decide +kernel)⟩
def lw_privs_1 : List (MethodName × Nat) := [(⟨"java/lang/Throwable", "fillInStackTrace", "(I)Ljava/lang/Throwable;"⟩, 6), (⟨"LineChunks", "makeRoomFor", "(I)V"⟩, 3), (⟨"LineChunks", "moveTail", "(II)V"⟩, 3), (⟨"LineChunks", "fill", "(IIII)V"⟩, 3), (⟨"LineChunks", "lineEndsIn", "(II)I"⟩, 3), (⟨"LineChunks", "indexBehindLineEnds", "(I)I"⟩, 3), (⟨"LineChunksModel", "insert0", "(IIII)I"⟩, 3), (⟨"LineChunksModel", "delete0", "(II)I"⟩, 3), (⟨"LineChunksModel", "get0", "(I)I"⟩, 3), (⟨"LineChunksModel", "length0", "()I"⟩, 3), (⟨"LineChunksModel", "lines0", "()I"⟩, 3), (⟨"LineChunksModel", "endsBefore", "(I)I"⟩, 3), (⟨"LineChunksModel", "line0", "(I)I"⟩, 3), (⟨"LineChunksModel", "lineOf0", "(I)I"⟩, 3), (⟨"LineChunksModel", "digest0", "()I"⟩, 3)]
theorem lw_r1 : ∀ q ∈ lw_privs_1, lw_okq q := List.forall_mem_cons.mpr ⟨lw_p0, List.forall_mem_cons.mpr ⟨lw_p1, List.forall_mem_cons.mpr ⟨lw_p2, List.forall_mem_cons.mpr ⟨lw_p3, List.forall_mem_cons.mpr ⟨lw_p4, List.forall_mem_cons.mpr ⟨lw_p5, List.forall_mem_cons.mpr ⟨lw_p6, List.forall_mem_cons.mpr ⟨lw_p7, List.forall_mem_cons.mpr ⟨lw_p8, List.forall_mem_cons.mpr ⟨lw_p9, List.forall_mem_cons.mpr ⟨lw_p10, List.forall_mem_cons.mpr ⟨lw_p11, List.forall_mem_cons.mpr ⟨lw_p12, List.forall_mem_cons.mpr ⟨lw_p13, List.forall_mem_cons.mpr ⟨lw_p14, fun _ h => absurd h List.not_mem_nil⟩⟩⟩⟩⟩⟩⟩⟩⟩⟩⟩⟩⟩⟩⟩
def lw_privs : List (MethodName × Nat) := lw_privs_1
def lw_tbl : List Cond := k2_sels lw_privs ++ tables_1
theorem lw_privs_ok : ∀ q ∈ lw_privs, lw_okq q := lw_r1
end
section
/-! ===== BEGIN words of one list among another's, by their places ===== -/
theorem goodIn_r {big : List Cond} (ws : List Cond) (ps : List Nat) (hp : ws = ps.filterMap (fun i => big[i]?)) (h : ws.all goodWord = true) : GoodIn big ws := by
  intro w hw
  have h1 := List.all_eq_true.mp h w hw
  rw [hp] at hw
  obtain ⟨i, -, hi⟩ := List.mem_filterMap.mp hw
  have hm : w ∈ big := by first | exact List.mem_of_getElem? hi | exact List.getElem?_mem hi
  exact ⟨hm, good_of_word h1⟩
theorem goodIn_app {big a b : List Cond} (ha : GoodIn big a) (hb : GoodIn big b) : GoodIn big (a ++ b) := fun w h => (List.mem_append.mp h).elim (ha w) (hb w)
theorem goodIn_ca {big a b : List Cond} {c : Cond} (ha : GoodIn big (c :: a)) (hb : GoodIn big b) : GoodIn big (c :: (a ++ b)) := fun w h => (List.mem_cons.mp h).elim (fun e => ha w (List.mem_cons.mpr (Or.inl e))) (fun h => (List.mem_append.mp h).elim (fun h => ha w (List.mem_cons.mpr (Or.inr h))) (hb w))
theorem goodIn_sub {big ws : List Cond} (hm : ∀ w ∈ ws, w ∈ big) (h : ws.all goodWord = true) : GoodIn big ws := fun w hw => ⟨hm w hw, good_of_word (List.all_eq_true.mp h w hw)⟩
/-! ===== END ===== -/

/-! ===== BEGIN exceptions that leave a method, and their catching by the caller (launches without stack traces) ===== -/
section VXA
/-! The laws vx_back, vx_callV, vx_callS, vx_callSW, vx_throw0, vx_throwS follow proofs of the library, with one case more: JvmDerived/Free/Laws.lean (Back.of_free), Shelf42/LK1.lean (callV, callS), Shelf/KitTraced.lean (throwNew0V, throwNewS). -/
/-- where a method has thrown q: the class by its name, the cell, what was written, the world -/
def vx_T (XC : String → State → State → Prop) (st : State) (q : Addr) (t : State) (mc ms : Nat) (free : Addr → Prop) : Prop :=
  ∃ (E : String) (ce : Cell) (L : List Loc), XC E st t ∧ t.heap[q]? = some ce ∧ ce.vm = .none ∧ st.vm.findClass E = some ce.cls ∧ st.WarmedH t.vm ∧ st.sameButNew ({ t with vm := st.vm } : State) L mc ms ∧ ∀ z ∈ L, free z.base
def vx_Q (Qc : Array Value → State → Outcome → State → Prop) (XC : String → State → State → Prop) (mc ms : Nat) (free : Addr → Prop) : Array Value → State → Outcome → State → Prop := fun a st o t =>
  (Qc a st o t ∧ ∃ L, FrameEnd st o t L mc ms ∧ ∀ q ∈ L, free q.base) ∨ ∃ q, o = .threw q ∧ vx_T XC st q t mc ms free
/-- a callee that returns or throws -/
def vx_Met (l : Launch) (y : MethodName) (ws : List Cond) (rm : Room) (Pc : Array Value → State → Prop) (Qc : Array Value → State → Outcome → State → Prop) (XC : String → State → State → Prop) (mc ms : Nat) (free : Addr → Prop) : Prop :=
  MetFree l y (headSpec ws rm) Pc (fun _ _ _ _ _ => True) (vx_Q Qc XC mc ms free)
def vx_Post (XC : String → State → State → Prop) (mc ms : Nat) (free : Addr → Prop) : Pt → Array Value → Addr → Pt → Prop := fun A a q B =>
  ∃ (g : JFrame) (mk : MethodId) (t : State) (L : List Loc) (E : String) (ce : Cell), B.U.heap = t.heap ∧ B.U.vm = t.vm ∧ XC E (A.U.calling g mk a) t ∧ t.heap[q]? = some ce ∧ ce.vm = .none ∧ A.U.vm.findClass E = some ce.cls ∧ B.locs = A.locs ++ L ∧ (∀ z ∈ L, free z.base) ∧ B.cells = A.cells + mc ∧ B.slots = A.slots + ms
def vx_Back (l : Launch) (R : Room) (p : Program) (e : Env) (below : List Frame) (s : State) (sargs : Array Value) (y : MethodName) (len W9 : Nat)
    (Pre : Pt → Array Value → Prop) (Post : Pt → Array Value → Option Value → Pt → Prop) (PostX : Pt → Array Value → Addr → Pt → Prop) : Prop :=
  ∀ (m : MethodId) (meth : Method) (c : Code) (A : Pt) (g : JFrame) (ig : Instr) (mk : MethodId) (a : Array Value),
    Stand p l e R s m sargs below meth c A.U A.locs A.cells A.slots → g.method = m → g.locals.size = c.maxLocals → decode c.code g.pc = .ok (ig, len) →
    2 * g.monitorRoom + (g.stack.map fun v => v.category).sum ≤ W9 → A.U.methodNamed? y = some mk → Pre A a →
    (∃ (v : Option Value) (B : Pt), Stand p l e R s m sargs below meth c B.U B.locs B.cells B.slots ∧ Post A a v B ∧
      Steps p.tables e below (doInvoke e (A.U.setTop g) [] mk a).1 (B.U.setTop { g with pc := g.pc + len, stack := v.toList ++ g.stack })) ∨
    (∃ (q : Addr) (B : Pt), Stand p l e R s m sargs below meth c B.U B.locs B.cells B.slots ∧ PostX A a q B ∧
      Steps p.tables e below (doInvoke e (A.U.setTop g) [] mk a).1 ((B.U.setTop g).pushFrame (.throwing q)))
section Payer
variable {l : Launch} {R : Room} {p : Program} {e : Env} {below : List Frame} {s : State} {sargs : Array Value} {y : MethodName} {len W9 : Nat}
theorem vx_back {ws : List Cond} {rm : Room} {Pc : Array Value → State → Prop} {Qc : Array Value → State → Outcome → State → Prop} {XC : String → State → State → Prop} {mc ms : Nat} {free : Addr → Prop} {bytes : ByteArray} {maxL : Nat} {ret : Option FieldType}
    (hM : vx_Met l y ws rm Pc Qc XC mc ms free) (hblind : FrameBlind Pc) (hrc : rm.cells = mc) (hrs : rm.slots = ms)
    (hframes : rm.frames + 1 ≤ R.frames) (hlocals : W9 + (maxL + 11) + rm.locals ≤ R.locals)
    (hws : ∀ w ∈ ws, ∀ a' U, s.WarmedH U.vm → w.before a' U = true) (hcode : Cond.code y bytes maxL ret ∈ ws) (hinit : ∀ a' U, s.WarmedH U.vm → (Cond.initialized y.cls).before a' U = true) :
    vx_Back l R p e below s sargs y len W9 (PreOf R mc ms Pc) (PostOf Qc mc ms free) (vx_Post XC mc ms free) := by
  intro m meth c A g ig mk a X hg hsize hdg hW hn hp
  have h1 : (headSpec ws rm).pre.before a A.U = true := atoms_intro fun w hw => hws w hw _ _ X.warmed
  have h2 : (Cond.code y bytes maxL ret).before a A.U = true := hws _ hcode _ _ X.warmed
  have h3 : (Cond.initialized y.cls).before a A.U = true := hinit _ _ X.warmed
  have h4 : A.cells + (headSpec ws rm).room.cells ≤ R.cells := by rw [show (headSpec ws rm).room.cells = mc from hrc]; exact hp.1
  have h5 : A.slots + (headSpec ws rm).room.slots ≤ R.slots := by rw [show (headSpec ws rm).room.slots = ms from hrs]; exact hp.2.1
  have hPc : Pc a (A.U.calling g mk a) := hblind _ _ _ _ hp.2.2
  obtain ⟨U, Ls, c0, s0⟩ := A
  dsimp only [Pt.U, Pt.locs, Pt.cells, Pt.slots] at h1 h2 h3 h4 h5 X hn hPc ⊢
  obtain ⟨methY, cY, hmY, hcY, -, hlY, -, -, -, -⟩ := Cond.code_spec hn h2
  obtain ⟨kY, hkY, -⟩ := className_of_methodNamed hn
  have hinitY : kY.init = .initialized := Cond.initialized_spec (findClass_of_methodNamed hn) hkY h3
  have h : At U g.method c below := by rw [hg]; exact X.here
  have hlocals9 : W9 + (maxL + 11) + (headSpec ws rm).room.locals ≤ R.locals := hlocals
  have happ : (headSpec ws rm).appliesLoose y e.platform (U.calling g mk a) = true :=
    Spec.appliesLoose_calling (g := g) h hdg hn hkY hinitY
      (X.room_calling (g := g) (R' := (headSpec ws rm).room) hsize hmY hcY hframes (by rw [hlY]; omega) h4 h5) h1
  obtain ⟨mid, hmid⟩ := h.above
  have hfr : (U.setTop g).frames = (.java g :: mid) ++ below := by rw [State.frames_setTop' g h.top, hmid]; rfl
  obtain ⟨o, s₂, hsteps, -, hend, hq⟩ := Steps.callFree hM p X.admits X.cas X.clock (acts := []) hfr happ hPc trivial
  have hq' : vx_Q Qc XC mc ms free a (U.calling g mk a) o s₂ := hq
  rw [State.frames_setTop' g h.top] at hend
  obtain ⟨g₀, hg0⟩ := Option.isSome_iff_exists.mp h.top
  obtain ⟨r, hr⟩ := State.topJava?_eq_some.mp hg0
  have hr' : (({ U with heap := s₂.heap, slotsUsed := s₂.slotsUsed } : State).setVm s₂.vm).frames = .java g₀ :: r := hr
  rcases hq' with ⟨hqc, L, hfe, hL⟩ | ⟨q, rfl, E, ce, L, hx, hce, hcv, hcl, hW₂, hsm, hL⟩
  · obtain ⟨⟨v, rfl⟩, hW₂, e2, q2, q3, q4, q5, q6⟩ := id hfe
    have e3 : s₂ = ({ (U.calling g mk a).setFrames s₂.frames with heap := s₂.heap, slotsUsed := s₂.slotsUsed } : State).setVm s₂.vm := by
      have : s₂ = ({ s₂ with vm := (U.calling g mk a).vm } : State).setVm s₂.vm := rfl
      rw [e2] at this
      exact this
    obtain ⟨c₂, i₂, len₂, hc₂, hd₂, hf₂⟩ := hend
    have hW' : U.WarmedH s₂.vm := hW₂
    have hcc : c₂ = c := by
      have h1 : s₂.code? g.method = U.code? g.method := by
        rw [State.code?_eq, State.code?_eq, hW'.alike.method?]
      exact Option.some.inj (hc₂.symm.trans (h1.trans h.code))
    subst hcc
    have hlen : len₂ = len := by rw [hdg] at hd₂; cases hd₂; rfl
    subst hlen
    have hs₂ : s₂ = (({ U with heap := s₂.heap, slotsUsed := s₂.slotsUsed } : State).setVm s₂.vm).setTop { g with pc := g.pc + len₂, stack := v.toList ++ g.stack } := by
      refine e3.trans ?_
      rw [hf₂, State.calling_eq h.top, State.setFrames_setFrames, State.setTop_of_frames _ hr', hr]
      rfl
    have hsame : U.sameButNew ({ U with heap := s₂.heap, slotsUsed := s₂.slotsUsed } : State) L mc ms := by
      refine ⟨?_, q2, q3, q4, q5, q6⟩
      obtain ⟨t, ht, -⟩ := State.frames_cons hr
      show ({ U with heap := s₂.heap, slotsUsed := s₂.slotsUsed } : State) = { U.setFrames U.frames with heap := s₂.heap, slotsUsed := s₂.slotsUsed }
      rw [State.setFrames_self ht]
    subst hg
    refine Or.inl ⟨v, ⟨(({ U with heap := s₂.heap, slotsUsed := s₂.slotsUsed } : State).setVm s₂.vm), Ls ++ L, c0 + mc, s0 + ms⟩,
      ⟨X.admits, X.cas, X.clock, X.frames, X.room, X.hears, X.method, X.code, (X.here.setHeapUsed s₂.heap s₂.slotsUsed).setVm hW'.alike, X.tail, State.WarmedH.trans X.warmed hW', X.limits, X.bytes, X.same.trans (hsame.setVm s.vm)⟩,
      ⟨g, mk, s₂, L, rfl, rfl, hqc, rfl, hL, rfl, rfl⟩, ?_⟩
    show Steps p.tables e below _ ((({ U with heap := s₂.heap, slotsUsed := s₂.slotsUsed } : State).setVm s₂.vm).setTop { g with pc := g.pc + len₂, stack := v.toList ++ g.stack })
    rw [← hs₂]
    exact hsteps
  · obtain ⟨e2, q2, q3, q4, q5, q6⟩ := id hsm
    have e3 : s₂ = ({ (U.calling g mk a).setFrames s₂.frames with heap := s₂.heap, slotsUsed := s₂.slotsUsed } : State).setVm s₂.vm := by
      have : s₂ = ({ s₂ with vm := (U.calling g mk a).vm } : State).setVm s₂.vm := rfl
      rw [e2] at this
      exact this
    have hf₂ : s₂.frames = .throwing q :: .java g :: U.frames.tail := hend
    have hW' : U.WarmedH s₂.vm := hW₂
    have hs₂ : s₂ = ((({ U with heap := s₂.heap, slotsUsed := s₂.slotsUsed } : State).setVm s₂.vm).setTop g).pushFrame (.throwing q) := by
      refine e3.trans ?_
      rw [hf₂, State.calling_eq h.top, State.setFrames_setFrames, State.pushFrame, State.frames_setTop _ hr', State.setTop_of_frames _ hr', State.setFrames_setFrames, hr]
      rfl
    have hsame : U.sameButNew ({ U with heap := s₂.heap, slotsUsed := s₂.slotsUsed } : State) L mc ms := by
      refine ⟨?_, q2, q3, q4, q5, q6⟩
      obtain ⟨t, ht, -⟩ := State.frames_cons hr
      show ({ U with heap := s₂.heap, slotsUsed := s₂.slotsUsed } : State) = { U.setFrames U.frames with heap := s₂.heap, slotsUsed := s₂.slotsUsed }
      rw [State.setFrames_self ht]
    subst hg
    refine Or.inr ⟨q, ⟨(({ U with heap := s₂.heap, slotsUsed := s₂.slotsUsed } : State).setVm s₂.vm), Ls ++ L, c0 + mc, s0 + ms⟩,
      ⟨X.admits, X.cas, X.clock, X.frames, X.room, X.hears, X.method, X.code, (X.here.setHeapUsed s₂.heap s₂.slotsUsed).setVm hW'.alike, X.tail, State.WarmedH.trans X.warmed hW', X.limits, X.bytes, X.same.trans (hsame.setVm s.vm)⟩,
      ⟨g, mk, s₂, L, E, ce, rfl, rfl, hx, hce, hcv, hcl, rfl, hL, rfl, rfl⟩, ?_⟩
    show Steps p.tables e below _ (((({ U with heap := s₂.heap, slotsUsed := s₂.slotsUsed } : State).setVm s₂.vm).setTop g).pushFrame (.throwing q))
    rw [← hs₂]
    exact hsteps
end Payer
section Calls
variable {p : Program} {l : Launch} {e : Env} {R : Room} {s : State} {m : MethodId} {args : Array Value} {below : List Frame} {meth : Method} {c : Code} {T : State} {locs : List Loc} {cells slots : Nat}
theorem vx_callV (X : Stand p l e R s m args below meth c T locs cells slots) (hexec : p.tables.exec = Jvm.exec) {own C : String} {index : Nat} {y : MethodName} {bytes : ByteArray} {maxL : Nat} {ret : Option FieldType}
    (hown : s.vm.findClass own = some m.cls) (hlink : (Cond.methodLink own index y).before args s = true) (hinst : (Cond.instanceMethod y).before args s = true) (hsel : (Cond.selects C y y).before args s = true)
    (hcode : (Cond.code y bytes maxL ret).before args s = true) (hy : y.cls ≠ "java/lang/invoke/MethodHandle" ∧ y.cls ≠ "java/lang/invoke/VarHandle")
    {W9 : Nat} {Pre : Pt → Array Value → Prop} {Post : Pt → Array Value → Option Value → Pt → Prop} {PostX : Pt → Array Value → Addr → Pt → Prop} (hK : vx_Back l R p e below s args y 3 W9 Pre Post PostX)
    {b : Addr} {cellB : Cell} (hcell : T.heap[b]? = some cellB) (hobj : cellB.vm.isStatics = false) (hcls : s.vm.findClass C = some cellB.cls)
    {g : JFrame} (hg : g.method = m) (hsize : g.locals.size = c.maxLocals) {argsL rest : List Value} (hlen : ∀ sig, parseMethodDescriptor y.desc = some sig → argsL.length = sig.parameters.length)
    (hstack : g.stack = argsL.reverse ++ .ref b :: rest) (hW : 2 * g.monitorRoom + (rest.map fun v => v.category).sum ≤ W9) (hdg : decode c.code g.pc = .ok (.invokevirtual index, 3))
    (hpre : ∀ vm₁, s.WarmedH vm₁ → Pre ⟨T.setVm vm₁, locs, cells, slots⟩ (Value.ref b :: argsL).toArray) :
    (∃ (v : Option Value) (vm₁ : Vm) (B : Pt), s.WarmedH vm₁ ∧ Stand p l e R s m args below meth c B.U B.locs B.cells B.slots ∧ Post ⟨T.setVm vm₁, locs, cells, slots⟩ (Value.ref b :: argsL).toArray v B ∧
      ∀ target, Steps p.tables e below (B.U.setTop { g with pc := g.pc + 3, stack := v.toList ++ rest }) target → Steps p.tables e below (T.setTop g) target) ∨
    (∃ (q : Addr) (vm₁ : Vm) (B : Pt), s.WarmedH vm₁ ∧ Stand p l e R s m args below meth c B.U B.locs B.cells B.slots ∧ PostX ⟨T.setVm vm₁, locs, cells, slots⟩ (Value.ref b :: argsL).toArray q B ∧
      Steps p.tables e below (T.setTop g) ((B.U.setTop { g with stack := rest }).pushFrame (.throwing q))) := by
  obtain ⟨mk, methM, hnamed, hmethM, hstM, habM⟩ := Cond.instanceMethod_spec hinst
  obtain ⟨methM', cM, hmethM', -, -, -, -, -, -, hsigM⟩ := Cond.code_spec hnamed hcode
  cases hmethM.symm.trans hmethM'
  obtain ⟨c2, r2, m2, q1, q2, q3, q4, kP, hkP, hkPi⟩ := Cond.selects_spec hsel
  cases hcls.symm.trans q1
  cases (State.methodFound?_of_named hnamed hy).symm.trans q2
  cases hnamed.symm.trans q3
  have hselP : selectMethod e.platform s.vm cellB.cls mk = .method mk := by rw [Launch.admits_selectMethod X.admits]; exact q4
  obtain ⟨vm₁, X₁, hstep₁⟩ := X.invokevirtual hexec hown hlink hnamed hmethM hstM hkP hkPi hy (a := b) (cell := cellB) hcell
    (fun z h => by rw [h] at hobj; cases hobj) hselP hmethM habM hkP hkPi (g := g) hg (argsL := argsL) (rest := rest) (hlen _ hsigM) hstack hdg
  rcases hK m meth c ⟨T.setVm vm₁, locs, cells, slots⟩ { g with stack := rest } (.invokevirtual index) mk (Value.ref b :: argsL).toArray X₁ hg hsize hdg hW (X₁.named hnamed) (hpre vm₁ X₁.warmed) with ⟨v, B, X', hpost, hsteps⟩ | ⟨q, B, X', hpost, hsteps⟩
  · exact Or.inl ⟨v, vm₁, B, X₁.warmed, X', hpost, fun target h => hstep₁ _ fun acts => by rw [doInvoke_state]; exact hsteps.trans h⟩
  · exact Or.inr ⟨q, vm₁, B, X₁.warmed, X', hpost, hstep₁ _ fun acts => by rw [doInvoke_state]; exact hsteps⟩
theorem vx_callS (X : Stand p l e R s m args below meth c T locs cells slots) (hexec : p.tables.exec = Jvm.exec) {own : String} {index : Nat} {y : MethodName} {bytes : ByteArray} {maxL : Nat} {ret : Option FieldType}
    (hown : s.vm.findClass own = some m.cls) (hlink : (Cond.methodLink own index y).before args s = true) (hstat : (Cond.static y).before args s = true) (hinit : (Cond.initialized y.cls).before args s = true)
    (hcode : (Cond.code y bytes maxL ret).before args s = true) (hy : y.cls ≠ "java/lang/invoke/MethodHandle" ∧ y.cls ≠ "java/lang/invoke/VarHandle")
    {W9 : Nat} {Pre : Pt → Array Value → Prop} {Post : Pt → Array Value → Option Value → Pt → Prop} {PostX : Pt → Array Value → Addr → Pt → Prop} (hK : vx_Back l R p e below s args y 3 W9 Pre Post PostX)
    {g : JFrame} (hg : g.method = m) (hsize : g.locals.size = c.maxLocals) {argsL rest : List Value} (hlen : ∀ sig, parseMethodDescriptor y.desc = some sig → argsL.length = sig.parameters.length)
    (hstack : g.stack = argsL.reverse ++ rest) (hW : 2 * g.monitorRoom + (rest.map fun v => v.category).sum ≤ W9) (hdg : decode c.code g.pc = .ok (.invokestatic index, 3))
    (hpre : ∀ vm₁, s.WarmedH vm₁ → Pre ⟨T.setVm vm₁, locs, cells, slots⟩ argsL.toArray) :
    (∃ (v : Option Value) (vm₁ : Vm) (B : Pt), s.WarmedH vm₁ ∧ Stand p l e R s m args below meth c B.U B.locs B.cells B.slots ∧ Post ⟨T.setVm vm₁, locs, cells, slots⟩ argsL.toArray v B ∧
      ∀ target, Steps p.tables e below (B.U.setTop { g with pc := g.pc + 3, stack := v.toList ++ rest }) target → Steps p.tables e below (T.setTop g) target) ∨
    (∃ (q : Addr) (vm₁ : Vm) (B : Pt), s.WarmedH vm₁ ∧ Stand p l e R s m args below meth c B.U B.locs B.cells B.slots ∧ PostX ⟨T.setVm vm₁, locs, cells, slots⟩ argsL.toArray q B ∧
      Steps p.tables e below (T.setTop g) ((B.U.setTop { g with stack := rest }).pushFrame (.throwing q))) := by
  obtain ⟨mk, hnamed⟩ := Cond.code_named hcode
  obtain ⟨methM, cM, hmethM, -, -, -, -, -, -, hsigM⟩ := Cond.code_spec hnamed hcode
  have hstatic : methM.isStatic = true := Cond.static_spec hnamed hmethM hstat
  obtain ⟨kP, hkP, -⟩ := className_of_methodNamed hnamed
  have hinitP : kP.init = .initialized := Cond.initialized_spec (findClass_of_methodNamed hnamed) hkP hinit
  obtain ⟨vm₁, X₁, hstep₁⟩ := X.invokestatic hexec hown hlink hnamed hmethM hstatic hkP hinitP hy (g := g) hg (argsL := argsL) (rest := rest) (hlen _ hsigM) hstack hdg
  rcases hK m meth c ⟨T.setVm vm₁, locs, cells, slots⟩ { g with stack := rest } (.invokestatic index) mk argsL.toArray X₁ hg hsize hdg hW (X₁.named hnamed) (hpre vm₁ X₁.warmed) with ⟨v, B, X', hpost, hsteps⟩ | ⟨q, B, X', hpost, hsteps⟩
  · exact Or.inl ⟨v, vm₁, B, X₁.warmed, X', hpost, fun target h => hstep₁ _ fun acts => by rw [doInvoke_state]; exact hsteps.trans h⟩
  · exact Or.inr ⟨q, vm₁, B, X₁.warmed, X', hpost, hstep₁ _ fun acts => by rw [doInvoke_state]; exact hsteps⟩
end Calls
theorem vx_cls {s : State} {T : State} {vm₁ : Vm} {E : String} {k : ClassId} (hW : s.WarmedH vm₁) (h : (T.setVm vm₁).vm.findClass E = some k) : s.vm.findClass E = some k := by
  have h1 : vm₁.findClass E = some k := h
  rw [hW.alike.findClass] at h1
  exact h1
/-- the method's frame g, with q thrown over it -/
def vx_W (p : Program) (l : Launch) (e : Env) (R : Room) (s : State) (m : MethodId) (args : Array Value) (below : List Frame) (meth : Method) (c : Code) (H : Heap) (locs : List Loc) (cells slots : Nat) (Q : State → Prop) (g : JFrame) (q : Addr) : Prop :=
  ∀ T : State, T.heap = H → Stand p l e R s m args below meth c T locs cells slots → ∃ t, Steps p.tables e below ((T.setTop g).pushFrame (.throwing q)) t ∧ Q t
def vx_Run (p : Program) (l : Launch) (e : Env) (R : Room) (s : State) (m : MethodId) (args : Array Value) (below : List Frame) (meth : Method) (c : Code) (H : Heap) (locs : List Loc) (cells slots mc ms : Nat) (g : JFrame) (rest : List Value) (Qa : State → Outcome → State → Prop) (XC : String → State → State → Prop) (free : Addr → Prop) : Prop :=
  ∀ T : State, T.heap = H → Stand p l e R s m args below meth c T locs cells slots →
    (∃ (v : Option Value) (st₀ t T' : State) (L : List Loc), st₀.heap = H ∧ Stand p l e R s m args below meth c T' (locs ++ L) (cells + mc) (slots + ms) ∧ (∀ q ∈ L, free q.base) ∧ T'.heap = t.heap ∧ T'.vm = t.vm ∧ Qa st₀ (.returned v) t ∧
      Goes p e below T g T' { g with pc := g.pc + 3, stack := v.toList ++ rest }) ∨
    (∃ (q : Addr) (st₀ t T' : State) (L : List Loc) (E : String) (ce : Cell), st₀.heap = H ∧ Stand p l e R s m args below meth c T' (locs ++ L) (cells + mc) (slots + ms) ∧ (∀ z ∈ L, free z.base) ∧ T'.heap = t.heap ∧ T'.vm = t.vm ∧ XC E st₀ t ∧ t.heap[q]? = some ce ∧ ce.vm = .none ∧ s.vm.findClass E = some ce.cls ∧
      Steps p.tables e below (T.setTop g) ((T'.setTop { g with stack := rest }).pushFrame (.throwing q)))
def vx_X {S : Type} (px : S → Prop) (B : String → S → State → Prop) (A : Nat → Prop) : String → State → State → Prop := fun E st t => ∃ u : S, px u ∧ B E u t ∧ va_F A st t
section Runs
variable {p : Program} {l : Launch} {e : Env} {R : Room} {s : State} {m : MethodId} {args : Array Value} {below : List Frame} {meth : Method} {c : Code} {H : Heap} {locs : List Loc} {cells slots : Nat}
variable {y : MethodName} {bytes cc : ByteArray} {maxL nL mc ms n index : Nat} {ret : Option FieldType} {ws : List Cond} {rm : Room} {Pc : Array Value → State → Prop} {Qc : Array Value → State → Outcome → State → Prop} {XC : String → State → State → Prop} {free : Addr → Prop} {Ts : List Cond} {own C : String} {b : Addr} {As rest : List Value} {g : JFrame}
theorem vx_callBack (cb : CallB R s args own index y bytes maxL ret ws rm mc ms n) (hM : vx_Met l y ws rm Pc Qc XC mc ms free) (hbl : FrameBlind Pc) : vx_Back l R p e below s args y 3 8 (PreOf R mc ms Pc) (PostOf Qc mc ms free) (vx_Post XC mc ms free) := by
  obtain ⟨hrc, hrs, hfr, hlo, hws, hcw, -, hini, -⟩ := cb
  exact vx_back (bytes := bytes) (maxL := maxL) (ret := ret) hM hbl hrc hrs hfr hlo hws hcw (fun a' U hW => word_at hW (Or.inl (by first | rfl | simp [Cond.onTables, Cond.keeps, Cond.steady])) hini)
theorem vx_runV (S : CallFix p m c cc nL s args Ts own) (hM : vx_Met l y ws rm Pc Qc XC mc ms free) (cw : CallW R s args own C index y bytes maxL ret ws rm mc ms n) (hp : PreV s H C b Pc As)
    (hg : g.method = m) (hn : As.length = n) (hsize : g.locals.size = nL) (hstack : g.stack = As.reverse ++ .ref b :: rest) (hW : 2 * g.monitorRoom + (rest.map fun v => v.category).sum ≤ 8) (hdg : decode cc g.pc = .ok (.invokevirtual index, 3)) (hf : cells + mc ≤ R.cells ∧ slots + ms ≤ R.slots) :
    vx_Run p l e R s m args below meth c H locs cells slots mc ms g rest (Qc (Value.ref b :: As).toArray) XC free := by
  have hK : vx_Back l R p e below s args y 3 8 (PreOf R mc ms Pc) (PostOf Qc mc ms free) (vx_Post XC mc ms free) := vx_callBack cw.1 hM hp.1
  obtain ⟨⟨-, -, -, -, -, -, hcode, -, hy, hlen, hl⟩, hin, hse⟩ := cw
  obtain ⟨hx, hb, hml, ho, -⟩ := S
  obtain ⟨-, ⟨cellB, hcB, hoB, hclB⟩, hPc⟩ := hp
  intro T hT X
  rcases vx_callV X hx (C := C) (bytes := bytes) (maxL := maxL) (ret := ret) ho hl hin hse hcode hy hK (by rw [hT]; exact hcB) hoB hclB hg (hsize.trans hml.symm) (argsL := As) (rest := rest) (fun sig h => hn.trans (hlen sig h)) hstack hW (by rw [hb]; exact hdg)
    (fun vm₁ hW₁ => ⟨hf.1, hf.2, hPc (T.setVm vm₁) hT hW₁⟩) with ⟨v, vm₁, ⟨U', l2, c2, s2⟩, hW₁, X', ⟨g', mk, t, L, e1, e2, hq, h1, hL, h2, h3⟩, st⟩ | ⟨q, vm₁, ⟨U', l2, c2, s2⟩, hW₁, X', ⟨g', mk, t, L, E, ce, e1, e2, hq, hce, hcv, hcl, h1, hL, h2, h3⟩, st⟩
  · dsimp only [Pt.U, Pt.locs, Pt.cells, Pt.slots] at X' e1 e2 h1 h2 h3 st
    subst h1; subst h2; subst h3
    exact Or.inl ⟨v, (T.setVm vm₁).calling g' mk (Value.ref b :: As).toArray, t, U', L, hT, X', hL, e1, e2, hq, st⟩
  · dsimp only [Pt.U, Pt.locs, Pt.cells, Pt.slots] at X' e1 e2 h1 h2 h3 st hcl
    subst h1; subst h2; subst h3
    exact Or.inr ⟨q, (T.setVm vm₁).calling g' mk (Value.ref b :: As).toArray, t, U', L, E, ce, hT, X', hL, e1, e2, hq, hce, hcv, vx_cls hW₁ hcl, st⟩
theorem vx_runS (S : CallFix p m c cc nL s args Ts own) (hM : vx_Met l y ws rm Pc Qc XC mc ms free) (cw : CallB R s args own index y bytes maxL ret ws rm mc ms n ∧ (Cond.static y).before args s = true) (hp : PreS s H Pc As)
    (hg : g.method = m) (hn : As.length = n) (hsize : g.locals.size = nL) (hstack : g.stack = As.reverse ++ rest) (hW : 2 * g.monitorRoom + (rest.map fun v => v.category).sum ≤ 8) (hdg : decode cc g.pc = .ok (.invokestatic index, 3)) (hf : cells + mc ≤ R.cells ∧ slots + ms ≤ R.slots) :
    vx_Run p l e R s m args below meth c H locs cells slots mc ms g rest (Qc As.toArray) XC free := by
  have hK : vx_Back l R p e below s args y 3 8 (PreOf R mc ms Pc) (PostOf Qc mc ms free) (vx_Post XC mc ms free) := vx_callBack cw.1 hM hp.1
  obtain ⟨⟨-, -, -, -, -, -, hcode, hini, hy, hlen, hl⟩, hstt⟩ := cw
  obtain ⟨hx, hb, hml, ho, -⟩ := S
  intro T hT X
  rcases vx_callS X hx (bytes := bytes) (maxL := maxL) (ret := ret) ho hl hstt hini hcode hy hK hg (hsize.trans hml.symm) (argsL := As) (rest := rest) (fun sig h => hn.trans (hlen sig h)) hstack hW (by rw [hb]; exact hdg)
    (fun vm₁ hW₁ => ⟨hf.1, hf.2, hp.2 (T.setVm vm₁) hT hW₁⟩) with ⟨v, vm₁, ⟨U', l2, c2, s2⟩, hW₁, X', ⟨g', mk, t, L, e1, e2, hq, h1, hL, h2, h3⟩, st⟩ | ⟨q, vm₁, ⟨U', l2, c2, s2⟩, hW₁, X', ⟨g', mk, t, L, E, ce, e1, e2, hq, hce, hcv, hcl, h1, hL, h2, h3⟩, st⟩
  · dsimp only [Pt.U, Pt.locs, Pt.cells, Pt.slots] at X' e1 e2 h1 h2 h3 st
    subst h1; subst h2; subst h3
    exact Or.inl ⟨v, (T.setVm vm₁).calling g' mk As.toArray, t, U', L, hT, X', hL, e1, e2, hq, st⟩
  · dsimp only [Pt.U, Pt.locs, Pt.cells, Pt.slots] at X' e1 e2 h1 h2 h3 st hcl
    subst h1; subst h2; subst h3
    exact Or.inr ⟨q, (T.setVm vm₁).calling g' mk As.toArray, t, U', L, E, ce, hT, X', hL, e1, e2, hq, hce, hcv, vx_cls hW₁ hcl, st⟩
end Runs
section Rows
variable {p : Program} {l : Launch} {e : Env} {R : Room} {s : State} {m : MethodId} {args : Array Value} {below : List Frame} {meth : Method} {c : Code} {H : Heap} {locs : List Loc} {cells slots : Nat} {Q : State → Prop}
variable {mc ms : Nat} {free : Addr → Prop} {A0 A1 : Nat → Prop} {H0 : Heap} {a : Array Value} {pc : Nat} {ls : Array Slot} {st0 rest : List Value}
theorem vx_keep {st₀ t T' : State} {L : List Loc} (h0 : st₀.heap = H) (e1 : T'.heap = t.heap) (hS : va_S A0 H0 H locs) (hA : ∀ q, q < H.size → A1 q → A0 q) (hf : ∀ q, free q → A0 q) (hL : ∀ q ∈ L, free q.base) (hF : va_F A1 st₀ t) :
    H.size ≤ T'.heap.size ∧ (∀ q : Nat, q < H.size → ¬ A1 q → T'.heap[q]? = H[q]?) ∧ va_S A0 H0 T'.heap (locs ++ L) := by
  obtain ⟨hz, hk⟩ := hF
  rw [h0] at hz hk
  exact ⟨by rw [e1]; exact hz, fun q h1 h2 => by rw [e1]; exact hk q h1 h2,
    ⟨Nat.le_trans hS.1 (by rw [e1]; exact hz), fun q h1 h2 => by rw [e1, hk q (Nat.lt_of_lt_of_le h1 hS.1) (fun z => h2 (hA q (Nat.lt_of_lt_of_le h1 hS.1) z))]; exact hS.2.1 q h1 h2, fun q hq => by
      rcases List.mem_append.mp hq with h | h
      · exact hS.2.2 q h
      · exact hf _ (hL q h)⟩⟩
theorem vx_calli {S SX : Type} {post : Int32 → S → Prop} {px : SX → Prop} {B : S → State → Prop} {BX : String → SX → State → Prop} {AX : Nat → Prop} (hr : vx_Run p l e R s m args below meth c H locs cells slots mc ms (F0 m pc ls st0) rest (va_Qi post B A1 a) (vx_X px BX AX) free) (hS : va_S A0 H0 H locs) (hA : ∀ q, q < H.size → A1 q → A0 q) (hf : ∀ q, free q → A0 q) (hAX : ∀ q, q < H.size → AX q → A0 q)
    (kx : ∀ (E : String) (ce : Cell) (q9 : Addr) (u : SX) (t : State) (H1 : Heap) (locs1 : List Loc), t.heap = H1 → s.vm.Alike t.vm → px u → BX E u t → H.size ≤ H1.size → (∀ q : Nat, q < H.size → ¬ AX q → H1[q]? = H[q]?) → va_S A0 H0 H1 locs1 → H1[q9]? = some ce → ce.vm = .none → s.vm.findClass E = some ce.cls → vx_W p l e R s m args below meth c H1 locs1 (cells + mc) (slots + ms) Q (F0 m pc ls rest) q9)
    (kk : ∀ (r : Int32) (u : S) (t : State) (H1 : Heap) (locs1 : List Loc), t.heap = H1 → s.vm.Alike t.vm → post r u → B u t → H.size ≤ H1.size → (∀ q : Nat, q < H.size → ¬ A1 q → H1[q]? = H[q]?) → va_S A0 H0 H1 locs1 → W p l e R s m args below meth c H1 locs1 (cells + mc) (slots + ms) Q (F0 m (pc + 3) ls (.int r :: rest))) : W p l e R s m args below meth c H locs cells slots Q (F0 m pc ls st0) := by
  intro T hT X
  rcases hr T hT X with ⟨v, st₀, t, T', L, h0, X', hL, e1, e2, ⟨⟨r, u, hv, hp, hb⟩, hF⟩, st⟩ | ⟨q, st₀, t, T', L, E, ce, h0, X', hL, e1, e2, ⟨u, hp, hb, hF⟩, hce, hcv, hcl, st⟩
  · cases hv
    obtain ⟨k1, k2, k3⟩ := vx_keep h0 e1 hS hA hf hL hF
    obtain ⟨t2, a1, b1⟩ := kk r u t T'.heap (locs ++ L) e1.symm (by rw [← e2]; exact X'.warmed.alike) hp hb k1 k2 k3 T' rfl X'
    exact ⟨t2, st t2 a1, b1⟩
  · obtain ⟨k1, k2, k3⟩ := vx_keep h0 e1 hS hAX hf hL hF
    obtain ⟨t2, a1, b1⟩ := kx E ce q u t T'.heap (locs ++ L) e1.symm (by rw [← e2]; exact X'.warmed.alike) hp hb k1 k2 k3 (by rw [e1]; exact hce) hcv hcl T' rfl X'
    exact ⟨t2, st.trans a1, b1⟩
theorem vx_calll {S SX : Type} {post : Int64 → S → Prop} {px : SX → Prop} {B : S → State → Prop} {BX : String → SX → State → Prop} {AX : Nat → Prop} (hr : vx_Run p l e R s m args below meth c H locs cells slots mc ms (F0 m pc ls st0) rest (va_Ql post B A1 a) (vx_X px BX AX) free) (hS : va_S A0 H0 H locs) (hA : ∀ q, q < H.size → A1 q → A0 q) (hf : ∀ q, free q → A0 q) (hAX : ∀ q, q < H.size → AX q → A0 q)
    (kx : ∀ (E : String) (ce : Cell) (q9 : Addr) (u : SX) (t : State) (H1 : Heap) (locs1 : List Loc), t.heap = H1 → s.vm.Alike t.vm → px u → BX E u t → H.size ≤ H1.size → (∀ q : Nat, q < H.size → ¬ AX q → H1[q]? = H[q]?) → va_S A0 H0 H1 locs1 → H1[q9]? = some ce → ce.vm = .none → s.vm.findClass E = some ce.cls → vx_W p l e R s m args below meth c H1 locs1 (cells + mc) (slots + ms) Q (F0 m pc ls rest) q9)
    (kk : ∀ (r : Int64) (u : S) (t : State) (H1 : Heap) (locs1 : List Loc), t.heap = H1 → s.vm.Alike t.vm → post r u → B u t → H.size ≤ H1.size → (∀ q : Nat, q < H.size → ¬ A1 q → H1[q]? = H[q]?) → va_S A0 H0 H1 locs1 → W p l e R s m args below meth c H1 locs1 (cells + mc) (slots + ms) Q (F0 m (pc + 3) ls (.long r :: rest))) : W p l e R s m args below meth c H locs cells slots Q (F0 m pc ls st0) := by
  intro T hT X
  rcases hr T hT X with ⟨v, st₀, t, T', L, h0, X', hL, e1, e2, ⟨⟨r, u, hv, hp, hb⟩, hF⟩, st⟩ | ⟨q, st₀, t, T', L, E, ce, h0, X', hL, e1, e2, ⟨u, hp, hb, hF⟩, hce, hcv, hcl, st⟩
  · cases hv
    obtain ⟨k1, k2, k3⟩ := vx_keep h0 e1 hS hA hf hL hF
    obtain ⟨t2, a1, b1⟩ := kk r u t T'.heap (locs ++ L) e1.symm (by rw [← e2]; exact X'.warmed.alike) hp hb k1 k2 k3 T' rfl X'
    exact ⟨t2, st t2 a1, b1⟩
  · obtain ⟨k1, k2, k3⟩ := vx_keep h0 e1 hS hAX hf hL hF
    obtain ⟨t2, a1, b1⟩ := kx E ce q u t T'.heap (locs ++ L) e1.symm (by rw [← e2]; exact X'.warmed.alike) hp hb k1 k2 k3 (by rw [e1]; exact hce) hcv hcl T' rfl X'
    exact ⟨t2, st.trans a1, b1⟩
theorem vx_callf {S SX : Type} {post : UInt32 → S → Prop} {px : SX → Prop} {B : S → State → Prop} {BX : String → SX → State → Prop} {AX : Nat → Prop} (hr : vx_Run p l e R s m args below meth c H locs cells slots mc ms (F0 m pc ls st0) rest (va_Qf post B A1 a) (vx_X px BX AX) free) (hS : va_S A0 H0 H locs) (hA : ∀ q, q < H.size → A1 q → A0 q) (hf : ∀ q, free q → A0 q) (hAX : ∀ q, q < H.size → AX q → A0 q)
    (kx : ∀ (E : String) (ce : Cell) (q9 : Addr) (u : SX) (t : State) (H1 : Heap) (locs1 : List Loc), t.heap = H1 → s.vm.Alike t.vm → px u → BX E u t → H.size ≤ H1.size → (∀ q : Nat, q < H.size → ¬ AX q → H1[q]? = H[q]?) → va_S A0 H0 H1 locs1 → H1[q9]? = some ce → ce.vm = .none → s.vm.findClass E = some ce.cls → vx_W p l e R s m args below meth c H1 locs1 (cells + mc) (slots + ms) Q (F0 m pc ls rest) q9)
    (kk : ∀ (r : UInt32) (u : S) (t : State) (H1 : Heap) (locs1 : List Loc), t.heap = H1 → s.vm.Alike t.vm → post r u → B u t → H.size ≤ H1.size → (∀ q : Nat, q < H.size → ¬ A1 q → H1[q]? = H[q]?) → va_S A0 H0 H1 locs1 → W p l e R s m args below meth c H1 locs1 (cells + mc) (slots + ms) Q (F0 m (pc + 3) ls (.float r :: rest))) : W p l e R s m args below meth c H locs cells slots Q (F0 m pc ls st0) := by
  intro T hT X
  rcases hr T hT X with ⟨v, st₀, t, T', L, h0, X', hL, e1, e2, ⟨⟨r, u, hv, hp, hb⟩, hF⟩, st⟩ | ⟨q, st₀, t, T', L, E, ce, h0, X', hL, e1, e2, ⟨u, hp, hb, hF⟩, hce, hcv, hcl, st⟩
  · cases hv
    obtain ⟨k1, k2, k3⟩ := vx_keep h0 e1 hS hA hf hL hF
    obtain ⟨t2, a1, b1⟩ := kk r u t T'.heap (locs ++ L) e1.symm (by rw [← e2]; exact X'.warmed.alike) hp hb k1 k2 k3 T' rfl X'
    exact ⟨t2, st t2 a1, b1⟩
  · obtain ⟨k1, k2, k3⟩ := vx_keep h0 e1 hS hAX hf hL hF
    obtain ⟨t2, a1, b1⟩ := kx E ce q u t T'.heap (locs ++ L) e1.symm (by rw [← e2]; exact X'.warmed.alike) hp hb k1 k2 k3 (by rw [e1]; exact hce) hcv hcl T' rfl X'
    exact ⟨t2, st.trans a1, b1⟩
theorem vx_calld {S SX : Type} {post : UInt64 → S → Prop} {px : SX → Prop} {B : S → State → Prop} {BX : String → SX → State → Prop} {AX : Nat → Prop} (hr : vx_Run p l e R s m args below meth c H locs cells slots mc ms (F0 m pc ls st0) rest (va_Qd post B A1 a) (vx_X px BX AX) free) (hS : va_S A0 H0 H locs) (hA : ∀ q, q < H.size → A1 q → A0 q) (hf : ∀ q, free q → A0 q) (hAX : ∀ q, q < H.size → AX q → A0 q)
    (kx : ∀ (E : String) (ce : Cell) (q9 : Addr) (u : SX) (t : State) (H1 : Heap) (locs1 : List Loc), t.heap = H1 → s.vm.Alike t.vm → px u → BX E u t → H.size ≤ H1.size → (∀ q : Nat, q < H.size → ¬ AX q → H1[q]? = H[q]?) → va_S A0 H0 H1 locs1 → H1[q9]? = some ce → ce.vm = .none → s.vm.findClass E = some ce.cls → vx_W p l e R s m args below meth c H1 locs1 (cells + mc) (slots + ms) Q (F0 m pc ls rest) q9)
    (kk : ∀ (r : UInt64) (u : S) (t : State) (H1 : Heap) (locs1 : List Loc), t.heap = H1 → s.vm.Alike t.vm → post r u → B u t → H.size ≤ H1.size → (∀ q : Nat, q < H.size → ¬ A1 q → H1[q]? = H[q]?) → va_S A0 H0 H1 locs1 → W p l e R s m args below meth c H1 locs1 (cells + mc) (slots + ms) Q (F0 m (pc + 3) ls (.double r :: rest))) : W p l e R s m args below meth c H locs cells slots Q (F0 m pc ls st0) := by
  intro T hT X
  rcases hr T hT X with ⟨v, st₀, t, T', L, h0, X', hL, e1, e2, ⟨⟨r, u, hv, hp, hb⟩, hF⟩, st⟩ | ⟨q, st₀, t, T', L, E, ce, h0, X', hL, e1, e2, ⟨u, hp, hb, hF⟩, hce, hcv, hcl, st⟩
  · cases hv
    obtain ⟨k1, k2, k3⟩ := vx_keep h0 e1 hS hA hf hL hF
    obtain ⟨t2, a1, b1⟩ := kk r u t T'.heap (locs ++ L) e1.symm (by rw [← e2]; exact X'.warmed.alike) hp hb k1 k2 k3 T' rfl X'
    exact ⟨t2, st t2 a1, b1⟩
  · obtain ⟨k1, k2, k3⟩ := vx_keep h0 e1 hS hAX hf hL hF
    obtain ⟨t2, a1, b1⟩ := kx E ce q u t T'.heap (locs ++ L) e1.symm (by rw [← e2]; exact X'.warmed.alike) hp hb k1 k2 k3 (by rw [e1]; exact hce) hcv hcl T' rfl X'
    exact ⟨t2, st.trans a1, b1⟩
theorem vx_callv {S SX : Type} {post : S → Prop} {px : SX → Prop} {B : S → State → Prop} {BX : String → SX → State → Prop} {AX : Nat → Prop} (hr : vx_Run p l e R s m args below meth c H locs cells slots mc ms (F0 m pc ls st0) rest (va_Qv post B A1 a) (vx_X px BX AX) free) (hS : va_S A0 H0 H locs) (hA : ∀ q, q < H.size → A1 q → A0 q) (hf : ∀ q, free q → A0 q) (hAX : ∀ q, q < H.size → AX q → A0 q)
    (kx : ∀ (E : String) (ce : Cell) (q9 : Addr) (u : SX) (t : State) (H1 : Heap) (locs1 : List Loc), t.heap = H1 → s.vm.Alike t.vm → px u → BX E u t → H.size ≤ H1.size → (∀ q : Nat, q < H.size → ¬ AX q → H1[q]? = H[q]?) → va_S A0 H0 H1 locs1 → H1[q9]? = some ce → ce.vm = .none → s.vm.findClass E = some ce.cls → vx_W p l e R s m args below meth c H1 locs1 (cells + mc) (slots + ms) Q (F0 m pc ls rest) q9)
    (kk : ∀ (u : S) (t : State) (H1 : Heap) (locs1 : List Loc), t.heap = H1 → s.vm.Alike t.vm → post u → B u t → H.size ≤ H1.size → (∀ q : Nat, q < H.size → ¬ A1 q → H1[q]? = H[q]?) → va_S A0 H0 H1 locs1 → W p l e R s m args below meth c H1 locs1 (cells + mc) (slots + ms) Q (F0 m (pc + 3) ls (rest))) : W p l e R s m args below meth c H locs cells slots Q (F0 m pc ls st0) := by
  intro T hT X
  rcases hr T hT X with ⟨v, st₀, t, T', L, h0, X', hL, e1, e2, ⟨⟨u, hv, hp, hb⟩, hF⟩, st⟩ | ⟨q, st₀, t, T', L, E, ce, h0, X', hL, e1, e2, ⟨u, hp, hb, hF⟩, hce, hcv, hcl, st⟩
  · cases hv
    obtain ⟨k1, k2, k3⟩ := vx_keep h0 e1 hS hA hf hL hF
    obtain ⟨t2, a1, b1⟩ := kk u t T'.heap (locs ++ L) e1.symm (by rw [← e2]; exact X'.warmed.alike) hp hb k1 k2 k3 T' rfl X'
    exact ⟨t2, st t2 a1, b1⟩
  · obtain ⟨k1, k2, k3⟩ := vx_keep h0 e1 hS hAX hf hL hF
    obtain ⟨t2, a1, b1⟩ := kx E ce q u t T'.heap (locs ++ L) e1.symm (by rw [← e2]; exact X'.warmed.alike) hp hb k1 k2 k3 (by rw [e1]; exact hce) hcv hcl T' rfl X'
    exact ⟨t2, st.trans a1, b1⟩
/-- caught by the row x of this method's table; the rows ahead don't take it -/
theorem vx_catch {own name : String} {E : String} {ce : Cell} {q : Addr} (hown : s.vm.findClass own = some m.cls) (pre : List ExceptionTableEntry) (x : ExceptionTableEntry) (suf : List ExceptionTableEntry) (hsplit : c.exceptionTable.toList = pre ++ x :: suf)
    (hpass : ∀ z ∈ pre, covers z pc = false ∨ (z.catchType ≠ 0 ∧ ∃ nm : String, (Cond.classLink own z.catchType nm).before args s = true ∧ va_Nc E nm s)) (hx : covers x pc = true) (h0 : x.catchType ≠ 0)
    (hlink : (Cond.classLink own x.catchType name).before args s = true) (hcast : (Cond.castable E name).before args s = true) (hcell : H[q]? = some ce) (hv : ce.vm = .none) (hcl : s.vm.findClass E = some ce.cls)
    (kk : W p l e R s m args below meth c H locs cells slots Q (F0 m x.handlerPc ls [.ref q])) : vx_W p l e R s m args below meth c H locs cells slots Q (F0 m pc ls rest) q := by
  intro T hT X
  have hpl : e.platform.magicAccessors = ({} : Platform).magicAccessors := by rw [X.admits.platform]
  obtain ⟨c3, c4, hc3, hc4, hasg⟩ := Cond.castable_spec hcast
  cases Option.some.inj (hc3.symm.trans hcl)
  obtain ⟨c5, hc5, hcl5⟩ := Cond.classLink_spec hown hlink e.platform hpl
  cases Option.some.inj (hc4.symm.trans hc5)
  obtain ⟨vm', X', st⟩ := X.thenCaughtThrough q (g := F0 m pc ls rest) rfl (Steps.refl _) (by rw [hT]; exact hcell) (by rw [hv]; rfl) (by obtain ⟨k9, h9, -⟩ := Vm.findClass_spec hcl; exact ⟨k9, h9⟩) pre x suf hsplit
    (fun z hz => by
      rcases hpass z hz with h | ⟨hz0, nm, hl1, hn1⟩
      · exact Or.inl h
      · obtain ⟨c6, hc6, hcl6⟩ := Cond.classLink_spec hown hl1 e.platform hpl
        obtain ⟨a8, b8, h1, h2, h3⟩ := hn1
        cases Option.some.inj (h1.symm.trans hcl)
        cases Option.some.inj (h2.symm.trans hc6)
        exact Or.inr ⟨hz0, _, hcl6, h3⟩) hx (Or.inr ⟨h0, c4, hcl5, hasg⟩)
  obtain ⟨t, a1, b1⟩ := kk (T.setVm vm') hT X'
  exact ⟨t, st.trans a1, b1⟩
end Rows
section Ends
variable {p : Program} {l : Launch} {e : Env} {R : Room} {s : State} {m : MethodId} {args : Array Value} {below : List Frame} {meth : Method} {c : Code} {H : Heap} {locs : List Loc} {cells slots : Nat} {Q : State → Prop}
variable {mc ms : Nat} {free : Addr → Prop} {A0 A1 : Nat → Prop} {H0 : Heap} {a : Array Value} {ls : Array Slot} {st0 rest : List Value}
variable {Qc : Array Value → State → Outcome → State → Prop} {XC : String → State → State → Prop}
/-- what a body that may throw owes at its end -/
def vx_MQ (below : List Frame) (Qc : Array Value → State → Outcome → State → Prop) (XC : String → State → State → Prop) (a : Array Value) (s : State) (mc ms : Nat) (free : Addr → Prop) : State → Prop := fun t =>
  ∃ o, t.status = .running ∧ Ended t below o ∧ vx_Q Qc XC mc ms free a s o t
theorem vx_ret {g : JFrame} {mc ms : Nat} (k : W p l e R s m args below meth c H locs cells slots (MQ below Qc args s mc ms free) g) : W p l e R s m args below meth c H locs cells slots (vx_MQ below Qc XC args s mc ms free) g := by
  intro T hT X
  obtain ⟨t, a1, o, b1, b2, b3, b4⟩ := k T hT X
  exact ⟨t, a1, o, b1, b2, Or.inl ⟨b3, b4⟩⟩
/-- not caught here: it goes on to the caller -/
theorem vx_widen {g : JFrame} {q : Addr} {k n : Nat} (h1 : cells ≤ k) (h2 : slots ≤ n) (kk : vx_W p l e R s m args below meth c H locs k n Q g q) : vx_W p l e R s m args below meth c H locs cells slots Q g q := fun T hT X => kk T hT (stand_widen X h1 h2)
theorem vx_out {pc : Nat} {E : String} {ce : Cell} {q : Addr} {mc ms : Nat} (hout : ∀ x ∈ c.exceptionTable.toList, covers x pc = false) (hlocks : meth.locks = false) (hcell : H[q]? = some ce) (hv : ce.vm = .none) (hcl : s.vm.findClass E = some ce.cls)
    (hx : ∀ t : State, t.heap = H → s.vm.Alike t.vm → XC E s t) (hf : ∀ z ∈ locs, free z.base) (hc : cells ≤ mc) (hs : slots ≤ ms) :
    vx_W p l e R s m args below meth c H locs cells slots (vx_MQ below Qc XC args s mc ms free) (F0 m pc ls rest) q := by
  intro T hT X
  obtain ⟨st1, hrun, hend, hW, hsm⟩ := X.leaveThrown q (g := F0 m pc ls rest) rfl rfl rfl hout hlocks
  have hcell9 : (T.setFrames (.throwing q :: below)).heap[q]? = some ce := by
    show T.heap[q]? = some ce
    rw [hT]; exact hcell
  exact ⟨_, st1, .threw q, hrun, hend, Or.inr ⟨q, rfl, E, ce, locs, hx _ hT hW.alike, hcell9, hv, hcl, hW, hsm.mono hc hs, hf⟩⟩
theorem vx_frame {U : State} {k n : Nat} (h : s.sameButNew ({ U with vm := s.vm } : State) locs k n) : s.heap.size ≤ U.heap.size ∧ ∀ q : Nat, q < s.heap.size → (∀ z ∈ locs, z.base ≠ q) → U.heap[q]? = s.heap[q]? := by
  obtain ⟨-, h2, -, -, -, h6⟩ := h
  refine ⟨h2, fun q hq hz => ?_⟩
  obtain ⟨c9, e1, e2, e3, e4⟩ := h6 q _ (Array.getElem?_eq_getElem hq)
  have hs : c9.slots = (s.heap[q]).slots := Array.ext_getElem? fun i => e4 i fun hm => hz _ hm rfl
  have h9 : c9 = s.heap[q] := by
    rw [hs] at e2
    exact e2
  have e5 : U.heap[q]? = some c9 := e1
  rw [e5, h9, Array.getElem?_eq_getElem hq]
/-- the words of a throw but the four that speak of the heap -/
def vx_no (w : Cond) : Bool := decide (w ≠ .isRef (.static Bundle.tN "UNASSIGNED_STACK" Bundle.steD)) && decide (w ≠ .isRef (.static Bundle.tN "SUPPRESSED_SENTINEL" Bundle.listD)) && decide (w ≠ .laysStatic Bundle.tN "UNASSIGNED_STACK" Bundle.steD) && decide (w ≠ .laysStatic Bundle.tN "SUPPRESSED_SENTINEL" Bundle.listD)
def vx_at0 (own : String) (ic : Nat) (X : String) (names : List String) : List Cond := (Bundle.ownAtoms0 own ic X names).filter vx_no
def vx_atS (own : String) (ic : Nat) (X : String) (names : List String) : List Cond := (Bundle.ownAtoms own ic X names).filter vx_no
/-- a word that the tables alone decide, or a good one -/
def vx_ot (w : Cond) : Bool := w.onTables || goodWord w
theorem vx_ot_at {args a' : Array Value} {s U : State} {w : Cond} (hW : s.WarmedH U.vm) (hvm : s.vm = U.vm) (hg : vx_ot w = true) (h : w.before args s = true) : w.before a' U = true := by
  simp only [vx_ot, Bool.or_eq_true] at hg
  rcases hg with hg | hg
  · exact va_tabs hg hvm h
  · exact word_at hW (good_of_word hg) h
/-- a list's words: the good ones out of the method's own list, the others by premises of their own -/
theorem vx_hat {args : Array Value} {s : State} {L B : List Cond} (h1 : ∀ w ∈ L.filter goodWord, w.before args s = true) (h2 : ∀ w ∈ L.filter (fun w => !goodWord w), w ∈ B) (h3 : ∀ w ∈ B, w.before args s = true) : ∀ w ∈ L, w.before args s = true := by
  intro w hw
  by_cases g : goodWord w = true
  · exact h1 w (List.mem_filter.mpr ⟨hw, g⟩)
  · refine h3 w (h2 w (List.mem_filter.mpr ⟨hw, ?_⟩))
    show (!goodWord w) = true
    cases hgw : goodWord w
    · rfl
    · exact absurd hgw g
theorem vx_c {args : Array Value} {s : State} {w : Cond} {B : List Cond} (h : w.before args s = true) (t : ∀ w ∈ B, w.before args s = true) : ∀ w' ∈ w :: B, w'.before args s = true := fun w' h' => (List.mem_cons.mp h').elim (fun e => by rw [e]; exact h) (t w')
theorem vx_n {args : Array Value} {s : State} : ∀ w ∈ ([] : List Cond), w.before args s = true := fun _ h => nomatch h
theorem vx_own {args : Array Value} {s : State} {L : List Cond} (h1 : ∀ w ∈ L.filter vx_no, w.before args s = true)
    (hU : (Cond.isRef (.static Bundle.tN "UNASSIGNED_STACK" Bundle.steD)).before args s = true) (hN : (Cond.isRef (.static Bundle.tN "SUPPRESSED_SENTINEL" Bundle.listD)).before args s = true)
    (lU : (Cond.laysStatic Bundle.tN "UNASSIGNED_STACK" Bundle.steD).before args s = true) (lN : (Cond.laysStatic Bundle.tN "SUPPRESSED_SENTINEL" Bundle.listD).before args s = true) : ∀ w ∈ L, w.before args s = true := by
  intro w hw
  by_cases e1 : w = .isRef (.static Bundle.tN "UNASSIGNED_STACK" Bundle.steD)
  · rw [e1]; exact hU
  · by_cases e2 : w = .isRef (.static Bundle.tN "SUPPRESSED_SENTINEL" Bundle.listD)
    · rw [e2]; exact hN
    · by_cases e3 : w = .laysStatic Bundle.tN "UNASSIGNED_STACK" Bundle.steD
      · rw [e3]; exact lU
      · by_cases e4 : w = .laysStatic Bundle.tN "SUPPRESSED_SENTINEL" Bundle.listD
        · rw [e4]; exact lN
        · exact h1 w (List.mem_filter.mpr ⟨hw, by unfold vx_no; rw [decide_eq_true e1, decide_eq_true e2, decide_eq_true e3, decide_eq_true e4]; rfl⟩)
/-- where a static field lies, its class's statics cell in H -/
def vx_L (C n d : String) (A : Nat → Prop) (U : State) (H : Heap) : Prop := ∃ (c : ClassId) (k : Class) (i : Nat) (f : Field) (a : Nat) (cell : Cell), U.vm.findClass C = some c ∧ U.fieldFound? C n d = some (c, k, i, f) ∧ f.isStatic = true ∧ k.statics = some a ∧ H[a]? = some cell ∧ cell.vm.isStatics = true ∧ cell.cls = c ∧ f.slot < cell.slots.size ∧ k.staticTypes[f.slot]? = some f.type ∧ ¬ A a
theorem vx_L.moved {C n d : String} {A : Nat → Prop} {u U : State} {H : Heap} (hvm : u.vm.Alike U.vm) (h : vx_L C n d A u H) : vx_L C n d A U H := by
  obtain ⟨c, k, i, f, a, cell, h1, h2, h3, h4, h5, h6, h7, h8, h9, h10⟩ := h
  obtain ⟨k', hi', he⟩ := State.fieldFound?_setVm hvm h2
  exact ⟨c, k', i, f, a, cell, by rw [hvm.findClass]; exact h1, hi', h3, by rw [he]; exact h4, h5, h6, h7, h8, by rw [he]; exact h9, h10⟩
theorem vx_L.kept {C n d : String} {A : Nat → Prop} {U : State} {H H1 : Heap} (h : vx_L C n d A U H) (hq : ∀ a : Nat, a < H.size → ¬ A a → H1[a]? = H[a]?) : vx_L C n d A U H1 := by
  obtain ⟨c, k, i, f, a, cell, h1, h2, h3, h4, h5, h6, h7, h8, h9, h10⟩ := h
  exact ⟨c, k, i, f, a, cell, h1, h2, h3, h4, by rw [hq a (Array.getElem?_eq_some_iff.mp h5).1 h10]; exact h5, h6, h7, h8, h9, h10⟩
theorem vx_L.narrow {C n d : String} {A B : Nat → Prop} {U : State} {H : Heap} (h : vx_L C n d A U H) (hAB : ∀ q, B q → A q) : vx_L C n d B U H := by
  obtain ⟨c, k, i, f, a, cell, h1, h2, h3, h4, h5, h6, h7, h8, h9, h10⟩ := h
  exact ⟨c, k, i, f, a, cell, h1, h2, h3, h4, h5, h6, h7, h8, h9, fun z => h10 (hAB _ z)⟩
theorem vx_L.word {C n d : String} {A : Nat → Prop} {s : State} {args : Array Value} (h : vx_L C n d A s s.heap) : (Cond.laysStatic C n d).before args s = true := by
  obtain ⟨c, k, i, f, a, cell, h1, h2, h3, h4, h5, h6, h7, h8, h9, -⟩ := h
  show (Cond.laysStatic C n d).holds args s none s [] = true
  exact Cond.laysStatic_of h1 h2 h3 h4 h5 h6 h7 h8 h9
/-- .. and what it holds: null or some reference -/
def vx_Zq (C n d : String) (A : Nat → Prop) (U : State) (H : Heap) : Prop := va_Zq C n d A U H ∧ vx_L C n d A U H
theorem vx_Zq.moved {C n d : String} {A : Nat → Prop} {u U : State} {H : Heap} (hvm : u.vm.Alike U.vm) (h : vx_Zq C n d A u H) : vx_Zq C n d A U H := ⟨va_Zq.moved hvm h.1, vx_L.moved hvm h.2⟩
theorem vx_Zq.kept {C n d : String} {A : Nat → Prop} {U : State} {H H1 : Heap} (h : vx_Zq C n d A U H) (hq : ∀ a : Nat, a < H.size → ¬ A a → H1[a]? = H[a]?) : vx_Zq C n d A U H1 := ⟨va_Zq.kept h.1 hq, vx_L.kept h.2 hq⟩
theorem vx_Zq.narrow {C n d : String} {A B : Nat → Prop} {U : State} {H : Heap} (h : vx_Zq C n d A U H) (hAB : ∀ q, B q → A q) : vx_Zq C n d B U H := ⟨va_Zq.narrow h.1 hAB, vx_L.narrow h.2 hAB⟩
theorem vx_Zqof {args : Array Value} {s : State} {C n d : String} {A : Nat → Prop} (hl : (Cond.laysStatic C n d).before args s = true) (hini : (Cond.initialized C).before args s = true) (h : (Cond.isRef (.static C n d)).before args s = true) (hA : ∀ a : Nat, a < s.heap.size → ¬ A a) : vx_Zq C n d A s s.heap := by
  refine ⟨va_Zqof hl hini h hA, ?_⟩
  obtain ⟨c, k, i, f, a, cell, h1, h2, h3, h4, h5, h6, h7, h8, h9⟩ := Cond.laysStatic_spec hl
  exact ⟨c, k, i, f, a, cell, h1, h2, h3, h4, h5, h6, h7, h8, h9, hA a (Array.getElem?_eq_some_iff.mp h5).1⟩
theorem vx_isRef {C n d : String} {v : Value} {A : Nat → Prop} {s : State} {args : Array Value} (h : va_Z C n d v A s s.heap) (hv : v.isRef = true) : (Cond.isRef (.static C n d)).before args s = true := by
  obtain ⟨cf, kf, fi, f, a, cell, h1, h2, h3, h4, h5, h6, h7, -⟩ := h
  have he : (Term.static C n d).eval args s none [] s = some v := by
    simp [Term.eval, State.fieldNamed?, h1, h2, h4, h5, h6, h7]
  simp only [Cond.before, Cond.holds, Cond.value, he]
  cases v <;> simp_all [Value.isRef]
theorem vx_isRefq {C n d : String} {A : Nat → Prop} {s : State} {args : Array Value} (h : va_Zq C n d A s s.heap) : (Cond.isRef (.static C n d)).before args s = true := by
  rcases h with h | ⟨t, h⟩
  · exact vx_isRef h rfl
  · exact vx_isRef h rfl
/-- the same frame, seen from here: as if the method were called anew in this heap -/
theorem vx_rebase {T : State} (X : Stand p l e R s m args below meth c T locs cells slots) {R' : Room} (hf : R'.frames ≤ R.frames) (hl : R'.locals ≤ R.locals) (hc : cells + R'.cells ≤ R.cells) (hs : slots + R'.slots ≤ R.slots) :
    Stand p l e R' ((T.setVm s.vm).setFrames (.invoking m args :: below)) m args below meth c T [] 0 0 := by
  have htop : (T.setVm s.vm).topJava?.isSome := X.here.top
  have hF : ((T.setVm s.vm).setFrames (.invoking m args :: below)).frames = .invoking m args :: below := State.frames_setFrames _ (State.cur_lt_of_top htop)
  obtain ⟨g₀, hg0⟩ := Option.isSome_iff_exists.mp htop
  obtain ⟨r, hr⟩ := State.topJava?_eq_some.mp hg0
  have hl9 : e.platform.stackLimits (T.setVm s.vm).me = e.platform.stackLimits s.me := X.limits
  have hb9 : (T.setVm s.vm).me.stackBytes = s.me.stackBytes := X.bytes
  refine ⟨X.admits, X.cas, X.clock, hF, ?_, X.hears, X.method, X.code, X.here, X.tail, X.warmed, ?_, ?_, ?_⟩
  · have h := X.room
    have hU : ((T.setVm s.vm).setFrames (.invoking m args :: below)).localsInUse = s.localsInUse := by
      rw [State.localsInUse_invoking hF (meth := meth) (c := c) X.method X.code, State.localsInUse_invoking X.frames X.method X.code]
    simp only [State.hasRoom, Bool.and_eq_true, decide_eq_true_eq] at h ⊢
    obtain ⟨⟨⟨⟨h1, h2, h3, h4, h5, h6⟩, h7⟩, h8⟩, h9⟩ := h
    rw [X.frames, List.length_cons] at h2 h3
    have q1 := X.heapSize
    have q2 := X.used
    simp only [hF, hU, List.length_cons, State.stackLimits_setFrames, State.stackBytes_setFrames, hl9, hb9]
    refine ⟨⟨⟨⟨by omega, by omega, by omega, by omega, by omega, h6⟩, ?_⟩, ?_⟩, X.book⟩
    · show T.heap.size + R'.cells ≤ e.platform.maxCells
      omega
    · show T.slotsUsed + R'.slots ≤ e.platform.maxSlots
      omega
  · rw [State.stackLimits_setFrames]; rfl
  · rw [State.stackBytes_setFrames]; rfl
  · refine ⟨?_, Nat.le_refl _, Nat.le_refl _, ?_, ?_, fun a c9 h9 => ⟨c9, h9, rfl, rfl, fun _ _ => rfl⟩⟩
    · obtain ⟨t, ht, -⟩ := State.frames_cons hr
      show T.setVm s.vm = { ((T.setVm s.vm).setFrames (.invoking m args :: below)).setFrames (T.setVm s.vm).frames with heap := T.heap, slotsUsed := T.slotsUsed }
      rw [State.setFrames_setFrames, State.setFrames_self ht]
      rfl
    · show T.slotsUsed = T.slotsUsed + ((T.heap.toList.drop T.heap.size).map (·.slots.size)).sum
      rw [List.drop_eq_nil_of_le (Nat.le_of_eq Array.length_toList)]
      rfl
    · show ((T.heap.toList.drop T.heap.size).map (·.slots.size)).sum ≤ 0
      rw [List.drop_eq_nil_of_le (Nat.le_of_eq Array.length_toList)]
      exact Nat.le_refl _
/-- 'throw new E()': new; dup; invokespecial; athrow -/
theorem vx_throw0 {cc : ByteArray} {pc : Nat} (hexec : p.tables.exec = Jvm.exec) (hb : c.code = cc) (hl : l.stackTraces = false) {own cls : String} {names : List String} {ik ic mc ms : Nat} {A : Nat → Prop}
    (hown : s.vm.findClass own = some m.cls) (hcls : Bundle.fit cls = true) (hnames : ∀ n ∈ names, Bundle.fit n = true)
    (hk : (Cond.classLink own ik cls).before args s = true) (hini : (Cond.initialized cls).before args s = true) (hat : ∀ w ∈ vx_at0 own ic cls names, w.before args s = true)
    (hgood : ∀ w ∈ Cond.classLink own ik cls :: Cond.initialized cls :: vx_at0 own ic cls names, vx_ot w = true)
    (hU : vx_Zq Bundle.tN "UNASSIGNED_STACK" Bundle.steD A s s.heap) (hN : vx_Zq Bundle.tN "SUPPRESSED_SENTINEL" Bundle.listD A s s.heap) (hS : va_S A s.heap H locs) (hsize : ls.size = c.maxLocals)
    (d0 : decode cc pc = .ok (.new ik, 3)) (d3 : decode cc (pc + 3) = .ok (.dup, 1)) (d4 : decode cc (pc + 4) = .ok (.invokespecial ic, 3)) (d7 : decode cc (pc + 7) = .ok (.athrow, 1))
    (hout : ∀ x ∈ c.exceptionTable.toList, covers x (pc + 7) = false)
    (hRframes : names.length + 3 < R.frames) (hRlocals : (rest.map fun v => v.category).sum + (13 * (names.length + 1) + 42) ≤ R.locals) (hRcells : cells + 1 ≤ R.cells) (hRslots : slots + 6 ≤ R.slots) (hlocks : meth.locks = false)
    (hx : ∀ t : State, s.vm.Alike t.vm → H.size ≤ t.heap.size → (∀ q : Nat, q < H.size → t.heap[q]? = H[q]?) → XC cls s t)
    (hf : ∀ z ∈ locs, free z.base) (hc : cells + 1 ≤ mc) (hs : slots + 6 ≤ ms) :
    W p l e R s m args below meth c H locs cells slots (vx_MQ below Qc XC args s mc ms free) (F0 m pc ls rest) := by
  intro T hT X
  have htr : e.platform.stackTraces = false := (show e.platform.stackTraces = l.stackTraces by rw [X.admits.platform]).trans hl
  have Y := vx_rebase X (R' := { frames := R.frames, locals := R.locals, cells := 1, slots := 6 }) (Nat.le_refl _) (Nat.le_refl _) hRcells hRslots
  obtain ⟨s', hA⟩ : ∃ z, z = (T.setVm s.vm).setFrames (.invoking m args :: below) := ⟨_, rfl⟩
  rw [← hA] at Y
  have hvm : s'.vm = s.vm := by rw [hA]; rfl
  have hhp : s'.heap = H := by rw [hA]; exact hT
  have hW0 : s.WarmedH s'.vm := by rw [hvm]; exact State.WarmedH.refl s
  have hat' : ∀ w ∈ vx_at0 own ic cls names, w.before args s' = true := fun w hw => vx_ot_at hW0 hvm.symm (hgood w (List.mem_cons_of_mem _ (List.mem_cons_of_mem _ hw))) (hat w hw)
  have hk' : (Cond.classLink own ik cls).before args s' = true := vx_ot_at hW0 hvm.symm (hgood _ List.mem_cons_self) hk
  have hini' : (Cond.initialized cls).before args s' = true := vx_ot_at hW0 hvm.symm (hgood _ (List.mem_cons_of_mem _ List.mem_cons_self)) hini
  have hU' : vx_Zq Bundle.tN "UNASSIGNED_STACK" Bundle.steD A s' s'.heap := by rw [hhp]; exact vx_Zq.moved hW0.alike (hU.kept hS.2.1)
  have hN' : vx_Zq Bundle.tN "SUPPRESSED_SENTINEL" Bundle.listD A s' s'.heap := by rw [hhp]; exact vx_Zq.moved hW0.alike (hN.kept hS.2.1)
  have h : ∀ w ∈ Bundle.ownAtoms0 own ic cls names, w.before args s' = true := vx_own hat' (vx_isRefq hU'.1) (vx_isRefq hN'.1) hU'.2.word hN'.2.word
  have hown' : s'.vm.findClass own = some m.cls := by rw [hvm]; exact hown
  have hins : (Cond.instantiable cls 6).before args s' = true := h _ (by simp [Bundle.ownAtoms0])
  obtain ⟨vm₁, cX, kX, hfX, hkX, -, -, X₁, st1⟩ := Y.newCold hexec (own := own) (C := cls) (index := ik) (n := 6) hown' hk' hins hini'
    (g := F0 m pc ls rest) rfl (by rw [hb]; exact d0) (Nat.le_refl _) (Nat.le_refl _)
  generalize hT1 : (T.setVm vm₁).pushCell { cls := cX, slots := kX.instanceTypes.map defaultValue, vm := .none } = T1 at X₁ st1
  have hcat : (Value.ref T.heap.size).category = 1 := rfl
  have hcellA : T1.heap[T.heap.size]? = some (freshCell cX kX) := by rw [← hT1]; exact State.heap_pushCell_size _ _
  have d3' : decode c.code (pc + 3) = .ok (.dup, 1) := by rw [hb]; exact d3
  obtain ⟨U, hsteps, hrun, hend, hW, hsame, ce, hce, hO⟩ := X₁.ctorThrow0 hexec htr (own := own) (cls := cls) (names := names) (ic := ic) hown' hcls hnames h (fun x hx => nomatch hx) hfX hkX hcellA (by rw [hhp, hT]; exact Nat.le_refl _)
    (g := { method := m, pc := pc + 4, locals := ls, stack := .ref T.heap.size :: .ref T.heap.size :: rest, locked := none }) rfl hsize rfl rfl (rest := rest) rfl
    (by rw [hb]; exact d4) (by rw [hb]; exact d7) hout hRframes (by simp only [List.map_cons, List.sum_cons, hcat]; omega) hlocks
  obtain ⟨f1, f2⟩ := vx_frame hsame
  rw [hhp] at f1 f2
  have hWs : s.WarmedH U.vm := State.WarmedH.trans hW0 hW
  have hcl : s.vm.findClass cls = some ce.cls := by
    have h9 := hO.cls
    rw [hvm] at h9
    exact h9
  have hall : s.sameButNew ({ U with vm := s.vm } : State) locs mc ms := by
    subst hA
    obtain ⟨e1, e2⟩ := hsame
    rw [State.setFrames_setFrames] at e1
    have h2 : (T.setVm s.vm).sameButNew ({ U with vm := s.vm } : State) [] (0 + 1) (0 + 6) := ⟨e1, e2⟩
    have h3 := X.same.trans h2
    rw [List.append_nil] at h3
    exact h3.mono hc hs
  refine ⟨U, ?_, .threw T.heap.size, hrun, hend, Or.inr ⟨T.heap.size, rfl, cls, ce, locs, hx U hWs.alike f1 (fun q hq => f2 q hq (fun z hz => nomatch hz)), hce, hO.vm, hcl, hWs, hall, hf⟩⟩
  refine st1 _ ?_
  show Steps p.tables e below (T1.setTop { method := m, pc := pc + 3, locals := ls, stack := .ref T.heap.size :: rest, locked := none }) _
  jvm_step X₁.here [X₁.here.top, hexec, d3', Value.category]
  exact hsteps
/-- 'throw new E("text")': new; dup; ldc; invokespecial; athrow -/
theorem vx_throwS {cc : ByteArray} {pc : Nat} (hexec : p.tables.exec = Jvm.exec) (hb : c.code = cc) (hl : l.stackTraces = false) {own cls text : String} {names : List String} {ik is ic mc ms sa : Nat} {A : Nat → Prop}
    (hown : s.vm.findClass own = some m.cls) (hcls : Bundle.fit cls = true) (hnames : ∀ n ∈ names, Bundle.fit n = true)
    (hk : (Cond.classLink own ik cls).before args s = true) (hini : (Cond.initialized cls).before args s = true) (hstr : vk_R own is text sa s) (hat : ∀ w ∈ vx_atS own ic cls names, w.before args s = true)
    (hgood : ∀ w ∈ Cond.classLink own ik cls :: Cond.initialized cls :: vx_atS own ic cls names, vx_ot w = true)
    (hU : vx_Zq Bundle.tN "UNASSIGNED_STACK" Bundle.steD A s s.heap) (hN : vx_Zq Bundle.tN "SUPPRESSED_SENTINEL" Bundle.listD A s s.heap) (hS : va_S A s.heap H locs) (hsize : ls.size = c.maxLocals)
    (d0 : decode cc pc = .ok (.new ik, 3)) (d3 : decode cc (pc + 3) = .ok (.dup, 1)) (d4 : decode cc (pc + 4) = .ok (.ldc is, 2)) (d6 : decode cc (pc + 6) = .ok (.invokespecial ic, 3)) (d9 : decode cc (pc + 9) = .ok (.athrow, 1))
    (hout : ∀ x ∈ c.exceptionTable.toList, covers x (pc + 9) = false)
    (hRframes : names.length + 3 < R.frames) (hRlocals : (rest.map fun v => v.category).sum + (13 * (names.length + 1) + 43) ≤ R.locals) (hRcells : cells + 1 ≤ R.cells) (hRslots : slots + 6 ≤ R.slots) (hlocks : meth.locks = false)
    (hx : ∀ t : State, s.vm.Alike t.vm → H.size ≤ t.heap.size → (∀ q : Nat, q < H.size → t.heap[q]? = H[q]?) → XC cls s t)
    (hf : ∀ z ∈ locs, free z.base) (hc : cells + 1 ≤ mc) (hs : slots + 6 ≤ ms) :
    W p l e R s m args below meth c H locs cells slots (vx_MQ below Qc XC args s mc ms free) (F0 m pc ls rest) := by
  intro T hT X
  have htr : e.platform.stackTraces = false := (show e.platform.stackTraces = l.stackTraces by rw [X.admits.platform]).trans hl
  have Y := vx_rebase X (R' := { frames := R.frames, locals := R.locals, cells := 1, slots := 6 }) (Nat.le_refl _) (Nat.le_refl _) hRcells hRslots
  obtain ⟨s', hA⟩ : ∃ z, z = (T.setVm s.vm).setFrames (.invoking m args :: below) := ⟨_, rfl⟩
  rw [← hA] at Y
  have hvm : s'.vm = s.vm := by rw [hA]; rfl
  have hhp : s'.heap = H := by rw [hA]; exact hT
  have hW0 : s.WarmedH s'.vm := by rw [hvm]; exact State.WarmedH.refl s
  have hat' : ∀ w ∈ vx_atS own ic cls names, w.before args s' = true := fun w hw => vx_ot_at hW0 hvm.symm (hgood w (List.mem_cons_of_mem _ (List.mem_cons_of_mem _ hw))) (hat w hw)
  have hk' : (Cond.classLink own ik cls).before args s' = true := vx_ot_at hW0 hvm.symm (hgood _ List.mem_cons_self) hk
  have hini' : (Cond.initialized cls).before args s' = true := vx_ot_at hW0 hvm.symm (hgood _ (List.mem_cons_of_mem _ List.mem_cons_self)) hini
  have hU' : vx_Zq Bundle.tN "UNASSIGNED_STACK" Bundle.steD A s' s'.heap := by rw [hhp]; exact vx_Zq.moved hW0.alike (hU.kept hS.2.1)
  have hN' : vx_Zq Bundle.tN "SUPPRESSED_SENTINEL" Bundle.listD A s' s'.heap := by rw [hhp]; exact vx_Zq.moved hW0.alike (hN.kept hS.2.1)
  have h : ∀ w ∈ Bundle.ownAtoms own ic cls names, w.before args s' = true := vx_own hat' (vx_isRefq hU'.1) (vx_isRefq hN'.1) hU'.2.word hN'.2.word
  have hown' : s'.vm.findClass own = some m.cls := by rw [hvm]; exact hown
  have hins : (Cond.instantiable cls 6).before args s' = true := h _ (by simp [Bundle.ownAtoms])
  obtain ⟨vm₁, cX, kX, hfX, hkX, -, -, X₁, st1⟩ := Y.newCold hexec (own := own) (C := cls) (index := ik) (n := 6) hown' hk' hins hini'
    (g := F0 m pc ls rest) rfl (by rw [hb]; exact d0) (Nat.le_refl _) (Nat.le_refl _)
  generalize hT1 : (T.setVm vm₁).pushCell { cls := cX, slots := kX.instanceTypes.map defaultValue, vm := .none } = T1 at X₁ st1
  have hcat : (Value.ref T.heap.size).category = 1 := rfl
  have hcellA : T1.heap[T.heap.size]? = some (freshCell cX kX) := by rw [← hT1]; exact State.heap_pushCell_size _ _
  have d3' : decode c.code (pc + 3) = .ok (.dup, 1) := by rw [hb]; exact d3
  have d4' : decode c.code (pc + 4) = .ok (.ldc is, 2) := by rw [hb]; exact d4
  have hstr' : vk_R own is text sa s' := vk_R.warm hW0 hstr
  obtain ⟨U, hsteps, hrun, hend, hW, hsame, ce, hce, hO⟩ := X₁.ctorThrowS hexec htr (own := own) (cls := cls) (names := names) (ic := ic) hown' hcls hnames h (fun x hx => nomatch hx) hfX hkX hcellA (by rw [hhp, hT]; exact Nat.le_refl _) (msg := .ref sa) rfl
    (g := { method := m, pc := pc + 6, locals := ls, stack := .ref sa :: .ref T.heap.size :: .ref T.heap.size :: rest, locked := none }) rfl hsize rfl rfl (rest := rest) rfl
    (by rw [hb]; exact d6) (by rw [hb]; exact d9) hout hRframes (by simp only [List.map_cons, List.sum_cons, hcat]; omega) hlocks
  obtain ⟨f1, f2⟩ := vx_frame hsame
  rw [hhp] at f1 f2
  have hWs : s.WarmedH U.vm := State.WarmedH.trans hW0 hW
  have hcl : s.vm.findClass cls = some ce.cls := by
    have h9 := hO.cls
    rw [hvm] at h9
    exact h9
  have hall : s.sameButNew ({ U with vm := s.vm } : State) locs mc ms := by
    subst hA
    obtain ⟨e1, e2⟩ := hsame
    rw [State.setFrames_setFrames] at e1
    have h2 : (T.setVm s.vm).sameButNew ({ U with vm := s.vm } : State) [] (0 + 1) (0 + 6) := ⟨e1, e2⟩
    have h3 := X.same.trans h2
    rw [List.append_nil] at h3
    exact h3.mono hc hs
  refine ⟨U, ?_, .threw T.heap.size, hrun, hend, Or.inr ⟨T.heap.size, rfl, cls, ce, locs, hx U hWs.alike f1 (fun q hq => f2 q hq (fun z hz => nomatch hz)), hce, hO.vm, hcl, hWs, hall, hf⟩⟩
  refine st1 _ ?_
  show Steps p.tables e below (T1.setTop { method := m, pc := pc + 3, locals := ls, stack := .ref T.heap.size :: rest, locked := none }) _
  jvm_step X₁.here [X₁.here.top, hexec, d3', Value.category]
  exact X₁.ldcString hexec (own := own) (text := text) (index := is) (a := sa) hown' hstr'.1 hstr'.2
    (g := { method := m, pc := pc + 4, locals := ls, stack := .ref T.heap.size :: .ref T.heap.size :: rest, locked := none }) rfl d4' _ hsteps
/-- 'throw new E("text")', the text by a wide index -/
theorem vx_throwSW {cc : ByteArray} {pc : Nat} (hexec : p.tables.exec = Jvm.exec) (hb : c.code = cc) (hl : l.stackTraces = false) {own cls text : String} {names : List String} {ik is ic mc ms sa : Nat} {A : Nat → Prop}
    (hown : s.vm.findClass own = some m.cls) (hcls : Bundle.fit cls = true) (hnames : ∀ n ∈ names, Bundle.fit n = true)
    (hk : (Cond.classLink own ik cls).before args s = true) (hini : (Cond.initialized cls).before args s = true) (hstr : vk_R own is text sa s) (hat : ∀ w ∈ vx_atS own ic cls names, w.before args s = true)
    (hgood : ∀ w ∈ Cond.classLink own ik cls :: Cond.initialized cls :: vx_atS own ic cls names, vx_ot w = true)
    (hU : vx_Zq Bundle.tN "UNASSIGNED_STACK" Bundle.steD A s s.heap) (hN : vx_Zq Bundle.tN "SUPPRESSED_SENTINEL" Bundle.listD A s s.heap) (hS : va_S A s.heap H locs) (hsize : ls.size = c.maxLocals)
    (d0 : decode cc pc = .ok (.new ik, 3)) (d3 : decode cc (pc + 3) = .ok (.dup, 1)) (d4 : decode cc (pc + 4) = .ok (.ldc_w is, 3)) (d7 : decode cc (pc + 7) = .ok (.invokespecial ic, 3)) (d10 : decode cc (pc + 10) = .ok (.athrow, 1))
    (hout : ∀ x ∈ c.exceptionTable.toList, covers x (pc + 10) = false)
    (hRframes : names.length + 3 < R.frames) (hRlocals : (rest.map fun v => v.category).sum + (13 * (names.length + 1) + 43) ≤ R.locals) (hRcells : cells + 1 ≤ R.cells) (hRslots : slots + 6 ≤ R.slots) (hlocks : meth.locks = false)
    (hx : ∀ t : State, s.vm.Alike t.vm → H.size ≤ t.heap.size → (∀ q : Nat, q < H.size → t.heap[q]? = H[q]?) → XC cls s t)
    (hf : ∀ z ∈ locs, free z.base) (hc : cells + 1 ≤ mc) (hs : slots + 6 ≤ ms) :
    W p l e R s m args below meth c H locs cells slots (vx_MQ below Qc XC args s mc ms free) (F0 m pc ls rest) := by
  intro T hT X
  have htr : e.platform.stackTraces = false := (show e.platform.stackTraces = l.stackTraces by rw [X.admits.platform]).trans hl
  have Y := vx_rebase X (R' := { frames := R.frames, locals := R.locals, cells := 1, slots := 6 }) (Nat.le_refl _) (Nat.le_refl _) hRcells hRslots
  obtain ⟨s', hA⟩ : ∃ z, z = (T.setVm s.vm).setFrames (.invoking m args :: below) := ⟨_, rfl⟩
  rw [← hA] at Y
  have hvm : s'.vm = s.vm := by rw [hA]; rfl
  have hhp : s'.heap = H := by rw [hA]; exact hT
  have hW0 : s.WarmedH s'.vm := by rw [hvm]; exact State.WarmedH.refl s
  have hat' : ∀ w ∈ vx_atS own ic cls names, w.before args s' = true := fun w hw => vx_ot_at hW0 hvm.symm (hgood w (List.mem_cons_of_mem _ (List.mem_cons_of_mem _ hw))) (hat w hw)
  have hk' : (Cond.classLink own ik cls).before args s' = true := vx_ot_at hW0 hvm.symm (hgood _ List.mem_cons_self) hk
  have hini' : (Cond.initialized cls).before args s' = true := vx_ot_at hW0 hvm.symm (hgood _ (List.mem_cons_of_mem _ List.mem_cons_self)) hini
  have hU' : vx_Zq Bundle.tN "UNASSIGNED_STACK" Bundle.steD A s' s'.heap := by rw [hhp]; exact vx_Zq.moved hW0.alike (hU.kept hS.2.1)
  have hN' : vx_Zq Bundle.tN "SUPPRESSED_SENTINEL" Bundle.listD A s' s'.heap := by rw [hhp]; exact vx_Zq.moved hW0.alike (hN.kept hS.2.1)
  have h : ∀ w ∈ Bundle.ownAtoms own ic cls names, w.before args s' = true := vx_own hat' (vx_isRefq hU'.1) (vx_isRefq hN'.1) hU'.2.word hN'.2.word
  have hown' : s'.vm.findClass own = some m.cls := by rw [hvm]; exact hown
  have hins : (Cond.instantiable cls 6).before args s' = true := h _ (by simp [Bundle.ownAtoms])
  obtain ⟨vm₁, cX, kX, hfX, hkX, -, -, X₁, st1⟩ := Y.newCold hexec (own := own) (C := cls) (index := ik) (n := 6) hown' hk' hins hini'
    (g := F0 m pc ls rest) rfl (by rw [hb]; exact d0) (Nat.le_refl _) (Nat.le_refl _)
  generalize hT1 : (T.setVm vm₁).pushCell { cls := cX, slots := kX.instanceTypes.map defaultValue, vm := .none } = T1 at X₁ st1
  have hcat : (Value.ref T.heap.size).category = 1 := rfl
  have hcellA : T1.heap[T.heap.size]? = some (freshCell cX kX) := by rw [← hT1]; exact State.heap_pushCell_size _ _
  have d3' : decode c.code (pc + 3) = .ok (.dup, 1) := by rw [hb]; exact d3
  have d4' : decode c.code (pc + 4) = .ok (.ldc_w is, 3) := by rw [hb]; exact d4
  have hstr' : vk_R own is text sa s' := vk_R.warm hW0 hstr
  obtain ⟨U, hsteps, hrun, hend, hW, hsame, ce, hce, hO⟩ := X₁.ctorThrowS hexec htr (own := own) (cls := cls) (names := names) (ic := ic) hown' hcls hnames h (fun x hx => nomatch hx) hfX hkX hcellA (by rw [hhp, hT]; exact Nat.le_refl _) (msg := .ref sa) rfl
    (g := { method := m, pc := pc + 7, locals := ls, stack := .ref sa :: .ref T.heap.size :: .ref T.heap.size :: rest, locked := none }) rfl hsize rfl rfl (rest := rest) rfl
    (by rw [hb]; exact d7) (by rw [hb]; exact d10) hout hRframes (by simp only [List.map_cons, List.sum_cons, hcat]; omega) hlocks
  obtain ⟨f1, f2⟩ := vx_frame hsame
  rw [hhp] at f1 f2
  have hWs : s.WarmedH U.vm := State.WarmedH.trans hW0 hW
  have hcl : s.vm.findClass cls = some ce.cls := by
    have h9 := hO.cls
    rw [hvm] at h9
    exact h9
  have hall : s.sameButNew ({ U with vm := s.vm } : State) locs mc ms := by
    subst hA
    obtain ⟨e1, e2⟩ := hsame
    rw [State.setFrames_setFrames] at e1
    have h2 : (T.setVm s.vm).sameButNew ({ U with vm := s.vm } : State) [] (0 + 1) (0 + 6) := ⟨e1, e2⟩
    have h3 := X.same.trans h2
    rw [List.append_nil] at h3
    exact h3.mono hc hs
  refine ⟨U, ?_, .threw T.heap.size, hrun, hend, Or.inr ⟨T.heap.size, rfl, cls, ce, locs, hx U hWs.alike f1 (fun q hq => f2 q hq (fun z hz => nomatch hz)), hce, hO.vm, hcl, hWs, hall, hf⟩⟩
  refine st1 _ ?_
  show Steps p.tables e below (T1.setTop { method := m, pc := pc + 3, locals := ls, stack := .ref T.heap.size :: rest, locked := none }) _
  jvm_step X₁.here [X₁.here.top, hexec, d3', Value.category]
  exact X₁.ldcStringW hexec (own := own) (text := text) (index := is) (a := sa) hown' hstr'.1 hstr'.2
    (g := { method := m, pc := pc + 4, locals := ls, stack := .ref T.heap.size :: .ref T.heap.size :: rest, locked := none }) rfl d4' _ hsteps
end Ends
section Bodies
variable {l : Launch}
theorem vx_ofW {y : MethodName} {ws ws' : List Cond} {rm : Room} {Pc : Array Value → State → Prop} {Qc : Array Value → State → Outcome → State → Prop} {XC : String → State → State → Prop} {mc ms : Nat} {free : Addr → Prop} {cc : ByteArray} {maxL : Nat} {ret : Option FieldType}
    (hy : plainName y.cls = true) (hw : ws = Cond.code y cc maxL ret :: ws')
    (body : ∀ p e s m args below meth c s₁, BodyLoose p l y (headSpec ws rm) cc maxL ret e s m args below meth c s₁ → c.maxLocals = maxL → (∀ x ∈ c.exceptionTable.toList, False) → Pc args s →
      W p l e (headSpec ws rm).room s m args below meth c s.heap [] 0 0 (vx_MQ below Qc XC args s mc ms free) (entryFrame m args maxL)) : vx_Met l y ws rm Pc Qc XC mc ms free := by
  refine MetFree.of_bodyS (code := cc) (maxLocals := maxL) (ret := ret) hy ?_ ?_
  · intro args s m h hn
    obtain ⟨meth, c, h1, h2, h3, h4, h5, h6, -, -⟩ := Cond.code_spec hn (atoms_spec (ws := ws) h _ (by rw [hw]; exact List.mem_cons_self))
    exact ⟨meth, c, h1, h2, h3, h4, h5, h6⟩
  · intro p e s m args below meth c s₁ B hml hP _
    have hh0 : s₁.heap = s.heap := by rw [B.state]; rfl
    have ht : ∀ x ∈ c.exceptionTable.toList, False := by
      obtain ⟨meth9, c9, h1, h2, -, -, -, -, h7, -⟩ := Cond.code_spec B.named (atoms_spec (ws := ws) B.pre _ (by rw [hw]; exact List.mem_cons_self))
      cases Option.some.inj (h1.symm.trans B.method)
      cases Option.some.inj (h2.symm.trans (Stand.of_body B).code)
      intro x hx
      rw [Array.isEmpty_iff.mp h7] at hx
      cases hx
    obtain ⟨t, a1, o, b1, b2, b3⟩ := body p e s m args below meth c s₁ B hml ht hP s₁ hh0 (Stand.of_body B)
    exact ⟨t, o, a1, b1, b2, b3⟩
/-- the table of a body with handlers -/
theorem vx_table {p : Program} {x y : MethodName} {S : Spec} {cc bytes : ByteArray} {maxL maxL' : Nat} {ret ret' : Option FieldType} {e : Env} {s s₁ : State} {m : MethodId} {args : Array Value} {below : List Frame} {meth : Method} {c : Code} {hh : List (Nat × Nat × Nat × Nat)}
    (B : BodyLoose p l y S cc maxL ret e s m args below meth c s₁) (h : (Cond.codeWith y bytes maxL' ret' hh).before args s = true) : c.exceptionTable.toList = tableOf hh := by
  obtain ⟨m9, meth9, c9, hn9, h1, h2, -, -, h6, -⟩ := Cond.codeWith_spec h
  cases Option.some.inj (hn9.symm.trans B.named)
  cases Option.some.inj (h1.symm.trans B.method)
  cases Option.some.inj (h2.symm.trans (Stand.of_body B).code)
  rw [← h6, table_eq]
end Bodies
end VXA
/-! ===== END ===== -/
/-! ===== BEGIN a static call of a method with an exception table ===== -/
section VXS
variable {p : Program} {l : Launch} {e : Env} {R : Room} {s : State} {m : MethodId} {args : Array Value} {below : List Frame} {meth : Method} {c : Code} {T : State} {H : Heap} {locs : List Loc} {cells slots : Nat}
abbrev vx_CSW (R : Room) (s : State) (args : Array Value) (own : String) (index : Nat) (y : MethodName) (bytes : ByteArray) (maxL : Nat) (ret : Option FieldType) (hh : List (Nat × Nat × Nat × Nat)) (ws : List Cond) (rm : Room) (mc ms n : Nat) : Prop :=
  (rm.cells = mc ∧ rm.slots = ms ∧ rm.frames + 1 ≤ R.frames ∧ 8 + (maxL + 11) + rm.locals ≤ R.locals ∧ (∀ w ∈ ws, ∀ (a' : Array Value) (U : State), s.WarmedH U.vm → w.before a' U = true) ∧ Cond.codeWith y bytes maxL ret hh ∈ ws) ∧
  (Cond.codeWith y bytes maxL ret hh).before args s = true ∧ (Cond.initialized y.cls).before args s = true ∧ (y.cls ≠ "java/lang/invoke/MethodHandle" ∧ y.cls ≠ "java/lang/invoke/VarHandle") ∧
  (∀ sig, parseMethodDescriptor y.desc = some sig → n = sig.parameters.length) ∧ (Cond.methodLink own index y).before args s = true ∧ (Cond.static y).before args s = true
theorem vx_cwSW {own : String} {index maxL mc ms : Nat} {y : MethodName} {bytes : ByteArray} {ret : Option FieldType} {hh : List (Nat × Nat × Nat × Nat)} {Ts ws ws' : List Cond} {rm : Room} (n : Nat) (ht : ∀ w ∈ Ts, w.before args s = true) (hT : GoodIn Ts (va_wsS own index y ws)) (hw : ws = Cond.codeWith y bytes maxL ret hh :: ws') (hrc : rm.cells = mc) (hrs : rm.slots = ms)
    (hd : y.cls ≠ "java/lang/invoke/MethodHandle" ∧ y.cls ≠ "java/lang/invoke/VarHandle" ∧ (parseMethodDescriptor y.desc).map (fun d => d.parameters.length) = some n) (hR : rm.frames + 1 ≤ R.frames ∧ 8 + (maxL + 11) + rm.locals ≤ R.locals) :
    vx_CSW R s args own index y bytes maxL ret hh ws rm mc ms n := by
  have ok : ∀ w ∈ va_wsS own index y ws, w.before args s = true := fun w h => ht w (hT w h).1
  have hG : GoodIn Ts ws := fun w h => hT w (by unfold va_wsS; exact List.mem_append_right _ h)
  have hc : Cond.codeWith y bytes maxL ret hh ∈ ws := by rw [hw]; exact List.mem_cons_self
  refine ⟨⟨hrc, hrs, hR.1, hR.2, pay_in ht hG, hc⟩, ht _ (hG _ hc).1, ok _ (by simp [va_wsS]), ⟨hd.1, hd.2.1⟩, fun sig h => ?_, ok _ (by simp [va_wsS]), ok _ (by simp [va_wsS])⟩
  have h2 := hd.2.2
  rw [h] at h2
  exact (Option.some.inj h2).symm
theorem vx_callSW (X : Stand p l e R s m args below meth c T locs cells slots) (hexec : p.tables.exec = Jvm.exec) {own : String} {index : Nat} {y : MethodName} {bytes : ByteArray} {maxL : Nat} {ret : Option FieldType} {hh : List (Nat × Nat × Nat × Nat)}
    (hown : s.vm.findClass own = some m.cls) (hlink : (Cond.methodLink own index y).before args s = true) (hstat : (Cond.static y).before args s = true) (hinit : (Cond.initialized y.cls).before args s = true)
    (hcode : (Cond.codeWith y bytes maxL ret hh).before args s = true) (hy : y.cls ≠ "java/lang/invoke/MethodHandle" ∧ y.cls ≠ "java/lang/invoke/VarHandle")
    {W9 : Nat} {Pre : Pt → Array Value → Prop} {Post : Pt → Array Value → Option Value → Pt → Prop} (hK : Back l R p e below s args y 3 W9 Pre Post)
    {g : JFrame} (hg : g.method = m) (hsize : g.locals.size = c.maxLocals) {argsL rest : List Value} (hlen : ∀ sig, parseMethodDescriptor y.desc = some sig → argsL.length = sig.parameters.length)
    (hstack : g.stack = argsL.reverse ++ rest) (hW : 2 * g.monitorRoom + (rest.map fun v => v.category).sum ≤ W9) (hdg : decode c.code g.pc = .ok (.invokestatic index, 3))
    (hpre : ∀ vm₁, s.WarmedH vm₁ → Pre ⟨T.setVm vm₁, locs, cells, slots⟩ argsL.toArray) :
    ∃ (v : Option Value) (vm₁ : Vm) (B : Pt), s.WarmedH vm₁ ∧ Stand p l e R s m args below meth c B.U B.locs B.cells B.slots ∧ Post ⟨T.setVm vm₁, locs, cells, slots⟩ argsL.toArray v B ∧
      ∀ target, Steps p.tables e below (B.U.setTop { g with pc := g.pc + 3, stack := v.toList ++ rest }) target → Steps p.tables e below (T.setTop g) target := by
  obtain ⟨mk, methM, cM, hnamed, hmethM, -, -, -, -, -, -, hsigM⟩ := Cond.codeWith_spec hcode
  have hstatic : methM.isStatic = true := Cond.static_spec hnamed hmethM hstat
  obtain ⟨kP, hkP, -⟩ := className_of_methodNamed hnamed
  have hinitP : kP.init = .initialized := Cond.initialized_spec (findClass_of_methodNamed hnamed) hkP hinit
  obtain ⟨vm₁, X₁, hstep₁⟩ := X.invokestatic hexec hown hlink hnamed hmethM hstatic hkP hinitP hy (g := g) hg (argsL := argsL) (rest := rest) (hlen _ hsigM) hstack hdg
  obtain ⟨v, B, X', hpost, hsteps⟩ := hK m meth c ⟨T.setVm vm₁, locs, cells, slots⟩ { g with stack := rest } (.invokestatic index) mk argsL.toArray X₁ hg hsize hdg hW (X₁.named hnamed) (hpre vm₁ X₁.warmed)
  exact ⟨v, vm₁, B, X₁.warmed, X', hpost, fun target h => hstep₁ _ fun acts => by rw [doInvoke_state]; exact hsteps.trans h⟩
theorem vx_runSW {y : MethodName} {bytes cc : ByteArray} {maxL nL mc ms n index : Nat} {ret : Option FieldType} {hh : List (Nat × Nat × Nat × Nat)} {ws : List Cond} {rm : Room} {Pc : Array Value → State → Prop} {Qc : Array Value → State → Outcome → State → Prop} {free : Addr → Prop} {Ts : List Cond} {own : String} {As rest : List Value} {g : JFrame}
    (S : CallFix p m c cc nL s args Ts own) (hM : Met l y ws rm Pc Qc mc ms free) (cw : vx_CSW R s args own index y bytes maxL ret hh ws rm mc ms n) (hp : PreS s H Pc As)
    (hg : g.method = m) (hn : As.length = n) (hsize : g.locals.size = nL) (hstack : g.stack = As.reverse ++ rest) (hW : 2 * g.monitorRoom + (rest.map fun v => v.category).sum ≤ 8) (hdg : decode cc g.pc = .ok (.invokestatic index, 3)) (hf : cells + mc ≤ R.cells ∧ slots + ms ≤ R.slots) :
    va_Run p l e R s m args below meth c H locs cells slots mc ms g rest (Qc As.toArray) (free) := by
  obtain ⟨⟨hrc, hrs, hfr, hlo, hws, hcw⟩, hcode, hini, hy, hlen, hl, hstt⟩ := cw
  have hK : Back l R p e below s args y 3 8 (PreOf R mc ms Pc) (PostOf Qc mc ms free) := va_backW (hh := hh) (bytes := bytes) (maxL := maxL) (ret := ret) hM hp.1 hrc hrs hfr hlo hws hcw (fun a' U hW => word_at hW (Or.inl (by first | rfl | simp [Cond.onTables, Cond.keeps, Cond.steady])) hini)
  obtain ⟨hx, hb, hml, ho, -⟩ := S
  intro T hT X
  obtain ⟨v, vm₁, ⟨U', l2, c2, s2⟩, hW₁, X', ⟨g', mk, t, L, e1, e2, hq, h1, hL, h2, h3⟩, st⟩ := vx_callSW X hx (hh := hh) (bytes := bytes) (maxL := maxL) (ret := ret) ho hl hstt hini hcode hy hK hg (hsize.trans hml.symm) (argsL := As) (rest := rest) (fun sig h => hn.trans (hlen sig h)) hstack hW (by rw [hb]; exact hdg)
    (fun vm₁ hW₁ => ⟨hf.1, hf.2, hp.2 (T.setVm vm₁) hT hW₁⟩)
  dsimp only [Pt.U, Pt.locs, Pt.cells, Pt.slots] at X' e1 e2 h1 h2 h3 st
  subst h1; subst h2; subst h3
  exact ⟨v, (T.setVm vm₁).calling g' mk As.toArray, t, U', L, hT, X', hL, e1, e2, hq, st⟩
/-- not caught here, past rows that name other classes: it goes on to the caller -/
theorem vx_outP {p : Program} {l : Launch} {e : Env} {R : Room} {s : State} {m : MethodId} {args : Array Value} {below : List Frame} {meth : Method} {c : Code} {H : Heap} {locs : List Loc} {cells slots : Nat} {free : Addr → Prop} {ls : Array Slot} {rest : List Value} {Qc : Array Value → State → Outcome → State → Prop} {XC : String → State → State → Prop}
    {pc : Nat} {own E : String} {ce : Cell} {q : Addr} {mc ms : Nat} (hown : s.vm.findClass own = some m.cls) (hlocks : meth.locks = false)
    (hpass : ∀ z ∈ c.exceptionTable.toList, covers z pc = false ∨ (z.catchType ≠ 0 ∧ ∃ nm : String, (Cond.classLink own z.catchType nm).before args s = true ∧ va_Nc E nm s)) (hcell : H[q]? = some ce) (hv : ce.vm = .none) (hcl : s.vm.findClass E = some ce.cls)
    (hx : ∀ t : State, t.heap = H → s.vm.Alike t.vm → XC E s t) (hf : ∀ z ∈ locs, free z.base) (hc : cells ≤ mc) (hs : slots ≤ ms) :
    vx_W p l e R s m args below meth c H locs cells slots (vx_MQ below Qc XC args s mc ms free) (F0 m pc ls rest) q := by
  intro T hT X
  have hpl : e.platform.magicAccessors = ({} : Platform).magicAccessors := by rw [X.admits.platform]
  obtain ⟨vm', hW', X', st⟩ := X.outThrough hlocks q (g := F0 m pc ls rest) rfl rfl rfl (cell := ce) (by rw [hT]; exact hcell) (by rw [hv]; rfl)
    (by obtain ⟨k9, h9, -⟩ := Vm.findClass_spec hcl; exact ⟨k9, h9⟩) (fun z hz => by
      rcases hpass z hz with h | ⟨hz0, nm, hl1, hn1⟩
      · exact Or.inl h
      · obtain ⟨c6, hc6, hcl6⟩ := Cond.classLink_spec hown hl1 e.platform hpl
        obtain ⟨a8, b8, h1, h2, h3⟩ := hn1
        cases Option.some.inj (h1.symm.trans hcl)
        cases Option.some.inj (h2.symm.trans hc6)
        exact Or.inr ⟨hz0, _, hcl6, h3⟩)
  obtain ⟨g₀, hfr⟩ := X'.frames_eq
  have hcell9 : ((T.setVm vm').setFrames (.throwing q :: below)).heap[q]? = some ce := by
    show T.heap[q]? = some ce
    rw [hT]; exact hcell
  have hend : Ended ((T.setVm vm').setFrames (.throwing q :: below)) below (.threw q) := State.frames_setFrames _ (State.cur_lt_of_frames hfr)
  refine ⟨(T.setVm vm').setFrames (.throwing q :: below), ?_, .threw q, X'.here.running, hend, Or.inr ⟨q, rfl, E, ce, locs, hx _ hT (X'.ends _).1.alike, hcell9, hv, hcl, (X'.ends _).1, (X'.ends _).2.mono hc hs, hf⟩⟩
  rw [X.pushThrowing_eq]
  exact st
/-- a thing of a world lies in the heap -/
theorem vx_lt {D : va_G} {cl : List vw_C} {ws : va_W} {H1 : Heap} (h : va_P D cl ws H1) {k : Nat} {q : Nat × va_E} (hk : ws[k]? = some q) : q.1 < H1.size := (h k q hk).lt
end VXS
/-! ===== END ===== -/
/-! ===== BEGIN methods with a table of their own: called by a name, returning or throwing ===== -/
section VXH
/-! vx_backW, vx_callVX, vx_callSX, vx_callVW, vx_runVW, vx_runVX, vx_runSX, vx_ofWH follow the same proofs as their sisters above (Free/Laws.lean, Shelf42/LK1.lean); vx_outP calls Shelf42/NT130.lean (outThrough). -/
section
variable {l : Launch} {R : Room} {p : Program} {e : Env} {below : List Frame} {s : State} {sargs : Array Value} {y : MethodName} {len W9 : Nat}
theorem vx_backW {ws : List Cond} {rm : Room} {Pc : Array Value → State → Prop} {Qc : Array Value → State → Outcome → State → Prop} {XC : String → State → State → Prop} {mc ms : Nat} {free : Addr → Prop} {bytes : ByteArray} {maxL : Nat} {ret : Option FieldType} {hh : List (Nat × Nat × Nat × Nat)}
    (hM : vx_Met l y ws rm Pc Qc XC mc ms free) (hblind : FrameBlind Pc) (hrc : rm.cells = mc) (hrs : rm.slots = ms)
    (hframes : rm.frames + 1 ≤ R.frames) (hlocals : W9 + (maxL + 11) + rm.locals ≤ R.locals)
    (hws : ∀ w ∈ ws, ∀ a' U, s.WarmedH U.vm → w.before a' U = true) (hcode : Cond.codeWith y bytes maxL ret hh ∈ ws) (hinit : ∀ a' U, s.WarmedH U.vm → (Cond.initialized y.cls).before a' U = true) :
    vx_Back l R p e below s sargs y len W9 (PreOf R mc ms Pc) (PostOf Qc mc ms free) (vx_Post XC mc ms free) := by
  intro m meth c A g ig mk a X hg hsize hdg hW hn hp
  have h1 : (headSpec ws rm).pre.before a A.U = true := atoms_intro fun w hw => hws w hw _ _ X.warmed
  have h2 : (Cond.codeWith y bytes maxL ret hh).before a A.U = true := hws _ hcode _ _ X.warmed
  have h3 : (Cond.initialized y.cls).before a A.U = true := hinit _ _ X.warmed
  have h4 : A.cells + (headSpec ws rm).room.cells ≤ R.cells := by rw [show (headSpec ws rm).room.cells = mc from hrc]; exact hp.1
  have h5 : A.slots + (headSpec ws rm).room.slots ≤ R.slots := by rw [show (headSpec ws rm).room.slots = ms from hrs]; exact hp.2.1
  have hPc : Pc a (A.U.calling g mk a) := hblind _ _ _ _ hp.2.2
  obtain ⟨U, Ls, c0, s0⟩ := A
  dsimp only [Pt.U, Pt.locs, Pt.cells, Pt.slots] at h1 h2 h3 h4 h5 X hn hPc ⊢
  obtain ⟨m9, methY, cY, hn9, hmY, hcY, -, hlY, -⟩ := Cond.codeWith_spec h2
  cases Option.some.inj (hn9.symm.trans hn)
  obtain ⟨kY, hkY, -⟩ := className_of_methodNamed hn
  have hinitY : kY.init = .initialized := Cond.initialized_spec (findClass_of_methodNamed hn) hkY h3
  have h : At U g.method c below := by rw [hg]; exact X.here
  have hlocals9 : W9 + (maxL + 11) + (headSpec ws rm).room.locals ≤ R.locals := hlocals
  have happ : (headSpec ws rm).appliesLoose y e.platform (U.calling g mk a) = true :=
    Spec.appliesLoose_calling (g := g) h hdg hn hkY hinitY
      (X.room_calling (g := g) (R' := (headSpec ws rm).room) hsize hmY hcY hframes (by rw [hlY]; omega) h4 h5) h1
  obtain ⟨mid, hmid⟩ := h.above
  have hfr : (U.setTop g).frames = (.java g :: mid) ++ below := by rw [State.frames_setTop' g h.top, hmid]; rfl
  obtain ⟨o, s₂, hsteps, -, hend, hq⟩ := Steps.callFree hM p X.admits X.cas X.clock (acts := []) hfr happ hPc trivial
  have hq' : vx_Q Qc XC mc ms free a (U.calling g mk a) o s₂ := hq
  rw [State.frames_setTop' g h.top] at hend
  obtain ⟨g₀, hg0⟩ := Option.isSome_iff_exists.mp h.top
  obtain ⟨r, hr⟩ := State.topJava?_eq_some.mp hg0
  have hr' : (({ U with heap := s₂.heap, slotsUsed := s₂.slotsUsed } : State).setVm s₂.vm).frames = .java g₀ :: r := hr
  rcases hq' with ⟨hqc, L, hfe, hL⟩ | ⟨q, rfl, E, ce, L, hx, hce, hcv, hcl, hW₂, hsm, hL⟩
  · obtain ⟨⟨v, rfl⟩, hW₂, e2, q2, q3, q4, q5, q6⟩ := id hfe
    have e3 : s₂ = ({ (U.calling g mk a).setFrames s₂.frames with heap := s₂.heap, slotsUsed := s₂.slotsUsed } : State).setVm s₂.vm := by
      have : s₂ = ({ s₂ with vm := (U.calling g mk a).vm } : State).setVm s₂.vm := rfl
      rw [e2] at this
      exact this
    obtain ⟨c₂, i₂, len₂, hc₂, hd₂, hf₂⟩ := hend
    have hW' : U.WarmedH s₂.vm := hW₂
    have hcc : c₂ = c := by
      have h1 : s₂.code? g.method = U.code? g.method := by
        rw [State.code?_eq, State.code?_eq, hW'.alike.method?]
      exact Option.some.inj (hc₂.symm.trans (h1.trans h.code))
    subst hcc
    have hlen : len₂ = len := by rw [hdg] at hd₂; cases hd₂; rfl
    subst hlen
    have hs₂ : s₂ = (({ U with heap := s₂.heap, slotsUsed := s₂.slotsUsed } : State).setVm s₂.vm).setTop { g with pc := g.pc + len₂, stack := v.toList ++ g.stack } := by
      refine e3.trans ?_
      rw [hf₂, State.calling_eq h.top, State.setFrames_setFrames, State.setTop_of_frames _ hr', hr]
      rfl
    have hsame : U.sameButNew ({ U with heap := s₂.heap, slotsUsed := s₂.slotsUsed } : State) L mc ms := by
      refine ⟨?_, q2, q3, q4, q5, q6⟩
      obtain ⟨t, ht, -⟩ := State.frames_cons hr
      show ({ U with heap := s₂.heap, slotsUsed := s₂.slotsUsed } : State) = { U.setFrames U.frames with heap := s₂.heap, slotsUsed := s₂.slotsUsed }
      rw [State.setFrames_self ht]
    subst hg
    refine Or.inl ⟨v, ⟨(({ U with heap := s₂.heap, slotsUsed := s₂.slotsUsed } : State).setVm s₂.vm), Ls ++ L, c0 + mc, s0 + ms⟩,
      ⟨X.admits, X.cas, X.clock, X.frames, X.room, X.hears, X.method, X.code, (X.here.setHeapUsed s₂.heap s₂.slotsUsed).setVm hW'.alike, X.tail, State.WarmedH.trans X.warmed hW', X.limits, X.bytes, X.same.trans (hsame.setVm s.vm)⟩,
      ⟨g, mk, s₂, L, rfl, rfl, hqc, rfl, hL, rfl, rfl⟩, ?_⟩
    show Steps p.tables e below _ ((({ U with heap := s₂.heap, slotsUsed := s₂.slotsUsed } : State).setVm s₂.vm).setTop { g with pc := g.pc + len₂, stack := v.toList ++ g.stack })
    rw [← hs₂]
    exact hsteps
  · obtain ⟨e2, q2, q3, q4, q5, q6⟩ := id hsm
    have e3 : s₂ = ({ (U.calling g mk a).setFrames s₂.frames with heap := s₂.heap, slotsUsed := s₂.slotsUsed } : State).setVm s₂.vm := by
      have : s₂ = ({ s₂ with vm := (U.calling g mk a).vm } : State).setVm s₂.vm := rfl
      rw [e2] at this
      exact this
    have hf₂ : s₂.frames = .throwing q :: .java g :: U.frames.tail := hend
    have hW' : U.WarmedH s₂.vm := hW₂
    have hs₂ : s₂ = ((({ U with heap := s₂.heap, slotsUsed := s₂.slotsUsed } : State).setVm s₂.vm).setTop g).pushFrame (.throwing q) := by
      refine e3.trans ?_
      rw [hf₂, State.calling_eq h.top, State.setFrames_setFrames, State.pushFrame, State.frames_setTop _ hr', State.setTop_of_frames _ hr', State.setFrames_setFrames, hr]
      rfl
    have hsame : U.sameButNew ({ U with heap := s₂.heap, slotsUsed := s₂.slotsUsed } : State) L mc ms := by
      refine ⟨?_, q2, q3, q4, q5, q6⟩
      obtain ⟨t, ht, -⟩ := State.frames_cons hr
      show ({ U with heap := s₂.heap, slotsUsed := s₂.slotsUsed } : State) = { U.setFrames U.frames with heap := s₂.heap, slotsUsed := s₂.slotsUsed }
      rw [State.setFrames_self ht]
    subst hg
    refine Or.inr ⟨q, ⟨(({ U with heap := s₂.heap, slotsUsed := s₂.slotsUsed } : State).setVm s₂.vm), Ls ++ L, c0 + mc, s0 + ms⟩,
      ⟨X.admits, X.cas, X.clock, X.frames, X.room, X.hears, X.method, X.code, (X.here.setHeapUsed s₂.heap s₂.slotsUsed).setVm hW'.alike, X.tail, State.WarmedH.trans X.warmed hW', X.limits, X.bytes, X.same.trans (hsame.setVm s.vm)⟩,
      ⟨g, mk, s₂, L, E, ce, rfl, rfl, hx, hce, hcv, hcl, rfl, hL, rfl, rfl⟩, ?_⟩
    show Steps p.tables e below _ (((({ U with heap := s₂.heap, slotsUsed := s₂.slotsUsed } : State).setVm s₂.vm).setTop g).pushFrame (.throwing q))
    rw [← hs₂]
    exact hsteps
end
variable {p : Program} {l : Launch} {e : Env} {R : Room} {s : State} {m : MethodId} {args : Array Value} {below : List Frame} {meth : Method} {c : Code} {T : State} {H : Heap} {locs : List Loc} {cells slots : Nat}
theorem vx_callVX (X : Stand p l e R s m args below meth c T locs cells slots) (hexec : p.tables.exec = Jvm.exec) {own C : String} {index : Nat} {y : MethodName} {bytes : ByteArray} {maxL : Nat} {ret : Option FieldType} {hh : List (Nat × Nat × Nat × Nat)}
    (hown : s.vm.findClass own = some m.cls) (hlink : (Cond.methodLink own index y).before args s = true) (hinst : (Cond.instanceMethod y).before args s = true) (hsel : (Cond.selects C y y).before args s = true)
    (hcode : (Cond.codeWith y bytes maxL ret hh).before args s = true) (hy : y.cls ≠ "java/lang/invoke/MethodHandle" ∧ y.cls ≠ "java/lang/invoke/VarHandle")
    {W9 : Nat} {Pre : Pt → Array Value → Prop} {Post : Pt → Array Value → Option Value → Pt → Prop} {PostX : Pt → Array Value → Addr → Pt → Prop} (hK : vx_Back l R p e below s args y 3 W9 Pre Post PostX)
    {b : Addr} {cellB : Cell} (hcell : T.heap[b]? = some cellB) (hobj : cellB.vm.isStatics = false) (hcls : s.vm.findClass C = some cellB.cls)
    {g : JFrame} (hg : g.method = m) (hsize : g.locals.size = c.maxLocals) {argsL rest : List Value} (hlen : ∀ sig, parseMethodDescriptor y.desc = some sig → argsL.length = sig.parameters.length)
    (hstack : g.stack = argsL.reverse ++ .ref b :: rest) (hW : 2 * g.monitorRoom + (rest.map fun v => v.category).sum ≤ W9) (hdg : decode c.code g.pc = .ok (.invokevirtual index, 3))
    (hpre : ∀ vm₁, s.WarmedH vm₁ → Pre ⟨T.setVm vm₁, locs, cells, slots⟩ (Value.ref b :: argsL).toArray) :
    (∃ (v : Option Value) (vm₁ : Vm) (B : Pt), s.WarmedH vm₁ ∧ Stand p l e R s m args below meth c B.U B.locs B.cells B.slots ∧ Post ⟨T.setVm vm₁, locs, cells, slots⟩ (Value.ref b :: argsL).toArray v B ∧
      ∀ target, Steps p.tables e below (B.U.setTop { g with pc := g.pc + 3, stack := v.toList ++ rest }) target → Steps p.tables e below (T.setTop g) target) ∨
    (∃ (q : Addr) (vm₁ : Vm) (B : Pt), s.WarmedH vm₁ ∧ Stand p l e R s m args below meth c B.U B.locs B.cells B.slots ∧ PostX ⟨T.setVm vm₁, locs, cells, slots⟩ (Value.ref b :: argsL).toArray q B ∧
      Steps p.tables e below (T.setTop g) ((B.U.setTop { g with stack := rest }).pushFrame (.throwing q))) := by
  obtain ⟨mk, methM, hnamed, hmethM, hstM, habM⟩ := Cond.instanceMethod_spec hinst
  obtain ⟨m8, methM', cM, hn8, hmethM', -, -, -, -, -, -, hsigM⟩ := Cond.codeWith_spec hcode
  cases Option.some.inj (hn8.symm.trans hnamed)
  cases hmethM.symm.trans hmethM'
  obtain ⟨c2, r2, m2, q1, q2, q3, q4, kP, hkP, hkPi⟩ := Cond.selects_spec hsel
  cases hcls.symm.trans q1
  cases (State.methodFound?_of_named hnamed hy).symm.trans q2
  cases hnamed.symm.trans q3
  have hselP : selectMethod e.platform s.vm cellB.cls mk = .method mk := by rw [Launch.admits_selectMethod X.admits]; exact q4
  obtain ⟨vm₁, X₁, hstep₁⟩ := X.invokevirtual hexec hown hlink hnamed hmethM hstM hkP hkPi hy (a := b) (cell := cellB) hcell
    (fun z h => by rw [h] at hobj; cases hobj) hselP hmethM habM hkP hkPi (g := g) hg (argsL := argsL) (rest := rest) (hlen _ hsigM) hstack hdg
  rcases hK m meth c ⟨T.setVm vm₁, locs, cells, slots⟩ { g with stack := rest } (.invokevirtual index) mk (Value.ref b :: argsL).toArray X₁ hg hsize hdg hW (X₁.named hnamed) (hpre vm₁ X₁.warmed) with ⟨v, B, X', hpost, hsteps⟩ | ⟨q, B, X', hpost, hsteps⟩
  · exact Or.inl ⟨v, vm₁, B, X₁.warmed, X', hpost, fun target h => hstep₁ _ fun acts => by rw [doInvoke_state]; exact hsteps.trans h⟩
  · exact Or.inr ⟨q, vm₁, B, X₁.warmed, X', hpost, hstep₁ _ fun acts => by rw [doInvoke_state]; exact hsteps⟩
theorem vx_callSX (X : Stand p l e R s m args below meth c T locs cells slots) (hexec : p.tables.exec = Jvm.exec) {own : String} {index : Nat} {y : MethodName} {bytes : ByteArray} {maxL : Nat} {ret : Option FieldType} {hh : List (Nat × Nat × Nat × Nat)}
    (hown : s.vm.findClass own = some m.cls) (hlink : (Cond.methodLink own index y).before args s = true) (hstat : (Cond.static y).before args s = true) (hinit : (Cond.initialized y.cls).before args s = true)
    (hcode : (Cond.codeWith y bytes maxL ret hh).before args s = true) (hy : y.cls ≠ "java/lang/invoke/MethodHandle" ∧ y.cls ≠ "java/lang/invoke/VarHandle")
    {W9 : Nat} {Pre : Pt → Array Value → Prop} {Post : Pt → Array Value → Option Value → Pt → Prop} {PostX : Pt → Array Value → Addr → Pt → Prop} (hK : vx_Back l R p e below s args y 3 W9 Pre Post PostX)
    {g : JFrame} (hg : g.method = m) (hsize : g.locals.size = c.maxLocals) {argsL rest : List Value} (hlen : ∀ sig, parseMethodDescriptor y.desc = some sig → argsL.length = sig.parameters.length)
    (hstack : g.stack = argsL.reverse ++ rest) (hW : 2 * g.monitorRoom + (rest.map fun v => v.category).sum ≤ W9) (hdg : decode c.code g.pc = .ok (.invokestatic index, 3))
    (hpre : ∀ vm₁, s.WarmedH vm₁ → Pre ⟨T.setVm vm₁, locs, cells, slots⟩ argsL.toArray) :
    (∃ (v : Option Value) (vm₁ : Vm) (B : Pt), s.WarmedH vm₁ ∧ Stand p l e R s m args below meth c B.U B.locs B.cells B.slots ∧ Post ⟨T.setVm vm₁, locs, cells, slots⟩ argsL.toArray v B ∧
      ∀ target, Steps p.tables e below (B.U.setTop { g with pc := g.pc + 3, stack := v.toList ++ rest }) target → Steps p.tables e below (T.setTop g) target) ∨
    (∃ (q : Addr) (vm₁ : Vm) (B : Pt), s.WarmedH vm₁ ∧ Stand p l e R s m args below meth c B.U B.locs B.cells B.slots ∧ PostX ⟨T.setVm vm₁, locs, cells, slots⟩ argsL.toArray q B ∧
      Steps p.tables e below (T.setTop g) ((B.U.setTop { g with stack := rest }).pushFrame (.throwing q))) := by
  obtain ⟨mk, methM, cM, hnamed, hmethM, -, -, -, -, -, -, hsigM⟩ := Cond.codeWith_spec hcode
  have hstatic : methM.isStatic = true := Cond.static_spec hnamed hmethM hstat
  obtain ⟨kP, hkP, -⟩ := className_of_methodNamed hnamed
  have hinitP : kP.init = .initialized := Cond.initialized_spec (findClass_of_methodNamed hnamed) hkP hinit
  obtain ⟨vm₁, X₁, hstep₁⟩ := X.invokestatic hexec hown hlink hnamed hmethM hstatic hkP hinitP hy (g := g) hg (argsL := argsL) (rest := rest) (hlen _ hsigM) hstack hdg
  rcases hK m meth c ⟨T.setVm vm₁, locs, cells, slots⟩ { g with stack := rest } (.invokestatic index) mk argsL.toArray X₁ hg hsize hdg hW (X₁.named hnamed) (hpre vm₁ X₁.warmed) with ⟨v, B, X', hpost, hsteps⟩ | ⟨q, B, X', hpost, hsteps⟩
  · exact Or.inl ⟨v, vm₁, B, X₁.warmed, X', hpost, fun target h => hstep₁ _ fun acts => by rw [doInvoke_state]; exact hsteps.trans h⟩
  · exact Or.inr ⟨q, vm₁, B, X₁.warmed, X', hpost, hstep₁ _ fun acts => by rw [doInvoke_state]; exact hsteps⟩
theorem vx_callVW (X : Stand p l e R s m args below meth c T locs cells slots) (hexec : p.tables.exec = Jvm.exec) {own C : String} {index : Nat} {y : MethodName} {bytes : ByteArray} {maxL : Nat} {ret : Option FieldType} {hh : List (Nat × Nat × Nat × Nat)}
    (hown : s.vm.findClass own = some m.cls) (hlink : (Cond.methodLink own index y).before args s = true) (hinst : (Cond.instanceMethod y).before args s = true) (hsel : (Cond.selects C y y).before args s = true)
    (hcode : (Cond.codeWith y bytes maxL ret hh).before args s = true) (hy : y.cls ≠ "java/lang/invoke/MethodHandle" ∧ y.cls ≠ "java/lang/invoke/VarHandle")
    {W9 : Nat} {Pre : Pt → Array Value → Prop} {Post : Pt → Array Value → Option Value → Pt → Prop} (hK : Back l R p e below s args y 3 W9 Pre Post)
    {b : Addr} {cellB : Cell} (hcell : T.heap[b]? = some cellB) (hobj : cellB.vm.isStatics = false) (hcls : s.vm.findClass C = some cellB.cls)
    {g : JFrame} (hg : g.method = m) (hsize : g.locals.size = c.maxLocals) {argsL rest : List Value} (hlen : ∀ sig, parseMethodDescriptor y.desc = some sig → argsL.length = sig.parameters.length)
    (hstack : g.stack = argsL.reverse ++ .ref b :: rest) (hW : 2 * g.monitorRoom + (rest.map fun v => v.category).sum ≤ W9) (hdg : decode c.code g.pc = .ok (.invokevirtual index, 3))
    (hpre : ∀ vm₁, s.WarmedH vm₁ → Pre ⟨T.setVm vm₁, locs, cells, slots⟩ (Value.ref b :: argsL).toArray) :
    ∃ (v : Option Value) (vm₁ : Vm) (B : Pt), s.WarmedH vm₁ ∧ Stand p l e R s m args below meth c B.U B.locs B.cells B.slots ∧ Post ⟨T.setVm vm₁, locs, cells, slots⟩ (Value.ref b :: argsL).toArray v B ∧
      ∀ target, Steps p.tables e below (B.U.setTop { g with pc := g.pc + 3, stack := v.toList ++ rest }) target → Steps p.tables e below (T.setTop g) target := by
  obtain ⟨mk, methM, hnamed, hmethM, hstM, habM⟩ := Cond.instanceMethod_spec hinst
  obtain ⟨m8, methM', cM, hn8, hmethM', -, -, -, -, -, -, hsigM⟩ := Cond.codeWith_spec hcode
  cases Option.some.inj (hn8.symm.trans hnamed)
  cases hmethM.symm.trans hmethM'
  obtain ⟨c2, r2, m2, q1, q2, q3, q4, kP, hkP, hkPi⟩ := Cond.selects_spec hsel
  cases hcls.symm.trans q1
  cases (State.methodFound?_of_named hnamed hy).symm.trans q2
  cases hnamed.symm.trans q3
  have hselP : selectMethod e.platform s.vm cellB.cls mk = .method mk := by rw [Launch.admits_selectMethod X.admits]; exact q4
  obtain ⟨vm₁, X₁, hstep₁⟩ := X.invokevirtual hexec hown hlink hnamed hmethM hstM hkP hkPi hy (a := b) (cell := cellB) hcell
    (fun z h => by rw [h] at hobj; cases hobj) hselP hmethM habM hkP hkPi (g := g) hg (argsL := argsL) (rest := rest) (hlen _ hsigM) hstack hdg
  obtain ⟨v, B, X', hpost, hsteps⟩ := hK m meth c ⟨T.setVm vm₁, locs, cells, slots⟩ { g with stack := rest } (.invokevirtual index) mk (Value.ref b :: argsL).toArray X₁ hg hsize hdg hW (X₁.named hnamed) (hpre vm₁ X₁.warmed)
  exact ⟨v, vm₁, B, X₁.warmed, X', hpost, fun target h => hstep₁ _ fun acts => by rw [doInvoke_state]; exact hsteps.trans h⟩
abbrev vx_CVW (R : Room) (s : State) (args : Array Value) (own C : String) (index : Nat) (y : MethodName) (bytes : ByteArray) (maxL : Nat) (ret : Option FieldType) (hh : List (Nat × Nat × Nat × Nat)) (ws : List Cond) (rm : Room) (mc ms n : Nat) : Prop :=
  (rm.cells = mc ∧ rm.slots = ms ∧ rm.frames + 1 ≤ R.frames ∧ 8 + (maxL + 11) + rm.locals ≤ R.locals ∧ (∀ w ∈ ws, ∀ (a' : Array Value) (U : State), s.WarmedH U.vm → w.before a' U = true) ∧ Cond.codeWith y bytes maxL ret hh ∈ ws) ∧
  (Cond.codeWith y bytes maxL ret hh).before args s = true ∧ (Cond.initialized y.cls).before args s = true ∧ (y.cls ≠ "java/lang/invoke/MethodHandle" ∧ y.cls ≠ "java/lang/invoke/VarHandle") ∧
  (∀ sig, parseMethodDescriptor y.desc = some sig → n = sig.parameters.length) ∧ (Cond.methodLink own index y).before args s = true ∧ (Cond.instanceMethod y).before args s = true ∧ (Cond.selects C y y).before args s = true
theorem vx_cwVW {own C : String} {index maxL mc ms : Nat} {y : MethodName} {bytes : ByteArray} {ret : Option FieldType} {hh : List (Nat × Nat × Nat × Nat)} {Ts ws ws' : List Cond} {rm : Room} (n : Nat) (ht : ∀ w ∈ Ts, w.before args s = true) (hT : GoodIn Ts (wsV own index C y ws)) (hw : ws = Cond.codeWith y bytes maxL ret hh :: ws') (hrc : rm.cells = mc) (hrs : rm.slots = ms)
    (hd : y.cls = C ∧ y.cls ≠ "java/lang/invoke/MethodHandle" ∧ y.cls ≠ "java/lang/invoke/VarHandle" ∧ (parseMethodDescriptor y.desc).map (fun d => d.parameters.length) = some n) (hR : rm.frames + 1 ≤ R.frames ∧ 8 + (maxL + 11) + rm.locals ≤ R.locals) :
    vx_CVW R s args own C index y bytes maxL ret hh ws rm mc ms n := by
  obtain ⟨hC, hd⟩ := hd
  subst hC
  have ok : ∀ w ∈ wsV own index y.cls y ws, w.before args s = true := fun w h => ht w (hT w h).1
  have hG : GoodIn Ts ws := fun w h => hT w (by unfold wsV; exact List.mem_append_right _ h)
  have hc : Cond.codeWith y bytes maxL ret hh ∈ ws := by rw [hw]; exact List.mem_cons_self
  refine ⟨⟨hrc, hrs, hR.1, hR.2, pay_in ht hG, hc⟩, ht _ (hG _ hc).1, ok _ (by simp [wsV]), ⟨hd.1, hd.2.1⟩, fun sig h => ?_, ok _ (by simp [wsV]), ok _ (by simp [wsV]), ok _ (by simp [wsV])⟩
  have h2 := hd.2.2
  rw [h] at h2
  exact (Option.some.inj h2).symm
theorem vx_runVW {y : MethodName} {bytes cc : ByteArray} {maxL nL mc ms n index : Nat} {ret : Option FieldType} {hh : List (Nat × Nat × Nat × Nat)} {ws : List Cond} {rm : Room} {Pc : Array Value → State → Prop} {Qc : Array Value → State → Outcome → State → Prop} {free : Addr → Prop} {Ts : List Cond} {own C : String} {b : Addr} {As rest : List Value} {g : JFrame}
    (S : CallFix p m c cc nL s args Ts own) (hM : Met l y ws rm Pc Qc mc ms free) (cw : vx_CVW R s args own C index y bytes maxL ret hh ws rm mc ms n) (hp : PreV s H C b Pc As)
    (hg : g.method = m) (hn : As.length = n) (hsize : g.locals.size = nL) (hstack : g.stack = As.reverse ++ .ref b :: rest) (hW : 2 * g.monitorRoom + (rest.map fun v => v.category).sum ≤ 8) (hdg : decode cc g.pc = .ok (.invokevirtual index, 3)) (hf : cells + mc ≤ R.cells ∧ slots + ms ≤ R.slots) :
    va_Run p l e R s m args below meth c H locs cells slots mc ms g rest (Qc (Value.ref b :: As).toArray) free := by
  obtain ⟨⟨hrc, hrs, hfr, hlo, hws, hcw⟩, hcode, hini, hy, hlen, hl, hin, hse⟩ := cw
  have hK : Back l R p e below s args y 3 8 (PreOf R mc ms Pc) (PostOf Qc mc ms free) := va_backW (hh := hh) (bytes := bytes) (maxL := maxL) (ret := ret) hM hp.1 hrc hrs hfr hlo hws hcw (fun a' U hW => word_at hW (Or.inl (by first | rfl | simp [Cond.onTables, Cond.keeps, Cond.steady])) hini)
  obtain ⟨hx, hb, hml, ho, -⟩ := S
  obtain ⟨-, ⟨cellB, hcB, hoB, hclB⟩, hPc⟩ := hp
  intro T hT X
  obtain ⟨v, vm₁, ⟨U', l2, c2, s2⟩, hW₁, X', ⟨g', mk, t, L, e1, e2, hq, h1, hL, h2, h3⟩, st⟩ := vx_callVW X hx (C := C) (hh := hh) (bytes := bytes) (maxL := maxL) (ret := ret) ho hl hin hse hcode hy hK (by rw [hT]; exact hcB) hoB hclB hg (hsize.trans hml.symm) (argsL := As) (rest := rest) (fun sig h => hn.trans (hlen sig h)) hstack hW (by rw [hb]; exact hdg)
    (fun vm₁ hW₁ => ⟨hf.1, hf.2, hPc (T.setVm vm₁) hT hW₁⟩)
  dsimp only [Pt.U, Pt.locs, Pt.cells, Pt.slots] at X' e1 e2 h1 h2 h3 st
  subst h1; subst h2; subst h3
  exact ⟨v, (T.setVm vm₁).calling g' mk (Value.ref b :: As).toArray, t, U', L, hT, X', hL, e1, e2, hq, st⟩
section
variable {y : MethodName} {bytes cc : ByteArray} {maxL nL mc ms n index : Nat} {ret : Option FieldType} {ws : List Cond} {rm : Room} {Pc : Array Value → State → Prop} {Qc : Array Value → State → Outcome → State → Prop} {XC : String → State → State → Prop} {free : Addr → Prop} {Ts : List Cond} {own C : String} {b : Addr} {As rest : List Value} {g : JFrame}
theorem vx_runVX {hh : List (Nat × Nat × Nat × Nat)} (S : CallFix p m c cc nL s args Ts own) (hM : vx_Met l y ws rm Pc Qc XC mc ms free) (cw : vx_CVW R s args own C index y bytes maxL ret hh ws rm mc ms n) (hp : PreV s H C b Pc As)
    (hg : g.method = m) (hn : As.length = n) (hsize : g.locals.size = nL) (hstack : g.stack = As.reverse ++ .ref b :: rest) (hW : 2 * g.monitorRoom + (rest.map fun v => v.category).sum ≤ 8) (hdg : decode cc g.pc = .ok (.invokevirtual index, 3)) (hf : cells + mc ≤ R.cells ∧ slots + ms ≤ R.slots) :
    vx_Run p l e R s m args below meth c H locs cells slots mc ms g rest (Qc (Value.ref b :: As).toArray) XC free := by
  obtain ⟨⟨hrc, hrs, hfr, hlo, hws, hcw⟩, hcode, hini, hy, hlen, hl, hin, hse⟩ := cw
  have hK : vx_Back l R p e below s args y 3 8 (PreOf R mc ms Pc) (PostOf Qc mc ms free) (vx_Post XC mc ms free) := vx_backW (hh := hh) (bytes := bytes) (maxL := maxL) (ret := ret) hM hp.1 hrc hrs hfr hlo hws hcw (fun a' U hW => word_at hW (Or.inl (by first | rfl | simp [Cond.onTables, Cond.keeps, Cond.steady])) hini)
  obtain ⟨hx, hb, hml, ho, -⟩ := S
  obtain ⟨-, ⟨cellB, hcB, hoB, hclB⟩, hPc⟩ := hp
  intro T hT X
  rcases vx_callVX X hx (C := C) (hh := hh) (bytes := bytes) (maxL := maxL) (ret := ret) ho hl hin hse hcode hy hK (by rw [hT]; exact hcB) hoB hclB hg (hsize.trans hml.symm) (argsL := As) (rest := rest) (fun sig h => hn.trans (hlen sig h)) hstack hW (by rw [hb]; exact hdg)
    (fun vm₁ hW₁ => ⟨hf.1, hf.2, hPc (T.setVm vm₁) hT hW₁⟩) with ⟨v, vm₁, ⟨U', l2, c2, s2⟩, hW₁, X', ⟨g', mk, t, L, e1, e2, hq, h1, hL, h2, h3⟩, st⟩ | ⟨q, vm₁, ⟨U', l2, c2, s2⟩, hW₁, X', ⟨g', mk, t, L, E, ce, e1, e2, hq, hce, hcv, hcl, h1, hL, h2, h3⟩, st⟩
  · dsimp only [Pt.U, Pt.locs, Pt.cells, Pt.slots] at X' e1 e2 h1 h2 h3 st
    subst h1; subst h2; subst h3
    exact Or.inl ⟨v, (T.setVm vm₁).calling g' mk (Value.ref b :: As).toArray, t, U', L, hT, X', hL, e1, e2, hq, st⟩
  · dsimp only [Pt.U, Pt.locs, Pt.cells, Pt.slots] at X' e1 e2 h1 h2 h3 st hcl
    subst h1; subst h2; subst h3
    exact Or.inr ⟨q, (T.setVm vm₁).calling g' mk (Value.ref b :: As).toArray, t, U', L, E, ce, hT, X', hL, e1, e2, hq, hce, hcv, vx_cls hW₁ hcl, st⟩
theorem vx_runSX {hh : List (Nat × Nat × Nat × Nat)} (S : CallFix p m c cc nL s args Ts own) (hM : vx_Met l y ws rm Pc Qc XC mc ms free) (cw : vx_CSW R s args own index y bytes maxL ret hh ws rm mc ms n) (hp : PreS s H Pc As)
    (hg : g.method = m) (hn : As.length = n) (hsize : g.locals.size = nL) (hstack : g.stack = As.reverse ++ rest) (hW : 2 * g.monitorRoom + (rest.map fun v => v.category).sum ≤ 8) (hdg : decode cc g.pc = .ok (.invokestatic index, 3)) (hf : cells + mc ≤ R.cells ∧ slots + ms ≤ R.slots) :
    vx_Run p l e R s m args below meth c H locs cells slots mc ms g rest (Qc As.toArray) XC free := by
  obtain ⟨⟨hrc, hrs, hfr, hlo, hws, hcw⟩, hcode, hini, hy, hlen, hl, hstt⟩ := cw
  have hK : vx_Back l R p e below s args y 3 8 (PreOf R mc ms Pc) (PostOf Qc mc ms free) (vx_Post XC mc ms free) := vx_backW (hh := hh) (bytes := bytes) (maxL := maxL) (ret := ret) hM hp.1 hrc hrs hfr hlo hws hcw (fun a' U hW => word_at hW (Or.inl (by first | rfl | simp [Cond.onTables, Cond.keeps, Cond.steady])) hini)
  obtain ⟨hx, hb, hml, ho, -⟩ := S
  intro T hT X
  rcases vx_callSX X hx (hh := hh) (bytes := bytes) (maxL := maxL) (ret := ret) ho hl hstt hini hcode hy hK hg (hsize.trans hml.symm) (argsL := As) (rest := rest) (fun sig h => hn.trans (hlen sig h)) hstack hW (by rw [hb]; exact hdg)
    (fun vm₁ hW₁ => ⟨hf.1, hf.2, hp.2 (T.setVm vm₁) hT hW₁⟩) with ⟨v, vm₁, ⟨U', l2, c2, s2⟩, hW₁, X', ⟨g', mk, t, L, e1, e2, hq, h1, hL, h2, h3⟩, st⟩ | ⟨q, vm₁, ⟨U', l2, c2, s2⟩, hW₁, X', ⟨g', mk, t, L, E, ce, e1, e2, hq, hce, hcv, hcl, h1, hL, h2, h3⟩, st⟩
  · dsimp only [Pt.U, Pt.locs, Pt.cells, Pt.slots] at X' e1 e2 h1 h2 h3 st
    subst h1; subst h2; subst h3
    exact Or.inl ⟨v, (T.setVm vm₁).calling g' mk As.toArray, t, U', L, hT, X', hL, e1, e2, hq, st⟩
  · dsimp only [Pt.U, Pt.locs, Pt.cells, Pt.slots] at X' e1 e2 h1 h2 h3 st hcl
    subst h1; subst h2; subst h3
    exact Or.inr ⟨q, (T.setVm vm₁).calling g' mk As.toArray, t, U', L, E, ce, hT, X', hL, e1, e2, hq, hce, hcv, vx_cls hW₁ hcl, st⟩
end
end VXH
theorem vx_ofWH {l : Launch} {y : MethodName} {ws ws' : List Cond} {rm : Room} {Pc : Array Value → State → Prop} {Qc : Array Value → State → Outcome → State → Prop} {XC : String → State → State → Prop} {mc ms : Nat} {free : Addr → Prop} {cc : ByteArray} {maxL : Nat} {ret : Option FieldType} {hh : List (Nat × Nat × Nat × Nat)}
    (hy : plainName y.cls = true) (hw : ws = Cond.codeWith y cc maxL ret hh :: ws')
    (body : ∀ p e s m args below meth c s₁, BodyLoose p l y (headSpec ws rm) cc maxL ret e s m args below meth c s₁ → c.maxLocals = maxL → Pc args s →
      W p l e (headSpec ws rm).room s m args below meth c s.heap [] 0 0 (vx_MQ below Qc XC args s mc ms free) (entryFrame m args maxL)) : vx_Met l y ws rm Pc Qc XC mc ms free := by
  refine MetFree.of_bodyS (code := cc) (maxLocals := maxL) (ret := ret) hy ?_ ?_
  · intro args s m h hn
    obtain ⟨m9, meth, c, hn9, h1, h2, h3, h4, -, h5, h6, -⟩ := Cond.codeWith_spec (atoms_spec (ws := ws) h _ (by rw [hw]; exact List.mem_cons_self))
    cases hn.symm.trans hn9
    exact ⟨meth, c, h1, h2, h3, h4, h5, h6⟩
  · intro p e s m args below meth c s₁ B hml hP _
    have hh0 : s₁.heap = s.heap := by rw [B.state]; rfl
    obtain ⟨t, a1, o, b1, b2, b3⟩ := body p e s m args below meth c s₁ B hml hP s₁ hh0 (Stand.of_body B)
    exact ⟨t, o, a1, b1, b2, b3⟩
/-! ===== END ===== -/
end
section
/-- the words of the tables that a call's warming leaves -/
def lc_big : List Cond := lw_tbl.filter goodWord
theorem lc_bigI {w : Cond} {i : Nat} (h : lw_tbl[i]? = some w) (g : goodWord w = true) : w ∈ lc_big := List.mem_filter.mpr ⟨List.mem_of_getElem? h, g⟩
theorem lc_bigL {L : List Cond} (h : ∀ w ∈ L, w ∈ lw_tbl) (g : ∀ w ∈ L, goodWord w = true) : ∀ w ∈ L, w ∈ lc_big := fun w hw => List.mem_filter.mpr ⟨h w hw, g w hw⟩
theorem lc_bigF {L : List Cond} (h : ∀ w ∈ L.filter goodWord, w ∈ lw_tbl) : ∀ w ∈ L.filter goodWord, w ∈ lc_big := fun w hw => List.mem_filter.mpr ⟨h w hw, (List.mem_filter.mp hw).2⟩
theorem lc_gW {h : Cond} {ws : List Cond} (h1 : ∀ w ∈ ws, w ∈ lc_big) : GoodIn (h :: lc_big) ws := fun w hw => ⟨List.mem_cons_of_mem _ (h1 w hw), good_of_word (List.mem_filter.mp (h1 w hw)).2⟩
theorem lc_gI {h cw : Cond} (a5 : cw ∈ lc_big) : GoodIn (h :: lc_big) (cw :: lc_big) := lc_gW fun w hw => (List.mem_cons.mp hw).elim (fun e => by rw [e]; exact a5) (fun h => h)
theorem lc_g4 {a b c d cw : Cond} (a1 : a ∈ lc_big) (a2 : b ∈ lc_big) (a3 : c ∈ lc_big) (a4 : d ∈ lc_big) (a5 : cw ∈ lc_big) : ∀ w ∈ [a, b, c, d] ++ (cw :: lc_big), w ∈ lc_big := by
  intro w hw
  simp only [List.cons_append, List.nil_append, List.mem_cons] at hw
  rcases hw with rfl | rfl | rfl | rfl | rfl | hw <;> assumption
theorem lc_g3 {a b c cw : Cond} (a1 : a ∈ lc_big) (a2 : b ∈ lc_big) (a3 : c ∈ lc_big) (a5 : cw ∈ lc_big) : ∀ w ∈ [a, b, c] ++ (cw :: lc_big), w ∈ lc_big := by
  intro w hw
  simp only [List.cons_append, List.nil_append, List.mem_cons] at hw
  rcases hw with rfl | rfl | rfl | rfl | hw <;> assumption
theorem lc_gV {h cw : Cond} {own C : String} {idx : Nat} {y : MethodName} (a1 : Cond.methodLink own idx y ∈ lc_big) (a2 : Cond.instanceMethod y ∈ lc_big) (a3 : Cond.selects C y y ∈ lc_big) (a4 : Cond.initialized C ∈ lc_big) (a5 : cw ∈ lc_big) : GoodIn (h :: lc_big) (wsV own idx C y (cw :: lc_big)) := lc_gW (lc_g4 a1 a2 a3 a4 a5)
theorem lc_gS {h cw : Cond} {own : String} {idx : Nat} {y : MethodName} (a1 : Cond.methodLink own idx y ∈ lc_big) (a2 : Cond.static y ∈ lc_big) (a3 : Cond.initialized own ∈ lc_big) (a5 : cw ∈ lc_big) : GoodIn (h :: lc_big) (wsS own idx y (cw :: lc_big)) := lc_gW (lc_g3 a1 a2 a3 a5)
theorem lc_gT {h cw : Cond} {own : String} {idx : Nat} {y : MethodName} (a1 : Cond.methodLink own idx y ∈ lc_big) (a2 : Cond.static y ∈ lc_big) (a3 : Cond.initialized y.cls ∈ lc_big) (a5 : cw ∈ lc_big) : GoodIn (h :: lc_big) (va_wsS own idx y (cw :: lc_big)) := lc_gW (lc_g3 a1 a2 a3 a5)
abbrev RX0 : String := "LineChunks"
def TX0 : u_T := fun k => match k with
  | 0 => ("LineChunks", "elements", "[I", false)
  | 1 => ("LineChunks", "count", "I", false)
  | _ => ("LineChunks", "lineEnds", "I", false)
def tyX0 : Nat → FieldType := fun k => match k with
  | 0 => .array .int
  | 1 => .int
  | _ => .int
theorem nmX0 : ∀ a, a < 3 → ∀ b, b < 3 → a ≠ b → (TX0 a).2.1 ≠ (TX0 b).2.1 := by decide +kernel
theorem tyX0_ok : ∀ k, k < 3 → parseFieldDescriptor (TX0 k).2.2.1 = some (tyX0 k) := by decide +kernel
abbrev RX1 : String := "LineChunksModel"
def TX1 : u_T := fun k => match k with
  | 0 => ("LineChunksModel", "row", "[I", true)
  | 1 => ("LineChunksModel", "many", "I", false)
  | _ => ("LineChunksModel", "thrown", "I", false)
def tyX1 : Nat → FieldType := fun k => match k with
  | 0 => .array .int
  | 1 => .int
  | _ => .int
theorem nmX1 : ∀ a, a < 3 → ∀ b, b < 3 → a ≠ b → (TX1 a).2.1 ≠ (TX1 b).2.1 := by decide +kernel
theorem tyX1_ok : ∀ k, k < 3 → parseFieldDescriptor (TX1 k).2.2.1 = some (tyX1 k) := by decide +kernel
abbrev RL : String := "LineChunksLaw"
abbrev RJ : String := "java/util/Arrays"
abbrev vwCl : List vw_C := [(RX0, TX0, 3), (RX1, TX1, 3)]
theorem lb_X0 : ∀ w ∈ u_ws RX0 TX0 3, w ∈ lc_big := lc_bigL (by decide +kernel) (by decide +kernel)
theorem lb_X1 : ∀ w ∈ u_ws RX1 TX1 3, w ∈ lc_big := lc_bigL (by decide +kernel) (by decide +kernel)
theorem lb_at_X0_22 : ∀ w ∈ (vx_at0 RX0 22 "java/lang/IllegalArgumentException" ["java/lang/RuntimeException", "java/lang/Exception"]).filter goodWord, w ∈ lc_big := lc_bigF (by decide +kernel)
theorem lb_at_X0_25 : ∀ w ∈ (vx_at0 RX0 25 "java/lang/IllegalStateException" ["java/lang/RuntimeException", "java/lang/Exception"]).filter goodWord, w ∈ lc_big := lc_bigF (by decide +kernel)
theorem lb_at_X0_44 : ∀ w ∈ (vx_at0 RX0 44 "java/util/NoSuchElementException" ["java/lang/RuntimeException", "java/lang/Exception"]).filter goodWord, w ∈ lc_big := lc_bigF (by decide +kernel)
theorem lb_at_X1_15 : ∀ w ∈ (vx_at0 RX1 15 "java/lang/IllegalArgumentException" ["java/lang/RuntimeException", "java/lang/Exception"]).filter goodWord, w ∈ lc_big := lc_bigF (by decide +kernel)
theorem lb_at_X1_26 : ∀ w ∈ (vx_at0 RX1 26 "java/lang/IllegalStateException" ["java/lang/RuntimeException", "java/lang/Exception"]).filter goodWord, w ∈ lc_big := lc_bigF (by decide +kernel)
theorem lb_at_X1_29 : ∀ w ∈ (vx_at0 RX1 29 "java/util/NoSuchElementException" ["java/lang/RuntimeException", "java/lang/Exception"]).filter goodWord, w ∈ lc_big := lc_bigF (by decide +kernel)
abbrev cX0_init : ByteArray := prog_1_method_1_code
abbrev yX0_init : MethodName := ⟨"LineChunks", "<init>", "()V"⟩
abbrev wsX0_init : List Cond := Cond.code yX0_init cX0_init 1 none :: lc_big
abbrev cX0_length : ByteArray := prog_1_method_5_code
abbrev yX0_length : MethodName := ⟨"LineChunks", "length", "()I"⟩
abbrev wsX0_length : List Cond := Cond.code yX0_length cX0_length 1 (some .int) :: lc_big
abbrev cX0_lines : ByteArray := prog_1_method_6_code
abbrev yX0_lines : MethodName := ⟨"LineChunks", "lines", "()I"⟩
abbrev wsX0_lines : List Cond := Cond.code yX0_lines cX0_lines 1 (some .int) :: lc_big
abbrev cX0_digest : ByteArray := prog_1_method_9_code
abbrev yX0_digest : MethodName := ⟨"LineChunks", "digest", "()I"⟩
abbrev wsX0_digest : List Cond := Cond.code yX0_digest cX0_digest 3 (some .int) :: lc_big
abbrev cL_insert : ByteArray := method_3_code
abbrev yL_insert : MethodName := ⟨"LineChunksLaw", "insert", "(LLineChunks;IIII[J)I"⟩
abbrev wsL_insert : List Cond := Cond.codeWith yL_insert cL_insert 7 (some .int) [(0, 14, 17, 13), (0, 14, 21, 15)] :: lc_big
abbrev cX0_insert : ByteArray := prog_1_method_2_code
abbrev yX0_insert : MethodName := ⟨"LineChunks", "insert", "(IIII)I"⟩
abbrev wsX0_insert : List Cond := Cond.code yX0_insert cX0_insert 5 (some .int) :: lc_big
abbrev cX0_makeRoomFor : ByteArray := prog_1_method_10_code
abbrev yX0_makeRoomFor : MethodName := ⟨"LineChunks", "makeRoomFor", "(I)V"⟩
abbrev wsX0_makeRoomFor : List Cond := Cond.code yX0_makeRoomFor cX0_makeRoomFor 3 none :: lc_big
abbrev cJ_copyOf : ByteArray := prog_12_method_123_code
abbrev yJ_copyOf : MethodName := ⟨"java/util/Arrays", "copyOf", "([II)[I"⟩
abbrev wsJ_copyOf : List Cond := Cond.code yJ_copyOf cJ_copyOf 3 (some (.array .int)) :: lc_big
abbrev cX0_moveTail : ByteArray := prog_1_method_11_code
abbrev yX0_moveTail : MethodName := ⟨"LineChunks", "moveTail", "(II)V"⟩
abbrev wsX0_moveTail : List Cond := Cond.code yX0_moveTail cX0_moveTail 3 none :: lc_big
abbrev cX0_fill : ByteArray := prog_1_method_12_code
abbrev yX0_fill : MethodName := ⟨"LineChunks", "fill", "(IIII)V"⟩
abbrev wsX0_fill : List Cond := Cond.code yX0_fill cX0_fill 7 none :: lc_big
abbrev cX0_lineEndsIn : ByteArray := prog_1_method_13_code
abbrev yX0_lineEndsIn : MethodName := ⟨"LineChunks", "lineEndsIn", "(II)I"⟩
abbrev wsX0_lineEndsIn : List Cond := Cond.code yX0_lineEndsIn cX0_lineEndsIn 5 (some .int) :: lc_big
abbrev cL_delete : ByteArray := method_4_code
abbrev yL_delete : MethodName := ⟨"LineChunksLaw", "delete", "(LLineChunks;II[J)I"⟩
abbrev wsL_delete : List Cond := Cond.codeWith yL_delete cL_delete 5 (some .int) [(0, 10, 13, 13)] :: lc_big
abbrev cX0_delete : ByteArray := prog_1_method_3_code
abbrev yX0_delete : MethodName := ⟨"LineChunks", "delete", "(II)I"⟩
abbrev wsX0_delete : List Cond := Cond.code yX0_delete cX0_delete 3 (some .int) :: lc_big
abbrev cL_get : ByteArray := method_5_code
abbrev yL_get : MethodName := ⟨"LineChunksLaw", "get", "(LLineChunks;I[J)I"⟩
abbrev wsL_get : List Cond := Cond.codeWith yL_get cL_get 4 (some .int) [(0, 9, 12, 25)] :: lc_big
abbrev cX0_get : ByteArray := prog_1_method_4_code
abbrev yX0_get : MethodName := ⟨"LineChunks", "get", "(I)I"⟩
abbrev wsX0_get : List Cond := Cond.code yX0_get cX0_get 2 (some .int) :: lc_big
abbrev cL_line : ByteArray := method_6_code
abbrev yL_line : MethodName := ⟨"LineChunksLaw", "line", "(LLineChunks;I[J)I"⟩
abbrev wsL_line : List Cond := Cond.codeWith yL_line cL_line 4 (some .int) [(0, 9, 12, 25)] :: lc_big
abbrev cX0_line : ByteArray := prog_1_method_7_code
abbrev yX0_line : MethodName := ⟨"LineChunks", "line", "(I)I"⟩
abbrev wsX0_line : List Cond := Cond.code yX0_line cX0_line 2 (some .int) :: lc_big
abbrev cX0_indexBehindLineEnds : ByteArray := prog_1_method_14_code
abbrev yX0_indexBehindLineEnds : MethodName := ⟨"LineChunks", "indexBehindLineEnds", "(I)I"⟩
abbrev wsX0_indexBehindLineEnds : List Cond := Cond.code yX0_indexBehindLineEnds cX0_indexBehindLineEnds 4 (some .int) :: lc_big
abbrev cL_lineOf : ByteArray := method_7_code
abbrev yL_lineOf : MethodName := ⟨"LineChunksLaw", "lineOf", "(LLineChunks;I[J)I"⟩
abbrev wsL_lineOf : List Cond := Cond.codeWith yL_lineOf cL_lineOf 4 (some .int) [(0, 9, 12, 13)] :: lc_big
abbrev cX0_lineOf : ByteArray := prog_1_method_8_code
abbrev yX0_lineOf : MethodName := ⟨"LineChunks", "lineOf", "(I)I"⟩
abbrev wsX0_lineOf : List Cond := Cond.code yX0_lineOf cX0_lineOf 2 (some .int) :: lc_big
abbrev cX1_init : ByteArray := prog_3_method_1_code
abbrev yX1_init : MethodName := ⟨"LineChunksModel", "<init>", "()V"⟩
abbrev wsX1_init : List Cond := Cond.code yX1_init cX1_init 1 none :: lc_big
abbrev cX1_thrown : ByteArray := prog_3_method_12_code
abbrev yX1_thrown : MethodName := ⟨"LineChunksModel", "thrown", "()I"⟩
abbrev wsX1_thrown : List Cond := Cond.code yX1_thrown cX1_thrown 1 (some .int) :: lc_big
abbrev cX1_insert : ByteArray := prog_3_method_13_code
abbrev yX1_insert : MethodName := ⟨"LineChunksModel", "insert", "(IIII)I"⟩
abbrev wsX1_insert : List Cond := Cond.codeWith yX1_insert cX1_insert 6 (some .int) [(5, 14, 15, 13), (5, 14, 25, 24)] :: lc_big
abbrev cX1_insert0 : ByteArray := prog_3_method_3_code
abbrev yX1_insert0 : MethodName := ⟨"LineChunksModel", "insert0", "(IIII)I"⟩
abbrev wsX1_insert0 : List Cond := Cond.code yX1_insert0 cX1_insert0 6 (some .int) :: lc_big
abbrev cX1_check : ByteArray := prog_3_method_2_code
abbrev yX1_check : MethodName := ⟨"LineChunksModel", "check", "(Z)V"⟩
abbrev wsX1_check : List Cond := Cond.code yX1_check cX1_check 1 none :: lc_big
abbrev cX1_delete : ByteArray := prog_3_method_14_code
abbrev yX1_delete : MethodName := ⟨"LineChunksModel", "delete", "(II)I"⟩
abbrev wsX1_delete : List Cond := Cond.codeWith yX1_delete cX1_delete 4 (some .int) [(5, 11, 12, 13)] :: lc_big
abbrev cX1_delete0 : ByteArray := prog_3_method_4_code
abbrev yX1_delete0 : MethodName := ⟨"LineChunksModel", "delete0", "(II)I"⟩
abbrev wsX1_delete0 : List Cond := Cond.code yX1_delete0 cX1_delete0 4 (some .int) :: lc_big
abbrev cX1_get : ByteArray := prog_3_method_15_code
abbrev yX1_get : MethodName := ⟨"LineChunksModel", "get", "(I)I"⟩
abbrev wsX1_get : List Cond := Cond.codeWith yX1_get cX1_get 3 (some .int) [(5, 10, 11, 27)] :: lc_big
abbrev cX1_get0 : ByteArray := prog_3_method_5_code
abbrev yX1_get0 : MethodName := ⟨"LineChunksModel", "get0", "(I)I"⟩
abbrev wsX1_get0 : List Cond := Cond.code yX1_get0 cX1_get0 2 (some .int) :: lc_big
abbrev cX1_length : ByteArray := prog_3_method_16_code
abbrev yX1_length : MethodName := ⟨"LineChunksModel", "length", "()I"⟩
abbrev wsX1_length : List Cond := Cond.code yX1_length cX1_length 1 (some .int) :: lc_big
abbrev cX1_length0 : ByteArray := prog_3_method_6_code
abbrev yX1_length0 : MethodName := ⟨"LineChunksModel", "length0", "()I"⟩
abbrev wsX1_length0 : List Cond := Cond.code yX1_length0 cX1_length0 1 (some .int) :: lc_big
abbrev cX1_lines : ByteArray := prog_3_method_17_code
abbrev yX1_lines : MethodName := ⟨"LineChunksModel", "lines", "()I"⟩
abbrev wsX1_lines : List Cond := Cond.code yX1_lines cX1_lines 1 (some .int) :: lc_big
abbrev cX1_lines0 : ByteArray := prog_3_method_8_code
abbrev yX1_lines0 : MethodName := ⟨"LineChunksModel", "lines0", "()I"⟩
abbrev wsX1_lines0 : List Cond := Cond.code yX1_lines0 cX1_lines0 1 (some .int) :: lc_big
abbrev cX1_endsBefore : ByteArray := prog_3_method_7_code
abbrev yX1_endsBefore : MethodName := ⟨"LineChunksModel", "endsBefore", "(I)I"⟩
abbrev wsX1_endsBefore : List Cond := Cond.code yX1_endsBefore cX1_endsBefore 4 (some .int) :: lc_big
abbrev cX1_line : ByteArray := prog_3_method_18_code
abbrev yX1_line : MethodName := ⟨"LineChunksModel", "line", "(I)I"⟩
abbrev wsX1_line : List Cond := Cond.codeWith yX1_line cX1_line 3 (some .int) [(5, 10, 11, 27)] :: lc_big
abbrev cX1_line0 : ByteArray := prog_3_method_9_code
abbrev yX1_line0 : MethodName := ⟨"LineChunksModel", "line0", "(I)I"⟩
abbrev wsX1_line0 : List Cond := Cond.code yX1_line0 cX1_line0 3 (some .int) :: lc_big
abbrev cX1_lineOf : ByteArray := prog_3_method_19_code
abbrev yX1_lineOf : MethodName := ⟨"LineChunksModel", "lineOf", "(I)I"⟩
abbrev wsX1_lineOf : List Cond := Cond.codeWith yX1_lineOf cX1_lineOf 3 (some .int) [(5, 10, 11, 13)] :: lc_big
abbrev cX1_lineOf0 : ByteArray := prog_3_method_10_code
abbrev yX1_lineOf0 : MethodName := ⟨"LineChunksModel", "lineOf0", "(I)I"⟩
abbrev wsX1_lineOf0 : List Cond := Cond.code yX1_lineOf0 cX1_lineOf0 2 (some .int) :: lc_big
abbrev cX1_digest : ByteArray := prog_3_method_20_code
abbrev yX1_digest : MethodName := ⟨"LineChunksModel", "digest", "()I"⟩
abbrev wsX1_digest : List Cond := Cond.code yX1_digest cX1_digest 1 (some .int) :: lc_big
abbrev cX1_digest0 : ByteArray := prog_3_method_11_code
abbrev yX1_digest0 : MethodName := ⟨"LineChunksModel", "digest0", "()I"⟩
abbrev wsX1_digest0 : List Cond := Cond.code yX1_digest0 cX1_digest0 3 (some .int) :: lc_big
abbrev cL_law : ByteArray := code
abbrev wsL_law : List Cond := Cond.initialized "LineChunksLaw" :: lc_big
theorem lc_lawin : ∀ w ∈ wsL_law, w ∈ lw_tbl := fun w h => (List.mem_cons.mp h).elim (fun e => by rw [e]; exact List.mem_of_getElem? (i := 15) (by decide +kernel)) (fun h => (List.mem_filter.mp h).1)
theorem lb_1 : Cond.selects "LineChunks" ⟨"LineChunks", "makeRoomFor", "(I)V"⟩ ⟨"LineChunks", "makeRoomFor", "(I)V"⟩ ∈ lc_big := lc_bigI (i := 1) (by decide +kernel) rfl
theorem lb_2 : Cond.selects "LineChunks" ⟨"LineChunks", "moveTail", "(II)V"⟩ ⟨"LineChunks", "moveTail", "(II)V"⟩ ∈ lc_big := lc_bigI (i := 2) (by decide +kernel) rfl
theorem lb_3 : Cond.selects "LineChunks" ⟨"LineChunks", "fill", "(IIII)V"⟩ ⟨"LineChunks", "fill", "(IIII)V"⟩ ∈ lc_big := lc_bigI (i := 3) (by decide +kernel) rfl
theorem lb_4 : Cond.selects "LineChunks" ⟨"LineChunks", "lineEndsIn", "(II)I"⟩ ⟨"LineChunks", "lineEndsIn", "(II)I"⟩ ∈ lc_big := lc_bigI (i := 4) (by decide +kernel) rfl
theorem lb_5 : Cond.selects "LineChunks" ⟨"LineChunks", "indexBehindLineEnds", "(I)I"⟩ ⟨"LineChunks", "indexBehindLineEnds", "(I)I"⟩ ∈ lc_big := lc_bigI (i := 5) (by decide +kernel) rfl
theorem lb_6 : Cond.selects "LineChunksModel" ⟨"LineChunksModel", "insert0", "(IIII)I"⟩ ⟨"LineChunksModel", "insert0", "(IIII)I"⟩ ∈ lc_big := lc_bigI (i := 6) (by decide +kernel) rfl
theorem lb_7 : Cond.selects "LineChunksModel" ⟨"LineChunksModel", "delete0", "(II)I"⟩ ⟨"LineChunksModel", "delete0", "(II)I"⟩ ∈ lc_big := lc_bigI (i := 7) (by decide +kernel) rfl
theorem lb_8 : Cond.selects "LineChunksModel" ⟨"LineChunksModel", "get0", "(I)I"⟩ ⟨"LineChunksModel", "get0", "(I)I"⟩ ∈ lc_big := lc_bigI (i := 8) (by decide +kernel) rfl
theorem lb_9 : Cond.selects "LineChunksModel" ⟨"LineChunksModel", "length0", "()I"⟩ ⟨"LineChunksModel", "length0", "()I"⟩ ∈ lc_big := lc_bigI (i := 9) (by decide +kernel) rfl
theorem lb_10 : Cond.selects "LineChunksModel" ⟨"LineChunksModel", "lines0", "()I"⟩ ⟨"LineChunksModel", "lines0", "()I"⟩ ∈ lc_big := lc_bigI (i := 10) (by decide +kernel) rfl
theorem lb_11 : Cond.selects "LineChunksModel" ⟨"LineChunksModel", "endsBefore", "(I)I"⟩ ⟨"LineChunksModel", "endsBefore", "(I)I"⟩ ∈ lc_big := lc_bigI (i := 11) (by decide +kernel) rfl
theorem lb_12 : Cond.selects "LineChunksModel" ⟨"LineChunksModel", "line0", "(I)I"⟩ ⟨"LineChunksModel", "line0", "(I)I"⟩ ∈ lc_big := lc_bigI (i := 12) (by decide +kernel) rfl
theorem lb_13 : Cond.selects "LineChunksModel" ⟨"LineChunksModel", "lineOf0", "(I)I"⟩ ⟨"LineChunksModel", "lineOf0", "(I)I"⟩ ∈ lc_big := lc_bigI (i := 13) (by decide +kernel) rfl
theorem lb_14 : Cond.selects "LineChunksModel" ⟨"LineChunksModel", "digest0", "()I"⟩ ⟨"LineChunksModel", "digest0", "()I"⟩ ∈ lc_big := lc_bigI (i := 14) (by decide +kernel) rfl
theorem lb_15 : Cond.initialized "LineChunksLaw" ∈ lc_big := lc_bigI (i := 15) (by decide +kernel) rfl
theorem lb_16 : Cond.initialized "LineChunks" ∈ lc_big := lc_bigI (i := 16) (by decide +kernel) rfl
theorem lb_17 : Cond.initialized "LineChunksModel" ∈ lc_big := lc_bigI (i := 17) (by decide +kernel) rfl
theorem lb_21 : Cond.initialized "java/lang/IllegalArgumentException" ∈ lc_big := lc_bigI (i := 21) (by decide +kernel) rfl
theorem lb_22 : Cond.initialized "java/lang/IllegalStateException" ∈ lc_big := lc_bigI (i := 22) (by decide +kernel) rfl
theorem lb_23 : Cond.initialized "java/lang/Math" ∈ lc_big := lc_bigI (i := 23) (by decide +kernel) rfl
theorem lb_24 : Cond.initialized "java/util/Arrays" ∈ lc_big := lc_bigI (i := 24) (by decide +kernel) rfl
theorem lb_25 : Cond.initialized "java/lang/System" ∈ lc_big := lc_bigI (i := 25) (by decide +kernel) rfl
theorem lb_26 : Cond.initialized "java/util/NoSuchElementException" ∈ lc_big := lc_bigI (i := 26) (by decide +kernel) rfl
theorem lb_27 : Cond.classLink "LineChunksLaw" 8 "LineChunks" ∈ lc_big := lc_bigI (i := 27) (by decide +kernel) rfl
theorem lb_28 : Cond.instantiable "LineChunks" 3 ∈ lc_big := lc_bigI (i := 28) (by decide +kernel) rfl
theorem lb_29 : Cond.methodLink "LineChunksLaw" 33 ⟨"LineChunks", "<init>", "()V"⟩ ∈ lc_big := lc_bigI (i := 29) (by decide +kernel) rfl
theorem lb_30 : Cond.instanceMethod ⟨"LineChunks", "<init>", "()V"⟩ ∈ lc_big := lc_bigI (i := 30) (by decide +kernel) rfl
theorem lb_31 : Cond.code ⟨"LineChunks", "<init>", "()V"⟩ prog_1_method_1_code 1 none ∈ lc_big := lc_bigI (i := 31) (by decide +kernel) rfl
theorem lb_32 : Cond.methodLink "LineChunks" 1 ⟨"java/lang/Object", "<init>", "()V"⟩ ∈ lc_big := lc_bigI (i := 32) (by decide +kernel) rfl
theorem lb_33 : Cond.instanceMethod ⟨"java/lang/Object", "<init>", "()V"⟩ ∈ lc_big := lc_bigI (i := 33) (by decide +kernel) rfl
theorem lb_34 : Cond.code ⟨"java/lang/Object", "<init>", "()V"⟩ object_method_1_code 1 none ∈ lc_big := lc_bigI (i := 34) (by decide +kernel) rfl
theorem lb_35 : Cond.fieldLink "LineChunks" 9 "LineChunks" "elements" "[I" ∈ lc_big := lc_bigI (i := 35) (by decide +kernel) rfl
theorem lb_36 : Cond.fieldLink "LineChunks" 13 "LineChunks" "count" "I" ∈ lc_big := lc_bigI (i := 36) (by decide +kernel) rfl
theorem lb_37 : Cond.fieldLink "LineChunks" 17 "LineChunks" "lineEnds" "I" ∈ lc_big := lc_bigI (i := 37) (by decide +kernel) rfl
theorem lb_45 : Cond.arrayClass .int ∈ lc_big := lc_bigI (i := 45) (by decide +kernel) rfl
theorem lb_46 : Cond.methodLink "LineChunksLaw" 55 ⟨"LineChunks", "length", "()I"⟩ ∈ lc_big := lc_bigI (i := 46) (by decide +kernel) rfl
theorem lb_47 : Cond.instanceMethod ⟨"LineChunks", "length", "()I"⟩ ∈ lc_big := lc_bigI (i := 47) (by decide +kernel) rfl
theorem lb_48 : Cond.selects "LineChunks" ⟨"LineChunks", "length", "()I"⟩ ⟨"LineChunks", "length", "()I"⟩ ∈ lc_big := lc_bigI (i := 48) (by decide +kernel) rfl
theorem lb_49 : Cond.code ⟨"LineChunks", "length", "()I"⟩ prog_1_method_5_code 1 (some .int) ∈ lc_big := lc_bigI (i := 49) (by decide +kernel) rfl
theorem lb_50 : Cond.methodLink "LineChunksLaw" 59 ⟨"LineChunks", "lines", "()I"⟩ ∈ lc_big := lc_bigI (i := 50) (by decide +kernel) rfl
theorem lb_51 : Cond.instanceMethod ⟨"LineChunks", "lines", "()I"⟩ ∈ lc_big := lc_bigI (i := 51) (by decide +kernel) rfl
theorem lb_52 : Cond.selects "LineChunks" ⟨"LineChunks", "lines", "()I"⟩ ⟨"LineChunks", "lines", "()I"⟩ ∈ lc_big := lc_bigI (i := 52) (by decide +kernel) rfl
theorem lb_53 : Cond.code ⟨"LineChunks", "lines", "()I"⟩ prog_1_method_6_code 1 (some .int) ∈ lc_big := lc_bigI (i := 53) (by decide +kernel) rfl
theorem lb_54 : Cond.methodLink "LineChunksLaw" 69 ⟨"LineChunks", "digest", "()I"⟩ ∈ lc_big := lc_bigI (i := 54) (by decide +kernel) rfl
theorem lb_55 : Cond.instanceMethod ⟨"LineChunks", "digest", "()I"⟩ ∈ lc_big := lc_bigI (i := 55) (by decide +kernel) rfl
theorem lb_56 : Cond.selects "LineChunks" ⟨"LineChunks", "digest", "()I"⟩ ⟨"LineChunks", "digest", "()I"⟩ ∈ lc_big := lc_bigI (i := 56) (by decide +kernel) rfl
theorem lb_57 : Cond.code ⟨"LineChunks", "digest", "()I"⟩ prog_1_method_9_code 3 (some .int) ∈ lc_big := lc_bigI (i := 57) (by decide +kernel) rfl
theorem lb_58 : Cond.methodLink "LineChunksLaw" 37 ⟨"LineChunksLaw", "insert", "(LLineChunks;IIII[J)I"⟩ ∈ lc_big := lc_bigI (i := 58) (by decide +kernel) rfl
theorem lb_59 : Cond.static ⟨"LineChunksLaw", "insert", "(LLineChunks;IIII[J)I"⟩ ∈ lc_big := lc_bigI (i := 59) (by decide +kernel) rfl
theorem lb_60 : Cond.codeWith ⟨"LineChunksLaw", "insert", "(LLineChunks;IIII[J)I"⟩ method_3_code 7 (some .int) [(0, 14, 17, 13), (0, 14, 21, 15)] ∈ lc_big := lc_bigI (i := 60) (by decide +kernel) rfl
theorem lb_61 : Cond.classLink "LineChunksLaw" 13 "java/lang/IllegalArgumentException" ∈ lc_big := lc_bigI (i := 61) (by decide +kernel) rfl
theorem lb_62 : Cond.classLink "LineChunksLaw" 15 "java/lang/IllegalStateException" ∈ lc_big := lc_bigI (i := 62) (by decide +kernel) rfl
theorem lb_63 : Cond.methodLink "LineChunksLaw" 7 ⟨"LineChunks", "insert", "(IIII)I"⟩ ∈ lc_big := lc_bigI (i := 63) (by decide +kernel) rfl
theorem lb_64 : Cond.instanceMethod ⟨"LineChunks", "insert", "(IIII)I"⟩ ∈ lc_big := lc_bigI (i := 64) (by decide +kernel) rfl
theorem lb_65 : Cond.selects "LineChunks" ⟨"LineChunks", "insert", "(IIII)I"⟩ ⟨"LineChunks", "insert", "(IIII)I"⟩ ∈ lc_big := lc_bigI (i := 65) (by decide +kernel) rfl
theorem lb_66 : Cond.code ⟨"LineChunks", "insert", "(IIII)I"⟩ prog_1_method_2_code 5 (some .int) ∈ lc_big := lc_bigI (i := 66) (by decide +kernel) rfl
theorem lb_67 : Cond.classLink "LineChunks" 20 "java/lang/IllegalArgumentException" ∈ lc_big := lc_bigI (i := 67) (by decide +kernel) rfl
theorem lb_130 : Cond.classLink "LineChunks" 23 "java/lang/IllegalStateException" ∈ lc_big := lc_bigI (i := 130) (by decide +kernel) rfl
theorem lb_145 : Cond.methodLink "LineChunks" 26 ⟨"LineChunks", "makeRoomFor", "(I)V"⟩ ∈ lc_big := lc_bigI (i := 145) (by decide +kernel) rfl
theorem lb_147 : Cond.instanceMethod ⟨"LineChunks", "makeRoomFor", "(I)V"⟩ ∈ lc_big := lc_bigI (i := 147) (by decide +kernel) rfl
theorem lb_148 : Cond.code ⟨"LineChunks", "makeRoomFor", "(I)V"⟩ prog_1_method_10_code 3 none ∈ lc_big := lc_bigI (i := 148) (by decide +kernel) rfl
theorem lb_149 : Cond.methodLink "LineChunks" 49 ⟨"java/lang/Math", "min", "(II)I"⟩ ∈ lc_big := lc_bigI (i := 149) (by decide +kernel) rfl
theorem lb_150 : Cond.static ⟨"java/lang/Math", "min", "(II)I"⟩ ∈ lc_big := lc_bigI (i := 150) (by decide +kernel) rfl
theorem lb_151 : Cond.code ⟨"java/lang/Math", "min", "(II)I"⟩ prog_8_method_69_code 2 (some .int) ∈ lc_big := lc_bigI (i := 151) (by decide +kernel) rfl
theorem lb_152 : Cond.methodLink "LineChunks" 54 ⟨"java/lang/Math", "max", "(II)I"⟩ ∈ lc_big := lc_bigI (i := 152) (by decide +kernel) rfl
theorem lb_153 : Cond.static ⟨"java/lang/Math", "max", "(II)I"⟩ ∈ lc_big := lc_bigI (i := 153) (by decide +kernel) rfl
theorem lb_154 : Cond.code ⟨"java/lang/Math", "max", "(II)I"⟩ prog_8_method_65_code 2 (some .int) ∈ lc_big := lc_bigI (i := 154) (by decide +kernel) rfl
theorem lb_155 : Cond.methodLink "LineChunks" 57 ⟨"java/util/Arrays", "copyOf", "([II)[I"⟩ ∈ lc_big := lc_bigI (i := 155) (by decide +kernel) rfl
theorem lb_156 : Cond.static ⟨"java/util/Arrays", "copyOf", "([II)[I"⟩ ∈ lc_big := lc_bigI (i := 156) (by decide +kernel) rfl
theorem lb_157 : Cond.code ⟨"java/util/Arrays", "copyOf", "([II)[I"⟩ prog_12_method_123_code 3 (some (.array .int)) ∈ lc_big := lc_bigI (i := 157) (by decide +kernel) rfl
theorem lb_165 : Cond.methodLink "java/util/Arrays" 304 ⟨"java/lang/Math", "min", "(II)I"⟩ ∈ lc_big := lc_bigI (i := 165) (by decide +kernel) rfl
theorem lb_166 : Cond.methodLink "java/util/Arrays" 150 ⟨"java/lang/System", "arraycopy", "(Ljava/lang/Object;ILjava/lang/Object;II)V"⟩ ∈ lc_big := lc_bigI (i := 166) (by decide +kernel) rfl
theorem lb_167 : Cond.static ⟨"java/lang/System", "arraycopy", "(Ljava/lang/Object;ILjava/lang/Object;II)V"⟩ ∈ lc_big := lc_bigI (i := 167) (by decide +kernel) rfl
theorem lb_168 : Cond.native ⟨"java/lang/System", "arraycopy", "(Ljava/lang/Object;ILjava/lang/Object;II)V"⟩ ∈ lc_big := lc_bigI (i := 168) (by decide +kernel) rfl
theorem lb_169 : Cond.methodLink "LineChunks" 30 ⟨"LineChunks", "moveTail", "(II)V"⟩ ∈ lc_big := lc_bigI (i := 169) (by decide +kernel) rfl
theorem lb_171 : Cond.instanceMethod ⟨"LineChunks", "moveTail", "(II)V"⟩ ∈ lc_big := lc_bigI (i := 171) (by decide +kernel) rfl
theorem lb_172 : Cond.code ⟨"LineChunks", "moveTail", "(II)V"⟩ prog_1_method_11_code 3 none ∈ lc_big := lc_bigI (i := 172) (by decide +kernel) rfl
theorem lb_173 : Cond.methodLink "LineChunks" 63 ⟨"java/lang/System", "arraycopy", "(Ljava/lang/Object;ILjava/lang/Object;II)V"⟩ ∈ lc_big := lc_bigI (i := 173) (by decide +kernel) rfl
theorem lb_174 : Cond.methodLink "LineChunks" 34 ⟨"LineChunks", "fill", "(IIII)V"⟩ ∈ lc_big := lc_bigI (i := 174) (by decide +kernel) rfl
theorem lb_176 : Cond.instanceMethod ⟨"LineChunks", "fill", "(IIII)V"⟩ ∈ lc_big := lc_bigI (i := 176) (by decide +kernel) rfl
theorem lb_177 : Cond.code ⟨"LineChunks", "fill", "(IIII)V"⟩ prog_1_method_12_code 7 none ∈ lc_big := lc_bigI (i := 177) (by decide +kernel) rfl
theorem lb_178 : Cond.methodLink "LineChunks" 38 ⟨"LineChunks", "lineEndsIn", "(II)I"⟩ ∈ lc_big := lc_bigI (i := 178) (by decide +kernel) rfl
theorem lb_180 : Cond.instanceMethod ⟨"LineChunks", "lineEndsIn", "(II)I"⟩ ∈ lc_big := lc_bigI (i := 180) (by decide +kernel) rfl
theorem lb_181 : Cond.code ⟨"LineChunks", "lineEndsIn", "(II)I"⟩ prog_1_method_13_code 5 (some .int) ∈ lc_big := lc_bigI (i := 181) (by decide +kernel) rfl
theorem lb_182 : Cond.methodLink "LineChunksLaw" 47 ⟨"LineChunksLaw", "delete", "(LLineChunks;II[J)I"⟩ ∈ lc_big := lc_bigI (i := 182) (by decide +kernel) rfl
theorem lb_183 : Cond.static ⟨"LineChunksLaw", "delete", "(LLineChunks;II[J)I"⟩ ∈ lc_big := lc_bigI (i := 183) (by decide +kernel) rfl
theorem lb_184 : Cond.codeWith ⟨"LineChunksLaw", "delete", "(LLineChunks;II[J)I"⟩ method_4_code 5 (some .int) [(0, 10, 13, 13)] ∈ lc_big := lc_bigI (i := 184) (by decide +kernel) rfl
theorem lb_185 : Cond.methodLink "LineChunksLaw" 17 ⟨"LineChunks", "delete", "(II)I"⟩ ∈ lc_big := lc_bigI (i := 185) (by decide +kernel) rfl
theorem lb_186 : Cond.instanceMethod ⟨"LineChunks", "delete", "(II)I"⟩ ∈ lc_big := lc_bigI (i := 186) (by decide +kernel) rfl
theorem lb_187 : Cond.selects "LineChunks" ⟨"LineChunks", "delete", "(II)I"⟩ ⟨"LineChunks", "delete", "(II)I"⟩ ∈ lc_big := lc_bigI (i := 187) (by decide +kernel) rfl
theorem lb_188 : Cond.code ⟨"LineChunks", "delete", "(II)I"⟩ prog_1_method_3_code 3 (some .int) ∈ lc_big := lc_bigI (i := 188) (by decide +kernel) rfl
theorem lb_189 : Cond.methodLink "LineChunksLaw" 51 ⟨"LineChunksLaw", "get", "(LLineChunks;I[J)I"⟩ ∈ lc_big := lc_bigI (i := 189) (by decide +kernel) rfl
theorem lb_190 : Cond.static ⟨"LineChunksLaw", "get", "(LLineChunks;I[J)I"⟩ ∈ lc_big := lc_bigI (i := 190) (by decide +kernel) rfl
theorem lb_191 : Cond.codeWith ⟨"LineChunksLaw", "get", "(LLineChunks;I[J)I"⟩ method_5_code 4 (some .int) [(0, 9, 12, 25)] ∈ lc_big := lc_bigI (i := 191) (by decide +kernel) rfl
theorem lb_192 : Cond.classLink "LineChunksLaw" 25 "java/util/NoSuchElementException" ∈ lc_big := lc_bigI (i := 192) (by decide +kernel) rfl
theorem lb_193 : Cond.methodLink "LineChunksLaw" 21 ⟨"LineChunks", "get", "(I)I"⟩ ∈ lc_big := lc_bigI (i := 193) (by decide +kernel) rfl
theorem lb_194 : Cond.instanceMethod ⟨"LineChunks", "get", "(I)I"⟩ ∈ lc_big := lc_bigI (i := 194) (by decide +kernel) rfl
theorem lb_195 : Cond.selects "LineChunks" ⟨"LineChunks", "get", "(I)I"⟩ ⟨"LineChunks", "get", "(I)I"⟩ ∈ lc_big := lc_bigI (i := 195) (by decide +kernel) rfl
theorem lb_196 : Cond.code ⟨"LineChunks", "get", "(I)I"⟩ prog_1_method_4_code 2 (some .int) ∈ lc_big := lc_bigI (i := 196) (by decide +kernel) rfl
theorem lb_197 : Cond.classLink "LineChunks" 42 "java/util/NoSuchElementException" ∈ lc_big := lc_bigI (i := 197) (by decide +kernel) rfl
theorem lb_212 : Cond.methodLink "LineChunksLaw" 63 ⟨"LineChunksLaw", "line", "(LLineChunks;I[J)I"⟩ ∈ lc_big := lc_bigI (i := 212) (by decide +kernel) rfl
theorem lb_213 : Cond.static ⟨"LineChunksLaw", "line", "(LLineChunks;I[J)I"⟩ ∈ lc_big := lc_bigI (i := 213) (by decide +kernel) rfl
theorem lb_214 : Cond.codeWith ⟨"LineChunksLaw", "line", "(LLineChunks;I[J)I"⟩ method_6_code 4 (some .int) [(0, 9, 12, 25)] ∈ lc_big := lc_bigI (i := 214) (by decide +kernel) rfl
theorem lb_215 : Cond.methodLink "LineChunksLaw" 27 ⟨"LineChunks", "line", "(I)I"⟩ ∈ lc_big := lc_bigI (i := 215) (by decide +kernel) rfl
theorem lb_216 : Cond.instanceMethod ⟨"LineChunks", "line", "(I)I"⟩ ∈ lc_big := lc_bigI (i := 216) (by decide +kernel) rfl
theorem lb_217 : Cond.selects "LineChunks" ⟨"LineChunks", "line", "(I)I"⟩ ⟨"LineChunks", "line", "(I)I"⟩ ∈ lc_big := lc_bigI (i := 217) (by decide +kernel) rfl
theorem lb_218 : Cond.code ⟨"LineChunks", "line", "(I)I"⟩ prog_1_method_7_code 2 (some .int) ∈ lc_big := lc_bigI (i := 218) (by decide +kernel) rfl
theorem lb_219 : Cond.methodLink "LineChunks" 45 ⟨"LineChunks", "indexBehindLineEnds", "(I)I"⟩ ∈ lc_big := lc_bigI (i := 219) (by decide +kernel) rfl
theorem lb_221 : Cond.instanceMethod ⟨"LineChunks", "indexBehindLineEnds", "(I)I"⟩ ∈ lc_big := lc_bigI (i := 221) (by decide +kernel) rfl
theorem lb_222 : Cond.code ⟨"LineChunks", "indexBehindLineEnds", "(I)I"⟩ prog_1_method_14_code 4 (some .int) ∈ lc_big := lc_bigI (i := 222) (by decide +kernel) rfl
theorem lb_223 : Cond.methodLink "LineChunksLaw" 66 ⟨"LineChunksLaw", "lineOf", "(LLineChunks;I[J)I"⟩ ∈ lc_big := lc_bigI (i := 223) (by decide +kernel) rfl
theorem lb_224 : Cond.static ⟨"LineChunksLaw", "lineOf", "(LLineChunks;I[J)I"⟩ ∈ lc_big := lc_bigI (i := 224) (by decide +kernel) rfl
theorem lb_225 : Cond.codeWith ⟨"LineChunksLaw", "lineOf", "(LLineChunks;I[J)I"⟩ method_7_code 4 (some .int) [(0, 9, 12, 13)] ∈ lc_big := lc_bigI (i := 225) (by decide +kernel) rfl
theorem lb_226 : Cond.methodLink "LineChunksLaw" 30 ⟨"LineChunks", "lineOf", "(I)I"⟩ ∈ lc_big := lc_bigI (i := 226) (by decide +kernel) rfl
theorem lb_227 : Cond.instanceMethod ⟨"LineChunks", "lineOf", "(I)I"⟩ ∈ lc_big := lc_bigI (i := 227) (by decide +kernel) rfl
theorem lb_228 : Cond.selects "LineChunks" ⟨"LineChunks", "lineOf", "(I)I"⟩ ⟨"LineChunks", "lineOf", "(I)I"⟩ ∈ lc_big := lc_bigI (i := 228) (by decide +kernel) rfl
theorem lb_229 : Cond.code ⟨"LineChunks", "lineOf", "(I)I"⟩ prog_1_method_8_code 2 (some .int) ∈ lc_big := lc_bigI (i := 229) (by decide +kernel) rfl
theorem lb_230 : Cond.classLink "LineChunksLaw" 34 "LineChunksModel" ∈ lc_big := lc_bigI (i := 230) (by decide +kernel) rfl
theorem lb_231 : Cond.instantiable "LineChunksModel" 3 ∈ lc_big := lc_bigI (i := 231) (by decide +kernel) rfl
theorem lb_232 : Cond.methodLink "LineChunksLaw" 36 ⟨"LineChunksModel", "<init>", "()V"⟩ ∈ lc_big := lc_bigI (i := 232) (by decide +kernel) rfl
theorem lb_233 : Cond.instanceMethod ⟨"LineChunksModel", "<init>", "()V"⟩ ∈ lc_big := lc_bigI (i := 233) (by decide +kernel) rfl
theorem lb_234 : Cond.code ⟨"LineChunksModel", "<init>", "()V"⟩ prog_3_method_1_code 1 none ∈ lc_big := lc_bigI (i := 234) (by decide +kernel) rfl
theorem lb_235 : Cond.methodLink "LineChunksModel" 1 ⟨"java/lang/Object", "<init>", "()V"⟩ ∈ lc_big := lc_bigI (i := 235) (by decide +kernel) rfl
theorem lb_236 : Cond.fieldLink "LineChunksModel" 9 "LineChunksModel" "row" "[I" ∈ lc_big := lc_bigI (i := 236) (by decide +kernel) rfl
theorem lb_237 : Cond.fieldLink "LineChunksModel" 16 "LineChunksModel" "many" "I" ∈ lc_big := lc_bigI (i := 237) (by decide +kernel) rfl
theorem lb_238 : Cond.fieldLink "LineChunksModel" 34 "LineChunksModel" "thrown" "I" ∈ lc_big := lc_bigI (i := 238) (by decide +kernel) rfl
theorem lb_246 : Cond.methodLink "LineChunksLaw" 43 ⟨"LineChunksModel", "thrown", "()I"⟩ ∈ lc_big := lc_bigI (i := 246) (by decide +kernel) rfl
theorem lb_247 : Cond.instanceMethod ⟨"LineChunksModel", "thrown", "()I"⟩ ∈ lc_big := lc_bigI (i := 247) (by decide +kernel) rfl
theorem lb_248 : Cond.selects "LineChunksModel" ⟨"LineChunksModel", "thrown", "()I"⟩ ⟨"LineChunksModel", "thrown", "()I"⟩ ∈ lc_big := lc_bigI (i := 248) (by decide +kernel) rfl
theorem lb_249 : Cond.code ⟨"LineChunksModel", "thrown", "()I"⟩ prog_3_method_12_code 1 (some .int) ∈ lc_big := lc_bigI (i := 249) (by decide +kernel) rfl
theorem lb_250 : Cond.methodLink "LineChunksLaw" 42 ⟨"LineChunksModel", "insert", "(IIII)I"⟩ ∈ lc_big := lc_bigI (i := 250) (by decide +kernel) rfl
theorem lb_251 : Cond.instanceMethod ⟨"LineChunksModel", "insert", "(IIII)I"⟩ ∈ lc_big := lc_bigI (i := 251) (by decide +kernel) rfl
theorem lb_252 : Cond.selects "LineChunksModel" ⟨"LineChunksModel", "insert", "(IIII)I"⟩ ⟨"LineChunksModel", "insert", "(IIII)I"⟩ ∈ lc_big := lc_bigI (i := 252) (by decide +kernel) rfl
theorem lb_253 : Cond.codeWith ⟨"LineChunksModel", "insert", "(IIII)I"⟩ prog_3_method_13_code 6 (some .int) [(5, 14, 15, 13), (5, 14, 25, 24)] ∈ lc_big := lc_bigI (i := 253) (by decide +kernel) rfl
theorem lb_254 : Cond.classLink "LineChunksModel" 13 "java/lang/IllegalArgumentException" ∈ lc_big := lc_bigI (i := 254) (by decide +kernel) rfl
theorem lb_255 : Cond.classLink "LineChunksModel" 24 "java/lang/IllegalStateException" ∈ lc_big := lc_bigI (i := 255) (by decide +kernel) rfl
theorem lb_256 : Cond.methodLink "LineChunksModel" 37 ⟨"LineChunksModel", "insert0", "(IIII)I"⟩ ∈ lc_big := lc_bigI (i := 256) (by decide +kernel) rfl
theorem lb_258 : Cond.instanceMethod ⟨"LineChunksModel", "insert0", "(IIII)I"⟩ ∈ lc_big := lc_bigI (i := 258) (by decide +kernel) rfl
theorem lb_259 : Cond.code ⟨"LineChunksModel", "insert0", "(IIII)I"⟩ prog_3_method_3_code 6 (some .int) ∈ lc_big := lc_bigI (i := 259) (by decide +kernel) rfl
theorem lb_260 : Cond.methodLink "LineChunksModel" 20 ⟨"LineChunksModel", "check", "(Z)V"⟩ ∈ lc_big := lc_bigI (i := 260) (by decide +kernel) rfl
theorem lb_261 : Cond.static ⟨"LineChunksModel", "check", "(Z)V"⟩ ∈ lc_big := lc_bigI (i := 261) (by decide +kernel) rfl
theorem lb_262 : Cond.code ⟨"LineChunksModel", "check", "(Z)V"⟩ prog_3_method_2_code 1 none ∈ lc_big := lc_bigI (i := 262) (by decide +kernel) rfl
theorem lb_265 : Cond.methodLink "LineChunksLaw" 50 ⟨"LineChunksModel", "delete", "(II)I"⟩ ∈ lc_big := lc_bigI (i := 265) (by decide +kernel) rfl
theorem lb_266 : Cond.instanceMethod ⟨"LineChunksModel", "delete", "(II)I"⟩ ∈ lc_big := lc_bigI (i := 266) (by decide +kernel) rfl
theorem lb_267 : Cond.selects "LineChunksModel" ⟨"LineChunksModel", "delete", "(II)I"⟩ ⟨"LineChunksModel", "delete", "(II)I"⟩ ∈ lc_big := lc_bigI (i := 267) (by decide +kernel) rfl
theorem lb_268 : Cond.codeWith ⟨"LineChunksModel", "delete", "(II)I"⟩ prog_3_method_14_code 4 (some .int) [(5, 11, 12, 13)] ∈ lc_big := lc_bigI (i := 268) (by decide +kernel) rfl
theorem lb_269 : Cond.methodLink "LineChunksModel" 41 ⟨"LineChunksModel", "delete0", "(II)I"⟩ ∈ lc_big := lc_bigI (i := 269) (by decide +kernel) rfl
theorem lb_271 : Cond.instanceMethod ⟨"LineChunksModel", "delete0", "(II)I"⟩ ∈ lc_big := lc_bigI (i := 271) (by decide +kernel) rfl
theorem lb_272 : Cond.code ⟨"LineChunksModel", "delete0", "(II)I"⟩ prog_3_method_4_code 4 (some .int) ∈ lc_big := lc_bigI (i := 272) (by decide +kernel) rfl
theorem lb_273 : Cond.methodLink "LineChunksLaw" 54 ⟨"LineChunksModel", "get", "(I)I"⟩ ∈ lc_big := lc_bigI (i := 273) (by decide +kernel) rfl
theorem lb_274 : Cond.instanceMethod ⟨"LineChunksModel", "get", "(I)I"⟩ ∈ lc_big := lc_bigI (i := 274) (by decide +kernel) rfl
theorem lb_275 : Cond.selects "LineChunksModel" ⟨"LineChunksModel", "get", "(I)I"⟩ ⟨"LineChunksModel", "get", "(I)I"⟩ ∈ lc_big := lc_bigI (i := 275) (by decide +kernel) rfl
theorem lb_276 : Cond.codeWith ⟨"LineChunksModel", "get", "(I)I"⟩ prog_3_method_15_code 3 (some .int) [(5, 10, 11, 27)] ∈ lc_big := lc_bigI (i := 276) (by decide +kernel) rfl
theorem lb_277 : Cond.classLink "LineChunksModel" 27 "java/util/NoSuchElementException" ∈ lc_big := lc_bigI (i := 277) (by decide +kernel) rfl
theorem lb_278 : Cond.methodLink "LineChunksModel" 45 ⟨"LineChunksModel", "get0", "(I)I"⟩ ∈ lc_big := lc_bigI (i := 278) (by decide +kernel) rfl
theorem lb_280 : Cond.instanceMethod ⟨"LineChunksModel", "get0", "(I)I"⟩ ∈ lc_big := lc_bigI (i := 280) (by decide +kernel) rfl
theorem lb_281 : Cond.code ⟨"LineChunksModel", "get0", "(I)I"⟩ prog_3_method_5_code 2 (some .int) ∈ lc_big := lc_bigI (i := 281) (by decide +kernel) rfl
theorem lb_283 : Cond.methodLink "LineChunksLaw" 58 ⟨"LineChunksModel", "length", "()I"⟩ ∈ lc_big := lc_bigI (i := 283) (by decide +kernel) rfl
theorem lb_284 : Cond.instanceMethod ⟨"LineChunksModel", "length", "()I"⟩ ∈ lc_big := lc_bigI (i := 284) (by decide +kernel) rfl
theorem lb_285 : Cond.selects "LineChunksModel" ⟨"LineChunksModel", "length", "()I"⟩ ⟨"LineChunksModel", "length", "()I"⟩ ∈ lc_big := lc_bigI (i := 285) (by decide +kernel) rfl
theorem lb_286 : Cond.code ⟨"LineChunksModel", "length", "()I"⟩ prog_3_method_16_code 1 (some .int) ∈ lc_big := lc_bigI (i := 286) (by decide +kernel) rfl
theorem lb_287 : Cond.methodLink "LineChunksModel" 48 ⟨"LineChunksModel", "length0", "()I"⟩ ∈ lc_big := lc_bigI (i := 287) (by decide +kernel) rfl
theorem lb_289 : Cond.instanceMethod ⟨"LineChunksModel", "length0", "()I"⟩ ∈ lc_big := lc_bigI (i := 289) (by decide +kernel) rfl
theorem lb_290 : Cond.code ⟨"LineChunksModel", "length0", "()I"⟩ prog_3_method_6_code 1 (some .int) ∈ lc_big := lc_bigI (i := 290) (by decide +kernel) rfl
theorem lb_291 : Cond.methodLink "LineChunksLaw" 62 ⟨"LineChunksModel", "lines", "()I"⟩ ∈ lc_big := lc_bigI (i := 291) (by decide +kernel) rfl
theorem lb_292 : Cond.instanceMethod ⟨"LineChunksModel", "lines", "()I"⟩ ∈ lc_big := lc_bigI (i := 292) (by decide +kernel) rfl
theorem lb_293 : Cond.selects "LineChunksModel" ⟨"LineChunksModel", "lines", "()I"⟩ ⟨"LineChunksModel", "lines", "()I"⟩ ∈ lc_big := lc_bigI (i := 293) (by decide +kernel) rfl
theorem lb_294 : Cond.code ⟨"LineChunksModel", "lines", "()I"⟩ prog_3_method_17_code 1 (some .int) ∈ lc_big := lc_bigI (i := 294) (by decide +kernel) rfl
theorem lb_295 : Cond.methodLink "LineChunksModel" 52 ⟨"LineChunksModel", "lines0", "()I"⟩ ∈ lc_big := lc_bigI (i := 295) (by decide +kernel) rfl
theorem lb_297 : Cond.instanceMethod ⟨"LineChunksModel", "lines0", "()I"⟩ ∈ lc_big := lc_bigI (i := 297) (by decide +kernel) rfl
theorem lb_298 : Cond.code ⟨"LineChunksModel", "lines0", "()I"⟩ prog_3_method_8_code 1 (some .int) ∈ lc_big := lc_bigI (i := 298) (by decide +kernel) rfl
theorem lb_299 : Cond.methodLink "LineChunksModel" 30 ⟨"LineChunksModel", "endsBefore", "(I)I"⟩ ∈ lc_big := lc_bigI (i := 299) (by decide +kernel) rfl
theorem lb_301 : Cond.instanceMethod ⟨"LineChunksModel", "endsBefore", "(I)I"⟩ ∈ lc_big := lc_bigI (i := 301) (by decide +kernel) rfl
theorem lb_302 : Cond.code ⟨"LineChunksModel", "endsBefore", "(I)I"⟩ prog_3_method_7_code 4 (some .int) ∈ lc_big := lc_bigI (i := 302) (by decide +kernel) rfl
theorem lb_303 : Cond.methodLink "LineChunksLaw" 65 ⟨"LineChunksModel", "line", "(I)I"⟩ ∈ lc_big := lc_bigI (i := 303) (by decide +kernel) rfl
theorem lb_304 : Cond.instanceMethod ⟨"LineChunksModel", "line", "(I)I"⟩ ∈ lc_big := lc_bigI (i := 304) (by decide +kernel) rfl
theorem lb_305 : Cond.selects "LineChunksModel" ⟨"LineChunksModel", "line", "(I)I"⟩ ⟨"LineChunksModel", "line", "(I)I"⟩ ∈ lc_big := lc_bigI (i := 305) (by decide +kernel) rfl
theorem lb_306 : Cond.codeWith ⟨"LineChunksModel", "line", "(I)I"⟩ prog_3_method_18_code 3 (some .int) [(5, 10, 11, 27)] ∈ lc_big := lc_bigI (i := 306) (by decide +kernel) rfl
theorem lb_307 : Cond.methodLink "LineChunksModel" 55 ⟨"LineChunksModel", "line0", "(I)I"⟩ ∈ lc_big := lc_bigI (i := 307) (by decide +kernel) rfl
theorem lb_309 : Cond.instanceMethod ⟨"LineChunksModel", "line0", "(I)I"⟩ ∈ lc_big := lc_bigI (i := 309) (by decide +kernel) rfl
theorem lb_310 : Cond.code ⟨"LineChunksModel", "line0", "(I)I"⟩ prog_3_method_9_code 3 (some .int) ∈ lc_big := lc_bigI (i := 310) (by decide +kernel) rfl
theorem lb_311 : Cond.methodLink "LineChunksLaw" 68 ⟨"LineChunksModel", "lineOf", "(I)I"⟩ ∈ lc_big := lc_bigI (i := 311) (by decide +kernel) rfl
theorem lb_312 : Cond.instanceMethod ⟨"LineChunksModel", "lineOf", "(I)I"⟩ ∈ lc_big := lc_bigI (i := 312) (by decide +kernel) rfl
theorem lb_313 : Cond.selects "LineChunksModel" ⟨"LineChunksModel", "lineOf", "(I)I"⟩ ⟨"LineChunksModel", "lineOf", "(I)I"⟩ ∈ lc_big := lc_bigI (i := 313) (by decide +kernel) rfl
theorem lb_314 : Cond.codeWith ⟨"LineChunksModel", "lineOf", "(I)I"⟩ prog_3_method_19_code 3 (some .int) [(5, 10, 11, 13)] ∈ lc_big := lc_bigI (i := 314) (by decide +kernel) rfl
theorem lb_315 : Cond.methodLink "LineChunksModel" 58 ⟨"LineChunksModel", "lineOf0", "(I)I"⟩ ∈ lc_big := lc_bigI (i := 315) (by decide +kernel) rfl
theorem lb_317 : Cond.instanceMethod ⟨"LineChunksModel", "lineOf0", "(I)I"⟩ ∈ lc_big := lc_bigI (i := 317) (by decide +kernel) rfl
theorem lb_318 : Cond.code ⟨"LineChunksModel", "lineOf0", "(I)I"⟩ prog_3_method_10_code 2 (some .int) ∈ lc_big := lc_bigI (i := 318) (by decide +kernel) rfl
theorem lb_319 : Cond.methodLink "LineChunksLaw" 72 ⟨"LineChunksModel", "digest", "()I"⟩ ∈ lc_big := lc_bigI (i := 319) (by decide +kernel) rfl
theorem lb_320 : Cond.instanceMethod ⟨"LineChunksModel", "digest", "()I"⟩ ∈ lc_big := lc_bigI (i := 320) (by decide +kernel) rfl
theorem lb_321 : Cond.selects "LineChunksModel" ⟨"LineChunksModel", "digest", "()I"⟩ ⟨"LineChunksModel", "digest", "()I"⟩ ∈ lc_big := lc_bigI (i := 321) (by decide +kernel) rfl
theorem lb_322 : Cond.code ⟨"LineChunksModel", "digest", "()I"⟩ prog_3_method_20_code 1 (some .int) ∈ lc_big := lc_bigI (i := 322) (by decide +kernel) rfl
theorem lb_323 : Cond.methodLink "LineChunksModel" 61 ⟨"LineChunksModel", "digest0", "()I"⟩ ∈ lc_big := lc_bigI (i := 323) (by decide +kernel) rfl
theorem lb_325 : Cond.instanceMethod ⟨"LineChunksModel", "digest0", "()I"⟩ ∈ lc_big := lc_bigI (i := 325) (by decide +kernel) rfl
theorem lb_326 : Cond.code ⟨"LineChunksModel", "digest0", "()I"⟩ prog_3_method_11_code 3 (some .int) ∈ lc_big := lc_bigI (i := 326) (by decide +kernel) rfl
theorem lb_327 : Cond.arrayClass .long ∈ lc_big := lc_bigI (i := 327) (by decide +kernel) rfl
theorem gX0_insert_X0_makeRoomFor : GoodIn wsX0_insert (wsV RX0 26 RX0 yX0_makeRoomFor wsX0_makeRoomFor) := lc_gV lb_145 lb_147 lb_1 lb_16 lb_148
theorem gX0_insert_X0_moveTail : GoodIn wsX0_insert (wsV RX0 30 RX0 yX0_moveTail wsX0_moveTail) := lc_gV lb_169 lb_171 lb_2 lb_16 lb_172
theorem gX0_insert_X0_fill : GoodIn wsX0_insert (wsV RX0 34 RX0 yX0_fill wsX0_fill) := lc_gV lb_174 lb_176 lb_3 lb_16 lb_177
theorem gX0_insert_X0_lineEndsIn : GoodIn wsX0_insert (wsV RX0 38 RX0 yX0_lineEndsIn wsX0_lineEndsIn) := lc_gV lb_178 lb_180 lb_4 lb_16 lb_181
theorem gX0_delete_X0_lineEndsIn : GoodIn wsX0_delete (wsV RX0 38 RX0 yX0_lineEndsIn wsX0_lineEndsIn) := lc_gV lb_178 lb_180 lb_4 lb_16 lb_181
theorem gX0_delete_X0_moveTail : GoodIn wsX0_delete (wsV RX0 30 RX0 yX0_moveTail wsX0_moveTail) := lc_gV lb_169 lb_171 lb_2 lb_16 lb_172
theorem gX0_line_X0_indexBehindLineEnds : GoodIn wsX0_line (wsV RX0 45 RX0 yX0_indexBehindLineEnds wsX0_indexBehindLineEnds) := lc_gV lb_219 lb_221 lb_5 lb_16 lb_222
theorem gX0_lineOf_X0_lineEndsIn : GoodIn wsX0_lineOf (wsV RX0 38 RX0 yX0_lineEndsIn wsX0_lineEndsIn) := lc_gV lb_178 lb_180 lb_4 lb_16 lb_181
theorem gX0_makeRoomFor_J_copyOf : GoodIn wsX0_makeRoomFor (va_wsS RX0 57 yJ_copyOf wsJ_copyOf) := lc_gT lb_155 lb_156 lb_24 lb_157
theorem gX1_insert0_X1_check : GoodIn wsX1_insert0 (wsS RX1 20 yX1_check wsX1_check) := lc_gS lb_260 lb_261 lb_17 lb_262
theorem gX1_delete0_X1_check : GoodIn wsX1_delete0 (wsS RX1 20 yX1_check wsX1_check) := lc_gS lb_260 lb_261 lb_17 lb_262
theorem gX1_lines0_X1_endsBefore : GoodIn wsX1_lines0 (wsV RX1 30 RX1 yX1_endsBefore wsX1_endsBefore) := lc_gV lb_299 lb_301 lb_11 lb_17 lb_302
theorem gX1_line0_X1_endsBefore : GoodIn wsX1_line0 (wsV RX1 30 RX1 yX1_endsBefore wsX1_endsBefore) := lc_gV lb_299 lb_301 lb_11 lb_17 lb_302
theorem gX1_lineOf0_X1_check : GoodIn wsX1_lineOf0 (wsS RX1 20 yX1_check wsX1_check) := lc_gS lb_260 lb_261 lb_17 lb_262
theorem gX1_lineOf0_X1_endsBefore : GoodIn wsX1_lineOf0 (wsV RX1 30 RX1 yX1_endsBefore wsX1_endsBefore) := lc_gV lb_299 lb_301 lb_11 lb_17 lb_302
theorem gX1_insert_X1_insert0 : GoodIn wsX1_insert (wsV RX1 37 RX1 yX1_insert0 wsX1_insert0) := lc_gV lb_256 lb_258 lb_6 lb_17 lb_259
theorem gX1_delete_X1_delete0 : GoodIn wsX1_delete (wsV RX1 41 RX1 yX1_delete0 wsX1_delete0) := lc_gV lb_269 lb_271 lb_7 lb_17 lb_272
theorem gX1_get_X1_get0 : GoodIn wsX1_get (wsV RX1 45 RX1 yX1_get0 wsX1_get0) := lc_gV lb_278 lb_280 lb_8 lb_17 lb_281
theorem gX1_length_X1_length0 : GoodIn wsX1_length (wsV RX1 48 RX1 yX1_length0 wsX1_length0) := lc_gV lb_287 lb_289 lb_9 lb_17 lb_290
theorem gX1_lines_X1_lines0 : GoodIn wsX1_lines (wsV RX1 52 RX1 yX1_lines0 wsX1_lines0) := lc_gV lb_295 lb_297 lb_10 lb_17 lb_298
theorem gX1_line_X1_line0 : GoodIn wsX1_line (wsV RX1 55 RX1 yX1_line0 wsX1_line0) := lc_gV lb_307 lb_309 lb_12 lb_17 lb_310
theorem gX1_lineOf_X1_lineOf0 : GoodIn wsX1_lineOf (wsV RX1 58 RX1 yX1_lineOf0 wsX1_lineOf0) := lc_gV lb_315 lb_317 lb_13 lb_17 lb_318
theorem gX1_digest_X1_digest0 : GoodIn wsX1_digest (wsV RX1 61 RX1 yX1_digest0 wsX1_digest0) := lc_gV lb_323 lb_325 lb_14 lb_17 lb_326
theorem gL_insert_X0_insert : GoodIn wsL_insert (wsV RL 7 RX0 yX0_insert wsX0_insert) := lc_gV lb_63 lb_64 lb_65 lb_16 lb_66
theorem gL_delete_X0_delete : GoodIn wsL_delete (wsV RL 17 RX0 yX0_delete wsX0_delete) := lc_gV lb_185 lb_186 lb_187 lb_16 lb_188
theorem gL_get_X0_get : GoodIn wsL_get (wsV RL 21 RX0 yX0_get wsX0_get) := lc_gV lb_193 lb_194 lb_195 lb_16 lb_196
theorem gL_line_X0_line : GoodIn wsL_line (wsV RL 27 RX0 yX0_line wsX0_line) := lc_gV lb_215 lb_216 lb_217 lb_16 lb_218
theorem gL_lineOf_X0_lineOf : GoodIn wsL_lineOf (wsV RL 30 RX0 yX0_lineOf wsX0_lineOf) := lc_gV lb_226 lb_227 lb_228 lb_16 lb_229
theorem gL_law_X0_init : GoodIn wsL_law wsX0_init := lc_gI lb_31
theorem gL_law_X1_init : GoodIn wsL_law wsX1_init := lc_gI lb_234
theorem gL_law_L_insert : GoodIn wsL_law (va_wsS RL 37 yL_insert wsL_insert) := lc_gT lb_58 lb_59 lb_15 lb_60
theorem gL_law_X1_insert : GoodIn wsL_law (wsV RL 42 RX1 yX1_insert wsX1_insert) := lc_gV lb_250 lb_251 lb_252 lb_17 lb_253
theorem gL_law_X1_thrown : GoodIn wsL_law (wsV RL 43 RX1 yX1_thrown wsX1_thrown) := lc_gV lb_246 lb_247 lb_248 lb_17 lb_249
theorem gL_law_L_delete : GoodIn wsL_law (va_wsS RL 47 yL_delete wsL_delete) := lc_gT lb_182 lb_183 lb_15 lb_184
theorem gL_law_X1_delete : GoodIn wsL_law (wsV RL 50 RX1 yX1_delete wsX1_delete) := lc_gV lb_265 lb_266 lb_267 lb_17 lb_268
theorem gL_law_L_get : GoodIn wsL_law (va_wsS RL 51 yL_get wsL_get) := lc_gT lb_189 lb_190 lb_15 lb_191
theorem gL_law_X1_get : GoodIn wsL_law (wsV RL 54 RX1 yX1_get wsX1_get) := lc_gV lb_273 lb_274 lb_275 lb_17 lb_276
theorem gL_law_X0_length : GoodIn wsL_law (wsV RL 55 RX0 yX0_length wsX0_length) := lc_gV lb_46 lb_47 lb_48 lb_16 lb_49
theorem gL_law_X1_length : GoodIn wsL_law (wsV RL 58 RX1 yX1_length wsX1_length) := lc_gV lb_283 lb_284 lb_285 lb_17 lb_286
theorem gL_law_X0_lines : GoodIn wsL_law (wsV RL 59 RX0 yX0_lines wsX0_lines) := lc_gV lb_50 lb_51 lb_52 lb_16 lb_53
theorem gL_law_X1_lines : GoodIn wsL_law (wsV RL 62 RX1 yX1_lines wsX1_lines) := lc_gV lb_291 lb_292 lb_293 lb_17 lb_294
theorem gL_law_L_line : GoodIn wsL_law (va_wsS RL 63 yL_line wsL_line) := lc_gT lb_212 lb_213 lb_15 lb_214
theorem gL_law_X1_line : GoodIn wsL_law (wsV RL 65 RX1 yX1_line wsX1_line) := lc_gV lb_303 lb_304 lb_305 lb_17 lb_306
theorem gL_law_L_lineOf : GoodIn wsL_law (va_wsS RL 66 yL_lineOf wsL_lineOf) := lc_gT lb_223 lb_224 lb_15 lb_225
theorem gL_law_X1_lineOf : GoodIn wsL_law (wsV RL 68 RX1 yX1_lineOf wsX1_lineOf) := lc_gV lb_311 lb_312 lb_313 lb_17 lb_314
theorem gL_law_X0_digest : GoodIn wsL_law (wsV RL 69 RX0 yX0_digest wsX0_digest) := lc_gV lb_54 lb_55 lb_56 lb_16 lb_57
theorem gL_law_X1_digest : GoodIn wsL_law (wsV RL 72 RX1 yX1_digest wsX1_digest) := lc_gV lb_319 lb_320 lb_321 lb_17 lb_322
end
section
theorem dL_insert_0 : decode cL_insert 0 = .ok (.aload 5, 2) := by decide +kernel
theorem dL_insert_2 : decode cL_insert 2 = .ok (.iconst 0, 1) := by decide +kernel
theorem dL_insert_3 : decode cL_insert 3 = .ok (.aload_n 0, 1) := by decide +kernel
theorem dL_insert_4 : decode cL_insert 4 = .ok (.iload_n 1, 1) := by decide +kernel
theorem dL_insert_5 : decode cL_insert 5 = .ok (.iload_n 2, 1) := by decide +kernel
theorem dL_insert_6 : decode cL_insert 6 = .ok (.iload_n 3, 1) := by decide +kernel
theorem dL_insert_7 : decode cL_insert 7 = .ok (.iload 4, 2) := by decide +kernel
theorem dL_insert_9 : decode cL_insert 9 = .ok (.invokevirtual 7, 3) := by decide +kernel
theorem dL_insert_12 : decode cL_insert 12 = .ok (.i2l, 1) := by decide +kernel
theorem dL_insert_13 : decode cL_insert 13 = .ok (.lastore, 1) := by decide +kernel
theorem dL_insert_14 : decode cL_insert 14 = .ok (.goto 11, 3) := by decide +kernel
theorem dL_insert_17 : decode cL_insert 17 = .ok (.astore 6, 2) := by decide +kernel
theorem dL_insert_19 : decode cL_insert 19 = .ok (.iconst 1, 1) := by decide +kernel
theorem dL_insert_20 : decode cL_insert 20 = .ok (.ireturn, 1) := by decide +kernel
theorem dL_insert_21 : decode cL_insert 21 = .ok (.astore 6, 2) := by decide +kernel
theorem dL_insert_23 : decode cL_insert 23 = .ok (.iconst 2, 1) := by decide +kernel
theorem dL_insert_24 : decode cL_insert 24 = .ok (.ireturn, 1) := by decide +kernel
theorem dL_insert_25 : decode cL_insert 25 = .ok (.iconst 0, 1) := by decide +kernel
theorem dL_insert_26 : decode cL_insert 26 = .ok (.ireturn, 1) := by decide +kernel
theorem dL_delete_0 : decode cL_delete 0 = .ok (.aload_n 3, 1) := by decide +kernel
theorem dL_delete_1 : decode cL_delete 1 = .ok (.iconst 0, 1) := by decide +kernel
theorem dL_delete_2 : decode cL_delete 2 = .ok (.aload_n 0, 1) := by decide +kernel
theorem dL_delete_3 : decode cL_delete 3 = .ok (.iload_n 1, 1) := by decide +kernel
theorem dL_delete_4 : decode cL_delete 4 = .ok (.iload_n 2, 1) := by decide +kernel
theorem dL_delete_5 : decode cL_delete 5 = .ok (.invokevirtual 17, 3) := by decide +kernel
theorem dL_delete_8 : decode cL_delete 8 = .ok (.i2l, 1) := by decide +kernel
theorem dL_delete_9 : decode cL_delete 9 = .ok (.lastore, 1) := by decide +kernel
theorem dL_delete_10 : decode cL_delete 10 = .ok (.goto 7, 3) := by decide +kernel
theorem dL_delete_13 : decode cL_delete 13 = .ok (.astore 4, 2) := by decide +kernel
theorem dL_delete_15 : decode cL_delete 15 = .ok (.iconst 1, 1) := by decide +kernel
theorem dL_delete_16 : decode cL_delete 16 = .ok (.ireturn, 1) := by decide +kernel
theorem dL_delete_17 : decode cL_delete 17 = .ok (.iconst 0, 1) := by decide +kernel
theorem dL_delete_18 : decode cL_delete 18 = .ok (.ireturn, 1) := by decide +kernel
theorem dL_get_0 : decode cL_get 0 = .ok (.aload_n 2, 1) := by decide +kernel
theorem dL_get_1 : decode cL_get 1 = .ok (.iconst 0, 1) := by decide +kernel
theorem dL_get_2 : decode cL_get 2 = .ok (.aload_n 0, 1) := by decide +kernel
theorem dL_get_3 : decode cL_get 3 = .ok (.iload_n 1, 1) := by decide +kernel
theorem dL_get_4 : decode cL_get 4 = .ok (.invokevirtual 21, 3) := by decide +kernel
theorem dL_get_7 : decode cL_get 7 = .ok (.i2l, 1) := by decide +kernel
theorem dL_get_8 : decode cL_get 8 = .ok (.lastore, 1) := by decide +kernel
theorem dL_get_9 : decode cL_get 9 = .ok (.goto 6, 3) := by decide +kernel
theorem dL_get_12 : decode cL_get 12 = .ok (.astore_n 3, 1) := by decide +kernel
theorem dL_get_13 : decode cL_get 13 = .ok (.iconst 1, 1) := by decide +kernel
theorem dL_get_14 : decode cL_get 14 = .ok (.ireturn, 1) := by decide +kernel
theorem dL_get_15 : decode cL_get 15 = .ok (.iconst 0, 1) := by decide +kernel
theorem dL_get_16 : decode cL_get 16 = .ok (.ireturn, 1) := by decide +kernel
theorem dL_line_0 : decode cL_line 0 = .ok (.aload_n 2, 1) := by decide +kernel
theorem dL_line_1 : decode cL_line 1 = .ok (.iconst 0, 1) := by decide +kernel
theorem dL_line_2 : decode cL_line 2 = .ok (.aload_n 0, 1) := by decide +kernel
theorem dL_line_3 : decode cL_line 3 = .ok (.iload_n 1, 1) := by decide +kernel
theorem dL_line_4 : decode cL_line 4 = .ok (.invokevirtual 27, 3) := by decide +kernel
theorem dL_line_7 : decode cL_line 7 = .ok (.i2l, 1) := by decide +kernel
theorem dL_line_8 : decode cL_line 8 = .ok (.lastore, 1) := by decide +kernel
theorem dL_line_9 : decode cL_line 9 = .ok (.goto 6, 3) := by decide +kernel
theorem dL_line_12 : decode cL_line 12 = .ok (.astore_n 3, 1) := by decide +kernel
theorem dL_line_13 : decode cL_line 13 = .ok (.iconst 1, 1) := by decide +kernel
theorem dL_line_14 : decode cL_line 14 = .ok (.ireturn, 1) := by decide +kernel
theorem dL_line_15 : decode cL_line 15 = .ok (.iconst 0, 1) := by decide +kernel
theorem dL_line_16 : decode cL_line 16 = .ok (.ireturn, 1) := by decide +kernel
theorem dL_lineOf_0 : decode cL_lineOf 0 = .ok (.aload_n 2, 1) := by decide +kernel
theorem dL_lineOf_1 : decode cL_lineOf 1 = .ok (.iconst 0, 1) := by decide +kernel
theorem dL_lineOf_2 : decode cL_lineOf 2 = .ok (.aload_n 0, 1) := by decide +kernel
theorem dL_lineOf_3 : decode cL_lineOf 3 = .ok (.iload_n 1, 1) := by decide +kernel
theorem dL_lineOf_4 : decode cL_lineOf 4 = .ok (.invokevirtual 30, 3) := by decide +kernel
theorem dL_lineOf_7 : decode cL_lineOf 7 = .ok (.i2l, 1) := by decide +kernel
theorem dL_lineOf_8 : decode cL_lineOf 8 = .ok (.lastore, 1) := by decide +kernel
theorem dL_lineOf_9 : decode cL_lineOf 9 = .ok (.goto 6, 3) := by decide +kernel
theorem dL_lineOf_12 : decode cL_lineOf 12 = .ok (.astore_n 3, 1) := by decide +kernel
theorem dL_lineOf_13 : decode cL_lineOf 13 = .ok (.iconst 1, 1) := by decide +kernel
theorem dL_lineOf_14 : decode cL_lineOf 14 = .ok (.ireturn, 1) := by decide +kernel
theorem dL_lineOf_15 : decode cL_lineOf 15 = .ok (.iconst 0, 1) := by decide +kernel
theorem dL_lineOf_16 : decode cL_lineOf 16 = .ok (.ireturn, 1) := by decide +kernel
theorem dL_law_0 : decode cL_law 0 = .ok (.new 8, 3) := by decide +kernel
theorem dL_law_3 : decode cL_law 3 = .ok (.dup, 1) := by decide +kernel
theorem dL_law_4 : decode cL_law 4 = .ok (.invokespecial 33, 3) := by decide +kernel
theorem dL_law_7 : decode cL_law 7 = .ok (.astore_n 1, 1) := by decide +kernel
theorem dL_law_8 : decode cL_law 8 = .ok (.new 34, 3) := by decide +kernel
theorem dL_law_11 : decode cL_law 11 = .ok (.dup, 1) := by decide +kernel
theorem dL_law_12 : decode cL_law 12 = .ok (.invokespecial 36, 3) := by decide +kernel
theorem dL_law_15 : decode cL_law 15 = .ok (.astore_n 2, 1) := by decide +kernel
theorem dL_law_16 : decode cL_law 16 = .ok (.iconst 1, 1) := by decide +kernel
theorem dL_law_17 : decode cL_law 17 = .ok (.newarray .long, 2) := by decide +kernel
theorem dL_law_19 : decode cL_law 19 = .ok (.astore_n 3, 1) := by decide +kernel
theorem dL_law_20 : decode cL_law 20 = .ok (.iconst 0, 1) := by decide +kernel
theorem dL_law_21 : decode cL_law 21 = .ok (.istore 4, 2) := by decide +kernel
theorem dL_law_23 : decode cL_law 23 = .ok (.iload 4, 2) := by decide +kernel
theorem dL_law_25 : decode cL_law 25 = .ok (.aload_n 0, 1) := by decide +kernel
theorem dL_law_26 : decode cL_law 26 = .ok (.arraylength, 1) := by decide +kernel
theorem dL_law_27 : decode cL_law 27 = .ok (.iconst 5, 1) := by decide +kernel
theorem dL_law_28 : decode cL_law 28 = .ok (.isub, 1) := by decide +kernel
theorem dL_law_29 : decode cL_law 29 = .ok (.if_icmp .gt 428, 3) := by decide +kernel
theorem dL_law_32 : decode cL_law 32 = .ok (.aload_n 0, 1) := by decide +kernel
theorem dL_law_33 : decode cL_law 33 = .ok (.iload 4, 2) := by decide +kernel
theorem dL_law_35 : decode cL_law 35 = .ok (.iaload, 1) := by decide +kernel
theorem dL_law_36 : decode cL_law 36 = .ok (.bipush 7, 2) := by decide +kernel
theorem dL_law_38 : decode cL_law 38 = .ok (.iand, 1) := by decide +kernel
theorem dL_law_39 : decode cL_law 39 = .ok (.tableswitch 412 0 7 #[45, 137, 205, 261, 274, 287, 343, 399], 45) := by decide +kernel
theorem dL_law_84 : decode cL_law 84 = .ok (.aload_n 1, 1) := by decide +kernel
theorem dL_law_85 : decode cL_law 85 = .ok (.aload_n 0, 1) := by decide +kernel
theorem dL_law_86 : decode cL_law 86 = .ok (.iload 4, 2) := by decide +kernel
theorem dL_law_88 : decode cL_law 88 = .ok (.iconst 1, 1) := by decide +kernel
theorem dL_law_89 : decode cL_law 89 = .ok (.iadd, 1) := by decide +kernel
theorem dL_law_90 : decode cL_law 90 = .ok (.iaload, 1) := by decide +kernel
theorem dL_law_91 : decode cL_law 91 = .ok (.aload_n 0, 1) := by decide +kernel
theorem dL_law_92 : decode cL_law 92 = .ok (.iload 4, 2) := by decide +kernel
theorem dL_law_94 : decode cL_law 94 = .ok (.iconst 2, 1) := by decide +kernel
theorem dL_law_95 : decode cL_law 95 = .ok (.iadd, 1) := by decide +kernel
theorem dL_law_96 : decode cL_law 96 = .ok (.iaload, 1) := by decide +kernel
theorem dL_law_97 : decode cL_law 97 = .ok (.aload_n 0, 1) := by decide +kernel
theorem dL_law_98 : decode cL_law 98 = .ok (.iload 4, 2) := by decide +kernel
theorem dL_law_100 : decode cL_law 100 = .ok (.iconst 3, 1) := by decide +kernel
theorem dL_law_101 : decode cL_law 101 = .ok (.iadd, 1) := by decide +kernel
theorem dL_law_102 : decode cL_law 102 = .ok (.iaload, 1) := by decide +kernel
theorem dL_law_103 : decode cL_law 103 = .ok (.aload_n 0, 1) := by decide +kernel
theorem dL_law_104 : decode cL_law 104 = .ok (.iload 4, 2) := by decide +kernel
theorem dL_law_106 : decode cL_law 106 = .ok (.iconst 4, 1) := by decide +kernel
theorem dL_law_107 : decode cL_law 107 = .ok (.iadd, 1) := by decide +kernel
theorem dL_law_108 : decode cL_law 108 = .ok (.iaload, 1) := by decide +kernel
theorem dL_law_109 : decode cL_law 109 = .ok (.aload_n 3, 1) := by decide +kernel
theorem dL_law_110 : decode cL_law 110 = .ok (.invokestatic 37, 3) := by decide +kernel
theorem dL_law_113 : decode cL_law 113 = .ok (.istore 5, 2) := by decide +kernel
theorem dL_law_115 : decode cL_law 115 = .ok (.aload_n 2, 1) := by decide +kernel
theorem dL_law_116 : decode cL_law 116 = .ok (.aload_n 0, 1) := by decide +kernel
theorem dL_law_117 : decode cL_law 117 = .ok (.iload 4, 2) := by decide +kernel
theorem dL_law_119 : decode cL_law 119 = .ok (.iconst 1, 1) := by decide +kernel
theorem dL_law_120 : decode cL_law 120 = .ok (.iadd, 1) := by decide +kernel
theorem dL_law_121 : decode cL_law 121 = .ok (.iaload, 1) := by decide +kernel
theorem dL_law_122 : decode cL_law 122 = .ok (.aload_n 0, 1) := by decide +kernel
theorem dL_law_123 : decode cL_law 123 = .ok (.iload 4, 2) := by decide +kernel
theorem dL_law_125 : decode cL_law 125 = .ok (.iconst 2, 1) := by decide +kernel
theorem dL_law_126 : decode cL_law 126 = .ok (.iadd, 1) := by decide +kernel
theorem dL_law_127 : decode cL_law 127 = .ok (.iaload, 1) := by decide +kernel
theorem dL_law_128 : decode cL_law 128 = .ok (.aload_n 0, 1) := by decide +kernel
theorem dL_law_129 : decode cL_law 129 = .ok (.iload 4, 2) := by decide +kernel
theorem dL_law_131 : decode cL_law 131 = .ok (.iconst 3, 1) := by decide +kernel
theorem dL_law_132 : decode cL_law 132 = .ok (.iadd, 1) := by decide +kernel
theorem dL_law_133 : decode cL_law 133 = .ok (.iaload, 1) := by decide +kernel
theorem dL_law_134 : decode cL_law 134 = .ok (.aload_n 0, 1) := by decide +kernel
theorem dL_law_135 : decode cL_law 135 = .ok (.iload 4, 2) := by decide +kernel
theorem dL_law_137 : decode cL_law 137 = .ok (.iconst 4, 1) := by decide +kernel
theorem dL_law_138 : decode cL_law 138 = .ok (.iadd, 1) := by decide +kernel
theorem dL_law_139 : decode cL_law 139 = .ok (.iaload, 1) := by decide +kernel
theorem dL_law_140 : decode cL_law 140 = .ok (.invokevirtual 42, 3) := by decide +kernel
theorem dL_law_143 : decode cL_law 143 = .ok (.istore 6, 2) := by decide +kernel
theorem dL_law_145 : decode cL_law 145 = .ok (.aload_n 2, 1) := by decide +kernel
theorem dL_law_146 : decode cL_law 146 = .ok (.invokevirtual 43, 3) := by decide +kernel
theorem dL_law_149 : decode cL_law 149 = .ok (.iload 5, 2) := by decide +kernel
theorem dL_law_151 : decode cL_law 151 = .ok (.if_icmp .eq 5, 3) := by decide +kernel
theorem dL_law_154 : decode cL_law 154 = .ok (.iconst 0, 1) := by decide +kernel
theorem dL_law_155 : decode cL_law 155 = .ok (.ireturn, 1) := by decide +kernel
theorem dL_law_156 : decode cL_law 156 = .ok (.iload 5, 2) := by decide +kernel
theorem dL_law_158 : decode cL_law 158 = .ok (.ifCond .ne 15, 3) := by decide +kernel
theorem dL_law_161 : decode cL_law 161 = .ok (.aload_n 3, 1) := by decide +kernel
theorem dL_law_162 : decode cL_law 162 = .ok (.iconst 0, 1) := by decide +kernel
theorem dL_law_163 : decode cL_law 163 = .ok (.laload, 1) := by decide +kernel
theorem dL_law_164 : decode cL_law 164 = .ok (.iload 6, 2) := by decide +kernel
theorem dL_law_166 : decode cL_law 166 = .ok (.i2l, 1) := by decide +kernel
theorem dL_law_167 : decode cL_law 167 = .ok (.lcmp, 1) := by decide +kernel
theorem dL_law_168 : decode cL_law 168 = .ok (.ifCond .eq 5, 3) := by decide +kernel
theorem dL_law_171 : decode cL_law 171 = .ok (.iconst 0, 1) := by decide +kernel
theorem dL_law_172 : decode cL_law 172 = .ok (.ireturn, 1) := by decide +kernel
theorem dL_law_173 : decode cL_law 173 = .ok (.goto 278, 3) := by decide +kernel
theorem dL_law_176 : decode cL_law 176 = .ok (.aload_n 1, 1) := by decide +kernel
theorem dL_law_177 : decode cL_law 177 = .ok (.aload_n 0, 1) := by decide +kernel
theorem dL_law_178 : decode cL_law 178 = .ok (.iload 4, 2) := by decide +kernel
theorem dL_law_180 : decode cL_law 180 = .ok (.iconst 1, 1) := by decide +kernel
theorem dL_law_181 : decode cL_law 181 = .ok (.iadd, 1) := by decide +kernel
theorem dL_law_182 : decode cL_law 182 = .ok (.iaload, 1) := by decide +kernel
theorem dL_law_183 : decode cL_law 183 = .ok (.aload_n 0, 1) := by decide +kernel
theorem dL_law_184 : decode cL_law 184 = .ok (.iload 4, 2) := by decide +kernel
theorem dL_law_186 : decode cL_law 186 = .ok (.iconst 2, 1) := by decide +kernel
theorem dL_law_187 : decode cL_law 187 = .ok (.iadd, 1) := by decide +kernel
theorem dL_law_188 : decode cL_law 188 = .ok (.iaload, 1) := by decide +kernel
theorem dL_law_189 : decode cL_law 189 = .ok (.aload_n 3, 1) := by decide +kernel
theorem dL_law_190 : decode cL_law 190 = .ok (.invokestatic 47, 3) := by decide +kernel
theorem dL_law_193 : decode cL_law 193 = .ok (.istore 5, 2) := by decide +kernel
theorem dL_law_195 : decode cL_law 195 = .ok (.aload_n 2, 1) := by decide +kernel
theorem dL_law_196 : decode cL_law 196 = .ok (.aload_n 0, 1) := by decide +kernel
theorem dL_law_197 : decode cL_law 197 = .ok (.iload 4, 2) := by decide +kernel
theorem dL_law_199 : decode cL_law 199 = .ok (.iconst 1, 1) := by decide +kernel
theorem dL_law_200 : decode cL_law 200 = .ok (.iadd, 1) := by decide +kernel
theorem dL_law_201 : decode cL_law 201 = .ok (.iaload, 1) := by decide +kernel
theorem dL_law_202 : decode cL_law 202 = .ok (.aload_n 0, 1) := by decide +kernel
theorem dL_law_203 : decode cL_law 203 = .ok (.iload 4, 2) := by decide +kernel
theorem dL_law_205 : decode cL_law 205 = .ok (.iconst 2, 1) := by decide +kernel
theorem dL_law_206 : decode cL_law 206 = .ok (.iadd, 1) := by decide +kernel
theorem dL_law_207 : decode cL_law 207 = .ok (.iaload, 1) := by decide +kernel
theorem dL_law_208 : decode cL_law 208 = .ok (.invokevirtual 50, 3) := by decide +kernel
theorem dL_law_211 : decode cL_law 211 = .ok (.istore 6, 2) := by decide +kernel
theorem dL_law_213 : decode cL_law 213 = .ok (.aload_n 2, 1) := by decide +kernel
theorem dL_law_214 : decode cL_law 214 = .ok (.invokevirtual 43, 3) := by decide +kernel
theorem dL_law_217 : decode cL_law 217 = .ok (.iload 5, 2) := by decide +kernel
theorem dL_law_219 : decode cL_law 219 = .ok (.if_icmp .eq 5, 3) := by decide +kernel
theorem dL_law_222 : decode cL_law 222 = .ok (.iconst 0, 1) := by decide +kernel
theorem dL_law_223 : decode cL_law 223 = .ok (.ireturn, 1) := by decide +kernel
theorem dL_law_224 : decode cL_law 224 = .ok (.iload 5, 2) := by decide +kernel
theorem dL_law_226 : decode cL_law 226 = .ok (.ifCond .ne 15, 3) := by decide +kernel
theorem dL_law_229 : decode cL_law 229 = .ok (.aload_n 3, 1) := by decide +kernel
theorem dL_law_230 : decode cL_law 230 = .ok (.iconst 0, 1) := by decide +kernel
theorem dL_law_231 : decode cL_law 231 = .ok (.laload, 1) := by decide +kernel
theorem dL_law_232 : decode cL_law 232 = .ok (.iload 6, 2) := by decide +kernel
theorem dL_law_234 : decode cL_law 234 = .ok (.i2l, 1) := by decide +kernel
theorem dL_law_235 : decode cL_law 235 = .ok (.lcmp, 1) := by decide +kernel
theorem dL_law_236 : decode cL_law 236 = .ok (.ifCond .eq 5, 3) := by decide +kernel
theorem dL_law_239 : decode cL_law 239 = .ok (.iconst 0, 1) := by decide +kernel
theorem dL_law_240 : decode cL_law 240 = .ok (.ireturn, 1) := by decide +kernel
theorem dL_law_241 : decode cL_law 241 = .ok (.goto 210, 3) := by decide +kernel
theorem dL_law_244 : decode cL_law 244 = .ok (.aload_n 1, 1) := by decide +kernel
theorem dL_law_245 : decode cL_law 245 = .ok (.aload_n 0, 1) := by decide +kernel
theorem dL_law_246 : decode cL_law 246 = .ok (.iload 4, 2) := by decide +kernel
theorem dL_law_248 : decode cL_law 248 = .ok (.iconst 1, 1) := by decide +kernel
theorem dL_law_249 : decode cL_law 249 = .ok (.iadd, 1) := by decide +kernel
theorem dL_law_250 : decode cL_law 250 = .ok (.iaload, 1) := by decide +kernel
theorem dL_law_251 : decode cL_law 251 = .ok (.aload_n 3, 1) := by decide +kernel
theorem dL_law_252 : decode cL_law 252 = .ok (.invokestatic 51, 3) := by decide +kernel
theorem dL_law_255 : decode cL_law 255 = .ok (.istore 5, 2) := by decide +kernel
theorem dL_law_257 : decode cL_law 257 = .ok (.aload_n 2, 1) := by decide +kernel
theorem dL_law_258 : decode cL_law 258 = .ok (.aload_n 0, 1) := by decide +kernel
theorem dL_law_259 : decode cL_law 259 = .ok (.iload 4, 2) := by decide +kernel
theorem dL_law_261 : decode cL_law 261 = .ok (.iconst 1, 1) := by decide +kernel
theorem dL_law_262 : decode cL_law 262 = .ok (.iadd, 1) := by decide +kernel
theorem dL_law_263 : decode cL_law 263 = .ok (.iaload, 1) := by decide +kernel
theorem dL_law_264 : decode cL_law 264 = .ok (.invokevirtual 54, 3) := by decide +kernel
theorem dL_law_267 : decode cL_law 267 = .ok (.istore 6, 2) := by decide +kernel
theorem dL_law_269 : decode cL_law 269 = .ok (.aload_n 2, 1) := by decide +kernel
theorem dL_law_270 : decode cL_law 270 = .ok (.invokevirtual 43, 3) := by decide +kernel
theorem dL_law_273 : decode cL_law 273 = .ok (.iload 5, 2) := by decide +kernel
theorem dL_law_275 : decode cL_law 275 = .ok (.if_icmp .eq 5, 3) := by decide +kernel
theorem dL_law_278 : decode cL_law 278 = .ok (.iconst 0, 1) := by decide +kernel
theorem dL_law_279 : decode cL_law 279 = .ok (.ireturn, 1) := by decide +kernel
theorem dL_law_280 : decode cL_law 280 = .ok (.iload 5, 2) := by decide +kernel
theorem dL_law_282 : decode cL_law 282 = .ok (.ifCond .ne 15, 3) := by decide +kernel
theorem dL_law_285 : decode cL_law 285 = .ok (.aload_n 3, 1) := by decide +kernel
theorem dL_law_286 : decode cL_law 286 = .ok (.iconst 0, 1) := by decide +kernel
theorem dL_law_287 : decode cL_law 287 = .ok (.laload, 1) := by decide +kernel
theorem dL_law_288 : decode cL_law 288 = .ok (.iload 6, 2) := by decide +kernel
theorem dL_law_290 : decode cL_law 290 = .ok (.i2l, 1) := by decide +kernel
theorem dL_law_291 : decode cL_law 291 = .ok (.lcmp, 1) := by decide +kernel
theorem dL_law_292 : decode cL_law 292 = .ok (.ifCond .eq 5, 3) := by decide +kernel
theorem dL_law_295 : decode cL_law 295 = .ok (.iconst 0, 1) := by decide +kernel
theorem dL_law_296 : decode cL_law 296 = .ok (.ireturn, 1) := by decide +kernel
theorem dL_law_297 : decode cL_law 297 = .ok (.goto 154, 3) := by decide +kernel
theorem dL_law_300 : decode cL_law 300 = .ok (.aload_n 1, 1) := by decide +kernel
theorem dL_law_301 : decode cL_law 301 = .ok (.invokevirtual 55, 3) := by decide +kernel
theorem dL_law_304 : decode cL_law 304 = .ok (.aload_n 2, 1) := by decide +kernel
theorem dL_law_305 : decode cL_law 305 = .ok (.invokevirtual 58, 3) := by decide +kernel
theorem dL_law_308 : decode cL_law 308 = .ok (.if_icmp .eq 143, 3) := by decide +kernel
theorem dL_law_311 : decode cL_law 311 = .ok (.iconst 0, 1) := by decide +kernel
theorem dL_law_312 : decode cL_law 312 = .ok (.ireturn, 1) := by decide +kernel
theorem dL_law_313 : decode cL_law 313 = .ok (.aload_n 1, 1) := by decide +kernel
theorem dL_law_314 : decode cL_law 314 = .ok (.invokevirtual 59, 3) := by decide +kernel
theorem dL_law_317 : decode cL_law 317 = .ok (.aload_n 2, 1) := by decide +kernel
theorem dL_law_318 : decode cL_law 318 = .ok (.invokevirtual 62, 3) := by decide +kernel
theorem dL_law_321 : decode cL_law 321 = .ok (.if_icmp .eq 130, 3) := by decide +kernel
theorem dL_law_324 : decode cL_law 324 = .ok (.iconst 0, 1) := by decide +kernel
theorem dL_law_325 : decode cL_law 325 = .ok (.ireturn, 1) := by decide +kernel
theorem dL_law_326 : decode cL_law 326 = .ok (.aload_n 1, 1) := by decide +kernel
theorem dL_law_327 : decode cL_law 327 = .ok (.aload_n 0, 1) := by decide +kernel
theorem dL_law_328 : decode cL_law 328 = .ok (.iload 4, 2) := by decide +kernel
theorem dL_law_330 : decode cL_law 330 = .ok (.iconst 1, 1) := by decide +kernel
theorem dL_law_331 : decode cL_law 331 = .ok (.iadd, 1) := by decide +kernel
theorem dL_law_332 : decode cL_law 332 = .ok (.iaload, 1) := by decide +kernel
theorem dL_law_333 : decode cL_law 333 = .ok (.aload_n 3, 1) := by decide +kernel
theorem dL_law_334 : decode cL_law 334 = .ok (.invokestatic 63, 3) := by decide +kernel
theorem dL_law_337 : decode cL_law 337 = .ok (.istore 5, 2) := by decide +kernel
theorem dL_law_339 : decode cL_law 339 = .ok (.aload_n 2, 1) := by decide +kernel
theorem dL_law_340 : decode cL_law 340 = .ok (.aload_n 0, 1) := by decide +kernel
theorem dL_law_341 : decode cL_law 341 = .ok (.iload 4, 2) := by decide +kernel
theorem dL_law_343 : decode cL_law 343 = .ok (.iconst 1, 1) := by decide +kernel
theorem dL_law_344 : decode cL_law 344 = .ok (.iadd, 1) := by decide +kernel
theorem dL_law_345 : decode cL_law 345 = .ok (.iaload, 1) := by decide +kernel
theorem dL_law_346 : decode cL_law 346 = .ok (.invokevirtual 65, 3) := by decide +kernel
theorem dL_law_349 : decode cL_law 349 = .ok (.istore 6, 2) := by decide +kernel
theorem dL_law_351 : decode cL_law 351 = .ok (.aload_n 2, 1) := by decide +kernel
theorem dL_law_352 : decode cL_law 352 = .ok (.invokevirtual 43, 3) := by decide +kernel
theorem dL_law_355 : decode cL_law 355 = .ok (.iload 5, 2) := by decide +kernel
theorem dL_law_357 : decode cL_law 357 = .ok (.if_icmp .eq 5, 3) := by decide +kernel
theorem dL_law_360 : decode cL_law 360 = .ok (.iconst 0, 1) := by decide +kernel
theorem dL_law_361 : decode cL_law 361 = .ok (.ireturn, 1) := by decide +kernel
theorem dL_law_362 : decode cL_law 362 = .ok (.iload 5, 2) := by decide +kernel
theorem dL_law_364 : decode cL_law 364 = .ok (.ifCond .ne 15, 3) := by decide +kernel
theorem dL_law_367 : decode cL_law 367 = .ok (.aload_n 3, 1) := by decide +kernel
theorem dL_law_368 : decode cL_law 368 = .ok (.iconst 0, 1) := by decide +kernel
theorem dL_law_369 : decode cL_law 369 = .ok (.laload, 1) := by decide +kernel
theorem dL_law_370 : decode cL_law 370 = .ok (.iload 6, 2) := by decide +kernel
theorem dL_law_372 : decode cL_law 372 = .ok (.i2l, 1) := by decide +kernel
theorem dL_law_373 : decode cL_law 373 = .ok (.lcmp, 1) := by decide +kernel
theorem dL_law_374 : decode cL_law 374 = .ok (.ifCond .eq 5, 3) := by decide +kernel
theorem dL_law_377 : decode cL_law 377 = .ok (.iconst 0, 1) := by decide +kernel
theorem dL_law_378 : decode cL_law 378 = .ok (.ireturn, 1) := by decide +kernel
theorem dL_law_379 : decode cL_law 379 = .ok (.goto 72, 3) := by decide +kernel
theorem dL_law_382 : decode cL_law 382 = .ok (.aload_n 1, 1) := by decide +kernel
theorem dL_law_383 : decode cL_law 383 = .ok (.aload_n 0, 1) := by decide +kernel
theorem dL_law_384 : decode cL_law 384 = .ok (.iload 4, 2) := by decide +kernel
theorem dL_law_386 : decode cL_law 386 = .ok (.iconst 1, 1) := by decide +kernel
theorem dL_law_387 : decode cL_law 387 = .ok (.iadd, 1) := by decide +kernel
theorem dL_law_388 : decode cL_law 388 = .ok (.iaload, 1) := by decide +kernel
theorem dL_law_389 : decode cL_law 389 = .ok (.aload_n 3, 1) := by decide +kernel
theorem dL_law_390 : decode cL_law 390 = .ok (.invokestatic 66, 3) := by decide +kernel
theorem dL_law_393 : decode cL_law 393 = .ok (.istore 5, 2) := by decide +kernel
theorem dL_law_395 : decode cL_law 395 = .ok (.aload_n 2, 1) := by decide +kernel
theorem dL_law_396 : decode cL_law 396 = .ok (.aload_n 0, 1) := by decide +kernel
theorem dL_law_397 : decode cL_law 397 = .ok (.iload 4, 2) := by decide +kernel
theorem dL_law_399 : decode cL_law 399 = .ok (.iconst 1, 1) := by decide +kernel
theorem dL_law_400 : decode cL_law 400 = .ok (.iadd, 1) := by decide +kernel
theorem dL_law_401 : decode cL_law 401 = .ok (.iaload, 1) := by decide +kernel
theorem dL_law_402 : decode cL_law 402 = .ok (.invokevirtual 68, 3) := by decide +kernel
theorem dL_law_405 : decode cL_law 405 = .ok (.istore 6, 2) := by decide +kernel
theorem dL_law_407 : decode cL_law 407 = .ok (.aload_n 2, 1) := by decide +kernel
theorem dL_law_408 : decode cL_law 408 = .ok (.invokevirtual 43, 3) := by decide +kernel
theorem dL_law_411 : decode cL_law 411 = .ok (.iload 5, 2) := by decide +kernel
theorem dL_law_413 : decode cL_law 413 = .ok (.if_icmp .eq 5, 3) := by decide +kernel
theorem dL_law_416 : decode cL_law 416 = .ok (.iconst 0, 1) := by decide +kernel
theorem dL_law_417 : decode cL_law 417 = .ok (.ireturn, 1) := by decide +kernel
theorem dL_law_418 : decode cL_law 418 = .ok (.iload 5, 2) := by decide +kernel
theorem dL_law_420 : decode cL_law 420 = .ok (.ifCond .ne 15, 3) := by decide +kernel
theorem dL_law_423 : decode cL_law 423 = .ok (.aload_n 3, 1) := by decide +kernel
theorem dL_law_424 : decode cL_law 424 = .ok (.iconst 0, 1) := by decide +kernel
theorem dL_law_425 : decode cL_law 425 = .ok (.laload, 1) := by decide +kernel
theorem dL_law_426 : decode cL_law 426 = .ok (.iload 6, 2) := by decide +kernel
theorem dL_law_428 : decode cL_law 428 = .ok (.i2l, 1) := by decide +kernel
theorem dL_law_429 : decode cL_law 429 = .ok (.lcmp, 1) := by decide +kernel
theorem dL_law_430 : decode cL_law 430 = .ok (.ifCond .eq 5, 3) := by decide +kernel
theorem dL_law_433 : decode cL_law 433 = .ok (.iconst 0, 1) := by decide +kernel
theorem dL_law_434 : decode cL_law 434 = .ok (.ireturn, 1) := by decide +kernel
theorem dL_law_435 : decode cL_law 435 = .ok (.goto 16, 3) := by decide +kernel
theorem dL_law_438 : decode cL_law 438 = .ok (.aload_n 1, 1) := by decide +kernel
theorem dL_law_439 : decode cL_law 439 = .ok (.invokevirtual 69, 3) := by decide +kernel
theorem dL_law_442 : decode cL_law 442 = .ok (.aload_n 2, 1) := by decide +kernel
theorem dL_law_443 : decode cL_law 443 = .ok (.invokevirtual 72, 3) := by decide +kernel
theorem dL_law_446 : decode cL_law 446 = .ok (.if_icmp .eq 5, 3) := by decide +kernel
theorem dL_law_449 : decode cL_law 449 = .ok (.iconst 0, 1) := by decide +kernel
theorem dL_law_450 : decode cL_law 450 = .ok (.ireturn, 1) := by decide +kernel
theorem dL_law_451 : decode cL_law 451 = .ok (.iinc 4 5, 3) := by decide +kernel
theorem dL_law_454 : decode cL_law 454 = .ok (.goto (-431), 3) := by decide +kernel
theorem dL_law_457 : decode cL_law 457 = .ok (.iconst 1, 1) := by decide +kernel
theorem dL_law_458 : decode cL_law 458 = .ok (.ireturn, 1) := by decide +kernel
end
section
theorem dX0_init_0 : decode cX0_init 0 = .ok (.aload_n 0, 1) := by decide +kernel
theorem dX0_init_1 : decode cX0_init 1 = .ok (.invokespecial 1, 3) := by decide +kernel
theorem dX0_init_4 : decode cX0_init 4 = .ok (.aload_n 0, 1) := by decide +kernel
theorem dX0_init_5 : decode cX0_init 5 = .ok (.sipush 512, 3) := by decide +kernel
theorem dX0_init_8 : decode cX0_init 8 = .ok (.newarray .int, 2) := by decide +kernel
theorem dX0_init_10 : decode cX0_init 10 = .ok (.putfield 9, 3) := by decide +kernel
theorem dX0_init_13 : decode cX0_init 13 = .ok (.aload_n 0, 1) := by decide +kernel
theorem dX0_init_14 : decode cX0_init 14 = .ok (.iconst 0, 1) := by decide +kernel
theorem dX0_init_15 : decode cX0_init 15 = .ok (.putfield 13, 3) := by decide +kernel
theorem dX0_init_18 : decode cX0_init 18 = .ok (.aload_n 0, 1) := by decide +kernel
theorem dX0_init_19 : decode cX0_init 19 = .ok (.iconst 0, 1) := by decide +kernel
theorem dX0_init_20 : decode cX0_init 20 = .ok (.putfield 17, 3) := by decide +kernel
theorem dX0_init_23 : decode cX0_init 23 = .ok (.return_, 1) := by decide +kernel
theorem dX0_insert_0 : decode cX0_insert 0 = .ok (.iload_n 1, 1) := by decide +kernel
theorem dX0_insert_1 : decode cX0_insert 1 = .ok (.ifCond .lt 25, 3) := by decide +kernel
theorem dX0_insert_4 : decode cX0_insert 4 = .ok (.iload_n 1, 1) := by decide +kernel
theorem dX0_insert_5 : decode cX0_insert 5 = .ok (.aload_n 0, 1) := by decide +kernel
theorem dX0_insert_6 : decode cX0_insert 6 = .ok (.getfield 13, 3) := by decide +kernel
theorem dX0_insert_9 : decode cX0_insert 9 = .ok (.if_icmp .gt 17, 3) := by decide +kernel
theorem dX0_insert_12 : decode cX0_insert 12 = .ok (.iload 4, 2) := by decide +kernel
theorem dX0_insert_14 : decode cX0_insert 14 = .ok (.iconst 1, 1) := by decide +kernel
theorem dX0_insert_15 : decode cX0_insert 15 = .ok (.if_icmp .lt 11, 3) := by decide +kernel
theorem dX0_insert_18 : decode cX0_insert 18 = .ok (.iload 4, 2) := by decide +kernel
theorem dX0_insert_20 : decode cX0_insert 20 = .ok (.sipush 500, 3) := by decide +kernel
theorem dX0_insert_23 : decode cX0_insert 23 = .ok (.if_icmp .le 11, 3) := by decide +kernel
theorem dX0_insert_26 : decode cX0_insert 26 = .ok (.new 20, 3) := by decide +kernel
theorem dX0_insert_29 : decode cX0_insert 29 = .ok (.dup, 1) := by decide +kernel
theorem dX0_insert_30 : decode cX0_insert 30 = .ok (.invokespecial 22, 3) := by decide +kernel
theorem dX0_insert_33 : decode cX0_insert 33 = .ok (.athrow, 1) := by decide +kernel
theorem dX0_insert_34 : decode cX0_insert 34 = .ok (.iload 4, 2) := by decide +kernel
theorem dX0_insert_36 : decode cX0_insert 36 = .ok (.sipush 20000, 3) := by decide +kernel
theorem dX0_insert_39 : decode cX0_insert 39 = .ok (.aload_n 0, 1) := by decide +kernel
theorem dX0_insert_40 : decode cX0_insert 40 = .ok (.getfield 13, 3) := by decide +kernel
theorem dX0_insert_43 : decode cX0_insert 43 = .ok (.isub, 1) := by decide +kernel
theorem dX0_insert_44 : decode cX0_insert 44 = .ok (.if_icmp .le 11, 3) := by decide +kernel
theorem dX0_insert_47 : decode cX0_insert 47 = .ok (.new 23, 3) := by decide +kernel
theorem dX0_insert_50 : decode cX0_insert 50 = .ok (.dup, 1) := by decide +kernel
theorem dX0_insert_51 : decode cX0_insert 51 = .ok (.invokespecial 25, 3) := by decide +kernel
theorem dX0_insert_54 : decode cX0_insert 54 = .ok (.athrow, 1) := by decide +kernel
theorem dX0_insert_55 : decode cX0_insert 55 = .ok (.aload_n 0, 1) := by decide +kernel
theorem dX0_insert_56 : decode cX0_insert 56 = .ok (.aload_n 0, 1) := by decide +kernel
theorem dX0_insert_57 : decode cX0_insert 57 = .ok (.getfield 13, 3) := by decide +kernel
theorem dX0_insert_60 : decode cX0_insert 60 = .ok (.iload 4, 2) := by decide +kernel
theorem dX0_insert_62 : decode cX0_insert 62 = .ok (.iadd, 1) := by decide +kernel
theorem dX0_insert_63 : decode cX0_insert 63 = .ok (.invokevirtual 26, 3) := by decide +kernel
theorem dX0_insert_66 : decode cX0_insert 66 = .ok (.aload_n 0, 1) := by decide +kernel
theorem dX0_insert_67 : decode cX0_insert 67 = .ok (.iload_n 1, 1) := by decide +kernel
theorem dX0_insert_68 : decode cX0_insert 68 = .ok (.iload_n 1, 1) := by decide +kernel
theorem dX0_insert_69 : decode cX0_insert 69 = .ok (.iload 4, 2) := by decide +kernel
theorem dX0_insert_71 : decode cX0_insert 71 = .ok (.iadd, 1) := by decide +kernel
theorem dX0_insert_72 : decode cX0_insert 72 = .ok (.invokevirtual 30, 3) := by decide +kernel
theorem dX0_insert_75 : decode cX0_insert 75 = .ok (.aload_n 0, 1) := by decide +kernel
theorem dX0_insert_76 : decode cX0_insert 76 = .ok (.iload_n 1, 1) := by decide +kernel
theorem dX0_insert_77 : decode cX0_insert 77 = .ok (.iload_n 2, 1) := by decide +kernel
theorem dX0_insert_78 : decode cX0_insert 78 = .ok (.iload_n 3, 1) := by decide +kernel
theorem dX0_insert_79 : decode cX0_insert 79 = .ok (.iload 4, 2) := by decide +kernel
theorem dX0_insert_81 : decode cX0_insert 81 = .ok (.invokevirtual 34, 3) := by decide +kernel
theorem dX0_insert_84 : decode cX0_insert 84 = .ok (.aload_n 0, 1) := by decide +kernel
theorem dX0_insert_85 : decode cX0_insert 85 = .ok (.dup, 1) := by decide +kernel
theorem dX0_insert_86 : decode cX0_insert 86 = .ok (.getfield 17, 3) := by decide +kernel
theorem dX0_insert_89 : decode cX0_insert 89 = .ok (.aload_n 0, 1) := by decide +kernel
theorem dX0_insert_90 : decode cX0_insert 90 = .ok (.iload_n 1, 1) := by decide +kernel
theorem dX0_insert_91 : decode cX0_insert 91 = .ok (.iload_n 1, 1) := by decide +kernel
theorem dX0_insert_92 : decode cX0_insert 92 = .ok (.iload 4, 2) := by decide +kernel
theorem dX0_insert_94 : decode cX0_insert 94 = .ok (.iadd, 1) := by decide +kernel
theorem dX0_insert_95 : decode cX0_insert 95 = .ok (.invokevirtual 38, 3) := by decide +kernel
theorem dX0_insert_98 : decode cX0_insert 98 = .ok (.iadd, 1) := by decide +kernel
theorem dX0_insert_99 : decode cX0_insert 99 = .ok (.putfield 17, 3) := by decide +kernel
theorem dX0_insert_102 : decode cX0_insert 102 = .ok (.aload_n 0, 1) := by decide +kernel
theorem dX0_insert_103 : decode cX0_insert 103 = .ok (.getfield 13, 3) := by decide +kernel
theorem dX0_insert_106 : decode cX0_insert 106 = .ok (.ireturn, 1) := by decide +kernel
theorem dX0_delete_0 : decode cX0_delete 0 = .ok (.iload_n 1, 1) := by decide +kernel
theorem dX0_delete_1 : decode cX0_delete 1 = .ok (.ifCond .lt 18, 3) := by decide +kernel
theorem dX0_delete_4 : decode cX0_delete 4 = .ok (.iload_n 2, 1) := by decide +kernel
theorem dX0_delete_5 : decode cX0_delete 5 = .ok (.iconst 1, 1) := by decide +kernel
theorem dX0_delete_6 : decode cX0_delete 6 = .ok (.if_icmp .lt 13, 3) := by decide +kernel
theorem dX0_delete_9 : decode cX0_delete 9 = .ok (.iload_n 1, 1) := by decide +kernel
theorem dX0_delete_10 : decode cX0_delete 10 = .ok (.aload_n 0, 1) := by decide +kernel
theorem dX0_delete_11 : decode cX0_delete 11 = .ok (.getfield 13, 3) := by decide +kernel
theorem dX0_delete_14 : decode cX0_delete 14 = .ok (.iload_n 2, 1) := by decide +kernel
theorem dX0_delete_15 : decode cX0_delete 15 = .ok (.isub, 1) := by decide +kernel
theorem dX0_delete_16 : decode cX0_delete 16 = .ok (.if_icmp .le 11, 3) := by decide +kernel
theorem dX0_delete_19 : decode cX0_delete 19 = .ok (.new 20, 3) := by decide +kernel
theorem dX0_delete_22 : decode cX0_delete 22 = .ok (.dup, 1) := by decide +kernel
theorem dX0_delete_23 : decode cX0_delete 23 = .ok (.invokespecial 22, 3) := by decide +kernel
theorem dX0_delete_26 : decode cX0_delete 26 = .ok (.athrow, 1) := by decide +kernel
theorem dX0_delete_27 : decode cX0_delete 27 = .ok (.aload_n 0, 1) := by decide +kernel
theorem dX0_delete_28 : decode cX0_delete 28 = .ok (.dup, 1) := by decide +kernel
theorem dX0_delete_29 : decode cX0_delete 29 = .ok (.getfield 17, 3) := by decide +kernel
theorem dX0_delete_32 : decode cX0_delete 32 = .ok (.aload_n 0, 1) := by decide +kernel
theorem dX0_delete_33 : decode cX0_delete 33 = .ok (.iload_n 1, 1) := by decide +kernel
theorem dX0_delete_34 : decode cX0_delete 34 = .ok (.iload_n 1, 1) := by decide +kernel
theorem dX0_delete_35 : decode cX0_delete 35 = .ok (.iload_n 2, 1) := by decide +kernel
theorem dX0_delete_36 : decode cX0_delete 36 = .ok (.iadd, 1) := by decide +kernel
theorem dX0_delete_37 : decode cX0_delete 37 = .ok (.invokevirtual 38, 3) := by decide +kernel
theorem dX0_delete_40 : decode cX0_delete 40 = .ok (.isub, 1) := by decide +kernel
theorem dX0_delete_41 : decode cX0_delete 41 = .ok (.putfield 17, 3) := by decide +kernel
theorem dX0_delete_44 : decode cX0_delete 44 = .ok (.aload_n 0, 1) := by decide +kernel
theorem dX0_delete_45 : decode cX0_delete 45 = .ok (.iload_n 1, 1) := by decide +kernel
theorem dX0_delete_46 : decode cX0_delete 46 = .ok (.iload_n 2, 1) := by decide +kernel
theorem dX0_delete_47 : decode cX0_delete 47 = .ok (.iadd, 1) := by decide +kernel
theorem dX0_delete_48 : decode cX0_delete 48 = .ok (.iload_n 1, 1) := by decide +kernel
theorem dX0_delete_49 : decode cX0_delete 49 = .ok (.invokevirtual 30, 3) := by decide +kernel
theorem dX0_delete_52 : decode cX0_delete 52 = .ok (.aload_n 0, 1) := by decide +kernel
theorem dX0_delete_53 : decode cX0_delete 53 = .ok (.getfield 13, 3) := by decide +kernel
theorem dX0_delete_56 : decode cX0_delete 56 = .ok (.ireturn, 1) := by decide +kernel
theorem dX0_get_0 : decode cX0_get 0 = .ok (.iload_n 1, 1) := by decide +kernel
theorem dX0_get_1 : decode cX0_get 1 = .ok (.ifCond .lt 11, 3) := by decide +kernel
theorem dX0_get_4 : decode cX0_get 4 = .ok (.iload_n 1, 1) := by decide +kernel
theorem dX0_get_5 : decode cX0_get 5 = .ok (.aload_n 0, 1) := by decide +kernel
theorem dX0_get_6 : decode cX0_get 6 = .ok (.getfield 13, 3) := by decide +kernel
theorem dX0_get_9 : decode cX0_get 9 = .ok (.if_icmp .lt 11, 3) := by decide +kernel
theorem dX0_get_12 : decode cX0_get 12 = .ok (.new 42, 3) := by decide +kernel
theorem dX0_get_15 : decode cX0_get 15 = .ok (.dup, 1) := by decide +kernel
theorem dX0_get_16 : decode cX0_get 16 = .ok (.invokespecial 44, 3) := by decide +kernel
theorem dX0_get_19 : decode cX0_get 19 = .ok (.athrow, 1) := by decide +kernel
theorem dX0_get_20 : decode cX0_get 20 = .ok (.aload_n 0, 1) := by decide +kernel
theorem dX0_get_21 : decode cX0_get 21 = .ok (.getfield 9, 3) := by decide +kernel
theorem dX0_get_24 : decode cX0_get 24 = .ok (.iload_n 1, 1) := by decide +kernel
theorem dX0_get_25 : decode cX0_get 25 = .ok (.iaload, 1) := by decide +kernel
theorem dX0_get_26 : decode cX0_get 26 = .ok (.ireturn, 1) := by decide +kernel
theorem dX0_length_0 : decode cX0_length 0 = .ok (.aload_n 0, 1) := by decide +kernel
theorem dX0_length_1 : decode cX0_length 1 = .ok (.getfield 13, 3) := by decide +kernel
theorem dX0_length_4 : decode cX0_length 4 = .ok (.ireturn, 1) := by decide +kernel
theorem dX0_lines_0 : decode cX0_lines 0 = .ok (.aload_n 0, 1) := by decide +kernel
theorem dX0_lines_1 : decode cX0_lines 1 = .ok (.getfield 17, 3) := by decide +kernel
theorem dX0_lines_4 : decode cX0_lines 4 = .ok (.iconst 1, 1) := by decide +kernel
theorem dX0_lines_5 : decode cX0_lines 5 = .ok (.iadd, 1) := by decide +kernel
theorem dX0_lines_6 : decode cX0_lines 6 = .ok (.ireturn, 1) := by decide +kernel
theorem dX0_line_0 : decode cX0_line 0 = .ok (.iload_n 1, 1) := by decide +kernel
theorem dX0_line_1 : decode cX0_line 1 = .ok (.ifCond .lt 11, 3) := by decide +kernel
theorem dX0_line_4 : decode cX0_line 4 = .ok (.iload_n 1, 1) := by decide +kernel
theorem dX0_line_5 : decode cX0_line 5 = .ok (.aload_n 0, 1) := by decide +kernel
theorem dX0_line_6 : decode cX0_line 6 = .ok (.getfield 17, 3) := by decide +kernel
theorem dX0_line_9 : decode cX0_line 9 = .ok (.if_icmp .le 11, 3) := by decide +kernel
theorem dX0_line_12 : decode cX0_line 12 = .ok (.new 42, 3) := by decide +kernel
theorem dX0_line_15 : decode cX0_line 15 = .ok (.dup, 1) := by decide +kernel
theorem dX0_line_16 : decode cX0_line 16 = .ok (.invokespecial 44, 3) := by decide +kernel
theorem dX0_line_19 : decode cX0_line 19 = .ok (.athrow, 1) := by decide +kernel
theorem dX0_line_20 : decode cX0_line 20 = .ok (.aload_n 0, 1) := by decide +kernel
theorem dX0_line_21 : decode cX0_line 21 = .ok (.iload_n 1, 1) := by decide +kernel
theorem dX0_line_22 : decode cX0_line 22 = .ok (.invokevirtual 45, 3) := by decide +kernel
theorem dX0_line_25 : decode cX0_line 25 = .ok (.ireturn, 1) := by decide +kernel
theorem dX0_lineOf_0 : decode cX0_lineOf 0 = .ok (.iload_n 1, 1) := by decide +kernel
theorem dX0_lineOf_1 : decode cX0_lineOf 1 = .ok (.ifCond .lt 11, 3) := by decide +kernel
theorem dX0_lineOf_4 : decode cX0_lineOf 4 = .ok (.iload_n 1, 1) := by decide +kernel
theorem dX0_lineOf_5 : decode cX0_lineOf 5 = .ok (.aload_n 0, 1) := by decide +kernel
theorem dX0_lineOf_6 : decode cX0_lineOf 6 = .ok (.getfield 13, 3) := by decide +kernel
theorem dX0_lineOf_9 : decode cX0_lineOf 9 = .ok (.if_icmp .le 11, 3) := by decide +kernel
theorem dX0_lineOf_12 : decode cX0_lineOf 12 = .ok (.new 20, 3) := by decide +kernel
theorem dX0_lineOf_15 : decode cX0_lineOf 15 = .ok (.dup, 1) := by decide +kernel
theorem dX0_lineOf_16 : decode cX0_lineOf 16 = .ok (.invokespecial 22, 3) := by decide +kernel
theorem dX0_lineOf_19 : decode cX0_lineOf 19 = .ok (.athrow, 1) := by decide +kernel
theorem dX0_lineOf_20 : decode cX0_lineOf 20 = .ok (.aload_n 0, 1) := by decide +kernel
theorem dX0_lineOf_21 : decode cX0_lineOf 21 = .ok (.iconst 0, 1) := by decide +kernel
theorem dX0_lineOf_22 : decode cX0_lineOf 22 = .ok (.iload_n 1, 1) := by decide +kernel
theorem dX0_lineOf_23 : decode cX0_lineOf 23 = .ok (.invokevirtual 38, 3) := by decide +kernel
theorem dX0_lineOf_26 : decode cX0_lineOf 26 = .ok (.ireturn, 1) := by decide +kernel
theorem dX0_digest_0 : decode cX0_digest 0 = .ok (.iconst 0, 1) := by decide +kernel
theorem dX0_digest_1 : decode cX0_digest 1 = .ok (.istore_n 1, 1) := by decide +kernel
theorem dX0_digest_2 : decode cX0_digest 2 = .ok (.iconst 0, 1) := by decide +kernel
theorem dX0_digest_3 : decode cX0_digest 3 = .ok (.istore_n 2, 1) := by decide +kernel
theorem dX0_digest_4 : decode cX0_digest 4 = .ok (.iload_n 2, 1) := by decide +kernel
theorem dX0_digest_5 : decode cX0_digest 5 = .ok (.aload_n 0, 1) := by decide +kernel
theorem dX0_digest_6 : decode cX0_digest 6 = .ok (.getfield 13, 3) := by decide +kernel
theorem dX0_digest_9 : decode cX0_digest 9 = .ok (.if_icmp .ge 22, 3) := by decide +kernel
theorem dX0_digest_12 : decode cX0_digest 12 = .ok (.iload_n 1, 1) := by decide +kernel
theorem dX0_digest_13 : decode cX0_digest 13 = .ok (.aload_n 0, 1) := by decide +kernel
theorem dX0_digest_14 : decode cX0_digest 14 = .ok (.getfield 9, 3) := by decide +kernel
theorem dX0_digest_17 : decode cX0_digest 17 = .ok (.iload_n 2, 1) := by decide +kernel
theorem dX0_digest_18 : decode cX0_digest 18 = .ok (.iaload, 1) := by decide +kernel
theorem dX0_digest_19 : decode cX0_digest 19 = .ok (.iload_n 2, 1) := by decide +kernel
theorem dX0_digest_20 : decode cX0_digest 20 = .ok (.iconst 1, 1) := by decide +kernel
theorem dX0_digest_21 : decode cX0_digest 21 = .ok (.iadd, 1) := by decide +kernel
theorem dX0_digest_22 : decode cX0_digest 22 = .ok (.imul, 1) := by decide +kernel
theorem dX0_digest_23 : decode cX0_digest 23 = .ok (.iadd, 1) := by decide +kernel
theorem dX0_digest_24 : decode cX0_digest 24 = .ok (.istore_n 1, 1) := by decide +kernel
theorem dX0_digest_25 : decode cX0_digest 25 = .ok (.iinc 2 1, 3) := by decide +kernel
theorem dX0_digest_28 : decode cX0_digest 28 = .ok (.goto (-24), 3) := by decide +kernel
theorem dX0_digest_31 : decode cX0_digest 31 = .ok (.iload_n 1, 1) := by decide +kernel
theorem dX0_digest_32 : decode cX0_digest 32 = .ok (.ireturn, 1) := by decide +kernel
theorem dX0_makeRoomFor_0 : decode cX0_makeRoomFor 0 = .ok (.iload_n 1, 1) := by decide +kernel
theorem dX0_makeRoomFor_1 : decode cX0_makeRoomFor 1 = .ok (.aload_n 0, 1) := by decide +kernel
theorem dX0_makeRoomFor_2 : decode cX0_makeRoomFor 2 = .ok (.getfield 9, 3) := by decide +kernel
theorem dX0_makeRoomFor_5 : decode cX0_makeRoomFor 5 = .ok (.arraylength, 1) := by decide +kernel
theorem dX0_makeRoomFor_6 : decode cX0_makeRoomFor 6 = .ok (.if_icmp .gt 4, 3) := by decide +kernel
theorem dX0_makeRoomFor_9 : decode cX0_makeRoomFor 9 = .ok (.return_, 1) := by decide +kernel
theorem dX0_makeRoomFor_10 : decode cX0_makeRoomFor 10 = .ok (.iconst 2, 1) := by decide +kernel
theorem dX0_makeRoomFor_11 : decode cX0_makeRoomFor 11 = .ok (.aload_n 0, 1) := by decide +kernel
theorem dX0_makeRoomFor_12 : decode cX0_makeRoomFor 12 = .ok (.getfield 9, 3) := by decide +kernel
theorem dX0_makeRoomFor_15 : decode cX0_makeRoomFor 15 = .ok (.arraylength, 1) := by decide +kernel
theorem dX0_makeRoomFor_16 : decode cX0_makeRoomFor 16 = .ok (.imul, 1) := by decide +kernel
theorem dX0_makeRoomFor_17 : decode cX0_makeRoomFor 17 = .ok (.sipush 20000, 3) := by decide +kernel
theorem dX0_makeRoomFor_20 : decode cX0_makeRoomFor 20 = .ok (.invokestatic 49, 3) := by decide +kernel
theorem dX0_makeRoomFor_23 : decode cX0_makeRoomFor 23 = .ok (.istore_n 2, 1) := by decide +kernel
theorem dX0_makeRoomFor_24 : decode cX0_makeRoomFor 24 = .ok (.aload_n 0, 1) := by decide +kernel
theorem dX0_makeRoomFor_25 : decode cX0_makeRoomFor 25 = .ok (.aload_n 0, 1) := by decide +kernel
theorem dX0_makeRoomFor_26 : decode cX0_makeRoomFor 26 = .ok (.getfield 9, 3) := by decide +kernel
theorem dX0_makeRoomFor_29 : decode cX0_makeRoomFor 29 = .ok (.iload_n 1, 1) := by decide +kernel
theorem dX0_makeRoomFor_30 : decode cX0_makeRoomFor 30 = .ok (.iload_n 2, 1) := by decide +kernel
theorem dX0_makeRoomFor_31 : decode cX0_makeRoomFor 31 = .ok (.invokestatic 54, 3) := by decide +kernel
theorem dX0_makeRoomFor_34 : decode cX0_makeRoomFor 34 = .ok (.invokestatic 57, 3) := by decide +kernel
theorem dX0_makeRoomFor_37 : decode cX0_makeRoomFor 37 = .ok (.putfield 9, 3) := by decide +kernel
theorem dX0_makeRoomFor_40 : decode cX0_makeRoomFor 40 = .ok (.return_, 1) := by decide +kernel
theorem dX0_moveTail_0 : decode cX0_moveTail 0 = .ok (.aload_n 0, 1) := by decide +kernel
theorem dX0_moveTail_1 : decode cX0_moveTail 1 = .ok (.getfield 9, 3) := by decide +kernel
theorem dX0_moveTail_4 : decode cX0_moveTail 4 = .ok (.iload_n 1, 1) := by decide +kernel
theorem dX0_moveTail_5 : decode cX0_moveTail 5 = .ok (.aload_n 0, 1) := by decide +kernel
theorem dX0_moveTail_6 : decode cX0_moveTail 6 = .ok (.getfield 9, 3) := by decide +kernel
theorem dX0_moveTail_9 : decode cX0_moveTail 9 = .ok (.iload_n 2, 1) := by decide +kernel
theorem dX0_moveTail_10 : decode cX0_moveTail 10 = .ok (.aload_n 0, 1) := by decide +kernel
theorem dX0_moveTail_11 : decode cX0_moveTail 11 = .ok (.getfield 13, 3) := by decide +kernel
theorem dX0_moveTail_14 : decode cX0_moveTail 14 = .ok (.iload_n 1, 1) := by decide +kernel
theorem dX0_moveTail_15 : decode cX0_moveTail 15 = .ok (.isub, 1) := by decide +kernel
theorem dX0_moveTail_16 : decode cX0_moveTail 16 = .ok (.invokestatic 63, 3) := by decide +kernel
theorem dX0_moveTail_19 : decode cX0_moveTail 19 = .ok (.aload_n 0, 1) := by decide +kernel
theorem dX0_moveTail_20 : decode cX0_moveTail 20 = .ok (.dup, 1) := by decide +kernel
theorem dX0_moveTail_21 : decode cX0_moveTail 21 = .ok (.getfield 13, 3) := by decide +kernel
theorem dX0_moveTail_24 : decode cX0_moveTail 24 = .ok (.iload_n 2, 1) := by decide +kernel
theorem dX0_moveTail_25 : decode cX0_moveTail 25 = .ok (.iload_n 1, 1) := by decide +kernel
theorem dX0_moveTail_26 : decode cX0_moveTail 26 = .ok (.isub, 1) := by decide +kernel
theorem dX0_moveTail_27 : decode cX0_moveTail 27 = .ok (.iadd, 1) := by decide +kernel
theorem dX0_moveTail_28 : decode cX0_moveTail 28 = .ok (.putfield 13, 3) := by decide +kernel
theorem dX0_moveTail_31 : decode cX0_moveTail 31 = .ok (.return_, 1) := by decide +kernel
theorem dX0_fill_0 : decode cX0_fill 0 = .ok (.iload_n 2, 1) := by decide +kernel
theorem dX0_fill_1 : decode cX0_fill 1 = .ok (.istore 5, 2) := by decide +kernel
theorem dX0_fill_3 : decode cX0_fill 3 = .ok (.iload_n 1, 1) := by decide +kernel
theorem dX0_fill_4 : decode cX0_fill 4 = .ok (.istore 6, 2) := by decide +kernel
theorem dX0_fill_6 : decode cX0_fill 6 = .ok (.iload 6, 2) := by decide +kernel
theorem dX0_fill_8 : decode cX0_fill 8 = .ok (.iload_n 1, 1) := by decide +kernel
theorem dX0_fill_9 : decode cX0_fill 9 = .ok (.iload 4, 2) := by decide +kernel
theorem dX0_fill_11 : decode cX0_fill 11 = .ok (.iadd, 1) := by decide +kernel
theorem dX0_fill_12 : decode cX0_fill 12 = .ok (.if_icmp .ge 24, 3) := by decide +kernel
theorem dX0_fill_15 : decode cX0_fill 15 = .ok (.aload_n 0, 1) := by decide +kernel
theorem dX0_fill_16 : decode cX0_fill 16 = .ok (.getfield 9, 3) := by decide +kernel
theorem dX0_fill_19 : decode cX0_fill 19 = .ok (.iload 6, 2) := by decide +kernel
theorem dX0_fill_21 : decode cX0_fill 21 = .ok (.iload 5, 2) := by decide +kernel
theorem dX0_fill_23 : decode cX0_fill 23 = .ok (.iastore, 1) := by decide +kernel
theorem dX0_fill_24 : decode cX0_fill 24 = .ok (.iload 5, 2) := by decide +kernel
theorem dX0_fill_26 : decode cX0_fill 26 = .ok (.iload_n 3, 1) := by decide +kernel
theorem dX0_fill_27 : decode cX0_fill 27 = .ok (.iadd, 1) := by decide +kernel
theorem dX0_fill_28 : decode cX0_fill 28 = .ok (.istore 5, 2) := by decide +kernel
theorem dX0_fill_30 : decode cX0_fill 30 = .ok (.iinc 6 1, 3) := by decide +kernel
theorem dX0_fill_33 : decode cX0_fill 33 = .ok (.goto (-27), 3) := by decide +kernel
theorem dX0_fill_36 : decode cX0_fill 36 = .ok (.return_, 1) := by decide +kernel
theorem dX0_lineEndsIn_0 : decode cX0_lineEndsIn 0 = .ok (.iconst 0, 1) := by decide +kernel
theorem dX0_lineEndsIn_1 : decode cX0_lineEndsIn 1 = .ok (.istore_n 3, 1) := by decide +kernel
theorem dX0_lineEndsIn_2 : decode cX0_lineEndsIn 2 = .ok (.iload_n 1, 1) := by decide +kernel
theorem dX0_lineEndsIn_3 : decode cX0_lineEndsIn 3 = .ok (.istore 4, 2) := by decide +kernel
theorem dX0_lineEndsIn_5 : decode cX0_lineEndsIn 5 = .ok (.iload 4, 2) := by decide +kernel
theorem dX0_lineEndsIn_7 : decode cX0_lineEndsIn 7 = .ok (.iload_n 2, 1) := by decide +kernel
theorem dX0_lineEndsIn_8 : decode cX0_lineEndsIn 8 = .ok (.if_icmp .ge 24, 3) := by decide +kernel
theorem dX0_lineEndsIn_11 : decode cX0_lineEndsIn 11 = .ok (.aload_n 0, 1) := by decide +kernel
theorem dX0_lineEndsIn_12 : decode cX0_lineEndsIn 12 = .ok (.getfield 9, 3) := by decide +kernel
theorem dX0_lineEndsIn_15 : decode cX0_lineEndsIn 15 = .ok (.iload 4, 2) := by decide +kernel
theorem dX0_lineEndsIn_17 : decode cX0_lineEndsIn 17 = .ok (.iaload, 1) := by decide +kernel
theorem dX0_lineEndsIn_18 : decode cX0_lineEndsIn 18 = .ok (.bipush 10, 2) := by decide +kernel
theorem dX0_lineEndsIn_20 : decode cX0_lineEndsIn 20 = .ok (.if_icmp .ne 6, 3) := by decide +kernel
theorem dX0_lineEndsIn_23 : decode cX0_lineEndsIn 23 = .ok (.iinc 3 1, 3) := by decide +kernel
theorem dX0_lineEndsIn_26 : decode cX0_lineEndsIn 26 = .ok (.iinc 4 1, 3) := by decide +kernel
theorem dX0_lineEndsIn_29 : decode cX0_lineEndsIn 29 = .ok (.goto (-24), 3) := by decide +kernel
theorem dX0_lineEndsIn_32 : decode cX0_lineEndsIn 32 = .ok (.iload_n 3, 1) := by decide +kernel
theorem dX0_lineEndsIn_33 : decode cX0_lineEndsIn 33 = .ok (.ireturn, 1) := by decide +kernel
theorem dX0_indexBehindLineEnds_0 : decode cX0_indexBehindLineEnds 0 = .ok (.iconst 0, 1) := by decide +kernel
theorem dX0_indexBehindLineEnds_1 : decode cX0_indexBehindLineEnds 1 = .ok (.istore_n 2, 1) := by decide +kernel
theorem dX0_indexBehindLineEnds_2 : decode cX0_indexBehindLineEnds 2 = .ok (.iconst 0, 1) := by decide +kernel
theorem dX0_indexBehindLineEnds_3 : decode cX0_indexBehindLineEnds 3 = .ok (.istore_n 3, 1) := by decide +kernel
theorem dX0_indexBehindLineEnds_4 : decode cX0_indexBehindLineEnds 4 = .ok (.iload_n 3, 1) := by decide +kernel
theorem dX0_indexBehindLineEnds_5 : decode cX0_indexBehindLineEnds 5 = .ok (.iload_n 1, 1) := by decide +kernel
theorem dX0_indexBehindLineEnds_6 : decode cX0_indexBehindLineEnds 6 = .ok (.if_icmp .ge 31, 3) := by decide +kernel
theorem dX0_indexBehindLineEnds_9 : decode cX0_indexBehindLineEnds 9 = .ok (.iload_n 2, 1) := by decide +kernel
theorem dX0_indexBehindLineEnds_10 : decode cX0_indexBehindLineEnds 10 = .ok (.aload_n 0, 1) := by decide +kernel
theorem dX0_indexBehindLineEnds_11 : decode cX0_indexBehindLineEnds 11 = .ok (.getfield 13, 3) := by decide +kernel
theorem dX0_indexBehindLineEnds_14 : decode cX0_indexBehindLineEnds 14 = .ok (.if_icmp .ge 23, 3) := by decide +kernel
theorem dX0_indexBehindLineEnds_17 : decode cX0_indexBehindLineEnds 17 = .ok (.aload_n 0, 1) := by decide +kernel
theorem dX0_indexBehindLineEnds_18 : decode cX0_indexBehindLineEnds 18 = .ok (.getfield 9, 3) := by decide +kernel
theorem dX0_indexBehindLineEnds_21 : decode cX0_indexBehindLineEnds 21 = .ok (.iload_n 2, 1) := by decide +kernel
theorem dX0_indexBehindLineEnds_22 : decode cX0_indexBehindLineEnds 22 = .ok (.iaload, 1) := by decide +kernel
theorem dX0_indexBehindLineEnds_23 : decode cX0_indexBehindLineEnds 23 = .ok (.bipush 10, 2) := by decide +kernel
theorem dX0_indexBehindLineEnds_25 : decode cX0_indexBehindLineEnds 25 = .ok (.if_icmp .ne 6, 3) := by decide +kernel
theorem dX0_indexBehindLineEnds_28 : decode cX0_indexBehindLineEnds 28 = .ok (.iinc 3 1, 3) := by decide +kernel
theorem dX0_indexBehindLineEnds_31 : decode cX0_indexBehindLineEnds 31 = .ok (.iinc 2 1, 3) := by decide +kernel
theorem dX0_indexBehindLineEnds_34 : decode cX0_indexBehindLineEnds 34 = .ok (.goto (-30), 3) := by decide +kernel
theorem dX0_indexBehindLineEnds_37 : decode cX0_indexBehindLineEnds 37 = .ok (.iload_n 2, 1) := by decide +kernel
theorem dX0_indexBehindLineEnds_38 : decode cX0_indexBehindLineEnds 38 = .ok (.ireturn, 1) := by decide +kernel
theorem dJ_copyOf_0 : decode cJ_copyOf 0 = .ok (.iload_n 1, 1) := by decide +kernel
theorem dJ_copyOf_1 : decode cJ_copyOf 1 = .ok (.aload_n 0, 1) := by decide +kernel
theorem dJ_copyOf_2 : decode cJ_copyOf 2 = .ok (.arraylength, 1) := by decide +kernel
theorem dJ_copyOf_3 : decode cJ_copyOf 3 = .ok (.if_icmp .ne 11, 3) := by decide +kernel
theorem dJ_copyOf_6 : decode cJ_copyOf 6 = .ok (.aload_n 0, 1) := by decide +kernel
theorem dJ_copyOf_7 : decode cJ_copyOf 7 = .ok (.invokevirtual 316, 3) := by decide +kernel
theorem dJ_copyOf_10 : decode cJ_copyOf 10 = .ok (.checkcast 317, 3) := by decide +kernel
theorem dJ_copyOf_13 : decode cJ_copyOf 13 = .ok (.areturn, 1) := by decide +kernel
theorem dJ_copyOf_14 : decode cJ_copyOf 14 = .ok (.iload_n 1, 1) := by decide +kernel
theorem dJ_copyOf_15 : decode cJ_copyOf 15 = .ok (.newarray .int, 2) := by decide +kernel
theorem dJ_copyOf_17 : decode cJ_copyOf 17 = .ok (.astore_n 2, 1) := by decide +kernel
theorem dJ_copyOf_18 : decode cJ_copyOf 18 = .ok (.aload_n 0, 1) := by decide +kernel
theorem dJ_copyOf_19 : decode cJ_copyOf 19 = .ok (.iconst 0, 1) := by decide +kernel
theorem dJ_copyOf_20 : decode cJ_copyOf 20 = .ok (.aload_n 2, 1) := by decide +kernel
theorem dJ_copyOf_21 : decode cJ_copyOf 21 = .ok (.iconst 0, 1) := by decide +kernel
theorem dJ_copyOf_22 : decode cJ_copyOf 22 = .ok (.aload_n 0, 1) := by decide +kernel
theorem dJ_copyOf_23 : decode cJ_copyOf 23 = .ok (.arraylength, 1) := by decide +kernel
theorem dJ_copyOf_24 : decode cJ_copyOf 24 = .ok (.iload_n 1, 1) := by decide +kernel
theorem dJ_copyOf_25 : decode cJ_copyOf 25 = .ok (.invokestatic 304, 3) := by decide +kernel
theorem dJ_copyOf_28 : decode cJ_copyOf 28 = .ok (.invokestatic 150, 3) := by decide +kernel
theorem dJ_copyOf_31 : decode cJ_copyOf 31 = .ok (.aload_n 2, 1) := by decide +kernel
theorem dJ_copyOf_32 : decode cJ_copyOf 32 = .ok (.areturn, 1) := by decide +kernel
end
section
theorem dX1_init_0 : decode cX1_init 0 = .ok (.aload_n 0, 1) := by decide +kernel
theorem dX1_init_1 : decode cX1_init 1 = .ok (.invokespecial 1, 3) := by decide +kernel
theorem dX1_init_4 : decode cX1_init 4 = .ok (.aload_n 0, 1) := by decide +kernel
theorem dX1_init_5 : decode cX1_init 5 = .ok (.sipush 20000, 3) := by decide +kernel
theorem dX1_init_8 : decode cX1_init 8 = .ok (.newarray .int, 2) := by decide +kernel
theorem dX1_init_10 : decode cX1_init 10 = .ok (.putfield 9, 3) := by decide +kernel
theorem dX1_init_13 : decode cX1_init 13 = .ok (.return_, 1) := by decide +kernel
theorem dX1_check_0 : decode cX1_check 0 = .ok (.iload_n 0, 1) := by decide +kernel
theorem dX1_check_1 : decode cX1_check 1 = .ok (.ifCond .ne 11, 3) := by decide +kernel
theorem dX1_check_4 : decode cX1_check 4 = .ok (.new 13, 3) := by decide +kernel
theorem dX1_check_7 : decode cX1_check 7 = .ok (.dup, 1) := by decide +kernel
theorem dX1_check_8 : decode cX1_check 8 = .ok (.invokespecial 15, 3) := by decide +kernel
theorem dX1_check_11 : decode cX1_check 11 = .ok (.athrow, 1) := by decide +kernel
theorem dX1_check_12 : decode cX1_check 12 = .ok (.return_, 1) := by decide +kernel
theorem dX1_insert0_0 : decode cX1_insert0 0 = .ok (.iload_n 1, 1) := by decide +kernel
theorem dX1_insert0_1 : decode cX1_insert0 1 = .ok (.ifCond .lt 29, 3) := by decide +kernel
theorem dX1_insert0_4 : decode cX1_insert0 4 = .ok (.iload_n 1, 1) := by decide +kernel
theorem dX1_insert0_5 : decode cX1_insert0 5 = .ok (.aload_n 0, 1) := by decide +kernel
theorem dX1_insert0_6 : decode cX1_insert0 6 = .ok (.getfield 16, 3) := by decide +kernel
theorem dX1_insert0_9 : decode cX1_insert0 9 = .ok (.if_icmp .gt 21, 3) := by decide +kernel
theorem dX1_insert0_12 : decode cX1_insert0 12 = .ok (.iload 4, 2) := by decide +kernel
theorem dX1_insert0_14 : decode cX1_insert0 14 = .ok (.iconst 1, 1) := by decide +kernel
theorem dX1_insert0_15 : decode cX1_insert0 15 = .ok (.if_icmp .lt 15, 3) := by decide +kernel
theorem dX1_insert0_18 : decode cX1_insert0 18 = .ok (.iload 4, 2) := by decide +kernel
theorem dX1_insert0_20 : decode cX1_insert0 20 = .ok (.sipush 500, 3) := by decide +kernel
theorem dX1_insert0_23 : decode cX1_insert0 23 = .ok (.if_icmp .gt 7, 3) := by decide +kernel
theorem dX1_insert0_26 : decode cX1_insert0 26 = .ok (.iconst 1, 1) := by decide +kernel
theorem dX1_insert0_27 : decode cX1_insert0 27 = .ok (.goto 4, 3) := by decide +kernel
theorem dX1_insert0_30 : decode cX1_insert0 30 = .ok (.iconst 0, 1) := by decide +kernel
theorem dX1_insert0_31 : decode cX1_insert0 31 = .ok (.invokestatic 20, 3) := by decide +kernel
theorem dX1_insert0_34 : decode cX1_insert0 34 = .ok (.aload_n 0, 1) := by decide +kernel
theorem dX1_insert0_35 : decode cX1_insert0 35 = .ok (.getfield 16, 3) := by decide +kernel
theorem dX1_insert0_38 : decode cX1_insert0 38 = .ok (.iload 4, 2) := by decide +kernel
theorem dX1_insert0_40 : decode cX1_insert0 40 = .ok (.iadd, 1) := by decide +kernel
theorem dX1_insert0_41 : decode cX1_insert0 41 = .ok (.sipush 20000, 3) := by decide +kernel
theorem dX1_insert0_44 : decode cX1_insert0 44 = .ok (.if_icmp .le 11, 3) := by decide +kernel
theorem dX1_insert0_47 : decode cX1_insert0 47 = .ok (.new 24, 3) := by decide +kernel
theorem dX1_insert0_50 : decode cX1_insert0 50 = .ok (.dup, 1) := by decide +kernel
theorem dX1_insert0_51 : decode cX1_insert0 51 = .ok (.invokespecial 26, 3) := by decide +kernel
theorem dX1_insert0_54 : decode cX1_insert0 54 = .ok (.athrow, 1) := by decide +kernel
theorem dX1_insert0_55 : decode cX1_insert0 55 = .ok (.aload_n 0, 1) := by decide +kernel
theorem dX1_insert0_56 : decode cX1_insert0 56 = .ok (.getfield 16, 3) := by decide +kernel
theorem dX1_insert0_59 : decode cX1_insert0 59 = .ok (.iconst 1, 1) := by decide +kernel
theorem dX1_insert0_60 : decode cX1_insert0 60 = .ok (.isub, 1) := by decide +kernel
theorem dX1_insert0_61 : decode cX1_insert0 61 = .ok (.istore 5, 2) := by decide +kernel
theorem dX1_insert0_63 : decode cX1_insert0 63 = .ok (.iload 5, 2) := by decide +kernel
theorem dX1_insert0_65 : decode cX1_insert0 65 = .ok (.iload_n 1, 1) := by decide +kernel
theorem dX1_insert0_66 : decode cX1_insert0 66 = .ok (.if_icmp .lt 26, 3) := by decide +kernel
theorem dX1_insert0_69 : decode cX1_insert0 69 = .ok (.aload_n 0, 1) := by decide +kernel
theorem dX1_insert0_70 : decode cX1_insert0 70 = .ok (.getfield 9, 3) := by decide +kernel
theorem dX1_insert0_73 : decode cX1_insert0 73 = .ok (.iload 5, 2) := by decide +kernel
theorem dX1_insert0_75 : decode cX1_insert0 75 = .ok (.iload 4, 2) := by decide +kernel
theorem dX1_insert0_77 : decode cX1_insert0 77 = .ok (.iadd, 1) := by decide +kernel
theorem dX1_insert0_78 : decode cX1_insert0 78 = .ok (.aload_n 0, 1) := by decide +kernel
theorem dX1_insert0_79 : decode cX1_insert0 79 = .ok (.getfield 9, 3) := by decide +kernel
theorem dX1_insert0_82 : decode cX1_insert0 82 = .ok (.iload 5, 2) := by decide +kernel
theorem dX1_insert0_84 : decode cX1_insert0 84 = .ok (.iaload, 1) := by decide +kernel
theorem dX1_insert0_85 : decode cX1_insert0 85 = .ok (.iastore, 1) := by decide +kernel
theorem dX1_insert0_86 : decode cX1_insert0 86 = .ok (.iinc 5 (-1), 3) := by decide +kernel
theorem dX1_insert0_89 : decode cX1_insert0 89 = .ok (.goto (-26), 3) := by decide +kernel
theorem dX1_insert0_92 : decode cX1_insert0 92 = .ok (.iconst 0, 1) := by decide +kernel
theorem dX1_insert0_93 : decode cX1_insert0 93 = .ok (.istore 5, 2) := by decide +kernel
theorem dX1_insert0_95 : decode cX1_insert0 95 = .ok (.iload 5, 2) := by decide +kernel
theorem dX1_insert0_97 : decode cX1_insert0 97 = .ok (.iload 4, 2) := by decide +kernel
theorem dX1_insert0_99 : decode cX1_insert0 99 = .ok (.if_icmp .ge 24, 3) := by decide +kernel
theorem dX1_insert0_102 : decode cX1_insert0 102 = .ok (.aload_n 0, 1) := by decide +kernel
theorem dX1_insert0_103 : decode cX1_insert0 103 = .ok (.getfield 9, 3) := by decide +kernel
theorem dX1_insert0_106 : decode cX1_insert0 106 = .ok (.iload_n 1, 1) := by decide +kernel
theorem dX1_insert0_107 : decode cX1_insert0 107 = .ok (.iload 5, 2) := by decide +kernel
theorem dX1_insert0_109 : decode cX1_insert0 109 = .ok (.iadd, 1) := by decide +kernel
theorem dX1_insert0_110 : decode cX1_insert0 110 = .ok (.iload_n 2, 1) := by decide +kernel
theorem dX1_insert0_111 : decode cX1_insert0 111 = .ok (.iload 5, 2) := by decide +kernel
theorem dX1_insert0_113 : decode cX1_insert0 113 = .ok (.iload_n 3, 1) := by decide +kernel
theorem dX1_insert0_114 : decode cX1_insert0 114 = .ok (.imul, 1) := by decide +kernel
theorem dX1_insert0_115 : decode cX1_insert0 115 = .ok (.iadd, 1) := by decide +kernel
theorem dX1_insert0_116 : decode cX1_insert0 116 = .ok (.iastore, 1) := by decide +kernel
theorem dX1_insert0_117 : decode cX1_insert0 117 = .ok (.iinc 5 1, 3) := by decide +kernel
theorem dX1_insert0_120 : decode cX1_insert0 120 = .ok (.goto (-25), 3) := by decide +kernel
theorem dX1_insert0_123 : decode cX1_insert0 123 = .ok (.aload_n 0, 1) := by decide +kernel
theorem dX1_insert0_124 : decode cX1_insert0 124 = .ok (.dup, 1) := by decide +kernel
theorem dX1_insert0_125 : decode cX1_insert0 125 = .ok (.getfield 16, 3) := by decide +kernel
theorem dX1_insert0_128 : decode cX1_insert0 128 = .ok (.iload 4, 2) := by decide +kernel
theorem dX1_insert0_130 : decode cX1_insert0 130 = .ok (.iadd, 1) := by decide +kernel
theorem dX1_insert0_131 : decode cX1_insert0 131 = .ok (.putfield 16, 3) := by decide +kernel
theorem dX1_insert0_134 : decode cX1_insert0 134 = .ok (.aload_n 0, 1) := by decide +kernel
theorem dX1_insert0_135 : decode cX1_insert0 135 = .ok (.getfield 16, 3) := by decide +kernel
theorem dX1_insert0_138 : decode cX1_insert0 138 = .ok (.ireturn, 1) := by decide +kernel
theorem dX1_delete0_0 : decode cX1_delete0 0 = .ok (.iload_n 1, 1) := by decide +kernel
theorem dX1_delete0_1 : decode cX1_delete0 1 = .ok (.ifCond .lt 30, 3) := by decide +kernel
theorem dX1_delete0_4 : decode cX1_delete0 4 = .ok (.iload_n 2, 1) := by decide +kernel
theorem dX1_delete0_5 : decode cX1_delete0 5 = .ok (.iconst 1, 1) := by decide +kernel
theorem dX1_delete0_6 : decode cX1_delete0 6 = .ok (.if_icmp .lt 25, 3) := by decide +kernel
theorem dX1_delete0_9 : decode cX1_delete0 9 = .ok (.iload_n 2, 1) := by decide +kernel
theorem dX1_delete0_10 : decode cX1_delete0 10 = .ok (.aload_n 0, 1) := by decide +kernel
theorem dX1_delete0_11 : decode cX1_delete0 11 = .ok (.getfield 16, 3) := by decide +kernel
theorem dX1_delete0_14 : decode cX1_delete0 14 = .ok (.if_icmp .gt 17, 3) := by decide +kernel
theorem dX1_delete0_17 : decode cX1_delete0 17 = .ok (.iload_n 1, 1) := by decide +kernel
theorem dX1_delete0_18 : decode cX1_delete0 18 = .ok (.aload_n 0, 1) := by decide +kernel
theorem dX1_delete0_19 : decode cX1_delete0 19 = .ok (.getfield 16, 3) := by decide +kernel
theorem dX1_delete0_22 : decode cX1_delete0 22 = .ok (.iload_n 2, 1) := by decide +kernel
theorem dX1_delete0_23 : decode cX1_delete0 23 = .ok (.isub, 1) := by decide +kernel
theorem dX1_delete0_24 : decode cX1_delete0 24 = .ok (.if_icmp .gt 7, 3) := by decide +kernel
theorem dX1_delete0_27 : decode cX1_delete0 27 = .ok (.iconst 1, 1) := by decide +kernel
theorem dX1_delete0_28 : decode cX1_delete0 28 = .ok (.goto 4, 3) := by decide +kernel
theorem dX1_delete0_31 : decode cX1_delete0 31 = .ok (.iconst 0, 1) := by decide +kernel
theorem dX1_delete0_32 : decode cX1_delete0 32 = .ok (.invokestatic 20, 3) := by decide +kernel
theorem dX1_delete0_35 : decode cX1_delete0 35 = .ok (.iload_n 1, 1) := by decide +kernel
theorem dX1_delete0_36 : decode cX1_delete0 36 = .ok (.iload_n 2, 1) := by decide +kernel
theorem dX1_delete0_37 : decode cX1_delete0 37 = .ok (.iadd, 1) := by decide +kernel
theorem dX1_delete0_38 : decode cX1_delete0 38 = .ok (.istore_n 3, 1) := by decide +kernel
theorem dX1_delete0_39 : decode cX1_delete0 39 = .ok (.iload_n 3, 1) := by decide +kernel
theorem dX1_delete0_40 : decode cX1_delete0 40 = .ok (.aload_n 0, 1) := by decide +kernel
theorem dX1_delete0_41 : decode cX1_delete0 41 = .ok (.getfield 16, 3) := by decide +kernel
theorem dX1_delete0_44 : decode cX1_delete0 44 = .ok (.if_icmp .ge 23, 3) := by decide +kernel
theorem dX1_delete0_47 : decode cX1_delete0 47 = .ok (.aload_n 0, 1) := by decide +kernel
theorem dX1_delete0_48 : decode cX1_delete0 48 = .ok (.getfield 9, 3) := by decide +kernel
theorem dX1_delete0_51 : decode cX1_delete0 51 = .ok (.iload_n 3, 1) := by decide +kernel
theorem dX1_delete0_52 : decode cX1_delete0 52 = .ok (.iload_n 2, 1) := by decide +kernel
theorem dX1_delete0_53 : decode cX1_delete0 53 = .ok (.isub, 1) := by decide +kernel
theorem dX1_delete0_54 : decode cX1_delete0 54 = .ok (.aload_n 0, 1) := by decide +kernel
theorem dX1_delete0_55 : decode cX1_delete0 55 = .ok (.getfield 9, 3) := by decide +kernel
theorem dX1_delete0_58 : decode cX1_delete0 58 = .ok (.iload_n 3, 1) := by decide +kernel
theorem dX1_delete0_59 : decode cX1_delete0 59 = .ok (.iaload, 1) := by decide +kernel
theorem dX1_delete0_60 : decode cX1_delete0 60 = .ok (.iastore, 1) := by decide +kernel
theorem dX1_delete0_61 : decode cX1_delete0 61 = .ok (.iinc 3 1, 3) := by decide +kernel
theorem dX1_delete0_64 : decode cX1_delete0 64 = .ok (.goto (-25), 3) := by decide +kernel
theorem dX1_delete0_67 : decode cX1_delete0 67 = .ok (.aload_n 0, 1) := by decide +kernel
theorem dX1_delete0_68 : decode cX1_delete0 68 = .ok (.dup, 1) := by decide +kernel
theorem dX1_delete0_69 : decode cX1_delete0 69 = .ok (.getfield 16, 3) := by decide +kernel
theorem dX1_delete0_72 : decode cX1_delete0 72 = .ok (.iload_n 2, 1) := by decide +kernel
theorem dX1_delete0_73 : decode cX1_delete0 73 = .ok (.isub, 1) := by decide +kernel
theorem dX1_delete0_74 : decode cX1_delete0 74 = .ok (.putfield 16, 3) := by decide +kernel
theorem dX1_delete0_77 : decode cX1_delete0 77 = .ok (.aload_n 0, 1) := by decide +kernel
theorem dX1_delete0_78 : decode cX1_delete0 78 = .ok (.getfield 16, 3) := by decide +kernel
theorem dX1_delete0_81 : decode cX1_delete0 81 = .ok (.ireturn, 1) := by decide +kernel
theorem dX1_get0_0 : decode cX1_get0 0 = .ok (.iload_n 1, 1) := by decide +kernel
theorem dX1_get0_1 : decode cX1_get0 1 = .ok (.ifCond .lt 11, 3) := by decide +kernel
theorem dX1_get0_4 : decode cX1_get0 4 = .ok (.iload_n 1, 1) := by decide +kernel
theorem dX1_get0_5 : decode cX1_get0 5 = .ok (.aload_n 0, 1) := by decide +kernel
theorem dX1_get0_6 : decode cX1_get0 6 = .ok (.getfield 16, 3) := by decide +kernel
theorem dX1_get0_9 : decode cX1_get0 9 = .ok (.if_icmp .lt 11, 3) := by decide +kernel
theorem dX1_get0_12 : decode cX1_get0 12 = .ok (.new 27, 3) := by decide +kernel
theorem dX1_get0_15 : decode cX1_get0 15 = .ok (.dup, 1) := by decide +kernel
theorem dX1_get0_16 : decode cX1_get0 16 = .ok (.invokespecial 29, 3) := by decide +kernel
theorem dX1_get0_19 : decode cX1_get0 19 = .ok (.athrow, 1) := by decide +kernel
theorem dX1_get0_20 : decode cX1_get0 20 = .ok (.aload_n 0, 1) := by decide +kernel
theorem dX1_get0_21 : decode cX1_get0 21 = .ok (.getfield 9, 3) := by decide +kernel
theorem dX1_get0_24 : decode cX1_get0 24 = .ok (.iload_n 1, 1) := by decide +kernel
theorem dX1_get0_25 : decode cX1_get0 25 = .ok (.iaload, 1) := by decide +kernel
theorem dX1_get0_26 : decode cX1_get0 26 = .ok (.ireturn, 1) := by decide +kernel
theorem dX1_length0_0 : decode cX1_length0 0 = .ok (.aload_n 0, 1) := by decide +kernel
theorem dX1_length0_1 : decode cX1_length0 1 = .ok (.getfield 16, 3) := by decide +kernel
theorem dX1_length0_4 : decode cX1_length0 4 = .ok (.ireturn, 1) := by decide +kernel
theorem dX1_endsBefore_0 : decode cX1_endsBefore 0 = .ok (.iconst 0, 1) := by decide +kernel
theorem dX1_endsBefore_1 : decode cX1_endsBefore 1 = .ok (.istore_n 2, 1) := by decide +kernel
theorem dX1_endsBefore_2 : decode cX1_endsBefore 2 = .ok (.iconst 0, 1) := by decide +kernel
theorem dX1_endsBefore_3 : decode cX1_endsBefore 3 = .ok (.istore_n 3, 1) := by decide +kernel
theorem dX1_endsBefore_4 : decode cX1_endsBefore 4 = .ok (.iload_n 3, 1) := by decide +kernel
theorem dX1_endsBefore_5 : decode cX1_endsBefore 5 = .ok (.iload_n 1, 1) := by decide +kernel
theorem dX1_endsBefore_6 : decode cX1_endsBefore 6 = .ok (.if_icmp .ge 23, 3) := by decide +kernel
theorem dX1_endsBefore_9 : decode cX1_endsBefore 9 = .ok (.aload_n 0, 1) := by decide +kernel
theorem dX1_endsBefore_10 : decode cX1_endsBefore 10 = .ok (.getfield 9, 3) := by decide +kernel
theorem dX1_endsBefore_13 : decode cX1_endsBefore 13 = .ok (.iload_n 3, 1) := by decide +kernel
theorem dX1_endsBefore_14 : decode cX1_endsBefore 14 = .ok (.iaload, 1) := by decide +kernel
theorem dX1_endsBefore_15 : decode cX1_endsBefore 15 = .ok (.bipush 10, 2) := by decide +kernel
theorem dX1_endsBefore_17 : decode cX1_endsBefore 17 = .ok (.if_icmp .ne 6, 3) := by decide +kernel
theorem dX1_endsBefore_20 : decode cX1_endsBefore 20 = .ok (.iinc 2 1, 3) := by decide +kernel
theorem dX1_endsBefore_23 : decode cX1_endsBefore 23 = .ok (.iinc 3 1, 3) := by decide +kernel
theorem dX1_endsBefore_26 : decode cX1_endsBefore 26 = .ok (.goto (-22), 3) := by decide +kernel
theorem dX1_endsBefore_29 : decode cX1_endsBefore 29 = .ok (.iload_n 2, 1) := by decide +kernel
theorem dX1_endsBefore_30 : decode cX1_endsBefore 30 = .ok (.ireturn, 1) := by decide +kernel
theorem dX1_lines0_0 : decode cX1_lines0 0 = .ok (.aload_n 0, 1) := by decide +kernel
theorem dX1_lines0_1 : decode cX1_lines0 1 = .ok (.aload_n 0, 1) := by decide +kernel
theorem dX1_lines0_2 : decode cX1_lines0 2 = .ok (.getfield 16, 3) := by decide +kernel
theorem dX1_lines0_5 : decode cX1_lines0 5 = .ok (.invokevirtual 30, 3) := by decide +kernel
theorem dX1_lines0_8 : decode cX1_lines0 8 = .ok (.iconst 1, 1) := by decide +kernel
theorem dX1_lines0_9 : decode cX1_lines0 9 = .ok (.iadd, 1) := by decide +kernel
theorem dX1_lines0_10 : decode cX1_lines0 10 = .ok (.ireturn, 1) := by decide +kernel
theorem dX1_line0_0 : decode cX1_line0 0 = .ok (.iload_n 1, 1) := by decide +kernel
theorem dX1_line0_1 : decode cX1_line0 1 = .ok (.ifCond .lt 15, 3) := by decide +kernel
theorem dX1_line0_4 : decode cX1_line0 4 = .ok (.iload_n 1, 1) := by decide +kernel
theorem dX1_line0_5 : decode cX1_line0 5 = .ok (.aload_n 0, 1) := by decide +kernel
theorem dX1_line0_6 : decode cX1_line0 6 = .ok (.aload_n 0, 1) := by decide +kernel
theorem dX1_line0_7 : decode cX1_line0 7 = .ok (.getfield 16, 3) := by decide +kernel
theorem dX1_line0_10 : decode cX1_line0 10 = .ok (.invokevirtual 30, 3) := by decide +kernel
theorem dX1_line0_13 : decode cX1_line0 13 = .ok (.if_icmp .le 11, 3) := by decide +kernel
theorem dX1_line0_16 : decode cX1_line0 16 = .ok (.new 27, 3) := by decide +kernel
theorem dX1_line0_19 : decode cX1_line0 19 = .ok (.dup, 1) := by decide +kernel
theorem dX1_line0_20 : decode cX1_line0 20 = .ok (.invokespecial 29, 3) := by decide +kernel
theorem dX1_line0_23 : decode cX1_line0 23 = .ok (.athrow, 1) := by decide +kernel
theorem dX1_line0_24 : decode cX1_line0 24 = .ok (.iconst 0, 1) := by decide +kernel
theorem dX1_line0_25 : decode cX1_line0 25 = .ok (.istore_n 2, 1) := by decide +kernel
theorem dX1_line0_26 : decode cX1_line0 26 = .ok (.aload_n 0, 1) := by decide +kernel
theorem dX1_line0_27 : decode cX1_line0 27 = .ok (.iload_n 2, 1) := by decide +kernel
theorem dX1_line0_28 : decode cX1_line0 28 = .ok (.invokevirtual 30, 3) := by decide +kernel
theorem dX1_line0_31 : decode cX1_line0 31 = .ok (.iload_n 1, 1) := by decide +kernel
theorem dX1_line0_32 : decode cX1_line0 32 = .ok (.if_icmp .ge 9, 3) := by decide +kernel
theorem dX1_line0_35 : decode cX1_line0 35 = .ok (.iinc 2 1, 3) := by decide +kernel
theorem dX1_line0_38 : decode cX1_line0 38 = .ok (.goto (-12), 3) := by decide +kernel
theorem dX1_line0_41 : decode cX1_line0 41 = .ok (.iload_n 2, 1) := by decide +kernel
theorem dX1_line0_42 : decode cX1_line0 42 = .ok (.ireturn, 1) := by decide +kernel
theorem dX1_lineOf0_0 : decode cX1_lineOf0 0 = .ok (.iload_n 1, 1) := by decide +kernel
theorem dX1_lineOf0_1 : decode cX1_lineOf0 1 = .ok (.ifCond .lt 15, 3) := by decide +kernel
theorem dX1_lineOf0_4 : decode cX1_lineOf0 4 = .ok (.iload_n 1, 1) := by decide +kernel
theorem dX1_lineOf0_5 : decode cX1_lineOf0 5 = .ok (.aload_n 0, 1) := by decide +kernel
theorem dX1_lineOf0_6 : decode cX1_lineOf0 6 = .ok (.getfield 16, 3) := by decide +kernel
theorem dX1_lineOf0_9 : decode cX1_lineOf0 9 = .ok (.if_icmp .gt 7, 3) := by decide +kernel
theorem dX1_lineOf0_12 : decode cX1_lineOf0 12 = .ok (.iconst 1, 1) := by decide +kernel
theorem dX1_lineOf0_13 : decode cX1_lineOf0 13 = .ok (.goto 4, 3) := by decide +kernel
theorem dX1_lineOf0_16 : decode cX1_lineOf0 16 = .ok (.iconst 0, 1) := by decide +kernel
theorem dX1_lineOf0_17 : decode cX1_lineOf0 17 = .ok (.invokestatic 20, 3) := by decide +kernel
theorem dX1_lineOf0_20 : decode cX1_lineOf0 20 = .ok (.aload_n 0, 1) := by decide +kernel
theorem dX1_lineOf0_21 : decode cX1_lineOf0 21 = .ok (.iload_n 1, 1) := by decide +kernel
theorem dX1_lineOf0_22 : decode cX1_lineOf0 22 = .ok (.invokevirtual 30, 3) := by decide +kernel
theorem dX1_lineOf0_25 : decode cX1_lineOf0 25 = .ok (.ireturn, 1) := by decide +kernel
theorem dX1_digest0_0 : decode cX1_digest0 0 = .ok (.iconst 0, 1) := by decide +kernel
theorem dX1_digest0_1 : decode cX1_digest0 1 = .ok (.istore_n 1, 1) := by decide +kernel
theorem dX1_digest0_2 : decode cX1_digest0 2 = .ok (.iconst 0, 1) := by decide +kernel
theorem dX1_digest0_3 : decode cX1_digest0 3 = .ok (.istore_n 2, 1) := by decide +kernel
theorem dX1_digest0_4 : decode cX1_digest0 4 = .ok (.iload_n 2, 1) := by decide +kernel
theorem dX1_digest0_5 : decode cX1_digest0 5 = .ok (.aload_n 0, 1) := by decide +kernel
theorem dX1_digest0_6 : decode cX1_digest0 6 = .ok (.getfield 16, 3) := by decide +kernel
theorem dX1_digest0_9 : decode cX1_digest0 9 = .ok (.if_icmp .ge 22, 3) := by decide +kernel
theorem dX1_digest0_12 : decode cX1_digest0 12 = .ok (.iload_n 1, 1) := by decide +kernel
theorem dX1_digest0_13 : decode cX1_digest0 13 = .ok (.aload_n 0, 1) := by decide +kernel
theorem dX1_digest0_14 : decode cX1_digest0 14 = .ok (.getfield 9, 3) := by decide +kernel
theorem dX1_digest0_17 : decode cX1_digest0 17 = .ok (.iload_n 2, 1) := by decide +kernel
theorem dX1_digest0_18 : decode cX1_digest0 18 = .ok (.iaload, 1) := by decide +kernel
theorem dX1_digest0_19 : decode cX1_digest0 19 = .ok (.iload_n 2, 1) := by decide +kernel
theorem dX1_digest0_20 : decode cX1_digest0 20 = .ok (.iconst 1, 1) := by decide +kernel
theorem dX1_digest0_21 : decode cX1_digest0 21 = .ok (.iadd, 1) := by decide +kernel
theorem dX1_digest0_22 : decode cX1_digest0 22 = .ok (.imul, 1) := by decide +kernel
theorem dX1_digest0_23 : decode cX1_digest0 23 = .ok (.iadd, 1) := by decide +kernel
theorem dX1_digest0_24 : decode cX1_digest0 24 = .ok (.istore_n 1, 1) := by decide +kernel
theorem dX1_digest0_25 : decode cX1_digest0 25 = .ok (.iinc 2 1, 3) := by decide +kernel
theorem dX1_digest0_28 : decode cX1_digest0 28 = .ok (.goto (-24), 3) := by decide +kernel
theorem dX1_digest0_31 : decode cX1_digest0 31 = .ok (.iload_n 1, 1) := by decide +kernel
theorem dX1_digest0_32 : decode cX1_digest0 32 = .ok (.ireturn, 1) := by decide +kernel
theorem dX1_thrown_0 : decode cX1_thrown 0 = .ok (.aload_n 0, 1) := by decide +kernel
theorem dX1_thrown_1 : decode cX1_thrown 1 = .ok (.getfield 34, 3) := by decide +kernel
theorem dX1_thrown_4 : decode cX1_thrown 4 = .ok (.ireturn, 1) := by decide +kernel
theorem dX1_insert_0 : decode cX1_insert 0 = .ok (.aload_n 0, 1) := by decide +kernel
theorem dX1_insert_1 : decode cX1_insert 1 = .ok (.iconst 0, 1) := by decide +kernel
theorem dX1_insert_2 : decode cX1_insert 2 = .ok (.putfield 34, 3) := by decide +kernel
theorem dX1_insert_5 : decode cX1_insert 5 = .ok (.aload_n 0, 1) := by decide +kernel
theorem dX1_insert_6 : decode cX1_insert 6 = .ok (.iload_n 1, 1) := by decide +kernel
theorem dX1_insert_7 : decode cX1_insert 7 = .ok (.iload_n 2, 1) := by decide +kernel
theorem dX1_insert_8 : decode cX1_insert 8 = .ok (.iload_n 3, 1) := by decide +kernel
theorem dX1_insert_9 : decode cX1_insert 9 = .ok (.iload 4, 2) := by decide +kernel
theorem dX1_insert_11 : decode cX1_insert 11 = .ok (.invokevirtual 37, 3) := by decide +kernel
theorem dX1_insert_14 : decode cX1_insert 14 = .ok (.ireturn, 1) := by decide +kernel
theorem dX1_insert_15 : decode cX1_insert 15 = .ok (.astore 5, 2) := by decide +kernel
theorem dX1_insert_17 : decode cX1_insert 17 = .ok (.aload_n 0, 1) := by decide +kernel
theorem dX1_insert_18 : decode cX1_insert 18 = .ok (.iconst 1, 1) := by decide +kernel
theorem dX1_insert_19 : decode cX1_insert 19 = .ok (.putfield 34, 3) := by decide +kernel
theorem dX1_insert_22 : decode cX1_insert 22 = .ok (.goto 10, 3) := by decide +kernel
theorem dX1_insert_25 : decode cX1_insert 25 = .ok (.astore 5, 2) := by decide +kernel
theorem dX1_insert_27 : decode cX1_insert 27 = .ok (.aload_n 0, 1) := by decide +kernel
theorem dX1_insert_28 : decode cX1_insert 28 = .ok (.iconst 2, 1) := by decide +kernel
theorem dX1_insert_29 : decode cX1_insert 29 = .ok (.putfield 34, 3) := by decide +kernel
theorem dX1_insert_32 : decode cX1_insert 32 = .ok (.iconst 0, 1) := by decide +kernel
theorem dX1_insert_33 : decode cX1_insert 33 = .ok (.ireturn, 1) := by decide +kernel
theorem dX1_delete_0 : decode cX1_delete 0 = .ok (.aload_n 0, 1) := by decide +kernel
theorem dX1_delete_1 : decode cX1_delete 1 = .ok (.iconst 0, 1) := by decide +kernel
theorem dX1_delete_2 : decode cX1_delete 2 = .ok (.putfield 34, 3) := by decide +kernel
theorem dX1_delete_5 : decode cX1_delete 5 = .ok (.aload_n 0, 1) := by decide +kernel
theorem dX1_delete_6 : decode cX1_delete 6 = .ok (.iload_n 1, 1) := by decide +kernel
theorem dX1_delete_7 : decode cX1_delete 7 = .ok (.iload_n 2, 1) := by decide +kernel
theorem dX1_delete_8 : decode cX1_delete 8 = .ok (.invokevirtual 41, 3) := by decide +kernel
theorem dX1_delete_11 : decode cX1_delete 11 = .ok (.ireturn, 1) := by decide +kernel
theorem dX1_delete_12 : decode cX1_delete 12 = .ok (.astore_n 3, 1) := by decide +kernel
theorem dX1_delete_13 : decode cX1_delete 13 = .ok (.aload_n 0, 1) := by decide +kernel
theorem dX1_delete_14 : decode cX1_delete 14 = .ok (.iconst 1, 1) := by decide +kernel
theorem dX1_delete_15 : decode cX1_delete 15 = .ok (.putfield 34, 3) := by decide +kernel
theorem dX1_delete_18 : decode cX1_delete 18 = .ok (.iconst 0, 1) := by decide +kernel
theorem dX1_delete_19 : decode cX1_delete 19 = .ok (.ireturn, 1) := by decide +kernel
theorem dX1_get_0 : decode cX1_get 0 = .ok (.aload_n 0, 1) := by decide +kernel
theorem dX1_get_1 : decode cX1_get 1 = .ok (.iconst 0, 1) := by decide +kernel
theorem dX1_get_2 : decode cX1_get 2 = .ok (.putfield 34, 3) := by decide +kernel
theorem dX1_get_5 : decode cX1_get 5 = .ok (.aload_n 0, 1) := by decide +kernel
theorem dX1_get_6 : decode cX1_get 6 = .ok (.iload_n 1, 1) := by decide +kernel
theorem dX1_get_7 : decode cX1_get 7 = .ok (.invokevirtual 45, 3) := by decide +kernel
theorem dX1_get_10 : decode cX1_get 10 = .ok (.ireturn, 1) := by decide +kernel
theorem dX1_get_11 : decode cX1_get 11 = .ok (.astore_n 2, 1) := by decide +kernel
theorem dX1_get_12 : decode cX1_get 12 = .ok (.aload_n 0, 1) := by decide +kernel
theorem dX1_get_13 : decode cX1_get 13 = .ok (.iconst 1, 1) := by decide +kernel
theorem dX1_get_14 : decode cX1_get 14 = .ok (.putfield 34, 3) := by decide +kernel
theorem dX1_get_17 : decode cX1_get 17 = .ok (.iconst 0, 1) := by decide +kernel
theorem dX1_get_18 : decode cX1_get 18 = .ok (.ireturn, 1) := by decide +kernel
theorem dX1_length_0 : decode cX1_length 0 = .ok (.aload_n 0, 1) := by decide +kernel
theorem dX1_length_1 : decode cX1_length 1 = .ok (.iconst 0, 1) := by decide +kernel
theorem dX1_length_2 : decode cX1_length 2 = .ok (.putfield 34, 3) := by decide +kernel
theorem dX1_length_5 : decode cX1_length 5 = .ok (.aload_n 0, 1) := by decide +kernel
theorem dX1_length_6 : decode cX1_length 6 = .ok (.invokevirtual 48, 3) := by decide +kernel
theorem dX1_length_9 : decode cX1_length 9 = .ok (.ireturn, 1) := by decide +kernel
theorem dX1_lines_0 : decode cX1_lines 0 = .ok (.aload_n 0, 1) := by decide +kernel
theorem dX1_lines_1 : decode cX1_lines 1 = .ok (.iconst 0, 1) := by decide +kernel
theorem dX1_lines_2 : decode cX1_lines 2 = .ok (.putfield 34, 3) := by decide +kernel
theorem dX1_lines_5 : decode cX1_lines 5 = .ok (.aload_n 0, 1) := by decide +kernel
theorem dX1_lines_6 : decode cX1_lines 6 = .ok (.invokevirtual 52, 3) := by decide +kernel
theorem dX1_lines_9 : decode cX1_lines 9 = .ok (.ireturn, 1) := by decide +kernel
theorem dX1_line_0 : decode cX1_line 0 = .ok (.aload_n 0, 1) := by decide +kernel
theorem dX1_line_1 : decode cX1_line 1 = .ok (.iconst 0, 1) := by decide +kernel
theorem dX1_line_2 : decode cX1_line 2 = .ok (.putfield 34, 3) := by decide +kernel
theorem dX1_line_5 : decode cX1_line 5 = .ok (.aload_n 0, 1) := by decide +kernel
theorem dX1_line_6 : decode cX1_line 6 = .ok (.iload_n 1, 1) := by decide +kernel
theorem dX1_line_7 : decode cX1_line 7 = .ok (.invokevirtual 55, 3) := by decide +kernel
theorem dX1_line_10 : decode cX1_line 10 = .ok (.ireturn, 1) := by decide +kernel
theorem dX1_line_11 : decode cX1_line 11 = .ok (.astore_n 2, 1) := by decide +kernel
theorem dX1_line_12 : decode cX1_line 12 = .ok (.aload_n 0, 1) := by decide +kernel
theorem dX1_line_13 : decode cX1_line 13 = .ok (.iconst 1, 1) := by decide +kernel
theorem dX1_line_14 : decode cX1_line 14 = .ok (.putfield 34, 3) := by decide +kernel
theorem dX1_line_17 : decode cX1_line 17 = .ok (.iconst 0, 1) := by decide +kernel
theorem dX1_line_18 : decode cX1_line 18 = .ok (.ireturn, 1) := by decide +kernel
theorem dX1_lineOf_0 : decode cX1_lineOf 0 = .ok (.aload_n 0, 1) := by decide +kernel
theorem dX1_lineOf_1 : decode cX1_lineOf 1 = .ok (.iconst 0, 1) := by decide +kernel
theorem dX1_lineOf_2 : decode cX1_lineOf 2 = .ok (.putfield 34, 3) := by decide +kernel
theorem dX1_lineOf_5 : decode cX1_lineOf 5 = .ok (.aload_n 0, 1) := by decide +kernel
theorem dX1_lineOf_6 : decode cX1_lineOf 6 = .ok (.iload_n 1, 1) := by decide +kernel
theorem dX1_lineOf_7 : decode cX1_lineOf 7 = .ok (.invokevirtual 58, 3) := by decide +kernel
theorem dX1_lineOf_10 : decode cX1_lineOf 10 = .ok (.ireturn, 1) := by decide +kernel
theorem dX1_lineOf_11 : decode cX1_lineOf 11 = .ok (.astore_n 2, 1) := by decide +kernel
theorem dX1_lineOf_12 : decode cX1_lineOf 12 = .ok (.aload_n 0, 1) := by decide +kernel
theorem dX1_lineOf_13 : decode cX1_lineOf 13 = .ok (.iconst 1, 1) := by decide +kernel
theorem dX1_lineOf_14 : decode cX1_lineOf 14 = .ok (.putfield 34, 3) := by decide +kernel
theorem dX1_lineOf_17 : decode cX1_lineOf 17 = .ok (.iconst 0, 1) := by decide +kernel
theorem dX1_lineOf_18 : decode cX1_lineOf 18 = .ok (.ireturn, 1) := by decide +kernel
theorem dX1_digest_0 : decode cX1_digest 0 = .ok (.aload_n 0, 1) := by decide +kernel
theorem dX1_digest_1 : decode cX1_digest 1 = .ok (.iconst 0, 1) := by decide +kernel
theorem dX1_digest_2 : decode cX1_digest 2 = .ok (.putfield 34, 3) := by decide +kernel
theorem dX1_digest_5 : decode cX1_digest 5 = .ok (.aload_n 0, 1) := by decide +kernel
theorem dX1_digest_6 : decode cX1_digest 6 = .ok (.invokevirtual 61, 3) := by decide +kernel
theorem dX1_digest_9 : decode cX1_digest 9 = .ok (.ireturn, 1) := by decide +kernel
end
section
/-! pure words: line ends counted, the digest, a row with numbers put in, a row with numbers taken out -/
def lc_cnt (g : Nat → Int32) : Nat → Nat
  | 0 => 0
  | k + 1 => lc_cnt g k + (if g k = 10 then 1 else 0)
def lc_dig (g : Nat → Int32) : Nat → Int32
  | 0 => 0
  | k + 1 => lc_dig g k + g k * nI (k + 1)
def lc_ins (g : Nat → Int32) (i : Nat) (v st : Int32) (k : Nat) : Nat → Int32 := fun j => if j < i then g j else if j < i + k then v + nI (j - i) * st else g (j - k)
def lc_del (g : Nat → Int32) (i k : Nat) : Nat → Int32 := fun j => if j < i then g j else g (j + k)
theorem lc_cnt_s (g : Nat → Int32) (k : Nat) : lc_cnt g (k + 1) = lc_cnt g k + (if g k = 10 then 1 else 0) := rfl
theorem lc_cnt_t {g : Nat → Int32} {k : Nat} (h : g k = 10) : lc_cnt g (k + 1) = lc_cnt g k + 1 := by rw [lc_cnt_s, if_pos h]
theorem lc_cnt_f {g : Nat → Int32} {k : Nat} (h : ¬ g k = 10) : lc_cnt g (k + 1) = lc_cnt g k := by rw [lc_cnt_s, if_neg h]; rfl
theorem lc_cnt_congr {g h : Nat → Int32} : ∀ {n : Nat}, (∀ j, j < n → g j = h j) → lc_cnt g n = lc_cnt h n
  | 0, _ => rfl
  | n + 1, e => by rw [lc_cnt_s, lc_cnt_s, lc_cnt_congr (n := n) (fun j hj => e j (by omega)), e n (by omega)]
theorem lc_cnt_le (g : Nat → Int32) : ∀ n, lc_cnt g n ≤ n
  | 0 => Nat.le_refl _
  | n + 1 => by
    rw [lc_cnt_s]
    have := lc_cnt_le g n
    split <;> omega
theorem lc_cnt_mono (g : Nat → Int32) (a : Nat) : ∀ m, lc_cnt g a ≤ lc_cnt g (a + m)
  | 0 => Nat.le_refl _
  | m + 1 => by
    have := lc_cnt_mono g a m
    rw [← Nat.add_assoc, lc_cnt_s]
    omega
theorem lc_cnt_mono' (g : Nat → Int32) {a b : Nat} (h : a ≤ b) : lc_cnt g a ≤ lc_cnt g b := by
  have := lc_cnt_mono g a (b - a)
  rwa [Nat.add_sub_cancel' h] at this
theorem lc_cnt_shift {g h : Nat → Int32} {a b : Nat} : ∀ {m : Nat}, (∀ j, j < m → g (a + j) = h (b + j)) → lc_cnt g (a + m) + lc_cnt h b = lc_cnt h (b + m) + lc_cnt g a
  | 0, _ => by simp only [Nat.add_zero]; omega
  | m + 1, e => by
    have ih := lc_cnt_shift (m := m) (fun j hj => e j (by omega))
    rw [← Nat.add_assoc, ← Nat.add_assoc, lc_cnt_s, lc_cnt_s, e m (by omega)]
    omega
theorem lc_dig_congr {g h : Nat → Int32} : ∀ {n : Nat}, (∀ j, j < n → g j = h j) → lc_dig g n = lc_dig h n
  | 0, _ => rfl
  | n + 1, e => by show lc_dig g n + g n * nI (n + 1) = lc_dig h n + h n * nI (n + 1); rw [lc_dig_congr (n := n) (fun j hj => e j (by omega)), e n (by omega)]
theorem lc_ins_congr {g h : Nat → Int32} {n i k : Nat} {v st : Int32} (e : ∀ j, j < n → g j = h j) (hi : i ≤ n) : ∀ j, j < n + k → lc_ins g i v st k j = lc_ins h i v st k j := by
  intro j hj
  unfold lc_ins
  split
  · exact e j (by omega)
  · split
    · rfl
    · exact e (j - k) (by omega)
theorem lc_del_congr {g h : Nat → Int32} {n i k : Nat} (e : ∀ j, j < n → g j = h j) (hk : i + k ≤ n) : ∀ j, j < n - k → lc_del g i k j = lc_del h i k j := by
  intro j hj
  unfold lc_del
  split
  · exact e j (by omega)
  · exact e (j + k) (by omega)
/-- the line ends behind an insert -/
theorem lc_ins_cnt {g u : Nat → Int32} {n i k : Nat} {v st : Int32} (hi : i ≤ n) (e : ∀ j, j < n + k → u j = lc_ins g i v st k j) : lc_cnt u (n + k) = lc_cnt g n + (lc_cnt u (i + k) - lc_cnt u i) := by
  have h1 : lc_cnt u i = lc_cnt g i := lc_cnt_congr fun j hj => by rw [e j (by omega)]; unfold lc_ins; rw [if_pos hj]
  have h2 := lc_cnt_shift (g := u) (h := g) (a := i + k) (b := i) (m := n - i) (fun j hj => by
    rw [e _ (by omega)]; unfold lc_ins; rw [if_neg (by omega), if_neg (by omega)]; congr 1; omega)
  have h3 := lc_cnt_mono' u (show i ≤ i + k by omega)
  rw [show i + k + (n - i) = n + k by omega, show i + (n - i) = n by omega] at h2
  omega
/-- the line ends behind a delete -/
theorem lc_del_cnt {g u : Nat → Int32} {n i k : Nat} (hk : i + k ≤ n) (e : ∀ j, j < n - k → u j = lc_del g i k j) : lc_cnt u (n - k) + (lc_cnt g (i + k) - lc_cnt g i) = lc_cnt g n := by
  have h1 : lc_cnt u i = lc_cnt g i := lc_cnt_congr fun j hj => by rw [e j (by omega)]; unfold lc_del; rw [if_pos hj]
  have h2 := lc_cnt_shift (g := u) (h := g) (a := i) (b := i + k) (m := n - k - i) (fun j hj => by
    rw [e _ (by omega)]; unfold lc_del; rw [if_neg (by omega)]; congr 1; omega)
  have h3 := lc_cnt_mono' g (show i ≤ i + k by omega)
  rw [show i + (n - k - i) = n - k by omega, show i + k + (n - k - i) = n by omega] at h2
  omega
/-- the place behind n line ends -/
def lc_isL (g : Nat → Int32) (n k : Nat) : Prop := n ≤ lc_cnt g k ∧ ∀ j, j < k → lc_cnt g j < n
theorem lc_isL_eq {g : Nat → Int32} {n a b : Nat} (h1 : lc_isL g n a) (h2 : lc_isL g n b) : a = b := by
  rcases Nat.lt_trichotomy a b with h | h | h
  · have := h2.2 a h; have := h1.1; omega
  · exact h
  · have := h1.2 b h; have := h2.1; omega
theorem lc_isL_congr {g h : Nat → Int32} {n m k : Nat} (e : ∀ j, j < m → g j = h j) (hk : k ≤ m) (hl : lc_isL g n k) : lc_isL h n k := by
  refine ⟨?_, fun j hj => ?_⟩
  · rw [← lc_cnt_congr (g := g) (h := h) (fun j hj => e j (by omega))]; exact hl.1
  · rw [← lc_cnt_congr (g := g) (h := h) (fun i hi => e i (by omega))]; exact hl.2 j hj
theorem lc_step (st : Int32) (j : Nat) : nI (j + 1) * st = nI j * st + st := by rw [nI_succ, Int32.add_mul, Int32.one_mul]
theorem lc_move {c a b : Nat} (h : a ≤ c + b) : nI c + (nI b - nI a) = nI (c + b - a) := by
  rw [Int32.sub_eq_add_neg, ← Int32.add_assoc, ← Int32.sub_eq_add_neg, nI_add, pk_sub h]
theorem lc_min {a b : Nat} (ha : a < 2 ^ 31) (hb : b < 2 ^ 31) : (if nI b < nI a then nI b else nI a) = nI (min a b) := by
  by_cases h : b < a
  · rw [if_pos (nI_lt h ha), Nat.min_eq_right (by omega)]
  · rw [if_neg (nI_nlt (by omega) hb), Nat.min_eq_left (by omega)]
theorem lc_max {a b : Nat} (h : a ≤ b) (hb : b < 2 ^ 31) : (if nI a < nI b then nI b else nI a) = nI b := by
  by_cases h2 : a < b
  · rw [if_pos (nI_lt h2 hb)]
  · have : a = b := by omega
    subst this
    rw [if_neg (nI_nlt (Nat.le_refl _) hb)]
/-- the room of a row behind a growth, and what the growth makes -/
def lc_L (L m : Nat) : Nat := if m ≤ L then L else min (2 * L) 20000
def lc_gr (L m : Nat) : Nat := if m ≤ L then 0 else min (2 * L) 20000
theorem lc_L_ge {L m : Nat} (h5 : 512 ≤ L) (hm : m ≤ 20000) (hm5 : m ≤ L + 500) : m ≤ lc_L L m ∧ L ≤ lc_L L m ∨ m ≤ lc_L L m ∧ 20000 < L := by
  unfold lc_L
  split <;> omega
theorem lc_L_in {L m : Nat} (h5 : 512 ≤ L) (hL : L ≤ 20000) (hm : m ≤ 20000) (hm5 : m ≤ L + 500) : m ≤ lc_L L m ∧ L ≤ lc_L L m ∧ lc_L L m ≤ 20000 := by
  unfold lc_L
  split <;> omega
theorem lc_pred_lt {i : Nat} (h : i < 2 ^ 31) : nI (i + 0) - 1 < nI i := by
  cases i with
  | zero => decide
  | succ j => rw [Nat.add_zero, nI_pred]; exact nI_lt (Nat.lt_succ_self j) h
theorem lc_dec (x : Int32) : x + Int32.ofInt (-1) = x - 1 := by rw [Int32.sub_eq_add_neg]; rfl
theorem lc_okG {x : Int32} {n : Nat} (h : ¬ (x < 0 ∨ nI n ≤ x)) (hn : n < 2 ^ 31) : ∃ i : Nat, i < n ∧ x = nI i := by
  rcases pk_ix x hn with h1 | h1 | h1
  · exact absurd (Or.inl h1) h
  · exact absurd (Or.inr h1) h
  · exact h1
theorem lc_okL {x : Int32} {n : Nat} (h : ¬ (x < 0 ∨ nI n < x)) (hn : n < 2 ^ 31) : ∃ i : Nat, i ≤ n ∧ x = nI i :=
  nI_of2 (nI_toInt hn) (fun h1 => h (Or.inl h1)) (Int32.not_lt.mp (fun h1 => h (Or.inr h1)))
theorem lc_isL_ex {g : Nat → Int32} {n c : Nat} (h : n ≤ lc_cnt g c) : ∃ j, j ≤ c ∧ lc_isL g n j := by
  obtain ⟨j, h1, h2⟩ := pk_least (fun j => n ≤ lc_cnt g j) ⟨c, h⟩
  refine ⟨j, Nat.not_lt.mp (fun hlt => h2 c hlt h), h1, fun i hi => Nat.not_le.mp (h2 i hi)⟩
theorem lc_okI {x y : Int32} {n : Nat} (h : ¬ (x < 0 ∨ nI n < x ∨ y < 1 ∨ 500 < y)) (hn : n < 2 ^ 31) : ∃ i k : Nat, x = nI i ∧ y = nI k ∧ i ≤ n ∧ 1 ≤ k ∧ k ≤ 500 := by
  obtain ⟨i, hi, rfl⟩ := lc_okL (x := x) (n := n) (fun z => h (z.elim Or.inl (fun z => Or.inr (Or.inl z)))) hn
  have hy1 : ¬ y < 1 := fun z => h (Or.inr (Or.inr (Or.inl z)))
  have hy5 : ¬ 500 < y := fun z => h (Or.inr (Or.inr (Or.inr z)))
  have hy0 : ¬ y < 0 := fun z => hy1 (Int32.lt_of_lt_of_le z (by decide))
  obtain ⟨k, hk, rfl⟩ := nI_of2 (x := y) (M := 500) (n := 500) (by decide) hy0 (Int32.not_lt.mp hy5)
  refine ⟨i, k, rfl, rfl, hi, ?_, hk⟩
  rcases Nat.eq_zero_or_pos k with rfl | hk1
  · exact absurd (show nI 0 < 1 by decide) hy1
  · exact hk1
theorem lc_sub_neg {n : Nat} {y : Int32} (hn : n ≤ 20000) (h : nI n < y) : nI n - y < 0 := by
  have h1 : (nI n).toInt = n := nI_toInt (by omega)
  have h2 := Int32.lt_iff_toInt_lt.mp h
  have h3 := Int32.toInt_lt y
  rw [Int32.lt_iff_toInt_lt, Int32.toInt_sub, Int32.toInt_zero, h1]
  rw [h1] at h2
  rw [Int.bmod_eq_of_le (by omega) (by omega)]
  omega
theorem lc_badD {x y : Int32} {n : Nat} (h : x < 0 ∨ y < 1 ∨ nI n < y ∨ nI n - y < x) (hn : n ≤ 20000) : x < 0 ∨ y < 1 ∨ nI n - y < x := by
  rcases h with h | h | h | h
  · exact Or.inl h
  · exact Or.inr (Or.inl h)
  · by_cases h0 : x < 0
    · exact Or.inl h0
    · exact Or.inr (Or.inr (Int32.lt_of_lt_of_le (lc_sub_neg hn h) (Int32.not_lt.mp h0)))
  · exact Or.inr (Or.inr h)
theorem lc_okD {x y : Int32} {n : Nat} (h : ¬ (x < 0 ∨ y < 1 ∨ nI n < y ∨ nI n - y < x)) (hn : n ≤ 20000) : ∃ i k : Nat, x = nI i ∧ y = nI k ∧ 1 ≤ k ∧ i + k ≤ n := by
  have hy1 : ¬ y < 1 := fun z => h (Or.inr (Or.inl z))
  have hy0 : ¬ y < 0 := fun z => hy1 (Int32.lt_of_lt_of_le z (by decide))
  obtain ⟨k, hk, rfl⟩ := nI_of2 (x := y) (M := nI n) (n := n) (nI_toInt (by omega)) hy0 (Int32.not_lt.mp (fun z => h (Or.inr (Or.inr (Or.inl z)))))
  have hx : ¬ nI (n - k) < x := fun z => h (Or.inr (Or.inr (Or.inr (by rw [pk_sub hk]; exact z))))
  obtain ⟨i, hi, rfl⟩ := lc_okL (x := x) (n := n - k) (fun z => z.elim (fun z => h (Or.inl z)) hx) (by omega)
  refine ⟨i, k, rfl, rfl, ?_, by omega⟩
  rcases Nat.eq_zero_or_pos k with rfl | hk1
  · exact absurd (show nI 0 < 1 by decide) hy1
  · exact hk1
theorem lc_pot {L m pt : Nat} (hL : L ≤ 20000) (hm : m ≤ 20000) (h : (L = 20000 ∧ pt ≤ 60000) ∨ (L < 20000 ∧ pt ≤ 2 * L)) : (lc_L L m = 20000 ∧ pt + lc_gr L m ≤ 60000) ∨ (lc_L L m < 20000 ∧ pt + lc_gr L m ≤ 2 * lc_L L m) := by
  unfold lc_L lc_gr
  split <;> omega
theorem lc_pot_le {L m pt : Nat} (h : (L = 20000 ∧ pt ≤ 60000) ∨ (L < 20000 ∧ pt ≤ 2 * L)) (hL : L ≤ 20000) : pt + lc_gr L m ≤ 80000 := by
  unfold lc_gr
  split <;> omega
theorem lc_cmp (x : Int64) : lg_cmp x x = 0 := (lg_cmp_eq x x).mpr rfl
theorem lc_i5 {L : Nat} (hL : L < 2 ^ 31) : (nI L - 5).toInt = (L : Int) - 5 := by
  rw [Int32.toInt_sub, nI_toInt hL, show (5 : Int32).toInt = 5 by decide, Int.bmod_eq_of_le (by omega) (by omega)]
theorem lc_exit {L i : Nat} (h : L < i + 5) (hi : i ≤ L) (hL : L < 2 ^ 31) : nI L - 5 < nI i := by
  rw [Int32.lt_iff_toInt_lt, lc_i5 hL, nI_toInt (by omega)]; omega
theorem lc_noexit {L i : Nat} (h : i + 5 ≤ L) (hL : L < 2 ^ 31) : ¬ nI L - 5 < nI i := by
  rw [Int32.lt_iff_toInt_lt, lc_i5 hL, nI_toInt (by omega)]; omega
end
section
section LcRows
variable {p : Program} {l : Launch} {e : Env} {R : Room} {s : State} {m : MethodId} {args : Array Value} {below : List Frame} {meth : Method} {c : Code} {H : Heap} {locs : List Loc} {cells slots : Nat} {Q : State → Prop}
variable {pc : Nat} {ls : Array Slot} {rest st0 : List Value} {a : Array Value} {A0 A1 : Nat → Prop} {H0 : Heap} {mc ms : Nat} {free : Addr → Prop} {D : va_G}
theorem lc_topl {x y : Int64} (h : x = y) (k : W p l e R s m args below meth c H locs cells slots Q (F0 m pc ls (.long y :: rest))) : W p l e R s m args below meth c H locs cells slots Q (F0 m pc ls (.long x :: rest)) := h ▸ k
theorem lc_top {x y : Int32} (h : x = y) (k : W p l e R s m args below meth c H locs cells slots Q (F0 m pc ls (.int y :: rest))) : W p l e R s m args below meth c H locs cells slots Q (F0 m pc ls (.int x :: rest)) := h ▸ k
/-- what a reading method asks -/
def lc_Rd (av : List Value) (D : va_G) (w : va_W) (tys : List (ClassId × FieldType)) : Array Value → State → Prop := va_Pc av (fun U => va_P D vwCl w U.heap ∧ va_K D vwCl tys U)
theorem lc_Rd_blind {av : List Value} {w : va_W} {tys : List (ClassId × FieldType)} : FrameBlind (lc_Rd av D w tys) := fun a U g mk q => ⟨q.1, q.2.1, va_K.moved (u := U) (U := U.calling g mk a) (Vm.Alike.refl U.vm) q.2.2⟩
theorem lc_RdS {av : List Value} {w : va_W} {tys : List (ClassId × FieldType)} (hP : va_P D vwCl w H) (hK : va_K D vwCl tys s) : PreS s H (lc_Rd av D w tys) av := ⟨lc_Rd_blind, fun U hU hW => ⟨rfl, by rw [hU]; exact hP, va_K.moved hW.alike hK⟩⟩
theorem lc_RdV {As : List Value} {w : va_W} {tys : List (ClassId × FieldType)} {b ci q0 : Nat} {fs : List Value} {q : vw_C} (hP : va_P D vwCl w H) (hK : va_K D vwCl tys s) (he : w[q0]? = some (b, .inr (ci, fs))) (hc : vwCl[ci]? = some q) : PreV s H q.1 b (lc_Rd (.ref b :: As) D w tys) As := ⟨lc_Rd_blind, va_recv hK hP hc he, fun U hU hW => ⟨rfl, by rw [hU]; exact hP, va_K.moved hW.alike hK⟩⟩
/-- what a writing method asks -/
def lc_Wr (av : List Value) (D : va_G) (w : va_W) (tys : List (ClassId × FieldType)) (sz : Nat) : Array Value → State → Prop := va_Pc av (fun U => U.heap.size = sz ∧ va_P D vwCl w U.heap ∧ va_K D vwCl tys U ∧ va_D (fun _ => True) w)
theorem lc_Wr_blind {av : List Value} {w : va_W} {tys : List (ClassId × FieldType)} {sz : Nat} : FrameBlind (lc_Wr av D w tys sz) := fun a U g mk q => ⟨q.1, q.2.1, q.2.2.1, va_K.moved (u := U) (U := U.calling g mk a) (Vm.Alike.refl U.vm) q.2.2.2.1, q.2.2.2.2⟩
theorem lc_WrS {av : List Value} {w : va_W} {tys : List (ClassId × FieldType)} (hP : va_P D vwCl w H) (hK : va_K D vwCl tys s) (hD : va_D A0 w) : PreS s H (lc_Wr av D w tys H.size) av := ⟨lc_Wr_blind, fun U hU hW => ⟨rfl, by rw [hU], by rw [hU]; exact hP, va_K.moved hW.alike hK, hD.weaken (fun _ _ _ _ => trivial)⟩⟩
theorem lc_WrV {As : List Value} {w : va_W} {tys : List (ClassId × FieldType)} {b ci q0 : Nat} {fs : List Value} {q : vw_C} (hP : va_P D vwCl w H) (hK : va_K D vwCl tys s) (hD : va_D A0 w) (he : w[q0]? = some (b, .inr (ci, fs))) (hc : vwCl[ci]? = some q) : PreV s H q.1 b (lc_Wr (.ref b :: As) D w tys H.size) As := ⟨lc_Wr_blind, va_recv hK hP hc he, fun U hU hW => ⟨rfl, by rw [hU], by rw [hU]; exact hP, va_K.moved hW.alike hK, hD.weaken (fun _ _ _ _ => trivial)⟩⟩
/-- .. and what it leaves -/
def lc_QW {S : Type} (D : va_G) (A : Nat → Prop) (rv : S → Option Value) (w : S → va_W) (tys : S → List (ClassId × FieldType)) (post : S → Prop) : Array Value → State → Outcome → State → Prop := fun _ st o t => ∃ u : S, o = .returned (rv u) ∧ post u ∧ va_P D vwCl (w u) t.heap ∧ va_K D vwCl (tys u) t ∧ va_D A (w u) ∧ va_F A st t
theorem lc_callW {S : Type} {rv : S → Option Value} {w : S → va_W} {tys : S → List (ClassId × FieldType)} {post : S → Prop} (hr : va_Run p l e R s m args below meth c H locs cells slots mc ms (F0 m pc ls st0) rest (lc_QW D A1 rv w tys post a) A1) (hS : va_S A0 H0 H locs) (hA : ∀ q, A1 q → A0 q)
    (kk : ∀ (u : S) (H1 : Heap) (locs1 : List Loc), post u → va_P D vwCl (w u) H1 → va_K D vwCl (tys u) s → va_D A1 (w u) → H.size ≤ H1.size → (∀ q : Nat, q < H.size → ¬ A1 q → H1[q]? = H[q]?) → va_S A0 H0 H1 locs1 → W p l e R s m args below meth c H1 locs1 (cells + mc) (slots + ms) Q (F0 m (pc + 3) ls ((rv u).toList ++ rest))) : W p l e R s m args below meth c H locs cells slots Q (F0 m pc ls st0) := by
  intro T hT X
  obtain ⟨v, st₀, t, T', L, h0, X', hL, e1, e2, ⟨u, hv, hp, hP, hK, hD, hz, hk⟩, st⟩ := hr T hT X
  cases hv
  rw [h0] at hz hk
  obtain ⟨t2, a1, b1⟩ := kk u T'.heap (locs ++ L) hp (by rw [e1]; exact hP) (va_K.moved (by rw [← e2]; exact X'.warmed.alike.symm) hK) hD (by rw [e1]; exact hz) (fun q h1 h2 => by rw [e1]; exact hk q h1 h2)
    ⟨Nat.le_trans hS.1 (by rw [e1]; exact hz), fun q h1 h2 => by rw [e1, hk q (Nat.lt_of_lt_of_le h1 hS.1) (fun z => h2 (hA q z))]; exact hS.2.1 q h1 h2, fun q hq => by
      rcases List.mem_append.mp hq with h | h
      · exact hS.2.2 q h
      · exact hA _ (hL q h)⟩ T' rfl X'
  exact ⟨t2, st t2 a1, b1⟩
theorem lc_callR {r : Int32} (hr : CallRun p l e R s m args below meth c H locs cells slots 0 0 (F0 m pc ls st0) rest (QcRead r a) (fun _ => False)) (kk : W p l e R s m args below meth c H locs cells slots Q (F0 m (pc + 3) ls (.int r :: rest))) : W p l e R s m args below meth c H locs cells slots Q (F0 m pc ls st0) := W.callR hr kk
def lc_QV : Array Value → State → Outcome → State → Prop := fun _ st o t => o = .returned none ∧ t.heap = st.heap
theorem lc_callV (hr : CallRun p l e R s m args below meth c H locs cells slots 0 0 (F0 m pc ls st0) rest (lc_QV a) (fun _ => False)) (kk : W p l e R s m args below meth c H locs cells slots Q (F0 m (pc + 3) ls rest)) : W p l e R s m args below meth c H locs cells slots Q (F0 m pc ls st0) := by
  intro T hT X
  obtain ⟨v, st₀, t, T', L, h0, X', hL, e1, ⟨hv, hh⟩, st⟩ := hr T hT X
  cases hv
  obtain ⟨t2, a1, b1⟩ := kk T' (by rw [e1, hh, h0]) (Stand.forget X' (fun q h => (hL q h).elim))
  exact ⟨t2, st t2 a1, b1⟩
/-- the words of a throw that a table's warming leaves, but that are no good words -/
def lc_Nws : List Cond := [.castable "java/lang/IllegalArgumentException" "java/lang/IllegalArgumentException", .castable "java/lang/IllegalStateException" "java/lang/IllegalStateException", .castable "java/util/NoSuchElementException" "java/util/NoSuchElementException", .declares ⟨"java/lang/RuntimeException", "<init>", "()V"⟩, .declares ⟨"java/lang/Exception", "<init>", "()V"⟩, .declares ⟨"java/lang/Throwable", "<init>", "()V"⟩]
def lc_NW (U : State) : Prop := va_Nw (.castable "java/lang/IllegalArgumentException" "java/lang/IllegalArgumentException") U ∧ va_Nw (.castable "java/lang/IllegalStateException" "java/lang/IllegalStateException") U ∧ va_Nw (.castable "java/util/NoSuchElementException" "java/util/NoSuchElementException") U ∧ va_Nw (.declares ⟨"java/lang/RuntimeException", "<init>", "()V"⟩) U ∧ va_Nw (.declares ⟨"java/lang/Exception", "<init>", "()V"⟩) U ∧ va_Nw (.declares ⟨"java/lang/Throwable", "<init>", "()V"⟩) U ∧ va_Nc "java/lang/IllegalStateException" "java/lang/IllegalArgumentException" U
theorem lc_NW.warm {s U : State} (hW : s.WarmedH U.vm) (h : lc_NW s) : lc_NW U := ⟨h.1.warmC hW, h.2.1.warmC hW, h.2.2.1.warmC hW, h.2.2.2.1.warmD hW, h.2.2.2.2.1.warmD hW, h.2.2.2.2.2.1.warmD hW, h.2.2.2.2.2.2.moved hW.alike⟩
theorem lc_nws {s : State} {args : Array Value} (h : lc_NW s) : ∀ w ∈ lc_Nws, w.before args s = true := vx_c (h.1.use rfl) (vx_c (h.2.1.use rfl) (vx_c (h.2.2.1.use rfl) (vx_c (h.2.2.2.1.use rfl) (vx_c (h.2.2.2.2.1.use rfl) (vx_c (h.2.2.2.2.2.1.use rfl) vx_n)))))
/-- the two statics that a new exception is given, and those words -/
def lc_TZ (A : Nat → Prop) (U : State) (H : Heap) : Prop := vx_Zq Bundle.tN "UNASSIGNED_STACK" Bundle.steD A U H ∧ vx_Zq Bundle.tN "SUPPRESSED_SENTINEL" Bundle.listD A U H ∧ lc_NW U
theorem lc_TZ.moved {A : Nat → Prop} {u U : State} {H : Heap} (hW : u.WarmedH U.vm) (h : lc_TZ A u H) : lc_TZ A U H := ⟨h.1.moved hW.alike, h.2.1.moved hW.alike, h.2.2.warm hW⟩
theorem lc_TZ.kept {A : Nat → Prop} {U : State} {H H1 : Heap} (h : lc_TZ A U H) (hq : ∀ a : Nat, a < H.size → ¬ A a → H1[a]? = H[a]?) : lc_TZ A U H1 := ⟨h.1.kept hq, h.2.1.kept hq, h.2.2⟩
theorem lc_TZ.narrow {A B : Nat → Prop} {U : State} {H : Heap} (h : lc_TZ A U H) (hAB : ∀ q, B q → A q) : lc_TZ B U H := ⟨h.1.narrow hAB, h.2.1.narrow hAB, h.2.2⟩
/-- what a throwing method asks -/
def lc_Tx (av : List Value) (D : va_G) (w : va_W) (tys : List (ClassId × FieldType)) (A : Nat → Prop) : Array Value → State → Prop := va_Pc av (fun U => va_P D vwCl w U.heap ∧ va_K D vwCl tys U ∧ lc_TZ A U U.heap)
theorem lc_Tx_blind {av : List Value} {w : va_W} {tys : List (ClassId × FieldType)} {A : Nat → Prop} : FrameBlind (lc_Tx av D w tys A) := fun a U g mk q => ⟨q.1, q.2.1, va_K.moved (u := U) (U := U.calling g mk a) (Vm.Alike.refl U.vm) q.2.2.1, lc_TZ.moved (u := U) (U := U.calling g mk a) (State.WarmedH.refl U) q.2.2.2⟩
theorem lc_TxS {av : List Value} {w : va_W} {tys : List (ClassId × FieldType)} {A : Nat → Prop} (hP : va_P D vwCl w H) (hK : va_K D vwCl tys s) (hZ : lc_TZ A s H) : PreS s H (lc_Tx av D w tys A) av := ⟨lc_Tx_blind, fun U hU hW => ⟨rfl, by rw [hU]; exact hP, va_K.moved hW.alike hK, by rw [hU]; exact hZ.moved hW⟩⟩
theorem lc_TxV {As : List Value} {w : va_W} {tys : List (ClassId × FieldType)} {A : Nat → Prop} {b ci q0 : Nat} {fs : List Value} {q : vw_C} (hP : va_P D vwCl w H) (hK : va_K D vwCl tys s) (hZ : lc_TZ A s H) (he : w[q0]? = some (b, .inr (ci, fs))) (hc : vwCl[ci]? = some q) : PreV s H q.1 b (lc_Tx (.ref b :: As) D w tys A) As := ⟨lc_Tx_blind, va_recv hK hP hc he, fun U hU hW => ⟨rfl, by rw [hU]; exact hP, va_K.moved hW.alike hK, by rw [hU]; exact hZ.moved hW⟩⟩
/-- what a method asks that writes, and catches what it calls throws -/
def lc_WT (av : List Value) (D : va_G) (w : va_W) (tys : List (ClassId × FieldType)) (sz : Nat) : Array Value → State → Prop := va_Pc av (fun U => U.heap.size = sz ∧ va_P D vwCl w U.heap ∧ va_K D vwCl tys U ∧ va_D (fun _ => True) w ∧ lc_TZ (va_A w sz) U U.heap)
theorem lc_WT_blind {av : List Value} {w : va_W} {tys : List (ClassId × FieldType)} {sz : Nat} : FrameBlind (lc_WT av D w tys sz) := fun a U g mk q => ⟨q.1, q.2.1, q.2.2.1, va_K.moved (u := U) (U := U.calling g mk a) (Vm.Alike.refl U.vm) q.2.2.2.1, q.2.2.2.2.1, lc_TZ.moved (u := U) (U := U.calling g mk a) (State.WarmedH.refl U) q.2.2.2.2.2⟩
theorem lc_WTS {av : List Value} {w : va_W} {tys : List (ClassId × FieldType)} (hP : va_P D vwCl w H) (hK : va_K D vwCl tys s) (hD : va_D A0 w) (hZ : lc_TZ (va_A w H.size) s H) : PreS s H (lc_WT av D w tys H.size) av := ⟨lc_WT_blind, fun U hU hW => ⟨rfl, by rw [hU], by rw [hU]; exact hP, va_K.moved hW.alike hK, hD.weaken (fun _ _ _ _ => trivial), by rw [hU]; exact hZ.moved hW⟩⟩
theorem lc_WTV {As : List Value} {w : va_W} {tys : List (ClassId × FieldType)} {b ci q0 : Nat} {fs : List Value} {q : vw_C} (hP : va_P D vwCl w H) (hK : va_K D vwCl tys s) (hD : va_D A0 w) (hZ : lc_TZ (va_A w H.size) s H) (he : w[q0]? = some (b, .inr (ci, fs))) (hc : vwCl[ci]? = some q) : PreV s H q.1 b (lc_WT (.ref b :: As) D w tys H.size) As := ⟨lc_WT_blind, va_recv hK hP hc he, fun U hU hW => ⟨rfl, by rw [hU], by rw [hU]; exact hP, va_K.moved hW.alike hK, hD.weaken (fun _ _ _ _ => trivial), by rw [hU]; exact hZ.moved hW⟩⟩
/-- .. and how it leaves: E0 thrown, all that was there is there -/
def lc_X (E0 : String) : String → State → State → Prop := fun E st t => E = E0 ∧ va_F (fun _ => False) st t
def lc_N : Array Value → State → Outcome → State → Prop := fun _ _ _ _ => False
theorem lc_callX {E0 : String} (hr : vx_Run p l e R s m args below meth c H locs cells slots mc ms (F0 m pc ls st0) rest (lc_N a) (lc_X E0) (fun _ => False))
    (kx : ∀ (ce : Cell) (q9 : Addr) (H1 : Heap), H.size ≤ H1.size → (∀ q : Nat, q < H.size → H1[q]? = H[q]?) → H1[q9]? = some ce → ce.vm = .none → s.vm.findClass E0 = some ce.cls → vx_W p l e R s m args below meth c H1 locs (cells + mc) (slots + ms) Q (F0 m pc ls rest) q9) : W p l e R s m args below meth c H locs cells slots Q (F0 m pc ls st0) := by
  intro T hT X
  rcases hr T hT X with ⟨v, st₀, t, T', L, h0, X', hL, e1, e2, hF, st⟩ | ⟨q, st₀, t, T', L, E, ce, h0, X', hL, e1, e2, ⟨rfl, hz, hk⟩, hce, hcv, hcl, st⟩
  · exact hF.elim
  · rw [h0] at hz hk
    have hL0 : L = [] := List.eq_nil_iff_forall_not_mem.mpr (fun z h => hL z h)
    subst hL0
    rw [List.append_nil] at X'
    obtain ⟨t2, a1, b1⟩ := kx ce q T'.heap (by rw [e1]; exact hz) (fun q h1 => by rw [e1]; exact hk q h1 (fun z => z)) (by rw [e1]; exact hce) hcv hcl T' rfl X'
    exact ⟨t2, st.trans a1, b1⟩
/-- a method that answers r, and leaves all that was there -/
def lc_QB (r : Int32) : Array Value → State → Outcome → State → Prop := fun _ st o t => o = .returned (some (.int r)) ∧ va_F (fun _ => False) st t
theorem lc_callB {r : Int32} (hr : va_Run p l e R s m args below meth c H locs cells slots mc ms (F0 m pc ls st0) rest (lc_QB r a) (fun _ => False))
    (kk : ∀ H1 : Heap, H.size ≤ H1.size → (∀ q : Nat, q < H.size → H1[q]? = H[q]?) → W p l e R s m args below meth c H1 locs (cells + mc) (slots + ms) Q (F0 m (pc + 3) ls (.int r :: rest))) : W p l e R s m args below meth c H locs cells slots Q (F0 m pc ls st0) := by
  intro T hT X
  obtain ⟨v, st₀, t, T', L, h0, X', hL, e1, e2, ⟨hv, hz, hk⟩, st⟩ := hr T hT X
  cases hv
  rw [h0] at hz hk
  have hL0 : L = [] := List.eq_nil_iff_forall_not_mem.mpr (fun z h => hL z h)
  subst hL0
  rw [List.append_nil] at X'
  obtain ⟨t2, a1, b1⟩ := kk T'.heap (by rw [e1]; exact hz) (fun q h1 => by rw [e1]; exact hk q h1 (fun z => z)) T' rfl X'
  exact ⟨t2, st t2 a1, b1⟩
theorem lc_keptP {w : va_W} {H1 : Heap} (hP : va_P D vwCl w H) (hk : ∀ q : Nat, q < H.size → H1[q]? = H[q]?) : va_P D vwCl w H1 := hP.kept (fun k q h => hk q.1 ((hP k q h).lt))
theorem lc_keptS {H1 : Heap} (hS : va_S A0 H0 H locs) (hz : H.size ≤ H1.size) (hk : ∀ q : Nat, q < H.size → H1[q]? = H[q]?) : va_S A0 H0 H1 locs := ⟨Nat.le_trans hS.1 hz, fun q h1 h2 => (hk q (Nat.lt_of_lt_of_le h1 hS.1)).trans (hS.2.1 q h1 h2), hS.2.2⟩
end LcRows
end
section
set_option maxHeartbeats 4000000 in
set_option maxRecDepth 100000 in
theorem k_lineEndsIn (l : Launch) (D : va_G) (h q : Nat) (cA : ClassId) (n e : Int32) (L : Nat) (g : Nat → Int32) (hL : L ≤ 20000) (a b : Nat) (hab : a ≤ b) (hbL : b ≤ L) : Met l yX0_lineEndsIn wsX0_lineEndsIn ({ frames := 0, cells := 0, slots := 0, locals := 0 }) (lc_Rd [.ref h, .int (nI a), .int (nI b)] D [(h, .inr (0, [.ref q, .int n, .int e])), (q, .inl (cA, L, .inl g))] [(cA, .int)]) (QcRead (nI (lc_cnt g b - lc_cnt g a))) 0 0 (fun _ => False) := by
  refine Met.ofW (cc := cX0_lineEndsIn) (maxL := 5) (ret := (some .int)) (by decide) rfl ?_
  intro p e' s m args below meth c s₁ B hml hv
  obtain ⟨rfl, hP, hK⟩ := hv
  have hx := B.exec
  have hb := B.bytes
  have hr := B.returns
  have hts := atoms_spec (ws := wsX0_lineEndsIn) B.pre
  have hown : s.vm.findClass RX0 = some m.cls := findClass_of_methodNamed B.named
  have hlocks := B.notSynchronized
  have hinX0 : ∀ w ∈ u_ws RX0 TX0 3, w ∈ wsX0_lineEndsIn := fun w h => List.mem_cons_of_mem _ (lb_X0 w h)
  have hl := lv_entry ([.ref h, .int (nI a), .int (nI b)]) (n := 5) (Nat.le_of_ble_eq_true rfl)
  rw [lg_entry_eq]
  generalize (lg_sl ([.ref h, .int (nI a), .int (nI b)]) ++ List.replicate (5 - (lg_sl ([.ref h, .int (nI a), .int (nI b)])).length) Slot.unset).toArray = ls at hl ⊢
  have hl : lv_has ls 5 [(0, .ref h), (1, .int (nI a)), (2, .int (nI b))] := hl
  have loop : ∀ (k i : Nat) (ls : Array Slot), i + k = b → a ≤ i → lv_has ls 5 [(4, .int (nI i)), (3, .int (nI (lc_cnt g i - lc_cnt g a))), (0, .ref h), (1, .int (nI a)), (2, .int (nI b))] → W p l e' (headSpec wsX0_lineEndsIn ({ frames := 0, cells := 0, slots := 0, locals := 0 })).room s m ([.ref h, .int (nI a), .int (nI b)] : List Value).toArray below meth c s.heap [] 0 0 (MQ below (QcRead (nI (lc_cnt g b - lc_cnt g a))) ([.ref h, .int (nI a), .int (nI b)] : List Value).toArray s 0 0 (fun _ => False)) (F0 m 5 ls []) := by
    intro k
    induction k with
    | zero =>
      intro i ls hi hai hl
      have hi : i = b := by omega
      subst hi
      refine lv_iload hx hb dX0_lineEndsIn_5 (lv_at hl 0 rfl) ?_
      refine lv_iload_n hx hb dX0_lineEndsIn_7 rfl (lv_at hl 4 rfl) ?_
      refine lv_icmp_ge hx hb dX0_lineEndsIn_8 (tgt := 32) rfl (fun _ => ?_) (fun hc => absurd (nI_le (Nat.le_refl i) (by omega)) hc)
      refine lv_iload_n hx hb dX0_lineEndsIn_32 rfl (lv_at hl 1 rfl) ?_
      exact W.iret (v := nI (lc_cnt g i - lc_cnt g a)) hx hb hr (fun t ht _ => ⟨rfl, ht⟩) (fun _ h => nomatch h) dX0_lineEndsIn_33
    | succ k ih =>
      intro i ls hi hai hl
      have hm := lc_cnt_mono' g hai
      refine lv_iload hx hb dX0_lineEndsIn_5 (lv_at hl 0 rfl) ?_
      refine lv_iload_n hx hb dX0_lineEndsIn_7 rfl (lv_at hl 4 rfl) ?_
      refine lv_icmp_ge hx hb dX0_lineEndsIn_8 (tgt := 32) rfl (fun hc => absurd hc (nI_ge (show i < b by omega) (by omega))) (fun _ => ?_)
      refine lv_aload_n hx hb dX0_lineEndsIn_11 rfl (lv_at hl 2 rfl) ?_
      refine va_get (D := D) (ci := 0) (v := .ref q) (C := RX0) (T := TX0) (N := 3) hx hb hts hinX0 hown hK hP 0 rfl rfl 0 (by decide) (hts _ (List.mem_cons_of_mem _ lb_35)) (fun _ h9 => h9) rfl dX0_lineEndsIn_12 ?_
      refine lv_iload hx hb dX0_lineEndsIn_15 (lv_at hl 0 rfl) ?_
      refine va_iald (D := D) hx hb hK hP 1 0 rfl rfl (vp_in_nI (show i < L by omega) (by omega)) dX0_lineEndsIn_17 ?_
      refine lc_top (y := g i) (congrArg _ (nI_clamp (by omega))) ?_
      refine lv_bipush (v := 10) hx hb dX0_lineEndsIn_18 (by decide) ?_
      refine lv_icmp_ne hx hb dX0_lineEndsIn_20 (tgt := 26) rfl (fun hc => ?_) (fun hc => ?_)
      · refine lv_iinc (k := 0) (v := nI (i + 1)) hx hb dX0_lineEndsIn_26 hl rfl (nI_1 i) (by decide) rfl (fun ls hl => ?_)
        have hl : lv_has ls 5 [(4, .int (nI (i + 1))), (3, .int (nI (lc_cnt g i - lc_cnt g a))), (0, .ref h), (1, .int (nI a)), (2, .int (nI b))] := hl
        refine lv_goto hx hb dX0_lineEndsIn_29 (tgt := 5) rfl ?_
        have hl : lv_has ls 5 [(4, .int (nI (i + 1))), (3, .int (nI (lc_cnt g i - lc_cnt g a))), (0, .ref h), (1, .int (nI a)), (2, .int (nI b))] := lv_sub hl [0, 1, 2, 3, 4] rfl
        exact ih (i + 1) ls (by omega) (by omega) (by rw [lc_cnt_f hc]; exact hl)
      · refine lv_iinc (k := 1) (v := nI (lc_cnt g i - lc_cnt g a + 1)) hx hb dX0_lineEndsIn_23 hl rfl (nI_1 _) (by decide) rfl (fun ls hl => ?_)
        have hl : lv_has ls 5 [(3, .int (nI (lc_cnt g i - lc_cnt g a + 1))), (4, .int (nI i)), (0, .ref h), (1, .int (nI a)), (2, .int (nI b))] := hl
        refine lv_iinc (k := 1) (v := nI (i + 1)) hx hb dX0_lineEndsIn_26 hl rfl (nI_1 i) (by decide) rfl (fun ls hl => ?_)
        have hl : lv_has ls 5 [(4, .int (nI (i + 1))), (3, .int (nI (lc_cnt g i - lc_cnt g a + 1))), (0, .ref h), (1, .int (nI a)), (2, .int (nI b))] := hl
        refine lv_goto hx hb dX0_lineEndsIn_29 (tgt := 5) rfl ?_
        have hl : lv_has ls 5 [(4, .int (nI (i + 1))), (3, .int (nI (lc_cnt g i - lc_cnt g a + 1))), (0, .ref h), (1, .int (nI a)), (2, .int (nI b))] := lv_sub hl [0, 1, 2, 3, 4] rfl
        exact ih (i + 1) ls (by omega) (by omega) (by rw [lc_cnt_t hc, show lc_cnt g i + 1 - lc_cnt g a = lc_cnt g i - lc_cnt g a + 1 by omega]; exact hl)
  refine lv_iconst (v := 0) hx hb dX0_lineEndsIn_0 (by decide) ?_
  refine lv_istore_n hx hb dX0_lineEndsIn_1 rfl hl (by decide) rfl (fun ls hl => ?_)
  have hl : lv_has ls 5 [(3, .int 0), (0, .ref h), (1, .int (nI a)), (2, .int (nI b))] := hl
  refine lv_iload_n hx hb dX0_lineEndsIn_2 rfl (lv_at hl 2 rfl) ?_
  refine lv_istore hx hb dX0_lineEndsIn_3 hl (by decide) rfl (fun ls hl => ?_)
  have hl : lv_has ls 5 [(4, .int (nI a)), (3, .int 0), (0, .ref h), (1, .int (nI a)), (2, .int (nI b))] := hl
  have hl : lv_has ls 5 [(4, .int (nI a)), (3, .int 0), (0, .ref h), (1, .int (nI a)), (2, .int (nI b))] := lv_sub hl [0, 1, 2, 3, 4] rfl
  refine loop (b - a) a ls (by omega) (Nat.le_refl _) ?_
  rw [Nat.sub_self]
  exact hl
set_option maxHeartbeats 4000000 in
set_option maxRecDepth 100000 in
theorem k_index (l : Launch) (D : va_G) (h q : Nat) (cA : ClassId) (e : Int32) (L c0 : Nat) (g : Nat → Int32) (hL : L ≤ 20000) (hc0 : c0 ≤ L) (k0 j0 : Nat) (hk0 : k0 ≤ 20000) (hj : lc_isL g k0 j0) (hj0 : j0 ≤ c0) : Met l yX0_indexBehindLineEnds wsX0_indexBehindLineEnds ({ frames := 0, cells := 0, slots := 0, locals := 0 }) (lc_Rd [.ref h, .int (nI k0)] D [(h, .inr (0, [.ref q, .int (nI c0), .int e])), (q, .inl (cA, L, .inl g))] [(cA, .int)]) (QcRead (nI j0)) 0 0 (fun _ => False) := by
  refine Met.ofW (cc := cX0_indexBehindLineEnds) (maxL := 4) (ret := (some .int)) (by decide) rfl ?_
  intro p e' s m args below meth c s₁ B hml hv
  obtain ⟨rfl, hP, hK⟩ := hv
  have hx := B.exec
  have hb := B.bytes
  have hr := B.returns
  have hts := atoms_spec (ws := wsX0_indexBehindLineEnds) B.pre
  have hown : s.vm.findClass RX0 = some m.cls := findClass_of_methodNamed B.named
  have hlocks := B.notSynchronized
  have hinX0 : ∀ w ∈ u_ws RX0 TX0 3, w ∈ wsX0_indexBehindLineEnds := fun w h => List.mem_cons_of_mem _ (lb_X0 w h)
  have hl := lv_entry ([.ref h, .int (nI k0)]) (n := 4) (Nat.le_of_ble_eq_true rfl)
  rw [lg_entry_eq]
  generalize (lg_sl ([.ref h, .int (nI k0)]) ++ List.replicate (4 - (lg_sl ([.ref h, .int (nI k0)])).length) Slot.unset).toArray = ls at hl ⊢
  have hl : lv_has ls 4 [(0, .ref h), (1, .int (nI k0))] := hl
  have loop : ∀ (k i : Nat) (ls : Array Slot), i + k = j0 → lv_has ls 4 [(2, .int (nI i)), (3, .int (nI (lc_cnt g i))), (0, .ref h), (1, .int (nI k0))] → W p l e' (headSpec wsX0_indexBehindLineEnds ({ frames := 0, cells := 0, slots := 0, locals := 0 })).room s m ([.ref h, .int (nI k0)] : List Value).toArray below meth c s.heap [] 0 0 (MQ below (QcRead (nI j0)) ([.ref h, .int (nI k0)] : List Value).toArray s 0 0 (fun _ => False)) (F0 m 4 ls []) := by
    intro k
    induction k with
    | zero =>
      intro i ls hi hl
      have hi : i = j0 := by omega
      subst hi
      have hle := lc_cnt_le g i
      refine lv_iload_n hx hb dX0_indexBehindLineEnds_4 rfl (lv_at hl 1 rfl) ?_
      refine lv_iload_n hx hb dX0_indexBehindLineEnds_5 rfl (lv_at hl 3 rfl) ?_
      refine lv_icmp_ge hx hb dX0_indexBehindLineEnds_6 (tgt := 37) rfl (fun _ => ?_) (fun hc => absurd (nI_le hj.1 (by omega)) hc)
      refine lv_iload_n hx hb dX0_indexBehindLineEnds_37 rfl (lv_at hl 0 rfl) ?_
      exact W.iret (v := nI i) hx hb hr (fun t ht _ => ⟨rfl, ht⟩) (fun _ h => nomatch h) dX0_indexBehindLineEnds_38
    | succ k ih =>
      intro i ls hi hl
      have hlt := hj.2 i (by omega)
      refine lv_iload_n hx hb dX0_indexBehindLineEnds_4 rfl (lv_at hl 1 rfl) ?_
      refine lv_iload_n hx hb dX0_indexBehindLineEnds_5 rfl (lv_at hl 3 rfl) ?_
      refine lv_icmp_ge hx hb dX0_indexBehindLineEnds_6 (tgt := 37) rfl (fun hc => absurd hc (nI_ge hlt (by omega))) (fun _ => ?_)
      refine lv_iload_n hx hb dX0_indexBehindLineEnds_9 rfl (lv_at hl 0 rfl) ?_
      refine lv_aload_n hx hb dX0_indexBehindLineEnds_10 rfl (lv_at hl 2 rfl) ?_
      refine va_get (D := D) (ci := 0) (v := .int (nI c0)) (C := RX0) (T := TX0) (N := 3) hx hb hts hinX0 hown hK hP 0 rfl rfl 1 (by decide) (hts _ (List.mem_cons_of_mem _ lb_36)) (fun _ h9 => h9) rfl dX0_indexBehindLineEnds_11 ?_
      refine lv_icmp_ge hx hb dX0_indexBehindLineEnds_14 (tgt := 37) rfl (fun hc => absurd hc (nI_ge (show i < c0 by omega) (by omega))) (fun _ => ?_)
      refine lv_aload_n hx hb dX0_indexBehindLineEnds_17 rfl (lv_at hl 2 rfl) ?_
      refine va_get (D := D) (ci := 0) (v := .ref q) (C := RX0) (T := TX0) (N := 3) hx hb hts hinX0 hown hK hP 0 rfl rfl 0 (by decide) (hts _ (List.mem_cons_of_mem _ lb_35)) (fun _ h9 => h9) rfl dX0_indexBehindLineEnds_18 ?_
      refine lv_iload_n hx hb dX0_indexBehindLineEnds_21 rfl (lv_at hl 0 rfl) ?_
      refine va_iald (D := D) hx hb hK hP 1 0 rfl rfl (vp_in_nI (show i < L by omega) (by omega)) dX0_indexBehindLineEnds_22 ?_
      refine lc_top (y := g i) (congrArg _ (nI_clamp (by omega))) ?_
      refine lv_bipush (v := 10) hx hb dX0_indexBehindLineEnds_23 (by decide) ?_
      refine lv_icmp_ne hx hb dX0_indexBehindLineEnds_25 (tgt := 31) rfl (fun hc => ?_) (fun hc => ?_)
      · refine lv_iinc (k := 0) (v := nI (i + 1)) hx hb dX0_indexBehindLineEnds_31 hl rfl (nI_1 i) (by decide) rfl (fun ls hl => ?_)
        have hl : lv_has ls 4 [(2, .int (nI (i + 1))), (3, .int (nI (lc_cnt g i))), (0, .ref h), (1, .int (nI k0))] := hl
        refine lv_goto hx hb dX0_indexBehindLineEnds_34 (tgt := 4) rfl ?_
        have hl : lv_has ls 4 [(2, .int (nI (i + 1))), (3, .int (nI (lc_cnt g i))), (0, .ref h), (1, .int (nI k0))] := lv_sub hl [0, 1, 2, 3] rfl
        exact ih (i + 1) ls (by omega) (by rw [lc_cnt_f hc]; exact hl)
      · refine lv_iinc (k := 1) (v := nI (lc_cnt g i + 1)) hx hb dX0_indexBehindLineEnds_28 hl rfl (nI_1 _) (by decide) rfl (fun ls hl => ?_)
        have hl : lv_has ls 4 [(3, .int (nI (lc_cnt g i + 1))), (2, .int (nI i)), (0, .ref h), (1, .int (nI k0))] := hl
        refine lv_iinc (k := 1) (v := nI (i + 1)) hx hb dX0_indexBehindLineEnds_31 hl rfl (nI_1 i) (by decide) rfl (fun ls hl => ?_)
        have hl : lv_has ls 4 [(2, .int (nI (i + 1))), (3, .int (nI (lc_cnt g i + 1))), (0, .ref h), (1, .int (nI k0))] := hl
        refine lv_goto hx hb dX0_indexBehindLineEnds_34 (tgt := 4) rfl ?_
        have hl : lv_has ls 4 [(2, .int (nI (i + 1))), (3, .int (nI (lc_cnt g i + 1))), (0, .ref h), (1, .int (nI k0))] := lv_sub hl [0, 1, 2, 3] rfl
        exact ih (i + 1) ls (by omega) (by rw [lc_cnt_t hc]; exact hl)
  refine lv_iconst (v := 0) hx hb dX0_indexBehindLineEnds_0 (by decide) ?_
  refine lv_istore_n hx hb dX0_indexBehindLineEnds_1 rfl hl (by decide) rfl (fun ls hl => ?_)
  have hl : lv_has ls 4 [(2, .int 0), (0, .ref h), (1, .int (nI k0))] := hl
  refine lv_iconst (v := 0) hx hb dX0_indexBehindLineEnds_2 (by decide) ?_
  refine lv_istore_n hx hb dX0_indexBehindLineEnds_3 rfl hl (by decide) rfl (fun ls hl => ?_)
  have hl : lv_has ls 4 [(3, .int 0), (2, .int 0), (0, .ref h), (1, .int (nI k0))] := hl
  have hl : lv_has ls 4 [(2, .int 0), (3, .int 0), (0, .ref h), (1, .int (nI k0))] := lv_sub hl [1, 0, 2, 3] rfl
  exact loop j0 0 ls (by omega) hl
set_option maxHeartbeats 4000000 in
set_option maxRecDepth 100000 in
theorem k_digest (l : Launch) (D : va_G) (h q : Nat) (cA : ClassId) (e : Int32) (L c0 : Nat) (g : Nat → Int32) (hL : L ≤ 20000) (hc0 : c0 ≤ L) : Met l yX0_digest wsX0_digest ({ frames := 0, cells := 0, slots := 0, locals := 0 }) (lc_Rd [.ref h] D [(h, .inr (0, [.ref q, .int (nI c0), .int e])), (q, .inl (cA, L, .inl g))] [(cA, .int)]) (QcRead (lc_dig g c0)) 0 0 (fun _ => False) := by
  refine Met.ofW (cc := cX0_digest) (maxL := 3) (ret := (some .int)) (by decide) rfl ?_
  intro p e' s m args below meth c s₁ B hml hv
  obtain ⟨rfl, hP, hK⟩ := hv
  have hx := B.exec
  have hb := B.bytes
  have hr := B.returns
  have hts := atoms_spec (ws := wsX0_digest) B.pre
  have hown : s.vm.findClass RX0 = some m.cls := findClass_of_methodNamed B.named
  have hlocks := B.notSynchronized
  have hinX0 : ∀ w ∈ u_ws RX0 TX0 3, w ∈ wsX0_digest := fun w h => List.mem_cons_of_mem _ (lb_X0 w h)
  have hl := lv_entry ([.ref h]) (n := 3) (Nat.le_of_ble_eq_true rfl)
  rw [lg_entry_eq]
  generalize (lg_sl ([.ref h]) ++ List.replicate (3 - (lg_sl ([.ref h])).length) Slot.unset).toArray = ls at hl ⊢
  have hl : lv_has ls 3 [(0, .ref h)] := hl
  have loop : ∀ (k i : Nat) (ls : Array Slot), i + k = c0 → lv_has ls 3 [(2, .int (nI i)), (1, .int (lc_dig g i)), (0, .ref h)] → W p l e' (headSpec wsX0_digest ({ frames := 0, cells := 0, slots := 0, locals := 0 })).room s m ([.ref h] : List Value).toArray below meth c s.heap [] 0 0 (MQ below (QcRead (lc_dig g c0)) ([.ref h] : List Value).toArray s 0 0 (fun _ => False)) (F0 m 4 ls []) := by
    intro k
    induction k with
    | zero =>
      intro i ls hi hl
      have hi : i = c0 := by omega
      subst hi
      refine lv_iload_n hx hb dX0_digest_4 rfl (lv_at hl 0 rfl) ?_
      refine lv_aload_n hx hb dX0_digest_5 rfl (lv_at hl 2 rfl) ?_
      refine va_get (D := D) (ci := 0) (v := .int (nI i)) (C := RX0) (T := TX0) (N := 3) hx hb hts hinX0 hown hK hP 0 rfl rfl 1 (by decide) (hts _ (List.mem_cons_of_mem _ lb_36)) (fun _ h9 => h9) rfl dX0_digest_6 ?_
      refine lv_icmp_ge hx hb dX0_digest_9 (tgt := 31) rfl (fun _ => ?_) (fun hc => absurd (nI_le (Nat.le_refl i) (by omega)) hc)
      refine lv_iload_n hx hb dX0_digest_31 rfl (lv_at hl 1 rfl) ?_
      exact W.iret (v := lc_dig g i) hx hb hr (fun t ht _ => ⟨rfl, ht⟩) (fun _ h => nomatch h) dX0_digest_32
    | succ k ih =>
      intro i ls hi hl
      refine lv_iload_n hx hb dX0_digest_4 rfl (lv_at hl 0 rfl) ?_
      refine lv_aload_n hx hb dX0_digest_5 rfl (lv_at hl 2 rfl) ?_
      refine va_get (D := D) (ci := 0) (v := .int (nI c0)) (C := RX0) (T := TX0) (N := 3) hx hb hts hinX0 hown hK hP 0 rfl rfl 1 (by decide) (hts _ (List.mem_cons_of_mem _ lb_36)) (fun _ h9 => h9) rfl dX0_digest_6 ?_
      refine lv_icmp_ge hx hb dX0_digest_9 (tgt := 31) rfl (fun hc => absurd hc (nI_ge (show i < c0 by omega) (by omega))) (fun _ => ?_)
      refine lv_iload_n hx hb dX0_digest_12 rfl (lv_at hl 1 rfl) ?_
      refine lv_aload_n hx hb dX0_digest_13 rfl (lv_at hl 2 rfl) ?_
      refine va_get (D := D) (ci := 0) (v := .ref q) (C := RX0) (T := TX0) (N := 3) hx hb hts hinX0 hown hK hP 0 rfl rfl 0 (by decide) (hts _ (List.mem_cons_of_mem _ lb_35)) (fun _ h9 => h9) rfl dX0_digest_14 ?_
      refine lv_iload_n hx hb dX0_digest_17 rfl (lv_at hl 0 rfl) ?_
      refine va_iald (D := D) hx hb hK hP 1 0 rfl rfl (vp_in_nI (show i < L by omega) (by omega)) dX0_digest_18 ?_
      refine lc_top (y := g i) (congrArg _ (nI_clamp (by omega))) ?_
      refine lv_iload_n hx hb dX0_digest_19 rfl (lv_at hl 0 rfl) ?_
      refine lv_iconst (v := 1) hx hb dX0_digest_20 (by decide) ?_
      refine lv_iadd hx hb dX0_digest_21 ?_
      refine lc_top (y := nI (i + 1)) (nI_1 i) ?_
      refine lv_imul hx hb dX0_digest_22 ?_
      refine lv_iadd hx hb dX0_digest_23 ?_
      refine lv_istore_n hx hb dX0_digest_24 rfl hl (by decide) rfl (fun ls hl => ?_)
      have hl : lv_has ls 3 [(1, .int ((lc_dig g i) + ((g i) * (nI (i + 1))))), (2, .int (nI i)), (0, .ref h)] := hl
      refine lv_iinc (k := 1) (v := nI (i + 1)) hx hb dX0_digest_25 hl rfl (nI_1 i) (by decide) rfl (fun ls hl => ?_)
      have hl : lv_has ls 3 [(2, .int (nI (i + 1))), (1, .int ((lc_dig g i) + ((g i) * (nI (i + 1))))), (0, .ref h)] := hl
      refine lv_goto hx hb dX0_digest_28 (tgt := 4) rfl ?_
      have hl : lv_has ls 3 [(2, .int (nI (i + 1))), (1, .int ((lc_dig g i) + ((g i) * (nI (i + 1))))), (0, .ref h)] := lv_sub hl [0, 1, 2] rfl
      exact ih (i + 1) ls (by omega) hl
  refine lv_iconst (v := 0) hx hb dX0_digest_0 (by decide) ?_
  refine lv_istore_n hx hb dX0_digest_1 rfl hl (by decide) rfl (fun ls hl => ?_)
  have hl : lv_has ls 3 [(1, .int 0), (0, .ref h)] := hl
  refine lv_iconst (v := 0) hx hb dX0_digest_2 (by decide) ?_
  refine lv_istore_n hx hb dX0_digest_3 rfl hl (by decide) rfl (fun ls hl => ?_)
  have hl : lv_has ls 3 [(2, .int 0), (1, .int 0), (0, .ref h)] := hl
  have hl : lv_has ls 3 [(2, .int 0), (1, .int 0), (0, .ref h)] := lv_sub hl [0, 1, 2] rfl
  exact loop c0 0 ls (by omega) hl
set_option maxHeartbeats 4000000 in
set_option maxRecDepth 100000 in
theorem k_length (l : Launch) (D : va_G) (h q : Nat) (cA : ClassId) (n e : Int32) (L : Nat) (g : Nat → Int32) : Met l yX0_length wsX0_length ({ frames := 0, cells := 0, slots := 0, locals := 0 }) (lc_Rd [.ref h] D [(h, .inr (0, [.ref q, .int n, .int e])), (q, .inl (cA, L, .inl g))] [(cA, .int)]) (QcRead (n)) 0 0 (fun _ => False) := by
  refine Met.ofW (cc := cX0_length) (maxL := 1) (ret := (some .int)) (by decide) rfl ?_
  intro p e' s m args below meth c s₁ B hml hv
  obtain ⟨rfl, hP, hK⟩ := hv
  have hx := B.exec
  have hb := B.bytes
  have hr := B.returns
  have hts := atoms_spec (ws := wsX0_length) B.pre
  have hown : s.vm.findClass RX0 = some m.cls := findClass_of_methodNamed B.named
  have hlocks := B.notSynchronized
  have hinX0 : ∀ w ∈ u_ws RX0 TX0 3, w ∈ wsX0_length := fun w h => List.mem_cons_of_mem _ (lb_X0 w h)
  have hl := lv_entry ([.ref h]) (n := 1) (Nat.le_of_ble_eq_true rfl)
  rw [lg_entry_eq]
  generalize (lg_sl ([.ref h]) ++ List.replicate (1 - (lg_sl ([.ref h])).length) Slot.unset).toArray = ls at hl ⊢
  have hl : lv_has ls 1 [(0, .ref h)] := hl
  refine lv_aload_n hx hb dX0_length_0 rfl (lv_at hl 0 rfl) ?_
  refine va_get (D := D) (ci := 0) (v := .int n) (C := RX0) (T := TX0) (N := 3) hx hb hts hinX0 hown hK hP 0 rfl rfl 1 (by decide) (hts _ (List.mem_cons_of_mem _ lb_36)) (fun _ h9 => h9) rfl dX0_length_1 ?_
  exact W.iret (v := n) hx hb hr (fun t ht _ => ⟨rfl, ht⟩) (fun _ h => nomatch h) dX0_length_4
set_option maxHeartbeats 4000000 in
set_option maxRecDepth 100000 in
theorem k_lines (l : Launch) (D : va_G) (h q : Nat) (cA : ClassId) (n e : Int32) (L : Nat) (g : Nat → Int32) : Met l yX0_lines wsX0_lines ({ frames := 0, cells := 0, slots := 0, locals := 0 }) (lc_Rd [.ref h] D [(h, .inr (0, [.ref q, .int n, .int e])), (q, .inl (cA, L, .inl g))] [(cA, .int)]) (QcRead (e + 1)) 0 0 (fun _ => False) := by
  refine Met.ofW (cc := cX0_lines) (maxL := 1) (ret := (some .int)) (by decide) rfl ?_
  intro p e' s m args below meth c s₁ B hml hv
  obtain ⟨rfl, hP, hK⟩ := hv
  have hx := B.exec
  have hb := B.bytes
  have hr := B.returns
  have hts := atoms_spec (ws := wsX0_lines) B.pre
  have hown : s.vm.findClass RX0 = some m.cls := findClass_of_methodNamed B.named
  have hlocks := B.notSynchronized
  have hinX0 : ∀ w ∈ u_ws RX0 TX0 3, w ∈ wsX0_lines := fun w h => List.mem_cons_of_mem _ (lb_X0 w h)
  have hl := lv_entry ([.ref h]) (n := 1) (Nat.le_of_ble_eq_true rfl)
  rw [lg_entry_eq]
  generalize (lg_sl ([.ref h]) ++ List.replicate (1 - (lg_sl ([.ref h])).length) Slot.unset).toArray = ls at hl ⊢
  have hl : lv_has ls 1 [(0, .ref h)] := hl
  refine lv_aload_n hx hb dX0_lines_0 rfl (lv_at hl 0 rfl) ?_
  refine va_get (D := D) (ci := 0) (v := .int e) (C := RX0) (T := TX0) (N := 3) hx hb hts hinX0 hown hK hP 0 rfl rfl 2 (by decide) (hts _ (List.mem_cons_of_mem _ lb_37)) (fun _ h9 => h9) rfl dX0_lines_1 ?_
  refine lv_iconst (v := 1) hx hb dX0_lines_4 (by decide) ?_
  refine lv_iadd hx hb dX0_lines_5 ?_
  exact W.iret (v := e + 1) hx hb hr (fun t ht _ => ⟨rfl, ht⟩) (fun _ h => nomatch h) dX0_lines_6
set_option maxHeartbeats 4000000 in
set_option maxRecDepth 100000 in
theorem k_get (l : Launch) (D : va_G) (h q : Nat) (cA : ClassId) (e : Int32) (L c0 : Nat) (g : Nat → Int32) (hL : L ≤ 20000) (hc0 : c0 ≤ L) (i : Nat) (hi : i < c0) : Met l yX0_get wsX0_get ({ frames := 0, cells := 0, slots := 0, locals := 0 }) (lc_Rd [.ref h, .int (nI i)] D [(h, .inr (0, [.ref q, .int (nI c0), .int e])), (q, .inl (cA, L, .inl g))] [(cA, .int)]) (QcRead (g i)) 0 0 (fun _ => False) := by
  refine Met.ofW (cc := cX0_get) (maxL := 2) (ret := (some .int)) (by decide) rfl ?_
  intro p e' s m args below meth c s₁ B hml hv
  obtain ⟨rfl, hP, hK⟩ := hv
  have hx := B.exec
  have hb := B.bytes
  have hr := B.returns
  have hts := atoms_spec (ws := wsX0_get) B.pre
  have hown : s.vm.findClass RX0 = some m.cls := findClass_of_methodNamed B.named
  have hlocks := B.notSynchronized
  have hinX0 : ∀ w ∈ u_ws RX0 TX0 3, w ∈ wsX0_get := fun w h => List.mem_cons_of_mem _ (lb_X0 w h)
  have hl := lv_entry ([.ref h, .int (nI i)]) (n := 2) (Nat.le_of_ble_eq_true rfl)
  rw [lg_entry_eq]
  generalize (lg_sl ([.ref h, .int (nI i)]) ++ List.replicate (2 - (lg_sl ([.ref h, .int (nI i)])).length) Slot.unset).toArray = ls at hl ⊢
  have hl : lv_has ls 2 [(0, .ref h), (1, .int (nI i))] := hl
  refine lv_iload_n hx hb dX0_get_0 rfl (lv_at hl 1 rfl) ?_
  refine lv_if_lt hx hb dX0_get_1 (tgt := 12) rfl (fun hc => absurd hc (nI_pos (by omega))) (fun _ => ?_)
  refine lv_iload_n hx hb dX0_get_4 rfl (lv_at hl 1 rfl) ?_
  refine lv_aload_n hx hb dX0_get_5 rfl (lv_at hl 0 rfl) ?_
  refine va_get (D := D) (ci := 0) (v := .int (nI c0)) (C := RX0) (T := TX0) (N := 3) hx hb hts hinX0 hown hK hP 0 rfl rfl 1 (by decide) (hts _ (List.mem_cons_of_mem _ lb_36)) (fun _ h9 => h9) rfl dX0_get_6 ?_
  refine lv_icmp_lt hx hb dX0_get_9 (tgt := 20) rfl (fun _ => ?_) (fun hc => absurd (nI_lt hi (by omega)) hc)
  refine lv_aload_n hx hb dX0_get_20 rfl (lv_at hl 0 rfl) ?_
  refine va_get (D := D) (ci := 0) (v := .ref q) (C := RX0) (T := TX0) (N := 3) hx hb hts hinX0 hown hK hP 0 rfl rfl 0 (by decide) (hts _ (List.mem_cons_of_mem _ lb_35)) (fun _ h9 => h9) rfl dX0_get_21 ?_
  refine lv_iload_n hx hb dX0_get_24 rfl (lv_at hl 1 rfl) ?_
  refine va_iald (D := D) hx hb hK hP 1 0 rfl rfl (vp_in_nI (show i < L by omega) (by omega)) dX0_get_25 ?_
  refine lc_top (y := g i) (congrArg _ (nI_clamp (by omega))) ?_
  exact W.iret (v := g i) hx hb hr (fun t ht _ => ⟨rfl, ht⟩) (fun _ h => nomatch h) dX0_get_26
set_option maxHeartbeats 4000000 in
set_option maxRecDepth 100000 in
theorem k_line (l : Launch) (D : va_G) (h q : Nat) (cA : ClassId) (L c0 : Nat) (g : Nat → Int32) (hL : L ≤ 20000) (hc0 : c0 ≤ L) (k0 j0 : Nat) (hk0 : k0 ≤ lc_cnt g c0) (hj : lc_isL g k0 j0) (hj0 : j0 ≤ c0) : Met l yX0_line wsX0_line ({ frames := 1, cells := 0, slots := 0, locals := 24 }) (lc_Rd [.ref h, .int (nI k0)] D [(h, .inr (0, [.ref q, .int (nI c0), .int (nI (lc_cnt g c0))])), (q, .inl (cA, L, .inl g))] [(cA, .int)]) (QcRead (nI j0)) 0 0 (fun _ => False) := by
  refine Met.ofW (cc := cX0_line) (maxL := 2) (ret := (some .int)) (by decide) rfl ?_
  intro p e' s m args below meth c s₁ B hml hv
  obtain ⟨rfl, hP, hK⟩ := hv
  have hx := B.exec
  have hb := B.bytes
  have hr := B.returns
  have hts := atoms_spec (ws := wsX0_line) B.pre
  have hown : s.vm.findClass RX0 = some m.cls := findClass_of_methodNamed B.named
  have hlocks := B.notSynchronized
  have hinX0 : ∀ w ∈ u_ws RX0 TX0 3, w ∈ wsX0_line := fun w h => List.mem_cons_of_mem _ (lb_X0 w h)
  have hl := lv_entry ([.ref h, .int (nI k0)]) (n := 2) (Nat.le_of_ble_eq_true rfl)
  rw [lg_entry_eq]
  generalize (lg_sl ([.ref h, .int (nI k0)]) ++ List.replicate (2 - (lg_sl ([.ref h, .int (nI k0)])).length) Slot.unset).toArray = ls at hl ⊢
  have hl : lv_has ls 2 [(0, .ref h), (1, .int (nI k0))] := hl
  have hle := lc_cnt_le g c0
  refine lv_iload_n hx hb dX0_line_0 rfl (lv_at hl 1 rfl) ?_
  refine lv_if_lt hx hb dX0_line_1 (tgt := 12) rfl (fun hc => absurd hc (nI_pos (by omega))) (fun _ => ?_)
  refine lv_iload_n hx hb dX0_line_4 rfl (lv_at hl 1 rfl) ?_
  refine lv_aload_n hx hb dX0_line_5 rfl (lv_at hl 0 rfl) ?_
  refine va_get (D := D) (ci := 0) (v := .int (nI (lc_cnt g c0))) (C := RX0) (T := TX0) (N := 3) hx hb hts hinX0 hown hK hP 0 rfl rfl 2 (by decide) (hts _ (List.mem_cons_of_mem _ lb_37)) (fun _ h9 => h9) rfl dX0_line_6 ?_
  refine lv_icmp_le hx hb dX0_line_9 (tgt := 20) rfl (fun _ => ?_) (fun hc => absurd (nI_le hk0 (by omega)) hc)
  refine lv_aload_n hx hb dX0_line_20 rfl (lv_at hl 0 rfl) ?_
  refine lv_iload_n hx hb dX0_line_21 rfl (lv_at hl 1 rfl) ?_
  refine lc_callR (W.runV (As := [.int (nI k0)]) (rest := []) ⟨hx, hb, hml, hown, hts⟩ (k_index l D h q cA (nI (lc_cnt g c0)) L c0 g hL hc0 k0 j0 (by omega) hj hj0) (cwV 1 hts gX0_line_X0_indexBehindLineEnds rfl rfl rfl (by decide +kernel) ⟨Nat.le_of_ble_eq_true rfl, Nat.le_of_ble_eq_true rfl⟩) (lc_RdV (q0 := 0) (ci := 0) (q := (RX0, TX0, 3)) hP hK rfl rfl) rfl rfl hl.1 rfl (lv_room (Nat.le_of_ble_eq_true rfl)) dX0_line_22 ⟨Nat.le_refl _, Nat.le_refl _⟩) ?_
  exact W.iret (v := nI j0) hx hb hr (fun t ht _ => ⟨rfl, ht⟩) (fun _ h => nomatch h) dX0_line_25
set_option maxHeartbeats 4000000 in
set_option maxRecDepth 100000 in
theorem k_lineOf (l : Launch) (D : va_G) (h q : Nat) (cA : ClassId) (e : Int32) (L c0 : Nat) (g : Nat → Int32) (hL : L ≤ 20000) (hc0 : c0 ≤ L) (i : Nat) (hi : i ≤ c0) : Met l yX0_lineOf wsX0_lineOf ({ frames := 1, cells := 0, slots := 0, locals := 26 }) (lc_Rd [.ref h, .int (nI i)] D [(h, .inr (0, [.ref q, .int (nI c0), .int e])), (q, .inl (cA, L, .inl g))] [(cA, .int)]) (QcRead (nI (lc_cnt g i))) 0 0 (fun _ => False) := by
  refine Met.ofW (cc := cX0_lineOf) (maxL := 2) (ret := (some .int)) (by decide) rfl ?_
  intro p e' s m args below meth c s₁ B hml hv
  obtain ⟨rfl, hP, hK⟩ := hv
  have hx := B.exec
  have hb := B.bytes
  have hr := B.returns
  have hts := atoms_spec (ws := wsX0_lineOf) B.pre
  have hown : s.vm.findClass RX0 = some m.cls := findClass_of_methodNamed B.named
  have hlocks := B.notSynchronized
  have hinX0 : ∀ w ∈ u_ws RX0 TX0 3, w ∈ wsX0_lineOf := fun w h => List.mem_cons_of_mem _ (lb_X0 w h)
  have hl := lv_entry ([.ref h, .int (nI i)]) (n := 2) (Nat.le_of_ble_eq_true rfl)
  rw [lg_entry_eq]
  generalize (lg_sl ([.ref h, .int (nI i)]) ++ List.replicate (2 - (lg_sl ([.ref h, .int (nI i)])).length) Slot.unset).toArray = ls at hl ⊢
  have hl : lv_has ls 2 [(0, .ref h), (1, .int (nI i))] := hl
  refine lv_iload_n hx hb dX0_lineOf_0 rfl (lv_at hl 1 rfl) ?_
  refine lv_if_lt hx hb dX0_lineOf_1 (tgt := 12) rfl (fun hc => absurd hc (nI_pos (by omega))) (fun _ => ?_)
  refine lv_iload_n hx hb dX0_lineOf_4 rfl (lv_at hl 1 rfl) ?_
  refine lv_aload_n hx hb dX0_lineOf_5 rfl (lv_at hl 0 rfl) ?_
  refine va_get (D := D) (ci := 0) (v := .int (nI c0)) (C := RX0) (T := TX0) (N := 3) hx hb hts hinX0 hown hK hP 0 rfl rfl 1 (by decide) (hts _ (List.mem_cons_of_mem _ lb_36)) (fun _ h9 => h9) rfl dX0_lineOf_6 ?_
  refine lv_icmp_le hx hb dX0_lineOf_9 (tgt := 20) rfl (fun _ => ?_) (fun hc => absurd (nI_le hi (by omega)) hc)
  refine lv_aload_n hx hb dX0_lineOf_20 rfl (lv_at hl 0 rfl) ?_
  refine lv_iconst (v := 0) hx hb dX0_lineOf_21 (by decide) ?_
  refine lv_iload_n hx hb dX0_lineOf_22 rfl (lv_at hl 1 rfl) ?_
  refine lc_callR (W.runV (As := [.int (nI 0), .int (nI i)]) (rest := []) ⟨hx, hb, hml, hown, hts⟩ (k_lineEndsIn l D h q cA (nI c0) e L g hL 0 i (by omega) (by omega)) (cwV 2 hts gX0_lineOf_X0_lineEndsIn rfl rfl rfl (by decide +kernel) ⟨Nat.le_of_ble_eq_true rfl, Nat.le_of_ble_eq_true rfl⟩) (lc_RdV (q0 := 0) (ci := 0) (q := (RX0, TX0, 3)) hP hK rfl rfl) rfl rfl hl.1 rfl (lv_room (Nat.le_of_ble_eq_true rfl)) dX0_lineOf_23 ⟨Nat.le_refl _, Nat.le_refl _⟩) ?_
  exact W.iret (v := nI (lc_cnt g i)) hx hb hr (fun t ht _ => ⟨rfl, ht⟩) (fun _ h => nomatch h) dX0_lineOf_26
set_option maxHeartbeats 4000000 in
set_option maxRecDepth 100000 in
theorem k_moveTail (l : Launch) (D : va_G) (h q : Nat) (cA : ClassId) (sz : Nat) (e : Int32) (L c0 : Nat) (g : Nat → Int32) (hL : L ≤ 20000) (hc0 : c0 ≤ L) (a b : Nat) (ha : a ≤ c0) (hb0 : b + (c0 - a) ≤ L) : Met l yX0_moveTail wsX0_moveTail ({ frames := 1, cells := 0, slots := 0, locals := 24 }) (lc_Wr [.ref h, .int (nI a), .int (nI b)] D [(h, .inr (0, [.ref q, .int (nI c0), .int e])), (q, .inl (cA, L, .inl g))] [(cA, .int)] sz) (lc_QW (S := Unit) D (va_A [(h, .inr (0, [.ref q, .int (nI c0), .int e])), (q, .inl (cA, L, .inl g))] sz) (fun u => none) (fun u => [(h, .inr (0, [.ref q, .int (nI (c0 + b - a)), .int e])), (q, .inl (cA, L, .inl (va_cpy g g a b (c0 - a))))]) (fun u => [(cA, .int)]) (fun u => True)) 0 0 (va_A [(h, .inr (0, [.ref q, .int (nI c0), .int e])), (q, .inl (cA, L, .inl g))] sz) := by
  refine Met.ofW (cc := cX0_moveTail) (maxL := 3) (ret := none) (by decide) rfl ?_
  intro p e' s m args below meth c s₁ B hml hv
  obtain ⟨rfl, hsz, hP, hK, hD0⟩ := hv
  have hx := B.exec
  have hb := B.bytes
  have hr := B.returns
  have hts := atoms_spec (ws := wsX0_moveTail) B.pre
  have hown : s.vm.findClass RX0 = some m.cls := findClass_of_methodNamed B.named
  have hlocks := B.notSynchronized
  have hinX0 : ∀ w ∈ u_ws RX0 TX0 3, w ∈ wsX0_moveTail := fun w h => List.mem_cons_of_mem _ (lb_X0 w h)
  subst hsz
  have hD := hD0.self (sz := s.heap.size)
  generalize hAe : va_A [(h, .inr (0, [.ref q, .int (nI c0), .int e])), (q, .inl (cA, L, .inl g))] s.heap.size = A at hD ⊢
  have hA : ∀ q : Nat, s.heap.size ≤ q → A q := fun q h => by rw [← hAe]; exact Or.inr h
  have hS : va_S A s.heap s.heap [] := va_S.rf
  have hP : va_P D vwCl [(h, .inr (0, [.ref q, .int (nI c0), .int e])), (q, .inl (cA, L, .inl g))] s.heap := hP
  skip
  have hl := lv_entry ([.ref h, .int (nI a), .int (nI b)]) (n := 3) (Nat.le_of_ble_eq_true rfl)
  rw [lg_entry_eq]
  generalize (lg_sl ([.ref h, .int (nI a), .int (nI b)]) ++ List.replicate (3 - (lg_sl ([.ref h, .int (nI a), .int (nI b)])).length) Slot.unset).toArray = ls at hl ⊢
  have hl : lv_has ls 3 [(0, .ref h), (1, .int (nI a)), (2, .int (nI b))] := hl
  refine lv_aload_n hx hb dX0_moveTail_0 rfl (lv_at hl 0 rfl) ?_
  refine va_get (D := D) (ci := 0) (v := .ref q) (C := RX0) (T := TX0) (N := 3) hx hb hts hinX0 hown hK hP 0 rfl rfl 0 (by decide) (hts _ (List.mem_cons_of_mem _ lb_35)) (fun _ h9 => h9) rfl dX0_moveTail_1 ?_
  refine lv_iload_n hx hb dX0_moveTail_4 rfl (lv_at hl 1 rfl) ?_
  refine lv_aload_n hx hb dX0_moveTail_5 rfl (lv_at hl 0 rfl) ?_
  refine va_get (D := D) (ci := 0) (v := .ref q) (C := RX0) (T := TX0) (N := 3) hx hb hts hinX0 hown hK hP 0 rfl rfl 0 (by decide) (hts _ (List.mem_cons_of_mem _ lb_35)) (fun _ h9 => h9) rfl dX0_moveTail_6 ?_
  refine lv_iload_n hx hb dX0_moveTail_9 rfl (lv_at hl 2 rfl) ?_
  refine lv_aload_n hx hb dX0_moveTail_10 rfl (lv_at hl 0 rfl) ?_
  refine va_get (D := D) (ci := 0) (v := .int (nI c0)) (C := RX0) (T := TX0) (N := 3) hx hb hts hinX0 hown hK hP 0 rfl rfl 1 (by decide) (hts _ (List.mem_cons_of_mem _ lb_36)) (fun _ h9 => h9) rfl dX0_moveTail_11 ?_
  refine lv_iload_n hx hb dX0_moveTail_14 rfl (lv_at hl 1 rfl) ?_
  refine lv_isub hx hb dX0_moveTail_15 ?_
  refine lc_top (y := nI (c0 - a)) (pk_sub ha) ?_
  have ea : (nI a).toNatClampNeg = a := nI_clamp (by omega)
  have eb : (nI b).toNatClampNeg = b := nI_clamp (by omega)
  have ec : (nI (c0 - a)).toNatClampNeg = c0 - a := nI_clamp (by omega)
  refine va_copyi (D := D) (ty := .int) hx hb (hml.trans hl.1.symm) hown (hts _ (List.mem_cons_of_mem _ lb_173)) (hts _ (List.mem_cons_of_mem _ lb_168)) (hts _ (List.mem_cons_of_mem _ lb_167)) (hts _ (List.mem_cons_of_mem _ lb_25)) hK hP hD hS 1 1 0 0 rfl rfl rfl rfl rfl (nI_pos (by omega)) (nI_pos (by omega)) (nI_pos (by omega)) (by rw [ea, ec]; omega) (by rw [eb, ec]; omega) (fun _ _ => rfl) (Nat.le_of_ble_eq_true rfl) (Nat.le_of_ble_eq_true rfl) dX0_moveTail_16 (fun H locs hP hD hS => ?_)
  rw [ea, eb, ec] at hP hD
  have hP : va_P D vwCl [(h, .inr (0, [.ref q, .int (nI c0), .int e])), (q, .inl (cA, L, .inl (va_cpy g g a b (c0 - a))))] H := hP
  have hD : va_D A [(h, .inr (0, [.ref q, .int (nI c0), .int e])), (q, .inl (cA, L, .inl (va_cpy g g a b (c0 - a))))] := hD
  refine lv_aload_n hx hb dX0_moveTail_19 rfl (lv_at hl 0 rfl) ?_
  refine lv_dup hx hb dX0_moveTail_20 rfl ?_
  refine va_get (D := D) (ci := 0) (v := .int (nI c0)) (C := RX0) (T := TX0) (N := 3) hx hb hts hinX0 hown hK hP 0 rfl rfl 1 (by decide) (hts _ (List.mem_cons_of_mem _ lb_36)) (fun _ h9 => h9) rfl dX0_moveTail_21 ?_
  refine lv_iload_n hx hb dX0_moveTail_24 rfl (lv_at hl 2 rfl) ?_
  refine lv_iload_n hx hb dX0_moveTail_25 rfl (lv_at hl 1 rfl) ?_
  refine lv_isub hx hb dX0_moveTail_26 ?_
  refine lv_iadd hx hb dX0_moveTail_27 ?_
  refine lc_top (y := nI (c0 + b - a)) (lc_move (by omega)) ?_
  refine va_put (D := D) (ci := 0) (v := .int (nI (c0 + b - a))) (ty := .int) (C := RX0) (T := TX0) (N := 3) hx hb hts hinX0 tyX0 tyX0_ok nmX0 hown hK hP hD hS 0 rfl rfl 1 (by decide) (hts _ (List.mem_cons_of_mem _ lb_36)) (fun _ h9 => h9) rfl (by decide +kernel) rfl rfl (Nat.le_of_ble_eq_true rfl) dX0_moveTail_28 (fun H locs hP hD hS => ?_)
  have hP : va_P D vwCl [(h, .inr (0, [.ref q, .int (nI (c0 + b - a)), .int e])), (q, .inl (cA, L, .inl (va_cpy g g a b (c0 - a))))] H := hP
  have hD : va_D A [(h, .inr (0, [.ref q, .int (nI (c0 + b - a)), .int e])), (q, .inl (cA, L, .inl (va_cpy g g a b (c0 - a))))] := hD
  exact W.vret hx hb hr (fun t ht hW => ⟨(), rfl, trivial, by rw [ht]; exact hP, va_K.moved hW.alike hK, hD, hS.F ht⟩) hS.2.2 dX0_moveTail_31
set_option maxHeartbeats 4000000 in
set_option maxRecDepth 100000 in
theorem k_fill (l : Launch) (D : va_G) (h q : Nat) (cA : ClassId) (sz : Nat) (n e : Int32) (L : Nat) (g : Nat → Int32) (hL : L ≤ 20000) (a k0 : Nat) (v0 s0 : Int32) (hak : a + k0 ≤ L) : Met l yX0_fill wsX0_fill ({ frames := 0, cells := 0, slots := 0, locals := 0 }) (lc_Wr [.ref h, .int (nI a), .int v0, .int s0, .int (nI k0)] D [(h, .inr (0, [.ref q, .int n, .int e])), (q, .inl (cA, L, .inl g))] [(cA, .int)] sz) (lc_QW (S := (Nat → Int32)) D (va_A [(h, .inr (0, [.ref q, .int n, .int e])), (q, .inl (cA, L, .inl g))] sz) (fun u => none) (fun u => [(h, .inr (0, [.ref q, .int n, .int e])), (q, .inl (cA, L, .inl u))]) (fun u => [(cA, .int)]) (fun u => ∀ j, u j = if a ≤ j ∧ j < a + k0 then v0 + nI (j - a) * s0 else g j)) 0 0 (va_A [(h, .inr (0, [.ref q, .int n, .int e])), (q, .inl (cA, L, .inl g))] sz) := by
  refine Met.ofW (cc := cX0_fill) (maxL := 7) (ret := none) (by decide) rfl ?_
  intro p e' s m args below meth c s₁ B hml hv
  obtain ⟨rfl, hsz, hP, hK, hD0⟩ := hv
  have hx := B.exec
  have hb := B.bytes
  have hr := B.returns
  have hts := atoms_spec (ws := wsX0_fill) B.pre
  have hown : s.vm.findClass RX0 = some m.cls := findClass_of_methodNamed B.named
  have hlocks := B.notSynchronized
  have hinX0 : ∀ w ∈ u_ws RX0 TX0 3, w ∈ wsX0_fill := fun w h => List.mem_cons_of_mem _ (lb_X0 w h)
  subst hsz
  have hD := hD0.self (sz := s.heap.size)
  generalize hAe : va_A [(h, .inr (0, [.ref q, .int n, .int e])), (q, .inl (cA, L, .inl g))] s.heap.size = A at hD ⊢
  have hA : ∀ q : Nat, s.heap.size ≤ q → A q := fun q h => by rw [← hAe]; exact Or.inr h
  have hS : va_S A s.heap s.heap [] := va_S.rf
  have hP : va_P D vwCl [(h, .inr (0, [.ref q, .int n, .int e])), (q, .inl (cA, L, .inl g))] s.heap := hP
  skip
  have hl := lv_entry ([.ref h, .int (nI a), .int v0, .int s0, .int (nI k0)]) (n := 7) (Nat.le_of_ble_eq_true rfl)
  rw [lg_entry_eq]
  generalize (lg_sl ([.ref h, .int (nI a), .int v0, .int s0, .int (nI k0)]) ++ List.replicate (7 - (lg_sl ([.ref h, .int (nI a), .int v0, .int s0, .int (nI k0)])).length) Slot.unset).toArray = ls at hl ⊢
  have hl : lv_has ls 7 [(0, .ref h), (1, .int (nI a)), (2, .int v0), (3, .int s0), (4, .int (nI k0))] := hl
  have loop : ∀ (k i : Nat) (f : Nat → Int32) (H : Heap) (locs : List Loc) (ls : Array Slot), i + k = k0 → (∀ j, f j = if a ≤ j ∧ j < a + i then v0 + nI (j - a) * s0 else g j) → va_P D vwCl [(h, .inr (0, [.ref q, .int n, .int e])), (q, .inl (cA, L, .inl f))] H → va_D A [(h, .inr (0, [.ref q, .int n, .int e])), (q, .inl (cA, L, .inl f))] → va_S A s.heap H locs → lv_has ls 7 [(6, .int (nI (a + i))), (5, .int (v0 + nI i * s0)), (0, .ref h), (1, .int (nI a)), (2, .int v0), (3, .int s0), (4, .int (nI k0))] → W p l e' (headSpec wsX0_fill ({ frames := 0, cells := 0, slots := 0, locals := 0 })).room s m ([.ref h, .int (nI a), .int v0, .int s0, .int (nI k0)] : List Value).toArray below meth c H locs 0 0 (MQ below (lc_QW (S := (Nat → Int32)) D A (fun u => none) (fun u => [(h, .inr (0, [.ref q, .int n, .int e])), (q, .inl (cA, L, .inl u))]) (fun u => [(cA, .int)]) (fun u => ∀ j, u j = if a ≤ j ∧ j < a + k0 then v0 + nI (j - a) * s0 else g j)) ([.ref h, .int (nI a), .int v0, .int s0, .int (nI k0)] : List Value).toArray s 0 0 A) (F0 m 6 ls []) := by
    intro k
    induction k with
    | zero =>
      intro i f H locs ls hi hf hP hD hS hl
      have hi : i = k0 := by omega
      subst hi
      refine lv_iload hx hb dX0_fill_6 (lv_at hl 0 rfl) ?_
      refine lv_iload_n hx hb dX0_fill_8 rfl (lv_at hl 3 rfl) ?_
      refine lv_iload hx hb dX0_fill_9 (lv_at hl 6 rfl) ?_
      refine lv_iadd hx hb dX0_fill_11 ?_
      refine lc_top (y := nI (a + i)) (nI_add a i) ?_
      refine lv_icmp_ge hx hb dX0_fill_12 (tgt := 36) rfl (fun _ => ?_) (fun hc => absurd (nI_le (Nat.le_refl _) (by omega)) hc)
      exact W.vret hx hb hr (fun t ht hW => ⟨f, rfl, hf, by rw [ht]; exact hP, va_K.moved hW.alike hK, hD, hS.F ht⟩) hS.2.2 dX0_fill_36
    | succ k ih =>
      intro i f H locs ls hi hf hP hD hS hl
      refine lv_iload hx hb dX0_fill_6 (lv_at hl 0 rfl) ?_
      refine lv_iload_n hx hb dX0_fill_8 rfl (lv_at hl 3 rfl) ?_
      refine lv_iload hx hb dX0_fill_9 (lv_at hl 6 rfl) ?_
      refine lv_iadd hx hb dX0_fill_11 ?_
      refine lc_top (y := nI (a + k0)) (nI_add a k0) ?_
      refine lv_icmp_ge hx hb dX0_fill_12 (tgt := 36) rfl (fun hc => absurd hc (nI_ge (show a + i < a + k0 by omega) (by omega))) (fun _ => ?_)
      refine lv_aload_n hx hb dX0_fill_15 rfl (lv_at hl 2 rfl) ?_
      refine va_get (D := D) (ci := 0) (v := .ref q) (C := RX0) (T := TX0) (N := 3) hx hb hts hinX0 hown hK hP 0 rfl rfl 0 (by decide) (hts _ (List.mem_cons_of_mem _ lb_35)) (fun _ h9 => h9) rfl dX0_fill_16 ?_
      refine lv_iload hx hb dX0_fill_19 (lv_at hl 0 rfl) ?_
      refine lv_iload hx hb dX0_fill_21 (lv_at hl 1 rfl) ?_
      refine va_iast (D := D) hx hb hK hP hD hS 1 0 rfl rfl (vp_in_nI (show a + i < L by omega) (by omega)) dX0_fill_23 (fun H locs hP hD hS => ?_)
      rw [show (nI (a + i)).toNatClampNeg = a + i from nI_clamp (by omega)] at hP hD
      have hP : va_P D vwCl [(h, .inr (0, [.ref q, .int n, .int e])), (q, .inl (cA, L, .inl (upd f (a + i) (v0 + nI i * s0))))] H := hP
      have hD : va_D A [(h, .inr (0, [.ref q, .int n, .int e])), (q, .inl (cA, L, .inl (upd f (a + i) (v0 + nI i * s0))))] := hD
      refine lv_iload hx hb dX0_fill_24 (lv_at hl 1 rfl) ?_
      refine lv_iload_n hx hb dX0_fill_26 rfl (lv_at hl 5 rfl) ?_
      refine lv_iadd hx hb dX0_fill_27 ?_
      refine lc_top (y := v0 + nI (i + 1) * s0) (by rw [lc_step, Int32.add_assoc]) ?_
      refine lv_istore hx hb dX0_fill_28 hl (by decide) rfl (fun ls hl => ?_)
      have hl : lv_has ls 7 [(5, .int (v0 + nI (i + 1) * s0)), (6, .int (nI (a + i))), (0, .ref h), (1, .int (nI a)), (2, .int v0), (3, .int s0), (4, .int (nI k0))] := hl
      refine lv_iinc (k := 1) (v := nI (a + (i + 1))) hx hb dX0_fill_30 hl rfl (nI_1 (a + i)) (by decide) rfl (fun ls hl => ?_)
      have hl : lv_has ls 7 [(6, .int (nI (a + (i + 1)))), (5, .int (v0 + nI (i + 1) * s0)), (0, .ref h), (1, .int (nI a)), (2, .int v0), (3, .int s0), (4, .int (nI k0))] := hl
      refine lv_goto hx hb dX0_fill_33 (tgt := 6) rfl ?_
      have hl : lv_has ls 7 [(6, .int (nI (a + (i + 1)))), (5, .int (v0 + nI (i + 1) * s0)), (0, .ref h), (1, .int (nI a)), (2, .int v0), (3, .int s0), (4, .int (nI k0))] := lv_sub hl [0, 1, 2, 3, 4, 5, 6] rfl
      refine ih (i + 1) _ H locs ls (by omega) (fun j => ?_) hP hD hS hl
      by_cases hj : j = a + i
      · subst hj; rw [pk_us, if_pos (by omega), show a + i - a = i by omega]
      · rw [pk_un hj, hf j]
        by_cases h2 : a ≤ j ∧ j < a + i
        · rw [if_pos h2, if_pos (by omega)]
        · rw [if_neg h2, if_neg (by omega)]
  refine lv_iload_n hx hb dX0_fill_0 rfl (lv_at hl 2 rfl) ?_
  refine lv_istore hx hb dX0_fill_1 hl (by decide) rfl (fun ls hl => ?_)
  have hl : lv_has ls 7 [(5, .int v0), (0, .ref h), (1, .int (nI a)), (2, .int v0), (3, .int s0), (4, .int (nI k0))] := hl
  refine lv_iload_n hx hb dX0_fill_3 rfl (lv_at hl 2 rfl) ?_
  refine lv_istore hx hb dX0_fill_4 hl (by decide) rfl (fun ls hl => ?_)
  have hl : lv_has ls 7 [(6, .int (nI a)), (5, .int v0), (0, .ref h), (1, .int (nI a)), (2, .int v0), (3, .int s0), (4, .int (nI k0))] := hl
  have hl : lv_has ls 7 [(6, .int (nI a)), (5, .int v0), (0, .ref h), (1, .int (nI a)), (2, .int v0), (3, .int s0), (4, .int (nI k0))] := lv_sub hl [0, 1, 2, 3, 4, 5, 6] rfl
  refine loop k0 0 g s.heap [] ls (by omega) (fun j => by rw [if_neg (by omega)]) hP hD hS ?_
  rw [show v0 + nI 0 * s0 = v0 by rw [nI_0, Int32.zero_mul, Int32.add_zero]]
  exact hl
set_option maxHeartbeats 4000000 in
set_option maxRecDepth 100000 in
theorem k_get_bad (l : Launch) (D : va_G) (h q : Nat) (cA : ClassId)  (hst : l.stackTraces = false) (n e : Int32) (L : Nat) (g : Nat → Int32) (p0 : Int32) (hbad : p0 < 0 ∨ n ≤ p0) : vx_Met l yX0_get wsX0_get ({ frames := 6, cells := 1, slots := 6, locals := 81 }) (lc_Tx [.ref h, .int p0] D [(h, .inr (0, [.ref q, .int n, .int e])), (q, .inl (cA, L, .inl g))] [(cA, .int)] (fun _ => False)) lc_N (lc_X "java/util/NoSuchElementException") 1 6 (fun _ => False) := by
  refine vx_ofW (cc := cX0_get) (maxL := 2) (ret := (some .int)) (by decide) rfl ?_
  intro p e' s m args below meth c s₁ B hml htab hv
  obtain ⟨rfl, hP, hK, hZ⟩ := hv
  have hx := B.exec
  have hb := B.bytes
  have hr := B.returns
  have hts := atoms_spec (ws := wsX0_get) B.pre
  have hown : s.vm.findClass RX0 = some m.cls := findClass_of_methodNamed B.named
  have hlocks := B.notSynchronized
  have hinX0 : ∀ w ∈ u_ws RX0 TX0 3, w ∈ wsX0_get := fun w h => List.mem_cons_of_mem _ (lb_X0 w h)
  have hl := lv_entry ([.ref h, .int p0]) (n := 2) (Nat.le_of_ble_eq_true rfl)
  rw [lg_entry_eq]
  generalize (lg_sl ([.ref h, .int p0]) ++ List.replicate (2 - (lg_sl ([.ref h, .int p0])).length) Slot.unset).toArray = ls at hl ⊢
  have hl : lv_has ls 2 [(0, .ref h), (1, .int p0)] := hl
  have hat : ∀ w ∈ vx_at0 RX0 44 "java/util/NoSuchElementException" ["java/lang/RuntimeException", "java/lang/Exception"], w.before ([.ref h, .int p0] : List Value).toArray s = true := vx_hat (fun w hw => hts w (List.mem_cons_of_mem _ (lb_at_X0_44 w hw))) (B := lc_Nws) (by decide +kernel) (lc_nws hZ.2.2)
  have hthr : W p l e' (headSpec wsX0_get ({ frames := 6, cells := 1, slots := 6, locals := 81 })).room s m ([.ref h, .int p0] : List Value).toArray below meth c s.heap [] 0 0 (vx_MQ below lc_N (lc_X "java/util/NoSuchElementException") ([.ref h, .int p0] : List Value).toArray s 1 6 (fun _ => False)) (F0 m 12 ls []) := vx_throw0 hx hb hst hown (by decide +kernel) (by decide +kernel) (hts _ (List.mem_cons_of_mem _ lb_197)) (hts _ (List.mem_cons_of_mem _ lb_26)) hat (by decide +kernel) hZ.1 hZ.2.1 va_S.rf (hl.1.trans hml.symm) dX0_get_12 dX0_get_15 dX0_get_16 dX0_get_19 (fun x hx => (htab x hx).elim) (Nat.le_of_ble_eq_true rfl) (Nat.le_of_ble_eq_true rfl) (Nat.le_refl _) (Nat.le_refl _) hlocks (fun t _ hz hk => ⟨rfl, hz, fun q h1 _ => hk q h1⟩) (fun _ h => nomatch h) (Nat.le_refl _) (Nat.le_refl _)
  refine lv_iload_n hx hb dX0_get_0 rfl (lv_at hl 1 rfl) ?_
  refine lv_if_lt hx hb dX0_get_1 (tgt := 12) rfl (fun h1 => ?_) (fun h1 => ?_)
  · exact hthr
  · refine lv_iload_n hx hb dX0_get_4 rfl (lv_at hl 1 rfl) ?_
    refine lv_aload_n hx hb dX0_get_5 rfl (lv_at hl 0 rfl) ?_
    refine va_get (D := D) (ci := 0) (v := .int n) (C := RX0) (T := TX0) (N := 3) hx hb hts hinX0 hown hK hP 0 rfl rfl 1 (by decide) (hts _ (List.mem_cons_of_mem _ lb_36)) (fun _ h9 => h9) rfl dX0_get_6 ?_
    refine lv_icmp_lt hx hb dX0_get_9 (tgt := 20) rfl (fun hc => absurd hc (fun hc => hbad.elim h1 (fun hb9 => absurd hc (Int32.not_lt.mpr hb9)))) (fun _ => ?_)
    exact hthr
set_option maxHeartbeats 4000000 in
set_option maxRecDepth 100000 in
theorem k_line_bad (l : Launch) (D : va_G) (h q : Nat) (cA : ClassId)  (hst : l.stackTraces = false) (n e : Int32) (L : Nat) (g : Nat → Int32) (p0 : Int32) (hbad : p0 < 0 ∨ e < p0) : vx_Met l yX0_line wsX0_line ({ frames := 6, cells := 1, slots := 6, locals := 81 }) (lc_Tx [.ref h, .int p0] D [(h, .inr (0, [.ref q, .int n, .int e])), (q, .inl (cA, L, .inl g))] [(cA, .int)] (fun _ => False)) lc_N (lc_X "java/util/NoSuchElementException") 1 6 (fun _ => False) := by
  refine vx_ofW (cc := cX0_line) (maxL := 2) (ret := (some .int)) (by decide) rfl ?_
  intro p e' s m args below meth c s₁ B hml htab hv
  obtain ⟨rfl, hP, hK, hZ⟩ := hv
  have hx := B.exec
  have hb := B.bytes
  have hr := B.returns
  have hts := atoms_spec (ws := wsX0_line) B.pre
  have hown : s.vm.findClass RX0 = some m.cls := findClass_of_methodNamed B.named
  have hlocks := B.notSynchronized
  have hinX0 : ∀ w ∈ u_ws RX0 TX0 3, w ∈ wsX0_line := fun w h => List.mem_cons_of_mem _ (lb_X0 w h)
  have hl := lv_entry ([.ref h, .int p0]) (n := 2) (Nat.le_of_ble_eq_true rfl)
  rw [lg_entry_eq]
  generalize (lg_sl ([.ref h, .int p0]) ++ List.replicate (2 - (lg_sl ([.ref h, .int p0])).length) Slot.unset).toArray = ls at hl ⊢
  have hl : lv_has ls 2 [(0, .ref h), (1, .int p0)] := hl
  have hat : ∀ w ∈ vx_at0 RX0 44 "java/util/NoSuchElementException" ["java/lang/RuntimeException", "java/lang/Exception"], w.before ([.ref h, .int p0] : List Value).toArray s = true := vx_hat (fun w hw => hts w (List.mem_cons_of_mem _ (lb_at_X0_44 w hw))) (B := lc_Nws) (by decide +kernel) (lc_nws hZ.2.2)
  have hthr : W p l e' (headSpec wsX0_line ({ frames := 6, cells := 1, slots := 6, locals := 81 })).room s m ([.ref h, .int p0] : List Value).toArray below meth c s.heap [] 0 0 (vx_MQ below lc_N (lc_X "java/util/NoSuchElementException") ([.ref h, .int p0] : List Value).toArray s 1 6 (fun _ => False)) (F0 m 12 ls []) := vx_throw0 hx hb hst hown (by decide +kernel) (by decide +kernel) (hts _ (List.mem_cons_of_mem _ lb_197)) (hts _ (List.mem_cons_of_mem _ lb_26)) hat (by decide +kernel) hZ.1 hZ.2.1 va_S.rf (hl.1.trans hml.symm) dX0_line_12 dX0_line_15 dX0_line_16 dX0_line_19 (fun x hx => (htab x hx).elim) (Nat.le_of_ble_eq_true rfl) (Nat.le_of_ble_eq_true rfl) (Nat.le_refl _) (Nat.le_refl _) hlocks (fun t _ hz hk => ⟨rfl, hz, fun q h1 _ => hk q h1⟩) (fun _ h => nomatch h) (Nat.le_refl _) (Nat.le_refl _)
  refine lv_iload_n hx hb dX0_line_0 rfl (lv_at hl 1 rfl) ?_
  refine lv_if_lt hx hb dX0_line_1 (tgt := 12) rfl (fun h1 => ?_) (fun h1 => ?_)
  · exact hthr
  · refine lv_iload_n hx hb dX0_line_4 rfl (lv_at hl 1 rfl) ?_
    refine lv_aload_n hx hb dX0_line_5 rfl (lv_at hl 0 rfl) ?_
    refine va_get (D := D) (ci := 0) (v := .int e) (C := RX0) (T := TX0) (N := 3) hx hb hts hinX0 hown hK hP 0 rfl rfl 2 (by decide) (hts _ (List.mem_cons_of_mem _ lb_37)) (fun _ h9 => h9) rfl dX0_line_6 ?_
    refine lv_icmp_le hx hb dX0_line_9 (tgt := 20) rfl (fun hc => absurd hc (fun hc => hbad.elim h1 (fun hb9 => absurd hb9 (Int32.not_lt.mpr hc)))) (fun _ => ?_)
    exact hthr
set_option maxHeartbeats 4000000 in
set_option maxRecDepth 100000 in
theorem k_lineOf_bad (l : Launch) (D : va_G) (h q : Nat) (cA : ClassId)  (hst : l.stackTraces = false) (n e : Int32) (L : Nat) (g : Nat → Int32) (p0 : Int32) (hbad : p0 < 0 ∨ n < p0) : vx_Met l yX0_lineOf wsX0_lineOf ({ frames := 6, cells := 1, slots := 6, locals := 81 }) (lc_Tx [.ref h, .int p0] D [(h, .inr (0, [.ref q, .int n, .int e])), (q, .inl (cA, L, .inl g))] [(cA, .int)] (fun _ => False)) lc_N (lc_X "java/lang/IllegalArgumentException") 1 6 (fun _ => False) := by
  refine vx_ofW (cc := cX0_lineOf) (maxL := 2) (ret := (some .int)) (by decide) rfl ?_
  intro p e' s m args below meth c s₁ B hml htab hv
  obtain ⟨rfl, hP, hK, hZ⟩ := hv
  have hx := B.exec
  have hb := B.bytes
  have hr := B.returns
  have hts := atoms_spec (ws := wsX0_lineOf) B.pre
  have hown : s.vm.findClass RX0 = some m.cls := findClass_of_methodNamed B.named
  have hlocks := B.notSynchronized
  have hinX0 : ∀ w ∈ u_ws RX0 TX0 3, w ∈ wsX0_lineOf := fun w h => List.mem_cons_of_mem _ (lb_X0 w h)
  have hl := lv_entry ([.ref h, .int p0]) (n := 2) (Nat.le_of_ble_eq_true rfl)
  rw [lg_entry_eq]
  generalize (lg_sl ([.ref h, .int p0]) ++ List.replicate (2 - (lg_sl ([.ref h, .int p0])).length) Slot.unset).toArray = ls at hl ⊢
  have hl : lv_has ls 2 [(0, .ref h), (1, .int p0)] := hl
  have hat : ∀ w ∈ vx_at0 RX0 22 "java/lang/IllegalArgumentException" ["java/lang/RuntimeException", "java/lang/Exception"], w.before ([.ref h, .int p0] : List Value).toArray s = true := vx_hat (fun w hw => hts w (List.mem_cons_of_mem _ (lb_at_X0_22 w hw))) (B := lc_Nws) (by decide +kernel) (lc_nws hZ.2.2)
  have hthr : W p l e' (headSpec wsX0_lineOf ({ frames := 6, cells := 1, slots := 6, locals := 81 })).room s m ([.ref h, .int p0] : List Value).toArray below meth c s.heap [] 0 0 (vx_MQ below lc_N (lc_X "java/lang/IllegalArgumentException") ([.ref h, .int p0] : List Value).toArray s 1 6 (fun _ => False)) (F0 m 12 ls []) := vx_throw0 hx hb hst hown (by decide +kernel) (by decide +kernel) (hts _ (List.mem_cons_of_mem _ lb_67)) (hts _ (List.mem_cons_of_mem _ lb_21)) hat (by decide +kernel) hZ.1 hZ.2.1 va_S.rf (hl.1.trans hml.symm) dX0_lineOf_12 dX0_lineOf_15 dX0_lineOf_16 dX0_lineOf_19 (fun x hx => (htab x hx).elim) (Nat.le_of_ble_eq_true rfl) (Nat.le_of_ble_eq_true rfl) (Nat.le_refl _) (Nat.le_refl _) hlocks (fun t _ hz hk => ⟨rfl, hz, fun q h1 _ => hk q h1⟩) (fun _ h => nomatch h) (Nat.le_refl _) (Nat.le_refl _)
  refine lv_iload_n hx hb dX0_lineOf_0 rfl (lv_at hl 1 rfl) ?_
  refine lv_if_lt hx hb dX0_lineOf_1 (tgt := 12) rfl (fun h1 => ?_) (fun h1 => ?_)
  · exact hthr
  · refine lv_iload_n hx hb dX0_lineOf_4 rfl (lv_at hl 1 rfl) ?_
    refine lv_aload_n hx hb dX0_lineOf_5 rfl (lv_at hl 0 rfl) ?_
    refine va_get (D := D) (ci := 0) (v := .int n) (C := RX0) (T := TX0) (N := 3) hx hb hts hinX0 hown hK hP 0 rfl rfl 1 (by decide) (hts _ (List.mem_cons_of_mem _ lb_36)) (fun _ h9 => h9) rfl dX0_lineOf_6 ?_
    refine lv_icmp_le hx hb dX0_lineOf_9 (tgt := 20) rfl (fun hc => absurd hc (fun hc => hbad.elim h1 (fun hb9 => absurd hb9 (Int32.not_lt.mpr hc)))) (fun _ => ?_)
    exact hthr
set_option maxHeartbeats 4000000 in
set_option maxRecDepth 100000 in
theorem k_insert_bad (l : Launch) (D : va_G) (h q : Nat) (cA : ClassId)  (hst : l.stackTraces = false) (n e : Int32) (L : Nat) (g : Nat → Int32) (p0 p1 p2 p3 : Int32) (hbad : p0 < 0 ∨ n < p0 ∨ p3 < 1 ∨ 500 < p3) : vx_Met l yX0_insert wsX0_insert ({ frames := 6, cells := 1, slots := 6, locals := 81 }) (lc_Tx [.ref h, .int p0, .int p1, .int p2, .int p3] D [(h, .inr (0, [.ref q, .int n, .int e])), (q, .inl (cA, L, .inl g))] [(cA, .int)] (fun _ => False)) lc_N (lc_X "java/lang/IllegalArgumentException") 1 6 (fun _ => False) := by
  refine vx_ofW (cc := cX0_insert) (maxL := 5) (ret := (some .int)) (by decide) rfl ?_
  intro p e' s m args below meth c s₁ B hml htab hv
  obtain ⟨rfl, hP, hK, hZ⟩ := hv
  have hx := B.exec
  have hb := B.bytes
  have hr := B.returns
  have hts := atoms_spec (ws := wsX0_insert) B.pre
  have hown : s.vm.findClass RX0 = some m.cls := findClass_of_methodNamed B.named
  have hlocks := B.notSynchronized
  have hinX0 : ∀ w ∈ u_ws RX0 TX0 3, w ∈ wsX0_insert := fun w h => List.mem_cons_of_mem _ (lb_X0 w h)
  have hl := lv_entry ([.ref h, .int p0, .int p1, .int p2, .int p3]) (n := 5) (Nat.le_of_ble_eq_true rfl)
  rw [lg_entry_eq]
  generalize (lg_sl ([.ref h, .int p0, .int p1, .int p2, .int p3]) ++ List.replicate (5 - (lg_sl ([.ref h, .int p0, .int p1, .int p2, .int p3])).length) Slot.unset).toArray = ls at hl ⊢
  have hl : lv_has ls 5 [(0, .ref h), (1, .int p0), (2, .int p1), (3, .int p2), (4, .int p3)] := hl
  have hat : ∀ w ∈ vx_at0 RX0 22 "java/lang/IllegalArgumentException" ["java/lang/RuntimeException", "java/lang/Exception"], w.before ([.ref h, .int p0, .int p1, .int p2, .int p3] : List Value).toArray s = true := vx_hat (fun w hw => hts w (List.mem_cons_of_mem _ (lb_at_X0_22 w hw))) (B := lc_Nws) (by decide +kernel) (lc_nws hZ.2.2)
  have hthr : W p l e' (headSpec wsX0_insert ({ frames := 6, cells := 1, slots := 6, locals := 81 })).room s m ([.ref h, .int p0, .int p1, .int p2, .int p3] : List Value).toArray below meth c s.heap [] 0 0 (vx_MQ below lc_N (lc_X "java/lang/IllegalArgumentException") ([.ref h, .int p0, .int p1, .int p2, .int p3] : List Value).toArray s 1 6 (fun _ => False)) (F0 m 26 ls []) := vx_throw0 hx hb hst hown (by decide +kernel) (by decide +kernel) (hts _ (List.mem_cons_of_mem _ lb_67)) (hts _ (List.mem_cons_of_mem _ lb_21)) hat (by decide +kernel) hZ.1 hZ.2.1 va_S.rf (hl.1.trans hml.symm) dX0_insert_26 dX0_insert_29 dX0_insert_30 dX0_insert_33 (fun x hx => (htab x hx).elim) (Nat.le_of_ble_eq_true rfl) (Nat.le_of_ble_eq_true rfl) (Nat.le_refl _) (Nat.le_refl _) hlocks (fun t _ hz hk => ⟨rfl, hz, fun q h1 _ => hk q h1⟩) (fun _ h => nomatch h) (Nat.le_refl _) (Nat.le_refl _)
  refine lv_iload_n hx hb dX0_insert_0 rfl (lv_at hl 1 rfl) ?_
  refine lv_if_lt hx hb dX0_insert_1 (tgt := 26) rfl (fun h1 => ?_) (fun h1 => ?_)
  · exact hthr
  · refine lv_iload_n hx hb dX0_insert_4 rfl (lv_at hl 1 rfl) ?_
    refine lv_aload_n hx hb dX0_insert_5 rfl (lv_at hl 0 rfl) ?_
    refine va_get (D := D) (ci := 0) (v := .int n) (C := RX0) (T := TX0) (N := 3) hx hb hts hinX0 hown hK hP 0 rfl rfl 1 (by decide) (hts _ (List.mem_cons_of_mem _ lb_36)) (fun _ h9 => h9) rfl dX0_insert_6 ?_
    refine lv_icmp_gt hx hb dX0_insert_9 (tgt := 26) rfl (fun h2 => ?_) (fun h2 => ?_)
    · exact hthr
    · refine lv_iload hx hb dX0_insert_12 (lv_at hl 4 rfl) ?_
      refine lv_iconst (v := 1) hx hb dX0_insert_14 (by decide) ?_
      refine lv_icmp_lt hx hb dX0_insert_15 (tgt := 26) rfl (fun h3 => ?_) (fun h3 => ?_)
      · exact hthr
      · refine lv_iload hx hb dX0_insert_18 (lv_at hl 4 rfl) ?_
        refine lv_sipush (v := 500) hx hb dX0_insert_20 (by decide) ?_
        refine lv_icmp_le hx hb dX0_insert_23 (tgt := 34) rfl (fun hc => absurd hc (fun hc => hbad.elim h1 (fun hb9 => hb9.elim h2 (fun hb8 => hb8.elim h3 (fun hb7 => absurd hb7 (Int32.not_lt.mpr hc)))))) (fun _ => ?_)
        exact hthr
set_option maxHeartbeats 4000000 in
set_option maxRecDepth 100000 in
theorem k_insert_full (l : Launch) (D : va_G) (h q : Nat) (cA : ClassId)  (hst : l.stackTraces = false) (e : Int32) (L c0 : Nat) (g : Nat → Int32) (i0 k0 : Nat) (p1 p2 : Int32) (hc0 : c0 ≤ 20000) (hi0 : i0 ≤ c0) (hk0 : 1 ≤ k0) (hk5 : k0 ≤ 500) (hfull : 20000 < c0 + k0) : vx_Met l yX0_insert wsX0_insert ({ frames := 6, cells := 1, slots := 6, locals := 81 }) (lc_Tx [.ref h, .int (nI i0), .int p1, .int p2, .int (nI k0)] D [(h, .inr (0, [.ref q, .int (nI c0), .int e])), (q, .inl (cA, L, .inl g))] [(cA, .int)] (fun _ => False)) lc_N (lc_X "java/lang/IllegalStateException") 1 6 (fun _ => False) := by
  refine vx_ofW (cc := cX0_insert) (maxL := 5) (ret := (some .int)) (by decide) rfl ?_
  intro p e' s m args below meth c s₁ B hml htab hv
  obtain ⟨rfl, hP, hK, hZ⟩ := hv
  have hx := B.exec
  have hb := B.bytes
  have hr := B.returns
  have hts := atoms_spec (ws := wsX0_insert) B.pre
  have hown : s.vm.findClass RX0 = some m.cls := findClass_of_methodNamed B.named
  have hlocks := B.notSynchronized
  have hinX0 : ∀ w ∈ u_ws RX0 TX0 3, w ∈ wsX0_insert := fun w h => List.mem_cons_of_mem _ (lb_X0 w h)
  have hl := lv_entry ([.ref h, .int (nI i0), .int p1, .int p2, .int (nI k0)]) (n := 5) (Nat.le_of_ble_eq_true rfl)
  rw [lg_entry_eq]
  generalize (lg_sl ([.ref h, .int (nI i0), .int p1, .int p2, .int (nI k0)]) ++ List.replicate (5 - (lg_sl ([.ref h, .int (nI i0), .int p1, .int p2, .int (nI k0)])).length) Slot.unset).toArray = ls at hl ⊢
  have hl : lv_has ls 5 [(0, .ref h), (1, .int (nI i0)), (2, .int p1), (3, .int p2), (4, .int (nI k0))] := hl
  have hat : ∀ w ∈ vx_at0 RX0 25 "java/lang/IllegalStateException" ["java/lang/RuntimeException", "java/lang/Exception"], w.before ([.ref h, .int (nI i0), .int p1, .int p2, .int (nI k0)] : List Value).toArray s = true := vx_hat (fun w hw => hts w (List.mem_cons_of_mem _ (lb_at_X0_25 w hw))) (B := lc_Nws) (by decide +kernel) (lc_nws hZ.2.2)
  have hthr : W p l e' (headSpec wsX0_insert ({ frames := 6, cells := 1, slots := 6, locals := 81 })).room s m ([.ref h, .int (nI i0), .int p1, .int p2, .int (nI k0)] : List Value).toArray below meth c s.heap [] 0 0 (vx_MQ below lc_N (lc_X "java/lang/IllegalStateException") ([.ref h, .int (nI i0), .int p1, .int p2, .int (nI k0)] : List Value).toArray s 1 6 (fun _ => False)) (F0 m 47 ls []) := vx_throw0 hx hb hst hown (by decide +kernel) (by decide +kernel) (hts _ (List.mem_cons_of_mem _ lb_130)) (hts _ (List.mem_cons_of_mem _ lb_22)) hat (by decide +kernel) hZ.1 hZ.2.1 va_S.rf (hl.1.trans hml.symm) dX0_insert_47 dX0_insert_50 dX0_insert_51 dX0_insert_54 (fun x hx => (htab x hx).elim) (Nat.le_of_ble_eq_true rfl) (Nat.le_of_ble_eq_true rfl) (Nat.le_refl _) (Nat.le_refl _) hlocks (fun t _ hz hk => ⟨rfl, hz, fun q h1 _ => hk q h1⟩) (fun _ h => nomatch h) (Nat.le_refl _) (Nat.le_refl _)
  refine lv_iload_n hx hb dX0_insert_0 rfl (lv_at hl 1 rfl) ?_
  refine lv_if_lt hx hb dX0_insert_1 (tgt := 26) rfl (fun hc => absurd hc (nI_pos (by omega))) (fun _ => ?_)
  refine lv_iload_n hx hb dX0_insert_4 rfl (lv_at hl 1 rfl) ?_
  refine lv_aload_n hx hb dX0_insert_5 rfl (lv_at hl 0 rfl) ?_
  refine va_get (D := D) (ci := 0) (v := .int (nI c0)) (C := RX0) (T := TX0) (N := 3) hx hb hts hinX0 hown hK hP 0 rfl rfl 1 (by decide) (hts _ (List.mem_cons_of_mem _ lb_36)) (fun _ h9 => h9) rfl dX0_insert_6 ?_
  refine lv_icmp_gt hx hb dX0_insert_9 (tgt := 26) rfl (fun hc => absurd hc (nI_nlt hi0 (by omega))) (fun _ => ?_)
  refine lv_iload hx hb dX0_insert_12 (lv_at hl 4 rfl) ?_
  refine lv_iconst (v := 1) hx hb dX0_insert_14 (by decide) ?_
  refine lv_icmp_lt hx hb dX0_insert_15 (tgt := 26) rfl (fun hc => absurd hc (nI_nlt (b := 1) hk0 (by omega))) (fun _ => ?_)
  refine lv_iload hx hb dX0_insert_18 (lv_at hl 4 rfl) ?_
  refine lv_sipush (v := 500) hx hb dX0_insert_20 (by decide) ?_
  refine lv_icmp_le hx hb dX0_insert_23 (tgt := 34) rfl (fun _ => ?_) (fun hc => absurd (nI_le (b := 500) hk5 (by omega)) hc)
  refine lv_iload hx hb dX0_insert_34 (lv_at hl 4 rfl) ?_
  refine lv_sipush (v := 20000) hx hb dX0_insert_36 (by decide) ?_
  refine lv_aload_n hx hb dX0_insert_39 rfl (lv_at hl 0 rfl) ?_
  refine va_get (D := D) (ci := 0) (v := .int (nI c0)) (C := RX0) (T := TX0) (N := 3) hx hb hts hinX0 hown hK hP 0 rfl rfl 1 (by decide) (hts _ (List.mem_cons_of_mem _ lb_36)) (fun _ h9 => h9) rfl dX0_insert_40 ?_
  refine lv_isub hx hb dX0_insert_43 ?_
  refine lc_top (y := nI (20000 - c0)) (pk_sub (a := 20000) hc0) ?_
  refine lv_icmp_le hx hb dX0_insert_44 (tgt := 55) rfl (fun hc => absurd hc (nI_ge (show 20000 - c0 < k0 by omega) (by omega))) (fun _ => ?_)
  exact hthr
set_option maxHeartbeats 4000000 in
set_option maxRecDepth 100000 in
theorem k_delete_bad (l : Launch) (D : va_G) (h q : Nat) (cA : ClassId)  (hst : l.stackTraces = false) (n e : Int32) (L : Nat) (g : Nat → Int32) (p0 p1 : Int32) (hbad : p0 < 0 ∨ p1 < 1 ∨ n - p1 < p0) : vx_Met l yX0_delete wsX0_delete ({ frames := 6, cells := 1, slots := 6, locals := 81 }) (lc_Tx [.ref h, .int p0, .int p1] D [(h, .inr (0, [.ref q, .int n, .int e])), (q, .inl (cA, L, .inl g))] [(cA, .int)] (fun _ => False)) lc_N (lc_X "java/lang/IllegalArgumentException") 1 6 (fun _ => False) := by
  refine vx_ofW (cc := cX0_delete) (maxL := 3) (ret := (some .int)) (by decide) rfl ?_
  intro p e' s m args below meth c s₁ B hml htab hv
  obtain ⟨rfl, hP, hK, hZ⟩ := hv
  have hx := B.exec
  have hb := B.bytes
  have hr := B.returns
  have hts := atoms_spec (ws := wsX0_delete) B.pre
  have hown : s.vm.findClass RX0 = some m.cls := findClass_of_methodNamed B.named
  have hlocks := B.notSynchronized
  have hinX0 : ∀ w ∈ u_ws RX0 TX0 3, w ∈ wsX0_delete := fun w h => List.mem_cons_of_mem _ (lb_X0 w h)
  have hl := lv_entry ([.ref h, .int p0, .int p1]) (n := 3) (Nat.le_of_ble_eq_true rfl)
  rw [lg_entry_eq]
  generalize (lg_sl ([.ref h, .int p0, .int p1]) ++ List.replicate (3 - (lg_sl ([.ref h, .int p0, .int p1])).length) Slot.unset).toArray = ls at hl ⊢
  have hl : lv_has ls 3 [(0, .ref h), (1, .int p0), (2, .int p1)] := hl
  have hat : ∀ w ∈ vx_at0 RX0 22 "java/lang/IllegalArgumentException" ["java/lang/RuntimeException", "java/lang/Exception"], w.before ([.ref h, .int p0, .int p1] : List Value).toArray s = true := vx_hat (fun w hw => hts w (List.mem_cons_of_mem _ (lb_at_X0_22 w hw))) (B := lc_Nws) (by decide +kernel) (lc_nws hZ.2.2)
  have hthr : W p l e' (headSpec wsX0_delete ({ frames := 6, cells := 1, slots := 6, locals := 81 })).room s m ([.ref h, .int p0, .int p1] : List Value).toArray below meth c s.heap [] 0 0 (vx_MQ below lc_N (lc_X "java/lang/IllegalArgumentException") ([.ref h, .int p0, .int p1] : List Value).toArray s 1 6 (fun _ => False)) (F0 m 19 ls []) := vx_throw0 hx hb hst hown (by decide +kernel) (by decide +kernel) (hts _ (List.mem_cons_of_mem _ lb_67)) (hts _ (List.mem_cons_of_mem _ lb_21)) hat (by decide +kernel) hZ.1 hZ.2.1 va_S.rf (hl.1.trans hml.symm) dX0_delete_19 dX0_delete_22 dX0_delete_23 dX0_delete_26 (fun x hx => (htab x hx).elim) (Nat.le_of_ble_eq_true rfl) (Nat.le_of_ble_eq_true rfl) (Nat.le_refl _) (Nat.le_refl _) hlocks (fun t _ hz hk => ⟨rfl, hz, fun q h1 _ => hk q h1⟩) (fun _ h => nomatch h) (Nat.le_refl _) (Nat.le_refl _)
  refine lv_iload_n hx hb dX0_delete_0 rfl (lv_at hl 1 rfl) ?_
  refine lv_if_lt hx hb dX0_delete_1 (tgt := 19) rfl (fun h1 => ?_) (fun h1 => ?_)
  · exact hthr
  · refine lv_iload_n hx hb dX0_delete_4 rfl (lv_at hl 2 rfl) ?_
    refine lv_iconst (v := 1) hx hb dX0_delete_5 (by decide) ?_
    refine lv_icmp_lt hx hb dX0_delete_6 (tgt := 19) rfl (fun h2 => ?_) (fun h2 => ?_)
    · exact hthr
    · refine lv_iload_n hx hb dX0_delete_9 rfl (lv_at hl 1 rfl) ?_
      refine lv_aload_n hx hb dX0_delete_10 rfl (lv_at hl 0 rfl) ?_
      refine va_get (D := D) (ci := 0) (v := .int n) (C := RX0) (T := TX0) (N := 3) hx hb hts hinX0 hown hK hP 0 rfl rfl 1 (by decide) (hts _ (List.mem_cons_of_mem _ lb_36)) (fun _ h9 => h9) rfl dX0_delete_11 ?_
      refine lv_iload_n hx hb dX0_delete_14 rfl (lv_at hl 2 rfl) ?_
      refine lv_isub hx hb dX0_delete_15 ?_
      refine lv_icmp_le hx hb dX0_delete_16 (tgt := 27) rfl (fun hc => absurd hc (fun hc => hbad.elim h1 (fun hb9 => hb9.elim h2 (fun hb8 => absurd hb8 (Int32.not_lt.mpr hc))))) (fun _ => ?_)
      exact hthr
set_option maxHeartbeats 4000000 in
set_option maxRecDepth 100000 in
theorem k_copyOf (l : Launch) (D : va_G) (q : Nat) (cA : ClassId) (sz L N : Nat) (g : Nat → Int32) (hLN : L < N) (hN : N ≤ 20000) : Met l yJ_copyOf wsJ_copyOf ({ frames := 1, cells := 1, slots := N, locals := 24 }) (lc_Wr [.ref q, .int (nI N)] D [(q, .inl (cA, L, .inl g))] [(cA, .int)] sz) (lc_QW (S := (Nat × ClassId)) D (va_A [(q, .inl (cA, L, .inl g))] sz) (fun u => some (.ref u.1)) (fun u => [(q, .inl (cA, L, .inl g)), (u.1, .inl (u.2, N, .inl (va_cpy g (fun _ => 0) 0 0 L)))]) (fun u => [(cA, .int), (u.2, .int)]) (fun _ => True)) 1 N (va_A [(q, .inl (cA, L, .inl g))] sz) := by
  refine Met.ofW (cc := cJ_copyOf) (maxL := 3) (ret := (some (.array .int))) (by decide) rfl ?_
  intro p e' s m args below meth c s₁ B hml hv
  obtain ⟨rfl, hsz, hP, hK, hD0⟩ := hv
  have hx := B.exec
  have hb := B.bytes
  have hr := B.returns
  have hts := atoms_spec (ws := wsJ_copyOf) B.pre
  have hown : s.vm.findClass RJ = some m.cls := findClass_of_methodNamed B.named
  have hlocks := B.notSynchronized
  subst hsz
  have hD := hD0.self (sz := s.heap.size)
  generalize hAe : va_A [(q, .inl (cA, L, .inl g))] s.heap.size = A at hD ⊢
  have hA : ∀ q : Nat, s.heap.size ≤ q → A q := fun q h => by rw [← hAe]; exact Or.inr h
  have hS : va_S A s.heap s.heap [] := va_S.rf
  have hP : va_P D vwCl [(q, .inl (cA, L, .inl g))] s.heap := hP
  have hl := lv_entry ([.ref q, .int (nI N)]) (n := 3) (Nat.le_of_ble_eq_true rfl)
  rw [lg_entry_eq]
  generalize (lg_sl ([.ref q, .int (nI N)]) ++ List.replicate (3 - (lg_sl ([.ref q, .int (nI N)])).length) Slot.unset).toArray = ls at hl ⊢
  have hl : lv_has ls 3 [(0, .ref q), (1, .int (nI N))] := hl
  refine lv_iload_n hx hb dJ_copyOf_0 rfl (lv_at hl 1 rfl) ?_
  refine lv_aload_n hx hb dJ_copyOf_1 rfl (lv_at hl 0 rfl) ?_
  refine va_alen (D := D) (v := nI L) hx hb hK hP 0 0 rfl rfl rfl dJ_copyOf_2 ?_
  refine lv_icmp_ne hx hb dJ_copyOf_3 (tgt := 14) rfl (fun _ => ?_) (fun hc => absurd hc (fun hc => absurd ((nI_eq (by omega) (by omega)).mp hc) (by omega)))
  refine lv_iload_n hx hb dJ_copyOf_14 rfl (lv_at hl 1 rfl) ?_
  refine va_newa (D := D) (a0 := (N, .inl (fun _ => 0))) (N' := N) hx hb (atype := .int) (hts _ (List.mem_cons_of_mem _ lb_45)) rfl hK hP hD hS hA (fun _ => rfl) (nI_pos (by omega)) (nI_clamp (by omega)) (by show N * 4 ≤ 536870912; omega) (Nat.le_refl _) (by show 0 + N ≤ N; omega) dJ_copyOf_15 (fun q1 cA1 H hK hP hD hS => ?_)
  have hP : va_P D vwCl [(q, .inl (cA, L, .inl g)), (q1, .inl (cA1, N, .inl (fun _ => 0)))] H := hP
  have hD : va_D A [(q, .inl (cA, L, .inl g)), (q1, .inl (cA1, N, .inl (fun _ => 0)))] := hD
  have hK : va_K D vwCl [(cA, .int), (cA1, .int)] s := hK
  refine lv_astore_n hx hb dJ_copyOf_17 rfl hl (by decide) rfl (fun ls hl => ?_)
  have hl : lv_has ls 3 [(2, .ref q1), (0, .ref q), (1, .int (nI N))] := hl
  refine lv_aload_n hx hb dJ_copyOf_18 rfl (lv_at hl 1 rfl) ?_
  refine lv_iconst (v := 0) hx hb dJ_copyOf_19 (by decide) ?_
  refine lv_aload_n hx hb dJ_copyOf_20 rfl (lv_at hl 0 rfl) ?_
  refine lv_iconst (v := 0) hx hb dJ_copyOf_21 (by decide) ?_
  refine lv_aload_n hx hb dJ_copyOf_22 rfl (lv_at hl 1 rfl) ?_
  refine va_alen (D := D) (v := nI L) hx hb hK hP 0 0 rfl rfl rfl dJ_copyOf_23 ?_
  refine lv_iload_n hx hb dJ_copyOf_24 rfl (lv_at hl 2 rfl) ?_
  refine va_mmin hx hb (hml.trans hl.1.symm) hown (hts _ (List.mem_cons_of_mem _ lb_165)) (hts _ (List.mem_cons_of_mem _ lb_150)) (hts _ (List.mem_cons_of_mem _ lb_23)) (hts _ (List.mem_cons_of_mem _ lb_151)) (Nat.le_of_ble_eq_true rfl) (Nat.le_of_ble_eq_true rfl) (Nat.le_refl _) (by show 0 + N ≤ N; omega) dJ_copyOf_25 ?_
  refine lc_top (y := nI L) ((lc_min (by omega) (by omega)).trans (congrArg nI (by omega))) ?_
  have eL : (nI L).toNatClampNeg = L := nI_clamp (by omega)
  have e0 : (0 : Int32).toNatClampNeg = 0 := sb_cl0
  refine va_copyi (D := D) (ty := .int) hx hb (hml.trans hl.1.symm) hown (hts _ (List.mem_cons_of_mem _ lb_166)) (hts _ (List.mem_cons_of_mem _ lb_168)) (hts _ (List.mem_cons_of_mem _ lb_167)) (hts _ (List.mem_cons_of_mem _ lb_25)) hK hP hD hS 0 1 0 1 rfl rfl rfl rfl rfl (by decide) (by decide) (nI_pos (by omega)) (by rw [e0, eL]; omega) (by rw [e0, eL]; omega) (fun _ _ => rfl) (Nat.le_of_ble_eq_true rfl) (Nat.le_of_ble_eq_true rfl) dJ_copyOf_28 (fun H locs hP hD hS => ?_)
  rw [e0, eL] at hP hD
  have hP : va_P D vwCl [(q, .inl (cA, L, .inl g)), (q1, .inl (cA1, N, .inl (va_cpy g (fun _ => 0) 0 0 L)))] H := hP
  have hD : va_D A [(q, .inl (cA, L, .inl g)), (q1, .inl (cA1, N, .inl (va_cpy g (fun _ => 0) 0 0 L)))] := hD
  refine lv_aload_n hx hb dJ_copyOf_31 rfl (lv_at hl 0 rfl) ?_
  refine W.widen (k := 1) (n := N) (Nat.le_refl _) (by omega) ?_
  exact W.aret (v := .ref q1) hx hb hr (Or.inr ⟨_, rfl⟩) (Or.inr ⟨_, rfl⟩) (fun t ht hW => ⟨(q1, cA1), rfl, trivial, by rw [ht]; exact hP, va_K.moved hW.alike hK, hD, hS.F ht⟩) hS.2.2 dJ_copyOf_32
set_option maxHeartbeats 4000000 in
set_option maxRecDepth 100000 in
theorem k_makeRoom (l : Launch) (D : va_G) (h q : Nat) (cA : ClassId) (sz : Nat) (n e : Int32) (L md : Nat) (g : Nat → Int32) (hL5 : 512 ≤ L) (hL : L ≤ 20000) (hmd : md ≤ 20000) (hmd5 : md ≤ L + 500) : Met l yX0_makeRoomFor wsX0_makeRoomFor ({ frames := 2, cells := 1, slots := lc_gr L md, locals := 60 }) (lc_Wr [.ref h, .int (nI md)] D [(h, .inr (0, [.ref q, .int n, .int e])), (q, .inl (cA, L, .inl g))] [(cA, .int)] sz) (lc_QW (S := (Nat × ClassId × (Nat → Int32))) D (va_A [(h, .inr (0, [.ref q, .int n, .int e])), (q, .inl (cA, L, .inl g))] sz) (fun u => none) (fun u => [(h, .inr (0, [.ref u.1, .int n, .int e])), (u.1, .inl (u.2.1, lc_L L md, .inl u.2.2))]) (fun u => [(u.2.1, .int)]) (fun u => ∀ j, j < L → u.2.2 j = g j)) 1 (lc_gr L md) (va_A [(h, .inr (0, [.ref q, .int n, .int e])), (q, .inl (cA, L, .inl g))] sz) := by
  refine Met.ofW (cc := cX0_makeRoomFor) (maxL := 3) (ret := none) (by decide) rfl ?_
  intro p e' s m args below meth c s₁ B hml hv
  obtain ⟨rfl, hsz, hP, hK, hD0⟩ := hv
  have hx := B.exec
  have hb := B.bytes
  have hr := B.returns
  have hts := atoms_spec (ws := wsX0_makeRoomFor) B.pre
  have hown : s.vm.findClass RX0 = some m.cls := findClass_of_methodNamed B.named
  have hlocks := B.notSynchronized
  have hinX0 : ∀ w ∈ u_ws RX0 TX0 3, w ∈ wsX0_makeRoomFor := fun w h => List.mem_cons_of_mem _ (lb_X0 w h)
  subst hsz
  have hD := hD0.self (sz := s.heap.size)
  generalize hAe : va_A [(h, .inr (0, [.ref q, .int n, .int e])), (q, .inl (cA, L, .inl g))] s.heap.size = A at hD ⊢
  have hA : ∀ q : Nat, s.heap.size ≤ q → A q := fun q h => by rw [← hAe]; exact Or.inr h
  have hS : va_S A s.heap s.heap [] := va_S.rf
  have hP : va_P D vwCl [(h, .inr (0, [.ref q, .int n, .int e])), (q, .inl (cA, L, .inl g))] s.heap := hP
  skip
  have hl := lv_entry ([.ref h, .int (nI md)]) (n := 3) (Nat.le_of_ble_eq_true rfl)
  rw [lg_entry_eq]
  generalize (lg_sl ([.ref h, .int (nI md)]) ++ List.replicate (3 - (lg_sl ([.ref h, .int (nI md)])).length) Slot.unset).toArray = ls at hl ⊢
  have hl : lv_has ls 3 [(0, .ref h), (1, .int (nI md))] := hl
  rcases Nat.lt_or_ge L md with hgr | hno
  · refine lv_iload_n hx hb dX0_makeRoomFor_0 rfl (lv_at hl 1 rfl) ?_
    refine lv_aload_n hx hb dX0_makeRoomFor_1 rfl (lv_at hl 0 rfl) ?_
    refine va_get (D := D) (ci := 0) (v := .ref q) (C := RX0) (T := TX0) (N := 3) hx hb hts hinX0 hown hK hP 0 rfl rfl 0 (by decide) (hts _ (List.mem_cons_of_mem _ lb_35)) (fun _ h9 => h9) rfl dX0_makeRoomFor_2 ?_
    refine va_alen (D := D) (v := nI L) hx hb hK hP 1 0 rfl rfl rfl dX0_makeRoomFor_5 ?_
    refine lv_icmp_gt hx hb dX0_makeRoomFor_6 (tgt := 10) rfl (fun _ => ?_) (fun hc => absurd (nI_lt hgr (by omega)) hc)
    have eL : lc_L L md = min (2 * L) 20000 := if_neg (by omega)
    have eg : lc_gr L md = min (2 * L) 20000 := if_neg (by omega)
    refine lv_iconst (v := 2) hx hb dX0_makeRoomFor_10 (by decide) ?_
    refine lv_aload_n hx hb dX0_makeRoomFor_11 rfl (lv_at hl 0 rfl) ?_
    refine va_get (D := D) (ci := 0) (v := .ref q) (C := RX0) (T := TX0) (N := 3) hx hb hts hinX0 hown hK hP 0 rfl rfl 0 (by decide) (hts _ (List.mem_cons_of_mem _ lb_35)) (fun _ h9 => h9) rfl dX0_makeRoomFor_12 ?_
    refine va_alen (D := D) (v := nI L) hx hb hK hP 1 0 rfl rfl rfl dX0_makeRoomFor_15 ?_
    refine lv_imul hx hb dX0_makeRoomFor_16 ?_
    refine lc_top (y := nI (2 * L)) (pk_mul 2 L) ?_
    refine lv_sipush (v := 20000) hx hb dX0_makeRoomFor_17 (by decide) ?_
    refine va_mmin hx hb (hml.trans hl.1.symm) hown (hts _ (List.mem_cons_of_mem _ lb_149)) (hts _ (List.mem_cons_of_mem _ lb_150)) (hts _ (List.mem_cons_of_mem _ lb_23)) (hts _ (List.mem_cons_of_mem _ lb_151)) (Nat.le_of_ble_eq_true rfl) (Nat.le_of_ble_eq_true rfl) (Nat.zero_le _) (Nat.zero_le _) dX0_makeRoomFor_20 ?_
    refine lc_top (y := nI (min (2 * L) 20000)) (lc_min (b := 20000) (by omega) (by omega)) ?_
    refine lv_istore_n hx hb dX0_makeRoomFor_23 rfl hl (by decide) rfl (fun ls hl => ?_)
    have hl : lv_has ls 3 [(2, .int (nI (min (2 * L) 20000))), (0, .ref h), (1, .int (nI md))] := hl
    refine lv_aload_n hx hb dX0_makeRoomFor_24 rfl (lv_at hl 1 rfl) ?_
    refine lv_aload_n hx hb dX0_makeRoomFor_25 rfl (lv_at hl 1 rfl) ?_
    refine va_get (D := D) (ci := 0) (v := .ref q) (C := RX0) (T := TX0) (N := 3) hx hb hts hinX0 hown hK hP 0 rfl rfl 0 (by decide) (hts _ (List.mem_cons_of_mem _ lb_35)) (fun _ h9 => h9) rfl dX0_makeRoomFor_26 ?_
    refine lv_iload_n hx hb dX0_makeRoomFor_29 rfl (lv_at hl 2 rfl) ?_
    refine lv_iload_n hx hb dX0_makeRoomFor_30 rfl (lv_at hl 0 rfl) ?_
    refine va_mmax hx hb (hml.trans hl.1.symm) hown (hts _ (List.mem_cons_of_mem _ lb_152)) (hts _ (List.mem_cons_of_mem _ lb_153)) (hts _ (List.mem_cons_of_mem _ lb_23)) (hts _ (List.mem_cons_of_mem _ lb_154)) (Nat.le_of_ble_eq_true rfl) (Nat.le_of_ble_eq_true rfl) (Nat.zero_le _) (Nat.zero_le _) dX0_makeRoomFor_31 ?_
    refine lc_top (y := nI (min (2 * L) 20000)) (lc_max (by omega) (by omega)) ?_
    have hF := va_free (wc := [(q, .inl (cA, L, .inl g))]) hD hS hA [1] rfl
    have hPc := hP.sub (ws' := [(q, .inl (cA, L, .inl g))]) [1] rfl
    have hDc := hD.sub (ws' := [(q, .inl (cA, L, .inl g))]) [1] (by decide) rfl
    refine lc_callW (va_runS (As := [.ref q, .int (nI (min (2 * L) 20000))]) (rest := [.ref h]) ⟨hx, hb, hml, hown, hts⟩ (k_copyOf l D q cA s.heap.size L (min (2 * L) 20000) g (by omega) (by omega)) (va_cwS 2 hts gX0_makeRoomFor_J_copyOf rfl rfl rfl (by decide +kernel) ⟨Nat.le_of_ble_eq_true rfl, Nat.le_of_ble_eq_true rfl⟩) (lc_WrS hPc hK hDc) rfl rfl hl.1 rfl (lv_room (Nat.le_of_ble_eq_true rfl)) dX0_makeRoomFor_34 ⟨Nat.le_refl _, by show 0 + min (2 * L) 20000 ≤ lc_gr L md; omega⟩) hS (fun q h => hF q h) (fun u H locs hp hP1 hK1 hD1 hz hk hS => ?_)
    obtain ⟨q1, cA1⟩ := u
    dsimp only at hp hP1 hK1 hD1
    obtain ⟨hP, hD⟩ := va_join (wr := [(h, .inr (0, [.ref q, .int n, .int e]))]) (w1 := [(q, .inl (cA, L, .inl g)), (q1, .inl (cA1, min (2 * L) 20000, .inl (va_cpy g (fun _ => 0) 0 0 L)))]) hP hD [1] [0] rfl rfl (by decide) (by decide) hk hF hP1 hD1
    have hK := (hK.sub (tys' := []) [] rfl).app hK1
    have hK : va_K D vwCl [(cA, .int), (cA1, .int)] s := hK
    have hP : va_P D vwCl [(h, .inr (0, [.ref q, .int n, .int e])), (q, .inl (cA, L, .inl g)), (q1, .inl (cA1, min (2 * L) 20000, .inl (va_cpy g (fun _ => 0) 0 0 L)))] H := hP
    have hD : va_D A [(h, .inr (0, [.ref q, .int n, .int e])), (q, .inl (cA, L, .inl g)), (q1, .inl (cA1, min (2 * L) 20000, .inl (va_cpy g (fun _ => 0) 0 0 L)))] := hD
    refine W.eq (g2 := F0 m 37 ls [.ref q1, .ref h]) rfl ?_
    refine va_put (D := D) (ci := 0) (v := .ref q1) (ty := .array .int) (C := RX0) (T := TX0) (N := 3) hx hb hts hinX0 tyX0 tyX0_ok nmX0 hown hK hP hD hS 0 rfl rfl 0 (by decide) (hts _ (List.mem_cons_of_mem _ lb_35)) (fun _ h9 => h9) rfl (by decide +kernel) rfl rfl (Nat.le_of_ble_eq_true rfl) dX0_makeRoomFor_37 (fun H locs hP hD hS => ?_)
    have hP : va_P D vwCl [(h, .inr (0, [.ref q1, .int n, .int e])), (q, .inl (cA, L, .inl g)), (q1, .inl (cA1, min (2 * L) 20000, .inl (va_cpy g (fun _ => 0) 0 0 L)))] H := hP
    have hD : va_D A [(h, .inr (0, [.ref q1, .int n, .int e])), (q, .inl (cA, L, .inl g)), (q1, .inl (cA1, min (2 * L) 20000, .inl (va_cpy g (fun _ => 0) 0 0 L)))] := hD
    rw [← eL] at hP hD
    have hP := hP.sub (ws' := [(h, .inr (0, [.ref q1, .int n, .int e])), (q1, .inl (cA1, lc_L L md, .inl (va_cpy g (fun _ => 0) 0 0 L)))]) [0, 2] rfl
    have hD := hD.sub (ws' := [(h, .inr (0, [.ref q1, .int n, .int e])), (q1, .inl (cA1, lc_L L md, .inl (va_cpy g (fun _ => 0) 0 0 L)))]) [0, 2] (by decide) rfl
    have hK := hK.sub (tys' := [(cA1, .int)]) [1] rfl
    refine W.widen (k := 1) (n := lc_gr L md) (Nat.le_refl _) (by omega) ?_
    exact W.vret hx hb hr (fun t ht hW => ⟨(q1, cA1, va_cpy g (fun _ => 0) 0 0 L), rfl, (fun j hj => by show va_cpy g (fun _ => 0) 0 0 L j = g j; rw [pk_cpy_in (by omega) (by omega)]; congr 1; omega), by rw [ht]; exact hP, va_K.moved hW.alike hK, hD, hS.F ht⟩) hS.2.2 dX0_makeRoomFor_40
  · refine lv_iload_n hx hb dX0_makeRoomFor_0 rfl (lv_at hl 1 rfl) ?_
    refine lv_aload_n hx hb dX0_makeRoomFor_1 rfl (lv_at hl 0 rfl) ?_
    refine va_get (D := D) (ci := 0) (v := .ref q) (C := RX0) (T := TX0) (N := 3) hx hb hts hinX0 hown hK hP 0 rfl rfl 0 (by decide) (hts _ (List.mem_cons_of_mem _ lb_35)) (fun _ h9 => h9) rfl dX0_makeRoomFor_2 ?_
    refine va_alen (D := D) (v := nI L) hx hb hK hP 1 0 rfl rfl rfl dX0_makeRoomFor_5 ?_
    refine lv_icmp_gt hx hb dX0_makeRoomFor_6 (tgt := 10) rfl (fun hc => absurd hc (nI_nlt hno (by omega))) (fun _ => ?_)
    have eL : lc_L L md = L := if_pos hno
    have hP : va_P D vwCl [(h, .inr (0, [.ref q, .int n, .int e])), (q, .inl (cA, lc_L L md, .inl g))] s.heap := by rw [eL]; exact hP
    have hD : va_D A [(h, .inr (0, [.ref q, .int n, .int e])), (q, .inl (cA, lc_L L md, .inl g))] := by rw [eL]; exact hD
    refine W.widen (k := 1) (n := lc_gr L md) (Nat.zero_le _) (Nat.zero_le _) ?_
    exact W.vret hx hb hr (fun t ht hW => ⟨(q, cA, g), rfl, (fun _ _ => rfl), by rw [ht]; exact hP, va_K.moved hW.alike hK, hD, hS.F ht⟩) hS.2.2 dX0_makeRoomFor_9
set_option maxHeartbeats 4000000 in
set_option maxRecDepth 100000 in
theorem k_insert (l : Launch) (D : va_G) (h q : Nat) (cA : ClassId) (sz : Nat) (L c0 : Nat) (g : Nat → Int32) (hL5 : 512 ≤ L) (hL : L ≤ 20000) (hc0 : c0 ≤ L) (i0 k0 : Nat) (v0 s0 : Int32) (hi0 : i0 ≤ c0) (hk0 : 1 ≤ k0) (hk5 : k0 ≤ 500) (hfit : c0 + k0 ≤ 20000) : Met l yX0_insert wsX0_insert ({ frames := 6, cells := 1, slots := lc_gr L (c0 + k0), locals := 90 }) (lc_Wr [.ref h, .int (nI i0), .int v0, .int s0, .int (nI k0)] D [(h, .inr (0, [.ref q, .int (nI c0), .int (nI (lc_cnt g c0))])), (q, .inl (cA, L, .inl g))] [(cA, .int)] sz) (lc_QW (S := (Nat × ClassId × (Nat → Int32))) D (va_A [(h, .inr (0, [.ref q, .int (nI c0), .int (nI (lc_cnt g c0))])), (q, .inl (cA, L, .inl g))] sz) (fun u => some (.int (nI (c0 + k0)))) (fun u => [(h, .inr (0, [.ref u.1, .int (nI (c0 + k0)), .int (nI (lc_cnt u.2.2 (c0 + k0)))])), (u.1, .inl (u.2.1, lc_L L (c0 + k0), .inl u.2.2))]) (fun u => [(u.2.1, .int)]) (fun u => ∀ j, j < c0 + k0 → u.2.2 j = lc_ins g i0 v0 s0 k0 j)) 1 (lc_gr L (c0 + k0)) (va_A [(h, .inr (0, [.ref q, .int (nI c0), .int (nI (lc_cnt g c0))])), (q, .inl (cA, L, .inl g))] sz) := by
  refine Met.ofW (cc := cX0_insert) (maxL := 5) (ret := (some .int)) (by decide) rfl ?_
  intro p e' s m args below meth c s₁ B hml hv
  obtain ⟨rfl, hsz, hP, hK, hD0⟩ := hv
  have hx := B.exec
  have hb := B.bytes
  have hr := B.returns
  have hts := atoms_spec (ws := wsX0_insert) B.pre
  have hown : s.vm.findClass RX0 = some m.cls := findClass_of_methodNamed B.named
  have hlocks := B.notSynchronized
  have hinX0 : ∀ w ∈ u_ws RX0 TX0 3, w ∈ wsX0_insert := fun w h => List.mem_cons_of_mem _ (lb_X0 w h)
  subst hsz
  have hD := hD0.self (sz := s.heap.size)
  generalize hAe : va_A [(h, .inr (0, [.ref q, .int (nI c0), .int (nI (lc_cnt g c0))])), (q, .inl (cA, L, .inl g))] s.heap.size = A at hD ⊢
  have hA : ∀ q : Nat, s.heap.size ≤ q → A q := fun q h => by rw [← hAe]; exact Or.inr h
  have hS : va_S A s.heap s.heap [] := va_S.rf
  have hP : va_P D vwCl [(h, .inr (0, [.ref q, .int (nI c0), .int (nI (lc_cnt g c0))])), (q, .inl (cA, L, .inl g))] s.heap := hP
  skip
  have hl := lv_entry ([.ref h, .int (nI i0), .int v0, .int s0, .int (nI k0)]) (n := 5) (Nat.le_of_ble_eq_true rfl)
  rw [lg_entry_eq]
  generalize (lg_sl ([.ref h, .int (nI i0), .int v0, .int s0, .int (nI k0)]) ++ List.replicate (5 - (lg_sl ([.ref h, .int (nI i0), .int v0, .int s0, .int (nI k0)])).length) Slot.unset).toArray = ls at hl ⊢
  have hl : lv_has ls 5 [(0, .ref h), (1, .int (nI i0)), (2, .int v0), (3, .int s0), (4, .int (nI k0))] := hl
  obtain ⟨hm1, hm2, hm3⟩ := lc_L_in hL5 hL hfit (show c0 + k0 ≤ L + 500 by omega)
  have hle := lc_cnt_le g c0
  refine lv_iload_n hx hb dX0_insert_0 rfl (lv_at hl 1 rfl) ?_
  refine lv_if_lt hx hb dX0_insert_1 (tgt := 26) rfl (fun hc => absurd hc (nI_pos (by omega))) (fun _ => ?_)
  refine lv_iload_n hx hb dX0_insert_4 rfl (lv_at hl 1 rfl) ?_
  refine lv_aload_n hx hb dX0_insert_5 rfl (lv_at hl 0 rfl) ?_
  refine va_get (D := D) (ci := 0) (v := .int (nI c0)) (C := RX0) (T := TX0) (N := 3) hx hb hts hinX0 hown hK hP 0 rfl rfl 1 (by decide) (hts _ (List.mem_cons_of_mem _ lb_36)) (fun _ h9 => h9) rfl dX0_insert_6 ?_
  refine lv_icmp_gt hx hb dX0_insert_9 (tgt := 26) rfl (fun hc => absurd hc (nI_nlt hi0 (by omega))) (fun _ => ?_)
  refine lv_iload hx hb dX0_insert_12 (lv_at hl 4 rfl) ?_
  refine lv_iconst (v := 1) hx hb dX0_insert_14 (by decide) ?_
  refine lv_icmp_lt hx hb dX0_insert_15 (tgt := 26) rfl (fun hc => absurd hc (nI_nlt (b := 1) hk0 (by omega))) (fun _ => ?_)
  refine lv_iload hx hb dX0_insert_18 (lv_at hl 4 rfl) ?_
  refine lv_sipush (v := 500) hx hb dX0_insert_20 (by decide) ?_
  refine lv_icmp_le hx hb dX0_insert_23 (tgt := 34) rfl (fun _ => ?_) (fun hc => absurd (nI_le (b := 500) hk5 (by omega)) hc)
  refine lv_iload hx hb dX0_insert_34 (lv_at hl 4 rfl) ?_
  refine lv_sipush (v := 20000) hx hb dX0_insert_36 (by decide) ?_
  refine lv_aload_n hx hb dX0_insert_39 rfl (lv_at hl 0 rfl) ?_
  refine va_get (D := D) (ci := 0) (v := .int (nI c0)) (C := RX0) (T := TX0) (N := 3) hx hb hts hinX0 hown hK hP 0 rfl rfl 1 (by decide) (hts _ (List.mem_cons_of_mem _ lb_36)) (fun _ h9 => h9) rfl dX0_insert_40 ?_
  refine lv_isub hx hb dX0_insert_43 ?_
  refine lc_top (y := nI (20000 - c0)) (pk_sub (a := 20000) (show c0 ≤ 20000 by omega)) ?_
  refine lv_icmp_le hx hb dX0_insert_44 (tgt := 55) rfl (fun _ => ?_) (fun hc => absurd (nI_le (show k0 ≤ 20000 - c0 by omega) (by omega)) hc)
  refine lv_aload_n hx hb dX0_insert_55 rfl (lv_at hl 0 rfl) ?_
  refine lv_aload_n hx hb dX0_insert_56 rfl (lv_at hl 0 rfl) ?_
  refine va_get (D := D) (ci := 0) (v := .int (nI c0)) (C := RX0) (T := TX0) (N := 3) hx hb hts hinX0 hown hK hP 0 rfl rfl 1 (by decide) (hts _ (List.mem_cons_of_mem _ lb_36)) (fun _ h9 => h9) rfl dX0_insert_57 ?_
  refine lv_iload hx hb dX0_insert_60 (lv_at hl 4 rfl) ?_
  refine lv_iadd hx hb dX0_insert_62 ?_
  refine lc_top (y := nI (c0 + k0)) (nI_add c0 k0) ?_
  have hF := va_free (wc := [(h, .inr (0, [.ref q, .int (nI c0), .int (nI (lc_cnt g c0))])), (q, .inl (cA, L, .inl g))]) hD hS hA [0, 1] rfl
  refine lc_callW (va_runV (As := [.int (nI (c0 + k0))]) (rest := []) ⟨hx, hb, hml, hown, hts⟩ (k_makeRoom l D h q cA s.heap.size (nI c0) (nI (lc_cnt g c0)) L (c0 + k0) g hL5 hL hfit (by omega)) (cwV 1 hts gX0_insert_X0_makeRoomFor rfl rfl rfl (by decide +kernel) ⟨Nat.le_of_ble_eq_true rfl, Nat.le_of_ble_eq_true rfl⟩) (lc_WrV (q0 := 0) (ci := 0) (q := (RX0, TX0, 3)) hP hK hD rfl rfl) rfl rfl hl.1 rfl (lv_room (Nat.le_of_ble_eq_true rfl)) dX0_insert_63 ⟨Nat.le_refl _, by show 0 + lc_gr L (c0 + k0) ≤ lc_gr L (c0 + k0); omega⟩) hS (fun q h => hF q h) (fun u H locs hp hP hK hD1 hz hk hS => ?_)
  obtain ⟨q1, cA1, g1⟩ := u
  dsimp only at hp hP hK hD1
  have hp1 := hp
  have hD := hD1.weaken (fun _ _ _ h => hF _ h)
  have hK : va_K D vwCl [(cA1, .int)] s := hK
  have hP : va_P D vwCl [(h, .inr (0, [.ref q1, .int (nI c0), .int (nI (lc_cnt g c0))])), (q1, .inl (cA1, lc_L L (c0 + k0), .inl g1))] H := hP
  have hD : va_D A [(h, .inr (0, [.ref q1, .int (nI c0), .int (nI (lc_cnt g c0))])), (q1, .inl (cA1, lc_L L (c0 + k0), .inl g1))] := hD
  refine W.eq (g2 := F0 m 66 ls []) rfl ?_
  generalize hL1 : lc_L L (c0 + k0) = L1 at hP hD hm1 hm2 hm3 ⊢
  refine lv_aload_n hx hb dX0_insert_66 rfl (lv_at hl 0 rfl) ?_
  refine lv_iload_n hx hb dX0_insert_67 rfl (lv_at hl 1 rfl) ?_
  refine lv_iload_n hx hb dX0_insert_68 rfl (lv_at hl 1 rfl) ?_
  refine lv_iload hx hb dX0_insert_69 (lv_at hl 4 rfl) ?_
  refine lv_iadd hx hb dX0_insert_71 ?_
  refine lc_top (y := nI (i0 + k0)) (nI_add i0 k0) ?_
  have hF := va_free (wc := [(h, .inr (0, [.ref q1, .int (nI c0), .int (nI (lc_cnt g c0))])), (q1, .inl (cA1, L1, .inl g1))]) hD hS hA [0, 1] rfl
  refine lc_callW (va_runV (As := [.int (nI i0), .int (nI (i0 + k0))]) (rest := []) ⟨hx, hb, hml, hown, hts⟩ (k_moveTail l D h q1 cA1 H.size (nI (lc_cnt g c0)) L1 c0 g1 hm3 (by omega) i0 (i0 + k0) hi0 (by omega)) (cwV 2 hts gX0_insert_X0_moveTail rfl rfl rfl (by decide +kernel) ⟨Nat.le_of_ble_eq_true rfl, Nat.le_of_ble_eq_true rfl⟩) (lc_WrV (q0 := 0) (ci := 0) (q := (RX0, TX0, 3)) hP hK hD rfl rfl) rfl rfl hl.1 rfl (lv_room (Nat.le_of_ble_eq_true rfl)) dX0_insert_72 ⟨Nat.le_refl _, by show 0 + lc_gr L (c0 + k0) + 0 ≤ lc_gr L (c0 + k0); omega⟩) hS (fun q h => hF q h) (fun u H locs hp hP hK hD1 hz hk hS => ?_)
  have hD := hD1.weaken (fun _ _ _ h => hF _ h)
  have hK : va_K D vwCl [(cA1, .int)] s := hK
  have hP : va_P D vwCl [(h, .inr (0, [.ref q1, .int (nI (c0 + (i0 + k0) - i0)), .int (nI (lc_cnt g c0))])), (q1, .inl (cA1, L1, .inl (va_cpy g1 g1 i0 (i0 + k0) (c0 - i0))))] H := hP
  have hD : va_D A [(h, .inr (0, [.ref q1, .int (nI (c0 + (i0 + k0) - i0)), .int (nI (lc_cnt g c0))])), (q1, .inl (cA1, L1, .inl (va_cpy g1 g1 i0 (i0 + k0) (c0 - i0))))] := hD
  refine W.eq (g2 := F0 m 75 ls []) rfl ?_
  rw [show c0 + (i0 + k0) - i0 = c0 + k0 by omega] at hP hD
  generalize hg2 : va_cpy g1 g1 i0 (i0 + k0) (c0 - i0) = g2 at hP hD
  refine lv_aload_n hx hb dX0_insert_75 rfl (lv_at hl 0 rfl) ?_
  refine lv_iload_n hx hb dX0_insert_76 rfl (lv_at hl 1 rfl) ?_
  refine lv_iload_n hx hb dX0_insert_77 rfl (lv_at hl 2 rfl) ?_
  refine lv_iload_n hx hb dX0_insert_78 rfl (lv_at hl 3 rfl) ?_
  refine lv_iload hx hb dX0_insert_79 (lv_at hl 4 rfl) ?_
  have hF := va_free (wc := [(h, .inr (0, [.ref q1, .int (nI (c0 + k0)), .int (nI (lc_cnt g c0))])), (q1, .inl (cA1, L1, .inl g2))]) hD hS hA [0, 1] rfl
  refine lc_callW (va_runV (As := [.int (nI i0), .int v0, .int s0, .int (nI k0)]) (rest := []) ⟨hx, hb, hml, hown, hts⟩ (k_fill l D h q1 cA1 H.size (nI (c0 + k0)) (nI (lc_cnt g c0)) L1 g2 hm3 i0 k0 v0 s0 (by omega)) (cwV 4 hts gX0_insert_X0_fill rfl rfl rfl (by decide +kernel) ⟨Nat.le_of_ble_eq_true rfl, Nat.le_of_ble_eq_true rfl⟩) (lc_WrV (q0 := 0) (ci := 0) (q := (RX0, TX0, 3)) hP hK hD rfl rfl) rfl rfl hl.1 rfl (lv_room (Nat.le_of_ble_eq_true rfl)) dX0_insert_81 ⟨Nat.le_refl _, by show 0 + lc_gr L (c0 + k0) + 0 + 0 ≤ lc_gr L (c0 + k0); omega⟩) hS (fun q h => hF q h) (fun u H locs hp hP hK hD1 hz hk hS => ?_)
  have hp2 := hp
  obtain ⟨g3, hg3⟩ : ∃ z : Nat → Int32, z = u := ⟨u, rfl⟩
  rw [← hg3] at hp2 hP hD1
  have hD := hD1.weaken (fun _ _ _ h => hF _ h)
  have hK : va_K D vwCl [(cA1, .int)] s := hK
  have hP : va_P D vwCl [(h, .inr (0, [.ref q1, .int (nI (c0 + k0)), .int (nI (lc_cnt g c0))])), (q1, .inl (cA1, L1, .inl g3))] H := hP
  have hD : va_D A [(h, .inr (0, [.ref q1, .int (nI (c0 + k0)), .int (nI (lc_cnt g c0))])), (q1, .inl (cA1, L1, .inl g3))] := hD
  refine W.eq (g2 := F0 m 84 ls []) rfl ?_
  have hpost : ∀ j, j < c0 + k0 → g3 j = lc_ins g i0 v0 s0 k0 j := by
    intro j hj
    rw [hp2 j]
    unfold lc_ins
    by_cases h1 : j < i0
    · rw [if_pos h1, if_neg (by omega), ← hg2, pk_cpy_out (by omega), hp1 _ (by omega)]
    · rw [if_neg h1]
      by_cases h2 : j < i0 + k0
      · rw [if_pos h2, if_pos (by omega)]
      · rw [if_neg h2, if_neg (by omega), ← hg2, pk_cpy_in (by omega) (by omega), hp1 _ (by omega)]; congr 1; omega
  have hcnt := lc_ins_cnt hi0 hpost
  have hle3 := lc_cnt_le g3 (c0 + k0)
  refine lv_aload_n hx hb dX0_insert_84 rfl (lv_at hl 0 rfl) ?_
  refine lv_dup hx hb dX0_insert_85 rfl ?_
  refine va_get (D := D) (ci := 0) (v := .int (nI (lc_cnt g c0))) (C := RX0) (T := TX0) (N := 3) hx hb hts hinX0 hown hK hP 0 rfl rfl 2 (by decide) (hts _ (List.mem_cons_of_mem _ lb_37)) (fun _ h9 => h9) rfl dX0_insert_86 ?_
  refine lv_aload_n hx hb dX0_insert_89 rfl (lv_at hl 0 rfl) ?_
  refine lv_iload_n hx hb dX0_insert_90 rfl (lv_at hl 1 rfl) ?_
  refine lv_iload_n hx hb dX0_insert_91 rfl (lv_at hl 1 rfl) ?_
  refine lv_iload hx hb dX0_insert_92 (lv_at hl 4 rfl) ?_
  refine lv_iadd hx hb dX0_insert_94 ?_
  refine lc_top (y := nI (i0 + k0)) (nI_add i0 k0) ?_
  refine lc_callR (W.runV (As := [.int (nI i0), .int (nI (i0 + k0))]) (rest := [.int (nI (lc_cnt g c0)), .ref h]) ⟨hx, hb, hml, hown, hts⟩ (k_lineEndsIn l D h q1 cA1 (nI (c0 + k0)) (nI (lc_cnt g c0)) L1 g3 hm3 i0 (i0 + k0) (by omega) (by omega)) (cwV 2 hts gX0_insert_X0_lineEndsIn rfl rfl rfl (by decide +kernel) ⟨Nat.le_of_ble_eq_true rfl, Nat.le_of_ble_eq_true rfl⟩) (lc_RdV (q0 := 0) (ci := 0) (q := (RX0, TX0, 3)) hP hK rfl rfl) rfl rfl hl.1 rfl (lv_room (Nat.le_of_ble_eq_true rfl)) dX0_insert_95 ⟨Nat.le_refl _, by show 0 + lc_gr L (c0 + k0) + 0 + 0 + 0 ≤ lc_gr L (c0 + k0); omega⟩) ?_
  refine lv_iadd hx hb dX0_insert_98 ?_
  refine lc_top (y := nI (lc_cnt g3 (c0 + k0))) ((nI_add _ _).trans (congrArg nI hcnt.symm)) ?_
  refine va_put (D := D) (ci := 0) (v := .int (nI (lc_cnt g3 (c0 + k0)))) (ty := .int) (C := RX0) (T := TX0) (N := 3) hx hb hts hinX0 tyX0 tyX0_ok nmX0 hown hK hP hD hS 0 rfl rfl 2 (by decide) (hts _ (List.mem_cons_of_mem _ lb_37)) (fun _ h9 => h9) rfl (by decide +kernel) rfl rfl (Nat.le_of_ble_eq_true rfl) dX0_insert_99 (fun H locs hP hD hS => ?_)
  have hP : va_P D vwCl [(h, .inr (0, [.ref q1, .int (nI (c0 + k0)), .int (nI (lc_cnt g3 (c0 + k0)))])), (q1, .inl (cA1, L1, .inl g3))] H := hP
  have hD : va_D A [(h, .inr (0, [.ref q1, .int (nI (c0 + k0)), .int (nI (lc_cnt g3 (c0 + k0)))])), (q1, .inl (cA1, L1, .inl g3))] := hD
  refine lv_aload_n hx hb dX0_insert_102 rfl (lv_at hl 0 rfl) ?_
  refine va_get (D := D) (ci := 0) (v := .int (nI (c0 + k0))) (C := RX0) (T := TX0) (N := 3) hx hb hts hinX0 hown hK hP 0 rfl rfl 1 (by decide) (hts _ (List.mem_cons_of_mem _ lb_36)) (fun _ h9 => h9) rfl dX0_insert_103 ?_
  subst hL1
  refine W.widen (k := 1) (n := lc_gr L (c0 + k0)) (Nat.le_refl _) (by omega) ?_
  exact W.iret (v := nI (c0 + k0)) hx hb hr (fun t ht hW => ⟨(q1, cA1, g3), rfl, hpost, by rw [ht]; exact hP, va_K.moved hW.alike hK, hD, hS.F ht⟩) hS.2.2 dX0_insert_106
set_option maxHeartbeats 4000000 in
set_option maxRecDepth 100000 in
theorem k_delete (l : Launch) (D : va_G) (h q : Nat) (cA : ClassId) (sz : Nat) (L c0 : Nat) (g : Nat → Int32) (hL : L ≤ 20000) (hc0 : c0 ≤ L) (i0 k0 : Nat) (hk0 : 1 ≤ k0) (hik : i0 + k0 ≤ c0) : Met l yX0_delete wsX0_delete ({ frames := 6, cells := 0, slots := 0, locals := 90 }) (lc_Wr [.ref h, .int (nI i0), .int (nI k0)] D [(h, .inr (0, [.ref q, .int (nI c0), .int (nI (lc_cnt g c0))])), (q, .inl (cA, L, .inl g))] [(cA, .int)] sz) (lc_QW (S := (Nat → Int32)) D (va_A [(h, .inr (0, [.ref q, .int (nI c0), .int (nI (lc_cnt g c0))])), (q, .inl (cA, L, .inl g))] sz) (fun u => some (.int (nI (c0 - k0)))) (fun u => [(h, .inr (0, [.ref q, .int (nI (c0 - k0)), .int (nI (lc_cnt u (c0 - k0)))])), (q, .inl (cA, L, .inl u))]) (fun u => [(cA, .int)]) (fun u => ∀ j, j < c0 - k0 → u j = lc_del g i0 k0 j)) 0 0 (va_A [(h, .inr (0, [.ref q, .int (nI c0), .int (nI (lc_cnt g c0))])), (q, .inl (cA, L, .inl g))] sz) := by
  refine Met.ofW (cc := cX0_delete) (maxL := 3) (ret := (some .int)) (by decide) rfl ?_
  intro p e' s m args below meth c s₁ B hml hv
  obtain ⟨rfl, hsz, hP, hK, hD0⟩ := hv
  have hx := B.exec
  have hb := B.bytes
  have hr := B.returns
  have hts := atoms_spec (ws := wsX0_delete) B.pre
  have hown : s.vm.findClass RX0 = some m.cls := findClass_of_methodNamed B.named
  have hlocks := B.notSynchronized
  have hinX0 : ∀ w ∈ u_ws RX0 TX0 3, w ∈ wsX0_delete := fun w h => List.mem_cons_of_mem _ (lb_X0 w h)
  subst hsz
  have hD := hD0.self (sz := s.heap.size)
  generalize hAe : va_A [(h, .inr (0, [.ref q, .int (nI c0), .int (nI (lc_cnt g c0))])), (q, .inl (cA, L, .inl g))] s.heap.size = A at hD ⊢
  have hA : ∀ q : Nat, s.heap.size ≤ q → A q := fun q h => by rw [← hAe]; exact Or.inr h
  have hS : va_S A s.heap s.heap [] := va_S.rf
  have hP : va_P D vwCl [(h, .inr (0, [.ref q, .int (nI c0), .int (nI (lc_cnt g c0))])), (q, .inl (cA, L, .inl g))] s.heap := hP
  skip
  have hl := lv_entry ([.ref h, .int (nI i0), .int (nI k0)]) (n := 3) (Nat.le_of_ble_eq_true rfl)
  rw [lg_entry_eq]
  generalize (lg_sl ([.ref h, .int (nI i0), .int (nI k0)]) ++ List.replicate (3 - (lg_sl ([.ref h, .int (nI i0), .int (nI k0)])).length) Slot.unset).toArray = ls at hl ⊢
  have hl : lv_has ls 3 [(0, .ref h), (1, .int (nI i0)), (2, .int (nI k0))] := hl
  have hle := lc_cnt_le g c0
  refine lv_iload_n hx hb dX0_delete_0 rfl (lv_at hl 1 rfl) ?_
  refine lv_if_lt hx hb dX0_delete_1 (tgt := 19) rfl (fun hc => absurd hc (nI_pos (by omega))) (fun _ => ?_)
  refine lv_iload_n hx hb dX0_delete_4 rfl (lv_at hl 2 rfl) ?_
  refine lv_iconst (v := 1) hx hb dX0_delete_5 (by decide) ?_
  refine lv_icmp_lt hx hb dX0_delete_6 (tgt := 19) rfl (fun hc => absurd hc (nI_nlt (b := 1) hk0 (by omega))) (fun _ => ?_)
  refine lv_iload_n hx hb dX0_delete_9 rfl (lv_at hl 1 rfl) ?_
  refine lv_aload_n hx hb dX0_delete_10 rfl (lv_at hl 0 rfl) ?_
  refine va_get (D := D) (ci := 0) (v := .int (nI c0)) (C := RX0) (T := TX0) (N := 3) hx hb hts hinX0 hown hK hP 0 rfl rfl 1 (by decide) (hts _ (List.mem_cons_of_mem _ lb_36)) (fun _ h9 => h9) rfl dX0_delete_11 ?_
  refine lv_iload_n hx hb dX0_delete_14 rfl (lv_at hl 2 rfl) ?_
  refine lv_isub hx hb dX0_delete_15 ?_
  refine lc_top (y := nI (c0 - k0)) (pk_sub (by omega)) ?_
  refine lv_icmp_le hx hb dX0_delete_16 (tgt := 27) rfl (fun _ => ?_) (fun hc => absurd (nI_le (show i0 ≤ c0 - k0 by omega) (by omega)) hc)
  refine lv_aload_n hx hb dX0_delete_27 rfl (lv_at hl 0 rfl) ?_
  refine lv_dup hx hb dX0_delete_28 rfl ?_
  refine va_get (D := D) (ci := 0) (v := .int (nI (lc_cnt g c0))) (C := RX0) (T := TX0) (N := 3) hx hb hts hinX0 hown hK hP 0 rfl rfl 2 (by decide) (hts _ (List.mem_cons_of_mem _ lb_37)) (fun _ h9 => h9) rfl dX0_delete_29 ?_
  refine lv_aload_n hx hb dX0_delete_32 rfl (lv_at hl 0 rfl) ?_
  refine lv_iload_n hx hb dX0_delete_33 rfl (lv_at hl 1 rfl) ?_
  refine lv_iload_n hx hb dX0_delete_34 rfl (lv_at hl 1 rfl) ?_
  refine lv_iload_n hx hb dX0_delete_35 rfl (lv_at hl 2 rfl) ?_
  refine lv_iadd hx hb dX0_delete_36 ?_
  refine lc_top (y := nI (i0 + k0)) (nI_add i0 k0) ?_
  refine lc_callR (W.runV (As := [.int (nI i0), .int (nI (i0 + k0))]) (rest := [.int (nI (lc_cnt g c0)), .ref h]) ⟨hx, hb, hml, hown, hts⟩ (k_lineEndsIn l D h q cA (nI c0) (nI (lc_cnt g c0)) L g hL i0 (i0 + k0) (by omega) (by omega)) (cwV 2 hts gX0_delete_X0_lineEndsIn rfl rfl rfl (by decide +kernel) ⟨Nat.le_of_ble_eq_true rfl, Nat.le_of_ble_eq_true rfl⟩) (lc_RdV (q0 := 0) (ci := 0) (q := (RX0, TX0, 3)) hP hK rfl rfl) rfl rfl hl.1 rfl (lv_room (Nat.le_of_ble_eq_true rfl)) dX0_delete_37 ⟨Nat.le_refl _, Nat.le_refl _⟩) ?_
  have hpost : ∀ j, j < c0 - k0 → va_cpy g g (i0 + k0) i0 (c0 - (i0 + k0)) j = lc_del g i0 k0 j := by
    intro j hj
    unfold lc_del
    by_cases h1 : j < i0
    · rw [if_pos h1, pk_cpy_out (by omega)]
    · rw [if_neg h1, pk_cpy_in (by omega) (by omega)]; congr 1; omega
  have hcnt := lc_del_cnt hik hpost
  refine lv_isub hx hb dX0_delete_40 ?_
  refine lc_top (y := nI (lc_cnt (va_cpy g g (i0 + k0) i0 (c0 - (i0 + k0))) (c0 - k0))) ((pk_sub (by omega)).trans (congrArg nI (by omega))) ?_
  refine va_put (D := D) (ci := 0) (v := .int (nI (lc_cnt (va_cpy g g (i0 + k0) i0 (c0 - (i0 + k0))) (c0 - k0)))) (ty := .int) (C := RX0) (T := TX0) (N := 3) hx hb hts hinX0 tyX0 tyX0_ok nmX0 hown hK hP hD hS 0 rfl rfl 2 (by decide) (hts _ (List.mem_cons_of_mem _ lb_37)) (fun _ h9 => h9) rfl (by decide +kernel) rfl rfl (Nat.le_of_ble_eq_true rfl) dX0_delete_41 (fun H locs hP hD hS => ?_)
  have hP : va_P D vwCl [(h, .inr (0, [.ref q, .int (nI c0), .int (nI (lc_cnt (va_cpy g g (i0 + k0) i0 (c0 - (i0 + k0))) (c0 - k0)))])), (q, .inl (cA, L, .inl g))] H := hP
  have hD : va_D A [(h, .inr (0, [.ref q, .int (nI c0), .int (nI (lc_cnt (va_cpy g g (i0 + k0) i0 (c0 - (i0 + k0))) (c0 - k0)))])), (q, .inl (cA, L, .inl g))] := hD
  refine lv_aload_n hx hb dX0_delete_44 rfl (lv_at hl 0 rfl) ?_
  refine lv_iload_n hx hb dX0_delete_45 rfl (lv_at hl 1 rfl) ?_
  refine lv_iload_n hx hb dX0_delete_46 rfl (lv_at hl 2 rfl) ?_
  refine lv_iadd hx hb dX0_delete_47 ?_
  refine lc_top (y := nI (i0 + k0)) (nI_add i0 k0) ?_
  refine lv_iload_n hx hb dX0_delete_48 rfl (lv_at hl 1 rfl) ?_
  have hF := va_free (wc := [(h, .inr (0, [.ref q, .int (nI c0), .int (nI (lc_cnt (va_cpy g g (i0 + k0) i0 (c0 - (i0 + k0))) (c0 - k0)))])), (q, .inl (cA, L, .inl g))]) hD hS hA [0, 1] rfl
  refine lc_callW (va_runV (As := [.int (nI (i0 + k0)), .int (nI i0)]) (rest := []) ⟨hx, hb, hml, hown, hts⟩ (k_moveTail l D h q cA H.size (nI (lc_cnt (va_cpy g g (i0 + k0) i0 (c0 - (i0 + k0))) (c0 - k0))) L c0 g hL hc0 (i0 + k0) i0 hik (by omega)) (cwV 2 hts gX0_delete_X0_moveTail rfl rfl rfl (by decide +kernel) ⟨Nat.le_of_ble_eq_true rfl, Nat.le_of_ble_eq_true rfl⟩) (lc_WrV (q0 := 0) (ci := 0) (q := (RX0, TX0, 3)) hP hK hD rfl rfl) rfl rfl hl.1 rfl (lv_room (Nat.le_of_ble_eq_true rfl)) dX0_delete_49 ⟨Nat.le_refl _, Nat.le_refl _⟩) hS (fun q h => hF q h) (fun u H locs hp hP hK hD1 hz hk hS => ?_)
  have hD := hD1.weaken (fun _ _ _ h => hF _ h)
  have hK : va_K D vwCl [(cA, .int)] s := hK
  have hP : va_P D vwCl [(h, .inr (0, [.ref q, .int (nI (c0 + i0 - (i0 + k0))), .int (nI (lc_cnt (va_cpy g g (i0 + k0) i0 (c0 - (i0 + k0))) (c0 - k0)))])), (q, .inl (cA, L, .inl (va_cpy g g (i0 + k0) i0 (c0 - (i0 + k0)))))] H := hP
  have hD : va_D A [(h, .inr (0, [.ref q, .int (nI (c0 + i0 - (i0 + k0))), .int (nI (lc_cnt (va_cpy g g (i0 + k0) i0 (c0 - (i0 + k0))) (c0 - k0)))])), (q, .inl (cA, L, .inl (va_cpy g g (i0 + k0) i0 (c0 - (i0 + k0)))))] := hD
  refine W.eq (g2 := F0 m 52 ls []) rfl ?_
  rw [show c0 + i0 - (i0 + k0) = c0 - k0 by omega] at hP hD
  refine lv_aload_n hx hb dX0_delete_52 rfl (lv_at hl 0 rfl) ?_
  refine va_get (D := D) (ci := 0) (v := .int (nI (c0 - k0))) (C := RX0) (T := TX0) (N := 3) hx hb hts hinX0 hown hK hP 0 rfl rfl 1 (by decide) (hts _ (List.mem_cons_of_mem _ lb_36)) (fun _ h9 => h9) rfl dX0_delete_53 ?_
  exact W.iret (v := nI (c0 - k0)) hx hb hr (fun t ht hW => ⟨va_cpy g g (i0 + k0) i0 (c0 - (i0 + k0)), rfl, hpost, by rw [ht]; exact hP, va_K.moved hW.alike hK, hD, hS.F ht⟩) hS.2.2 dX0_delete_56
end
section
set_option maxHeartbeats 4000000 in
set_option maxRecDepth 100000 in
theorem k_init (l : Launch) (D : va_G) (h sz : Nat) : Met l yX0_init wsX0_init ({ frames := 1, cells := 1, slots := 512, locals := 12 }) (lc_Wr [.ref h] D [(h, .inr (0, [.null, .int 0, .int 0]))] [] sz) (lc_QW (S := (Nat × ClassId)) D (va_A [(h, .inr (0, [.null, .int 0, .int 0]))] sz) (fun _ => none) (fun u => [(h, .inr (0, [.ref u.1, .int 0, .int 0])), (u.1, .inl (u.2, 512, .inl (fun _ => 0)))]) (fun u => [(u.2, .int)]) (fun _ => True)) 1 512 (va_A [(h, .inr (0, [.null, .int 0, .int 0]))] sz) := by
  refine Met.ofW (cc := cX0_init) (maxL := 1) (ret := none) (by decide) rfl ?_
  intro p e' s m args below meth c s₁ B hml hv
  obtain ⟨rfl, hsz, hP, hK, hD0⟩ := hv
  have hx := B.exec
  have hb := B.bytes
  have hr := B.returns
  have hts := atoms_spec (ws := wsX0_init) B.pre
  have hown : s.vm.findClass RX0 = some m.cls := findClass_of_methodNamed B.named
  have hlocks := B.notSynchronized
  have hin : meth.name = "<init>" := (name_of_methodNamed B.named B.method).1
  have hinX0 : ∀ w ∈ u_ws RX0 TX0 3, w ∈ wsX0_init := fun w h => List.mem_cons_of_mem _ (lb_X0 w h)
  subst hsz
  have hD := hD0.self (sz := s.heap.size)
  generalize hAe : va_A [(h, .inr (0, [.null, .int 0, .int 0]))] s.heap.size = A at hD ⊢
  have hA : ∀ q : Nat, s.heap.size ≤ q → A q := fun q h => by rw [← hAe]; exact Or.inr h
  have hS : va_S A s.heap s.heap [] := va_S.rf
  have hP : va_P D vwCl [(h, .inr (0, [.null, .int 0, .int 0]))] s.heap := hP
  have hl := lv_entry ([.ref h]) (n := 1) (Nat.le_of_ble_eq_true rfl)
  rw [lg_entry_eq]
  generalize (lg_sl ([.ref h]) ++ List.replicate (1 - (lg_sl ([.ref h])).length) Slot.unset).toArray = ls at hl ⊢
  have hl : lv_has ls 1 [(0, .ref h)] := hl
  refine lv_aload_n hx hb dX0_init_0 rfl (lv_at hl 0 rfl) ?_
  refine W.objInit hx hb hown (hts _ (List.mem_cons_of_mem _ lb_32)) (hts _ (List.mem_cons_of_mem _ lb_33)) (hts _ (List.mem_cons_of_mem _ lb_34)) rfl (by rw [hml]; exact hl.1) rfl dX0_init_1 (Nat.le_of_ble_eq_true rfl) (Nat.le_of_ble_eq_true rfl) ?_
  refine W.eq (g2 := F0 m 4 ls []) rfl ?_
  refine lv_aload_n hx hb dX0_init_4 rfl (lv_at hl 0 rfl) ?_
  refine lv_sipush (v := 512) hx hb dX0_init_5 (by decide) ?_
  refine va_newa (D := D) (a0 := (512, .inl (fun _ => 0))) (N' := 512) hx hb (atype := .int) (hts _ (List.mem_cons_of_mem _ lb_45)) rfl hK hP hD hS hA (fun _ => rfl) (by decide) (by decide) (by decide) (Nat.le_refl _) (Nat.le_refl _) dX0_init_8 (fun q cA H hK hP hD hS => ?_)
  have hP : va_P D vwCl [(h, .inr (0, [.null, .int 0, .int 0])), (q, .inl (cA, 512, .inl (fun _ => 0)))] H := hP
  have hD : va_D A [(h, .inr (0, [.null, .int 0, .int 0])), (q, .inl (cA, 512, .inl (fun _ => 0)))] := hD
  have hK : va_K D vwCl [(cA, .int)] s := hK
  refine va_put (D := D) (ci := 0) (v := .ref q) (ty := .array .int) (C := RX0) (T := TX0) (N := 3) hx hb hts hinX0 tyX0 tyX0_ok nmX0 hown hK hP hD hS 0 rfl rfl 0 (by decide) (hts _ (List.mem_cons_of_mem _ lb_35)) (fun _ h9 => h9) rfl (by decide +kernel) rfl rfl (Nat.le_of_ble_eq_true rfl) dX0_init_10 (fun H locs hP hD hS => ?_)
  have hP : va_P D vwCl [(h, .inr (0, [.ref q, .int 0, .int 0])), (q, .inl (cA, 512, .inl (fun _ => 0)))] H := hP
  have hD : va_D A [(h, .inr (0, [.ref q, .int 0, .int 0])), (q, .inl (cA, 512, .inl (fun _ => 0)))] := hD
  refine lv_aload_n hx hb dX0_init_13 rfl (lv_at hl 0 rfl) ?_
  refine lv_iconst (v := 0) hx hb dX0_init_14 (by decide) ?_
  refine va_put (D := D) (ci := 0) (v := .int 0) (ty := .int) (C := RX0) (T := TX0) (N := 3) hx hb hts hinX0 tyX0 tyX0_ok nmX0 hown hK hP hD hS 0 rfl rfl 1 (by decide) (hts _ (List.mem_cons_of_mem _ lb_36)) (fun _ h9 => h9) rfl (by decide +kernel) rfl rfl (Nat.le_of_ble_eq_true rfl) dX0_init_15 (fun H locs hP hD hS => ?_)
  have hP : va_P D vwCl [(h, .inr (0, [.ref q, .int 0, .int 0])), (q, .inl (cA, 512, .inl (fun _ => 0)))] H := hP
  have hD : va_D A [(h, .inr (0, [.ref q, .int 0, .int 0])), (q, .inl (cA, 512, .inl (fun _ => 0)))] := hD
  refine lv_aload_n hx hb dX0_init_18 rfl (lv_at hl 0 rfl) ?_
  refine lv_iconst (v := 0) hx hb dX0_init_19 (by decide) ?_
  refine va_put (D := D) (ci := 0) (v := .int 0) (ty := .int) (C := RX0) (T := TX0) (N := 3) hx hb hts hinX0 tyX0 tyX0_ok nmX0 hown hK hP hD hS 0 rfl rfl 2 (by decide) (hts _ (List.mem_cons_of_mem _ lb_37)) (fun _ h9 => h9) rfl (by decide +kernel) rfl rfl (Nat.le_of_ble_eq_true rfl) dX0_init_20 (fun H locs hP hD hS => ?_)
  have hP : va_P D vwCl [(h, .inr (0, [.ref q, .int 0, .int 0])), (q, .inl (cA, 512, .inl (fun _ => 0)))] H := hP
  have hD : va_D A [(h, .inr (0, [.ref q, .int 0, .int 0])), (q, .inl (cA, 512, .inl (fun _ => 0)))] := hD
  exact W.vret hx hb hr (fun t ht hW => ⟨(q, cA), rfl, trivial, by rw [ht]; exact hP, va_K.moved hW.alike hK, hD, hS.F ht⟩) hS.2.2 dX0_init_23
set_option maxHeartbeats 4000000 in
set_option maxRecDepth 100000 in
theorem m_init (l : Launch) (D : va_G) (h sz : Nat) : Met l yX1_init wsX1_init ({ frames := 1, cells := 1, slots := 20000, locals := 12 }) (lc_Wr [.ref h] D [(h, .inr (1, [.null, .int 0, .int 0]))] [] sz) (lc_QW (S := (Nat × ClassId)) D (va_A [(h, .inr (1, [.null, .int 0, .int 0]))] sz) (fun _ => none) (fun u => [(h, .inr (1, [.ref u.1, .int 0, .int 0])), (u.1, .inl (u.2, 20000, .inl (fun _ => 0)))]) (fun u => [(u.2, .int)]) (fun _ => True)) 1 20000 (va_A [(h, .inr (1, [.null, .int 0, .int 0]))] sz) := by
  refine Met.ofW (cc := cX1_init) (maxL := 1) (ret := none) (by decide) rfl ?_
  intro p e' s m args below meth c s₁ B hml hv
  obtain ⟨rfl, hsz, hP, hK, hD0⟩ := hv
  have hx := B.exec
  have hb := B.bytes
  have hr := B.returns
  have hts := atoms_spec (ws := wsX1_init) B.pre
  have hown : s.vm.findClass RX1 = some m.cls := findClass_of_methodNamed B.named
  have hlocks := B.notSynchronized
  have hin : meth.name = "<init>" := (name_of_methodNamed B.named B.method).1
  have hinX1 : ∀ w ∈ u_ws RX1 TX1 3, w ∈ wsX1_init := fun w h => List.mem_cons_of_mem _ (lb_X1 w h)
  subst hsz
  have hD := hD0.self (sz := s.heap.size)
  generalize hAe : va_A [(h, .inr (1, [.null, .int 0, .int 0]))] s.heap.size = A at hD ⊢
  have hA : ∀ q : Nat, s.heap.size ≤ q → A q := fun q h => by rw [← hAe]; exact Or.inr h
  have hS : va_S A s.heap s.heap [] := va_S.rf
  have hP : va_P D vwCl [(h, .inr (1, [.null, .int 0, .int 0]))] s.heap := hP
  have hl := lv_entry ([.ref h]) (n := 1) (Nat.le_of_ble_eq_true rfl)
  rw [lg_entry_eq]
  generalize (lg_sl ([.ref h]) ++ List.replicate (1 - (lg_sl ([.ref h])).length) Slot.unset).toArray = ls at hl ⊢
  have hl : lv_has ls 1 [(0, .ref h)] := hl
  refine lv_aload_n hx hb dX1_init_0 rfl (lv_at hl 0 rfl) ?_
  refine W.objInit hx hb hown (hts _ (List.mem_cons_of_mem _ lb_235)) (hts _ (List.mem_cons_of_mem _ lb_33)) (hts _ (List.mem_cons_of_mem _ lb_34)) rfl (by rw [hml]; exact hl.1) rfl dX1_init_1 (Nat.le_of_ble_eq_true rfl) (Nat.le_of_ble_eq_true rfl) ?_
  refine W.eq (g2 := F0 m 4 ls []) rfl ?_
  refine lv_aload_n hx hb dX1_init_4 rfl (lv_at hl 0 rfl) ?_
  refine lv_sipush (v := 20000) hx hb dX1_init_5 (by decide) ?_
  refine va_newa (D := D) (a0 := (20000, .inl (fun _ => 0))) (N' := 20000) hx hb (atype := .int) (hts _ (List.mem_cons_of_mem _ lb_45)) rfl hK hP hD hS hA (fun _ => rfl) (by decide) (by decide) (by decide) (Nat.le_refl _) (Nat.le_refl _) dX1_init_8 (fun q cA H hK hP hD hS => ?_)
  have hP : va_P D vwCl [(h, .inr (1, [.null, .int 0, .int 0])), (q, .inl (cA, 20000, .inl (fun _ => 0)))] H := hP
  have hD : va_D A [(h, .inr (1, [.null, .int 0, .int 0])), (q, .inl (cA, 20000, .inl (fun _ => 0)))] := hD
  have hK : va_K D vwCl [(cA, .int)] s := hK
  refine va_putF (D := D) (ci := 1) (v := .ref q) (ty := .array .int) (C := RX1) (T := TX1) (N := 3) hx hb hts hinX1 tyX1 tyX1_ok nmX1 hown hK hP hD hS 0 rfl rfl 0 (by decide) (hts _ (List.mem_cons_of_mem _ lb_236)) (fun _ h9 => h9) rfl hin rfl (by decide +kernel) rfl rfl (Nat.le_of_ble_eq_true rfl) dX1_init_10 (fun H locs hP hD hS => ?_)
  have hP : va_P D vwCl [(h, .inr (1, [.ref q, .int 0, .int 0])), (q, .inl (cA, 20000, .inl (fun _ => 0)))] H := hP
  have hD : va_D A [(h, .inr (1, [.ref q, .int 0, .int 0])), (q, .inl (cA, 20000, .inl (fun _ => 0)))] := hD
  exact W.vret hx hb hr (fun t ht hW => ⟨(q, cA), rfl, trivial, by rw [ht]; exact hP, va_K.moved hW.alike hK, hD, hS.F ht⟩) hS.2.2 dX1_init_13
end
section
set_option maxHeartbeats 4000000 in
set_option maxRecDepth 100000 in
theorem m_check (l : Launch) (D : va_G)  : Met l yX1_check wsX1_check ({ frames := 0, cells := 0, slots := 0, locals := 0 }) (lc_Rd [.int 1] D [] []) lc_QV 0 0 (fun _ => False) := by
  refine Met.ofW (cc := cX1_check) (maxL := 1) (ret := none) (by decide) rfl ?_
  intro p e' s m args below meth c s₁ B hml hv
  obtain ⟨rfl, hP, hK⟩ := hv
  have hx := B.exec
  have hb := B.bytes
  have hr := B.returns
  have hts := atoms_spec (ws := wsX1_check) B.pre
  have hown : s.vm.findClass RX1 = some m.cls := findClass_of_methodNamed B.named
  have hlocks := B.notSynchronized
  have hl := lv_entry ([.int 1]) (n := 1) (Nat.le_of_ble_eq_true rfl)
  rw [lg_entry_eq]
  generalize (lg_sl ([.int 1]) ++ List.replicate (1 - (lg_sl ([.int 1])).length) Slot.unset).toArray = ls at hl ⊢
  have hl : lv_has ls 1 [(0, .int 1)] := hl
  refine lv_iload_n hx hb dX1_check_0 rfl (lv_at hl 0 rfl) ?_
  refine lv_if_ne hx hb dX1_check_1 (tgt := 12) rfl (fun _ => ?_) (fun hc => absurd hc (by decide))
  exact W.vret hx hb hr (fun t ht _ => ⟨rfl, ht⟩) (fun _ h => nomatch h) dX1_check_12
set_option maxHeartbeats 4000000 in
set_option maxRecDepth 100000 in
theorem m_check_bad (l : Launch) (D : va_G) (hst : l.stackTraces = false) : vx_Met l yX1_check wsX1_check ({ frames := 6, cells := 1, slots := 6, locals := 81 }) (lc_Tx [.int 0] D [] [] (fun _ => False)) lc_N (lc_X "java/lang/IllegalArgumentException") 1 6 (fun _ => False) := by
  refine vx_ofW (cc := cX1_check) (maxL := 1) (ret := none) (by decide) rfl ?_
  intro p e' s m args below meth c s₁ B hml htab hv
  obtain ⟨rfl, hP, hK, hZ⟩ := hv
  have hx := B.exec
  have hb := B.bytes
  have hr := B.returns
  have hts := atoms_spec (ws := wsX1_check) B.pre
  have hown : s.vm.findClass RX1 = some m.cls := findClass_of_methodNamed B.named
  have hlocks := B.notSynchronized
  have hl := lv_entry ([.int 0]) (n := 1) (Nat.le_of_ble_eq_true rfl)
  rw [lg_entry_eq]
  generalize (lg_sl ([.int 0]) ++ List.replicate (1 - (lg_sl ([.int 0])).length) Slot.unset).toArray = ls at hl ⊢
  have hl : lv_has ls 1 [(0, .int 0)] := hl
  have hat : ∀ w ∈ vx_at0 RX1 15 "java/lang/IllegalArgumentException" ["java/lang/RuntimeException", "java/lang/Exception"], w.before ([.int 0] : List Value).toArray s = true := vx_hat (fun w hw => hts w (List.mem_cons_of_mem _ (lb_at_X1_15 w hw))) (B := lc_Nws) (by decide +kernel) (lc_nws hZ.2.2)
  have hthr : W p l e' (headSpec wsX1_check ({ frames := 6, cells := 1, slots := 6, locals := 81 })).room s m ([.int 0] : List Value).toArray below meth c s.heap [] 0 0 (vx_MQ below lc_N (lc_X "java/lang/IllegalArgumentException") ([.int 0] : List Value).toArray s 1 6 (fun _ => False)) (F0 m 4 ls []) := vx_throw0 hx hb hst hown (by decide +kernel) (by decide +kernel) (hts _ (List.mem_cons_of_mem _ lb_254)) (hts _ (List.mem_cons_of_mem _ lb_21)) hat (by decide +kernel) hZ.1 hZ.2.1 va_S.rf (hl.1.trans hml.symm) dX1_check_4 dX1_check_7 dX1_check_8 dX1_check_11 (fun x hx => (htab x hx).elim) (Nat.le_of_ble_eq_true rfl) (Nat.le_of_ble_eq_true rfl) (Nat.le_refl _) (Nat.le_refl _) hlocks (fun t _ hz hk => ⟨rfl, hz, fun q h1 _ => hk q h1⟩) (fun _ h => nomatch h) (Nat.le_refl _) (Nat.le_refl _)
  refine lv_iload_n hx hb dX1_check_0 rfl (lv_at hl 0 rfl) ?_
  refine lv_if_ne hx hb dX1_check_1 (tgt := 12) rfl (fun hc => absurd (rfl) hc) (fun _ => ?_)
  exact hthr
set_option maxHeartbeats 4000000 in
set_option maxRecDepth 100000 in
theorem m_insert0_bad (l : Launch) (D : va_G) (h q : Nat) (cA : ClassId)  (hst : l.stackTraces = false) (n e : Int32) (g : Nat → Int32) (p0 p1 p2 p3 : Int32) (hbad : p0 < 0 ∨ n < p0 ∨ p3 < 1 ∨ 500 < p3) : vx_Met l yX1_insert0 wsX1_insert0 ({ frames := 7, cells := 1, slots := 6, locals := 101 }) (lc_Tx [.ref h, .int p0, .int p1, .int p2, .int p3] D [(h, .inr (1, [.ref q, .int n, .int e])), (q, .inl (cA, 20000, .inl g))] [(cA, .int)] (fun _ => False)) lc_N (lc_X "java/lang/IllegalArgumentException") 1 6 (fun _ => False) := by
  refine vx_ofW (cc := cX1_insert0) (maxL := 6) (ret := (some .int)) (by decide) rfl ?_
  intro p e' s m args below meth c s₁ B hml htab hv
  obtain ⟨rfl, hP, hK, hZ⟩ := hv
  have hx := B.exec
  have hb := B.bytes
  have hr := B.returns
  have hts := atoms_spec (ws := wsX1_insert0) B.pre
  have hown : s.vm.findClass RX1 = some m.cls := findClass_of_methodNamed B.named
  have hlocks := B.notSynchronized
  have hinX1 : ∀ w ∈ u_ws RX1 TX1 3, w ∈ wsX1_insert0 := fun w h => List.mem_cons_of_mem _ (lb_X1 w h)
  have hl := lv_entry ([.ref h, .int p0, .int p1, .int p2, .int p3]) (n := 6) (Nat.le_of_ble_eq_true rfl)
  rw [lg_entry_eq]
  generalize (lg_sl ([.ref h, .int p0, .int p1, .int p2, .int p3]) ++ List.replicate (6 - (lg_sl ([.ref h, .int p0, .int p1, .int p2, .int p3])).length) Slot.unset).toArray = ls at hl ⊢
  have hl : lv_has ls 6 [(0, .ref h), (1, .int p0), (2, .int p1), (3, .int p2), (4, .int p3)] := hl
  have h30 : W p l e' (headSpec wsX1_insert0 ({ frames := 7, cells := 1, slots := 6, locals := 101 })).room s m ([.ref h, .int p0, .int p1, .int p2, .int p3] : List Value).toArray below meth c s.heap [] 0 0 (vx_MQ below lc_N (lc_X "java/lang/IllegalArgumentException") ([.ref h, .int p0, .int p1, .int p2, .int p3] : List Value).toArray s 1 6 (fun _ => False)) (F0 m 30 ls []) := by
    refine lv_iconst (v := 0) hx hb dX1_insert0_30 (by decide) ?_
    refine lc_callX (vx_runS (As := [.int 0]) (rest := []) ⟨hx, hb, hml, hown, hts⟩ (m_check_bad l D hst) (cwS 1 hts gX1_insert0_X1_check rfl rfl rfl (by decide +kernel) ⟨Nat.le_of_ble_eq_true rfl, Nat.le_of_ble_eq_true rfl⟩) (lc_TxS (hP.sub (ws' := []) [] rfl) (hK.sub (tys' := []) [] rfl) hZ) rfl rfl hl.1 rfl (lv_room (Nat.le_of_ble_eq_true rfl)) dX1_insert0_31 ⟨Nat.le_refl _, Nat.le_refl _⟩) (fun ce q9 H1 hz hk hce hcv hcl => ?_)
    exact vx_out (fun x hx => (htab x hx).elim) hlocks hce hcv hcl (fun t ht _ => ⟨rfl, by rw [ht]; exact hz, fun q h1 _ => by rw [ht]; exact hk q h1⟩) (fun _ h => nomatch h) (Nat.le_refl _) (Nat.le_refl _)
  refine lv_iload_n hx hb dX1_insert0_0 rfl (lv_at hl 1 rfl) ?_
  refine lv_if_lt hx hb dX1_insert0_1 (tgt := 30) rfl (fun h1 => ?_) (fun h1 => ?_)
  · exact h30
  · refine lv_iload_n hx hb dX1_insert0_4 rfl (lv_at hl 1 rfl) ?_
    refine lv_aload_n hx hb dX1_insert0_5 rfl (lv_at hl 0 rfl) ?_
    refine va_get (D := D) (ci := 1) (v := .int n) (C := RX1) (T := TX1) (N := 3) hx hb hts hinX1 hown hK hP 0 rfl rfl 1 (by decide) (hts _ (List.mem_cons_of_mem _ lb_237)) (fun _ h9 => h9) rfl dX1_insert0_6 ?_
    refine lv_icmp_gt hx hb dX1_insert0_9 (tgt := 30) rfl (fun h2 => ?_) (fun h2 => ?_)
    · exact h30
    · refine lv_iload hx hb dX1_insert0_12 (lv_at hl 4 rfl) ?_
      refine lv_iconst (v := 1) hx hb dX1_insert0_14 (by decide) ?_
      refine lv_icmp_lt hx hb dX1_insert0_15 (tgt := 30) rfl (fun h3 => ?_) (fun h3 => ?_)
      · exact h30
      · refine lv_iload hx hb dX1_insert0_18 (lv_at hl 4 rfl) ?_
        refine lv_sipush (v := 500) hx hb dX1_insert0_20 (by decide) ?_
        refine lv_icmp_gt hx hb dX1_insert0_23 (tgt := 30) rfl (fun _ => ?_) (fun hc => absurd (hbad.elim (fun h => absurd h h1) (fun hb9 => hb9.elim (fun h => absurd h h2) (fun hb8 => hb8.elim (fun h => absurd h h3) (fun hb7 => hb7)))) hc)
        exact h30
set_option maxHeartbeats 4000000 in
set_option maxRecDepth 100000 in
theorem m_insert0_full (l : Launch) (D : va_G) (h q : Nat) (cA : ClassId)  (hst : l.stackTraces = false) (e : Int32) (c0 : Nat) (g : Nat → Int32) (i0 k0 : Nat) (p1 p2 : Int32) (hc0 : c0 ≤ 20000) (hi0 : i0 ≤ c0) (hk0 : 1 ≤ k0) (hk5 : k0 ≤ 500) (hfull : 20000 < c0 + k0) : vx_Met l yX1_insert0 wsX1_insert0 ({ frames := 7, cells := 1, slots := 6, locals := 101 }) (lc_Tx [.ref h, .int (nI i0), .int p1, .int p2, .int (nI k0)] D [(h, .inr (1, [.ref q, .int (nI c0), .int e])), (q, .inl (cA, 20000, .inl g))] [(cA, .int)] (fun _ => False)) lc_N (lc_X "java/lang/IllegalStateException") 1 6 (fun _ => False) := by
  refine vx_ofW (cc := cX1_insert0) (maxL := 6) (ret := (some .int)) (by decide) rfl ?_
  intro p e' s m args below meth c s₁ B hml htab hv
  obtain ⟨rfl, hP, hK, hZ⟩ := hv
  have hx := B.exec
  have hb := B.bytes
  have hr := B.returns
  have hts := atoms_spec (ws := wsX1_insert0) B.pre
  have hown : s.vm.findClass RX1 = some m.cls := findClass_of_methodNamed B.named
  have hlocks := B.notSynchronized
  have hinX1 : ∀ w ∈ u_ws RX1 TX1 3, w ∈ wsX1_insert0 := fun w h => List.mem_cons_of_mem _ (lb_X1 w h)
  have hl := lv_entry ([.ref h, .int (nI i0), .int p1, .int p2, .int (nI k0)]) (n := 6) (Nat.le_of_ble_eq_true rfl)
  rw [lg_entry_eq]
  generalize (lg_sl ([.ref h, .int (nI i0), .int p1, .int p2, .int (nI k0)]) ++ List.replicate (6 - (lg_sl ([.ref h, .int (nI i0), .int p1, .int p2, .int (nI k0)])).length) Slot.unset).toArray = ls at hl ⊢
  have hl : lv_has ls 6 [(0, .ref h), (1, .int (nI i0)), (2, .int p1), (3, .int p2), (4, .int (nI k0))] := hl
  have hat : ∀ w ∈ vx_at0 RX1 26 "java/lang/IllegalStateException" ["java/lang/RuntimeException", "java/lang/Exception"], w.before ([.ref h, .int (nI i0), .int p1, .int p2, .int (nI k0)] : List Value).toArray s = true := vx_hat (fun w hw => hts w (List.mem_cons_of_mem _ (lb_at_X1_26 w hw))) (B := lc_Nws) (by decide +kernel) (lc_nws hZ.2.2)
  have hthr : W p l e' (headSpec wsX1_insert0 ({ frames := 7, cells := 1, slots := 6, locals := 101 })).room s m ([.ref h, .int (nI i0), .int p1, .int p2, .int (nI k0)] : List Value).toArray below meth c s.heap [] 0 0 (vx_MQ below lc_N (lc_X "java/lang/IllegalStateException") ([.ref h, .int (nI i0), .int p1, .int p2, .int (nI k0)] : List Value).toArray s 1 6 (fun _ => False)) (F0 m 47 ls []) := vx_throw0 hx hb hst hown (by decide +kernel) (by decide +kernel) (hts _ (List.mem_cons_of_mem _ lb_255)) (hts _ (List.mem_cons_of_mem _ lb_22)) hat (by decide +kernel) hZ.1 hZ.2.1 va_S.rf (hl.1.trans hml.symm) dX1_insert0_47 dX1_insert0_50 dX1_insert0_51 dX1_insert0_54 (fun x hx => (htab x hx).elim) (Nat.le_of_ble_eq_true rfl) (Nat.le_of_ble_eq_true rfl) (Nat.le_refl _) (Nat.le_refl _) hlocks (fun t _ hz hk => ⟨rfl, hz, fun q h1 _ => hk q h1⟩) (fun _ h => nomatch h) (Nat.le_refl _) (Nat.le_refl _)
  refine lv_iload_n hx hb dX1_insert0_0 rfl (lv_at hl 1 rfl) ?_
  refine lv_if_lt hx hb dX1_insert0_1 (tgt := 30) rfl (fun hc => absurd hc (nI_pos (by omega))) (fun _ => ?_)
  refine lv_iload_n hx hb dX1_insert0_4 rfl (lv_at hl 1 rfl) ?_
  refine lv_aload_n hx hb dX1_insert0_5 rfl (lv_at hl 0 rfl) ?_
  refine va_get (D := D) (ci := 1) (v := .int (nI c0)) (C := RX1) (T := TX1) (N := 3) hx hb hts hinX1 hown hK hP 0 rfl rfl 1 (by decide) (hts _ (List.mem_cons_of_mem _ lb_237)) (fun _ h9 => h9) rfl dX1_insert0_6 ?_
  refine lv_icmp_gt hx hb dX1_insert0_9 (tgt := 30) rfl (fun hc => absurd hc (nI_nlt hi0 (by omega))) (fun _ => ?_)
  refine lv_iload hx hb dX1_insert0_12 (lv_at hl 4 rfl) ?_
  refine lv_iconst (v := 1) hx hb dX1_insert0_14 (by decide) ?_
  refine lv_icmp_lt hx hb dX1_insert0_15 (tgt := 30) rfl (fun hc => absurd hc (nI_nlt (b := 1) hk0 (by omega))) (fun _ => ?_)
  refine lv_iload hx hb dX1_insert0_18 (lv_at hl 4 rfl) ?_
  refine lv_sipush (v := 500) hx hb dX1_insert0_20 (by decide) ?_
  refine lv_icmp_gt hx hb dX1_insert0_23 (tgt := 30) rfl (fun hc => absurd hc (nI_nlt (a := 500) hk5 (by omega))) (fun _ => ?_)
  refine lv_iconst (v := 1) hx hb dX1_insert0_26 (by decide) ?_
  refine lv_goto hx hb dX1_insert0_27 (tgt := 31) rfl ?_
  refine lc_callV (W.runS (As := [.int 1]) (rest := []) ⟨hx, hb, hml, hown, hts⟩ (m_check l D) (cwS 1 hts gX1_insert0_X1_check rfl rfl rfl (by decide +kernel) ⟨Nat.le_of_ble_eq_true rfl, Nat.le_of_ble_eq_true rfl⟩) (lc_RdS (hP.sub (ws' := []) [] rfl) (hK.sub (tys' := []) [] rfl)) rfl rfl hl.1 rfl (lv_room (Nat.le_of_ble_eq_true rfl)) dX1_insert0_31 ⟨Nat.zero_le _, Nat.zero_le _⟩) ?_
  refine lv_aload_n hx hb dX1_insert0_34 rfl (lv_at hl 0 rfl) ?_
  refine va_get (D := D) (ci := 1) (v := .int (nI c0)) (C := RX1) (T := TX1) (N := 3) hx hb hts hinX1 hown hK hP 0 rfl rfl 1 (by decide) (hts _ (List.mem_cons_of_mem _ lb_237)) (fun _ h9 => h9) rfl dX1_insert0_35 ?_
  refine lv_iload hx hb dX1_insert0_38 (lv_at hl 4 rfl) ?_
  refine lv_iadd hx hb dX1_insert0_40 ?_
  refine lc_top (y := nI (c0 + k0)) (nI_add c0 k0) ?_
  refine lv_sipush (v := 20000) hx hb dX1_insert0_41 (by decide) ?_
  refine lv_icmp_le hx hb dX1_insert0_44 (tgt := 55) rfl (fun hc => absurd hc (nI_ge (a := 20000) hfull (by omega))) (fun _ => ?_)
  exact hthr
set_option maxHeartbeats 4000000 in
set_option maxRecDepth 100000 in
theorem m_insert0 (l : Launch) (D : va_G) (h q : Nat) (cA : ClassId) (sz : Nat) (e : Int32) (c0 : Nat) (g : Nat → Int32) (i0 k0 : Nat) (v0 s0 : Int32) (hi0 : i0 ≤ c0) (hk0 : 1 ≤ k0) (hk5 : k0 ≤ 500) (hfit : c0 + k0 ≤ 20000) : Met l yX1_insert0 wsX1_insert0 ({ frames := 7, cells := 0, slots := 0, locals := 101 }) (lc_Wr [.ref h, .int (nI i0), .int v0, .int s0, .int (nI k0)] D [(h, .inr (1, [.ref q, .int (nI c0), .int e])), (q, .inl (cA, 20000, .inl g))] [(cA, .int)] sz) (lc_QW (S := (Nat → Int32)) D (va_A [(h, .inr (1, [.ref q, .int (nI c0), .int e])), (q, .inl (cA, 20000, .inl g))] sz) (fun u => some (.int (nI (c0 + k0)))) (fun u => [(h, .inr (1, [.ref q, .int (nI (c0 + k0)), .int e])), (q, .inl (cA, 20000, .inl u))]) (fun u => [(cA, .int)]) (fun u => ∀ j, j < c0 + k0 → u j = lc_ins g i0 v0 s0 k0 j)) 0 0 (va_A [(h, .inr (1, [.ref q, .int (nI c0), .int e])), (q, .inl (cA, 20000, .inl g))] sz) := by
  refine Met.ofW (cc := cX1_insert0) (maxL := 6) (ret := (some .int)) (by decide) rfl ?_
  intro p e' s m args below meth c s₁ B hml hv
  obtain ⟨rfl, hsz, hP, hK, hD0⟩ := hv
  have hx := B.exec
  have hb := B.bytes
  have hr := B.returns
  have hts := atoms_spec (ws := wsX1_insert0) B.pre
  have hown : s.vm.findClass RX1 = some m.cls := findClass_of_methodNamed B.named
  have hlocks := B.notSynchronized
  have hinX1 : ∀ w ∈ u_ws RX1 TX1 3, w ∈ wsX1_insert0 := fun w h => List.mem_cons_of_mem _ (lb_X1 w h)
  subst hsz
  have hD := hD0.self (sz := s.heap.size)
  generalize hAe : va_A [(h, .inr (1, [.ref q, .int (nI c0), .int e])), (q, .inl (cA, 20000, .inl g))] s.heap.size = A at hD ⊢
  have hA : ∀ q : Nat, s.heap.size ≤ q → A q := fun q h => by rw [← hAe]; exact Or.inr h
  have hS : va_S A s.heap s.heap [] := va_S.rf
  have hP : va_P D vwCl [(h, .inr (1, [.ref q, .int (nI c0), .int e])), (q, .inl (cA, 20000, .inl g))] s.heap := hP
  skip
  have hl := lv_entry ([.ref h, .int (nI i0), .int v0, .int s0, .int (nI k0)]) (n := 6) (Nat.le_of_ble_eq_true rfl)
  rw [lg_entry_eq]
  generalize (lg_sl ([.ref h, .int (nI i0), .int v0, .int s0, .int (nI k0)]) ++ List.replicate (6 - (lg_sl ([.ref h, .int (nI i0), .int v0, .int s0, .int (nI k0)])).length) Slot.unset).toArray = ls at hl ⊢
  have hl : lv_has ls 6 [(0, .ref h), (1, .int (nI i0)), (2, .int v0), (3, .int s0), (4, .int (nI k0))] := hl
  have loop2 : ∀ (k i : Nat) (f f1 : Nat → Int32) (H : Heap) (locs : List Loc) (ls : Array Slot), i + k = k0 → (∀ j, f1 j = if i0 + k0 ≤ j ∧ j < c0 + k0 then g (j - k0) else g j) → (∀ j, f j = if i0 ≤ j ∧ j < i0 + i then v0 + nI (j - i0) * s0 else f1 j) → va_P D vwCl [(h, .inr (1, [.ref q, .int (nI c0), .int e])), (q, .inl (cA, 20000, .inl f))] H → va_D A [(h, .inr (1, [.ref q, .int (nI c0), .int e])), (q, .inl (cA, 20000, .inl f))] → va_S A s.heap H locs → lv_has ls 6 [(5, .int (nI i)), (0, .ref h), (1, .int (nI i0)), (2, .int v0), (3, .int s0), (4, .int (nI k0))] → W p l e' (headSpec wsX1_insert0 ({ frames := 7, cells := 0, slots := 0, locals := 101 })).room s m ([.ref h, .int (nI i0), .int v0, .int s0, .int (nI k0)] : List Value).toArray below meth c H locs 0 0 (MQ below (lc_QW (S := (Nat → Int32)) D A (fun u => some (.int (nI (c0 + k0)))) (fun u => [(h, .inr (1, [.ref q, .int (nI (c0 + k0)), .int e])), (q, .inl (cA, 20000, .inl u))]) (fun u => [(cA, .int)]) (fun u => ∀ j, j < c0 + k0 → u j = lc_ins g i0 v0 s0 k0 j)) ([.ref h, .int (nI i0), .int v0, .int s0, .int (nI k0)] : List Value).toArray s 0 0 A) (F0 m 95 ls []) := by
    intro k
    induction k with
    | zero =>
      intro i f f1 H locs ls hi hf1 hf hP hD hS hl
      have hi : i = k0 := by omega
      subst hi
      refine lv_iload hx hb dX1_insert0_95 (lv_at hl 0 rfl) ?_
      refine lv_iload hx hb dX1_insert0_97 (lv_at hl 5 rfl) ?_
      refine lv_icmp_ge hx hb dX1_insert0_99 (tgt := 123) rfl (fun _ => ?_) (fun hc => absurd (nI_le (Nat.le_refl _) (by omega)) hc)
      refine lv_aload_n hx hb dX1_insert0_123 rfl (lv_at hl 1 rfl) ?_
      refine lv_dup hx hb dX1_insert0_124 rfl ?_
      refine va_get (D := D) (ci := 1) (v := .int (nI c0)) (C := RX1) (T := TX1) (N := 3) hx hb hts hinX1 hown hK hP 0 rfl rfl 1 (by decide) (hts _ (List.mem_cons_of_mem _ lb_237)) (fun _ h9 => h9) rfl dX1_insert0_125 ?_
      refine lv_iload hx hb dX1_insert0_128 (lv_at hl 5 rfl) ?_
      refine lv_iadd hx hb dX1_insert0_130 ?_
      refine lc_top (y := nI (c0 + i)) (nI_add c0 i) ?_
      refine va_put (D := D) (ci := 1) (v := .int (nI (c0 + i))) (ty := .int) (C := RX1) (T := TX1) (N := 3) hx hb hts hinX1 tyX1 tyX1_ok nmX1 hown hK hP hD hS 0 rfl rfl 1 (by decide) (hts _ (List.mem_cons_of_mem _ lb_237)) (fun _ h9 => h9) rfl (by decide +kernel) rfl rfl (Nat.le_of_ble_eq_true rfl) dX1_insert0_131 (fun H locs hP hD hS => ?_)
      have hP : va_P D vwCl [(h, .inr (1, [.ref q, .int (nI (c0 + i)), .int e])), (q, .inl (cA, 20000, .inl f))] H := hP
      have hD : va_D A [(h, .inr (1, [.ref q, .int (nI (c0 + i)), .int e])), (q, .inl (cA, 20000, .inl f))] := hD
      refine lv_aload_n hx hb dX1_insert0_134 rfl (lv_at hl 1 rfl) ?_
      refine va_get (D := D) (ci := 1) (v := .int (nI (c0 + i))) (C := RX1) (T := TX1) (N := 3) hx hb hts hinX1 hown hK hP 0 rfl rfl 1 (by decide) (hts _ (List.mem_cons_of_mem _ lb_237)) (fun _ h9 => h9) rfl dX1_insert0_135 ?_
      refine W.widen (k := 0) (n := 0) (Nat.le_refl _) (Nat.le_refl _) ?_
      refine W.iret (v := nI (c0 + i)) hx hb hr (fun t ht hW => ⟨f, rfl, (fun j hj => ?_), by rw [ht]; refine hP, va_K.moved hW.alike hK, hD, hS.F ht⟩) hS.2.2 dX1_insert0_138
      show f j = lc_ins g i0 v0 s0 i j
      rw [hf j, hf1 j]
      unfold lc_ins
      by_cases h1 : j < i0
      · rw [if_pos h1, if_neg (by omega), if_neg (by omega)]
      · rw [if_neg h1]
        by_cases h2 : j < i0 + i
        · rw [if_pos h2, if_pos (by omega)]
        · rw [if_neg h2, if_neg (by omega), if_pos (by omega)]
    | succ k ih =>
      intro i f f1 H locs ls hi hf1 hf hP hD hS hl
      refine lv_iload hx hb dX1_insert0_95 (lv_at hl 0 rfl) ?_
      refine lv_iload hx hb dX1_insert0_97 (lv_at hl 5 rfl) ?_
      refine lv_icmp_ge hx hb dX1_insert0_99 (tgt := 123) rfl (fun hc => absurd hc (nI_ge (show i < k0 by omega) (by omega))) (fun _ => ?_)
      refine lv_aload_n hx hb dX1_insert0_102 rfl (lv_at hl 1 rfl) ?_
      refine va_get (D := D) (ci := 1) (v := .ref q) (C := RX1) (T := TX1) (N := 3) hx hb hts hinX1 hown hK hP 0 rfl rfl 0 (by decide) (hts _ (List.mem_cons_of_mem _ lb_236)) (fun _ h9 => h9) rfl dX1_insert0_103 ?_
      refine lv_iload_n hx hb dX1_insert0_106 rfl (lv_at hl 2 rfl) ?_
      refine lv_iload hx hb dX1_insert0_107 (lv_at hl 0 rfl) ?_
      refine lv_iadd hx hb dX1_insert0_109 ?_
      refine lc_top (y := nI (i0 + i)) (nI_add i0 i) ?_
      refine lv_iload_n hx hb dX1_insert0_110 rfl (lv_at hl 3 rfl) ?_
      refine lv_iload hx hb dX1_insert0_111 (lv_at hl 0 rfl) ?_
      refine lv_iload_n hx hb dX1_insert0_113 rfl (lv_at hl 4 rfl) ?_
      refine lv_imul hx hb dX1_insert0_114 ?_
      refine lv_iadd hx hb dX1_insert0_115 ?_
      refine va_iast (D := D) hx hb hK hP hD hS 1 0 rfl rfl (vp_in_nI (show i0 + i < 20000 by omega) (by omega)) dX1_insert0_116 (fun H locs hP hD hS => ?_)
      rw [show (nI (i0 + i)).toNatClampNeg = i0 + i from nI_clamp (by omega)] at hP hD
      have hP : va_P D vwCl [(h, .inr (1, [.ref q, .int (nI c0), .int e])), (q, .inl (cA, 20000, .inl (upd f (i0 + i) (v0 + ((nI i) * s0)))))] H := hP
      have hD : va_D A [(h, .inr (1, [.ref q, .int (nI c0), .int e])), (q, .inl (cA, 20000, .inl (upd f (i0 + i) (v0 + ((nI i) * s0)))))] := hD
      refine lv_iinc (k := 0) (v := nI (i + 1)) hx hb dX1_insert0_117 hl rfl (nI_1 i) (by decide) rfl (fun ls hl => ?_)
      have hl : lv_has ls 6 [(5, .int (nI (i + 1))), (0, .ref h), (1, .int (nI i0)), (2, .int v0), (3, .int s0), (4, .int (nI k0))] := hl
      refine lv_goto hx hb dX1_insert0_120 (tgt := 95) rfl ?_
      have hl : lv_has ls 6 [(5, .int (nI (i + 1))), (0, .ref h), (1, .int (nI i0)), (2, .int v0), (3, .int s0), (4, .int (nI k0))] := lv_sub hl [0, 1, 2, 3, 4, 5] rfl
      refine ih (i + 1) _ f1 H locs ls (by omega) hf1 (fun j => ?_) hP hD hS hl
      by_cases hj : j = i0 + i
      · subst hj; rw [pk_us, if_pos (by omega), show i0 + i - i0 = i by omega]
      · rw [pk_un hj, hf j]
        by_cases h2 : i0 ≤ j ∧ j < i0 + i
        · rw [if_pos h2, if_pos (by omega)]
        · rw [if_neg h2, if_neg (by omega)]
  have loop1 : ∀ (k : Nat) (f : Nat → Int32) (H : Heap) (locs : List Loc) (ls : Array Slot), i0 + k ≤ c0 → (∀ j, f j = if i0 + k + k0 ≤ j ∧ j < c0 + k0 then g (j - k0) else g j) → va_P D vwCl [(h, .inr (1, [.ref q, .int (nI c0), .int e])), (q, .inl (cA, 20000, .inl f))] H → va_D A [(h, .inr (1, [.ref q, .int (nI c0), .int e])), (q, .inl (cA, 20000, .inl f))] → va_S A s.heap H locs → lv_has ls 6 [(5, .int (nI (i0 + k) - 1)), (0, .ref h), (1, .int (nI i0)), (2, .int v0), (3, .int s0), (4, .int (nI k0))] → W p l e' (headSpec wsX1_insert0 ({ frames := 7, cells := 0, slots := 0, locals := 101 })).room s m ([.ref h, .int (nI i0), .int v0, .int s0, .int (nI k0)] : List Value).toArray below meth c H locs 0 0 (MQ below (lc_QW (S := (Nat → Int32)) D A (fun u => some (.int (nI (c0 + k0)))) (fun u => [(h, .inr (1, [.ref q, .int (nI (c0 + k0)), .int e])), (q, .inl (cA, 20000, .inl u))]) (fun u => [(cA, .int)]) (fun u => ∀ j, j < c0 + k0 → u j = lc_ins g i0 v0 s0 k0 j)) ([.ref h, .int (nI i0), .int v0, .int s0, .int (nI k0)] : List Value).toArray s 0 0 A) (F0 m 63 ls []) := by
    intro k
    induction k with
    | zero =>
      intro f H locs ls hk hf hP hD hS hl
      refine lv_iload hx hb dX1_insert0_63 (lv_at hl 0 rfl) ?_
      refine lv_iload_n hx hb dX1_insert0_65 rfl (lv_at hl 2 rfl) ?_
      refine lv_icmp_lt hx hb dX1_insert0_66 (tgt := 92) rfl (fun _ => ?_) (fun hc => absurd (lc_pred_lt (by omega)) hc)
      refine lv_iconst (v := 0) hx hb dX1_insert0_92 (by decide) ?_
      refine lv_istore hx hb dX1_insert0_93 hl (by decide) rfl (fun ls hl => ?_)
      have hl : lv_has ls 6 [(5, .int 0), (0, .ref h), (1, .int (nI i0)), (2, .int v0), (3, .int s0), (4, .int (nI k0))] := hl
      have hl : lv_has ls 6 [(5, .int 0), (0, .ref h), (1, .int (nI i0)), (2, .int v0), (3, .int s0), (4, .int (nI k0))] := lv_sub hl [0, 1, 2, 3, 4, 5] rfl
      exact loop2 k0 0 f f H locs ls (by omega) (fun j => hf j) (fun j => by rw [if_neg (by omega)]) hP hD hS hl
    | succ k ih =>
      intro f H locs ls hk hf hP hD hS hl
      have hl : lv_has ls 6 [(5, .int (nI (i0 + k))), (0, .ref h), (1, .int (nI i0)), (2, .int v0), (3, .int s0), (4, .int (nI k0))] := by rw [show nI (i0 + (k + 1)) - 1 = nI (i0 + k) from nI_pred (i0 + k)] at hl; exact hl
      refine lv_iload hx hb dX1_insert0_63 (lv_at hl 0 rfl) ?_
      refine lv_iload_n hx hb dX1_insert0_65 rfl (lv_at hl 2 rfl) ?_
      refine lv_icmp_lt hx hb dX1_insert0_66 (tgt := 92) rfl (fun hc => absurd hc (nI_nlt (show i0 ≤ i0 + k by omega) (by omega))) (fun _ => ?_)
      refine lv_aload_n hx hb dX1_insert0_69 rfl (lv_at hl 1 rfl) ?_
      refine va_get (D := D) (ci := 1) (v := .ref q) (C := RX1) (T := TX1) (N := 3) hx hb hts hinX1 hown hK hP 0 rfl rfl 0 (by decide) (hts _ (List.mem_cons_of_mem _ lb_236)) (fun _ h9 => h9) rfl dX1_insert0_70 ?_
      refine lv_iload hx hb dX1_insert0_73 (lv_at hl 0 rfl) ?_
      refine lv_iload hx hb dX1_insert0_75 (lv_at hl 5 rfl) ?_
      refine lv_iadd hx hb dX1_insert0_77 ?_
      refine lc_top (y := nI (i0 + k + k0)) (nI_add _ _) ?_
      refine lv_aload_n hx hb dX1_insert0_78 rfl (lv_at hl 1 rfl) ?_
      refine va_get (D := D) (ci := 1) (v := .ref q) (C := RX1) (T := TX1) (N := 3) hx hb hts hinX1 hown hK hP 0 rfl rfl 0 (by decide) (hts _ (List.mem_cons_of_mem _ lb_236)) (fun _ h9 => h9) rfl dX1_insert0_79 ?_
      refine lv_iload hx hb dX1_insert0_82 (lv_at hl 0 rfl) ?_
      refine va_iald (D := D) hx hb hK hP 1 0 rfl rfl (vp_in_nI (show i0 + k < 20000 by omega) (by omega)) dX1_insert0_84 ?_
      refine lc_top (y := f (i0 + k)) (congrArg _ (nI_clamp (by omega))) ?_
      refine va_iast (D := D) hx hb hK hP hD hS 1 0 rfl rfl (vp_in_nI (show i0 + k + k0 < 20000 by omega) (by omega)) dX1_insert0_85 (fun H locs hP hD hS => ?_)
      rw [show (nI (i0 + k + k0)).toNatClampNeg = i0 + k + k0 from nI_clamp (by omega)] at hP hD
      have hP : va_P D vwCl [(h, .inr (1, [.ref q, .int (nI c0), .int e])), (q, .inl (cA, 20000, .inl (upd f (i0 + k + k0) (f (i0 + k)))))] H := hP
      have hD : va_D A [(h, .inr (1, [.ref q, .int (nI c0), .int e])), (q, .inl (cA, 20000, .inl (upd f (i0 + k + k0) (f (i0 + k)))))] := hD
      refine lv_iinc (k := 0) (v := nI (i0 + k) - 1) hx hb dX1_insert0_86 hl rfl (lc_dec _) (by decide) rfl (fun ls hl => ?_)
      have hl : lv_has ls 6 [(5, .int (nI (i0 + k) - 1)), (0, .ref h), (1, .int (nI i0)), (2, .int v0), (3, .int s0), (4, .int (nI k0))] := hl
      refine lv_goto hx hb dX1_insert0_89 (tgt := 63) rfl ?_
      have hl : lv_has ls 6 [(5, .int (nI (i0 + k) - 1)), (0, .ref h), (1, .int (nI i0)), (2, .int v0), (3, .int s0), (4, .int (nI k0))] := lv_sub hl [0, 1, 2, 3, 4, 5] rfl
      refine ih _ H locs ls (by omega) (fun j => ?_) hP hD hS hl
      by_cases hj : j = i0 + k + k0
      · subst hj; rw [pk_us, hf (i0 + k), if_neg (by omega), if_pos (by omega)]; congr 1; omega
      · rw [pk_un hj, hf j]
        by_cases h2 : i0 + (k + 1) + k0 ≤ j ∧ j < c0 + k0
        · rw [if_pos h2, if_pos (by omega)]
        · rw [if_neg h2, if_neg (by omega)]
  refine lv_iload_n hx hb dX1_insert0_0 rfl (lv_at hl 1 rfl) ?_
  refine lv_if_lt hx hb dX1_insert0_1 (tgt := 30) rfl (fun hc => absurd hc (nI_pos (by omega))) (fun _ => ?_)
  refine lv_iload_n hx hb dX1_insert0_4 rfl (lv_at hl 1 rfl) ?_
  refine lv_aload_n hx hb dX1_insert0_5 rfl (lv_at hl 0 rfl) ?_
  refine va_get (D := D) (ci := 1) (v := .int (nI c0)) (C := RX1) (T := TX1) (N := 3) hx hb hts hinX1 hown hK hP 0 rfl rfl 1 (by decide) (hts _ (List.mem_cons_of_mem _ lb_237)) (fun _ h9 => h9) rfl dX1_insert0_6 ?_
  refine lv_icmp_gt hx hb dX1_insert0_9 (tgt := 30) rfl (fun hc => absurd hc (nI_nlt hi0 (by omega))) (fun _ => ?_)
  refine lv_iload hx hb dX1_insert0_12 (lv_at hl 4 rfl) ?_
  refine lv_iconst (v := 1) hx hb dX1_insert0_14 (by decide) ?_
  refine lv_icmp_lt hx hb dX1_insert0_15 (tgt := 30) rfl (fun hc => absurd hc (nI_nlt (b := 1) hk0 (by omega))) (fun _ => ?_)
  refine lv_iload hx hb dX1_insert0_18 (lv_at hl 4 rfl) ?_
  refine lv_sipush (v := 500) hx hb dX1_insert0_20 (by decide) ?_
  refine lv_icmp_gt hx hb dX1_insert0_23 (tgt := 30) rfl (fun hc => absurd hc (nI_nlt (a := 500) hk5 (by omega))) (fun _ => ?_)
  refine lv_iconst (v := 1) hx hb dX1_insert0_26 (by decide) ?_
  refine lv_goto hx hb dX1_insert0_27 (tgt := 31) rfl ?_
  refine lc_callV (W.runS (As := [.int 1]) (rest := []) ⟨hx, hb, hml, hown, hts⟩ (m_check l D) (cwS 1 hts gX1_insert0_X1_check rfl rfl rfl (by decide +kernel) ⟨Nat.le_of_ble_eq_true rfl, Nat.le_of_ble_eq_true rfl⟩) (lc_RdS (hP.sub (ws' := []) [] rfl) (hK.sub (tys' := []) [] rfl)) rfl rfl hl.1 rfl (lv_room (Nat.le_of_ble_eq_true rfl)) dX1_insert0_31 ⟨Nat.zero_le _, Nat.zero_le _⟩) ?_
  refine lv_aload_n hx hb dX1_insert0_34 rfl (lv_at hl 0 rfl) ?_
  refine va_get (D := D) (ci := 1) (v := .int (nI c0)) (C := RX1) (T := TX1) (N := 3) hx hb hts hinX1 hown hK hP 0 rfl rfl 1 (by decide) (hts _ (List.mem_cons_of_mem _ lb_237)) (fun _ h9 => h9) rfl dX1_insert0_35 ?_
  refine lv_iload hx hb dX1_insert0_38 (lv_at hl 4 rfl) ?_
  refine lv_iadd hx hb dX1_insert0_40 ?_
  refine lc_top (y := nI (c0 + k0)) (nI_add c0 k0) ?_
  refine lv_sipush (v := 20000) hx hb dX1_insert0_41 (by decide) ?_
  refine lv_icmp_le hx hb dX1_insert0_44 (tgt := 55) rfl (fun _ => ?_) (fun hc => absurd (nI_le (b := 20000) hfit (by omega)) hc)
  refine lv_aload_n hx hb dX1_insert0_55 rfl (lv_at hl 0 rfl) ?_
  refine va_get (D := D) (ci := 1) (v := .int (nI c0)) (C := RX1) (T := TX1) (N := 3) hx hb hts hinX1 hown hK hP 0 rfl rfl 1 (by decide) (hts _ (List.mem_cons_of_mem _ lb_237)) (fun _ h9 => h9) rfl dX1_insert0_56 ?_
  refine lv_iconst (v := 1) hx hb dX1_insert0_59 (by decide) ?_
  refine lv_isub hx hb dX1_insert0_60 ?_
  refine lv_istore hx hb dX1_insert0_61 hl (by decide) rfl (fun ls hl => ?_)
  have hl : lv_has ls 6 [(5, .int ((nI c0) - 1)), (0, .ref h), (1, .int (nI i0)), (2, .int v0), (3, .int s0), (4, .int (nI k0))] := hl
  have hl : lv_has ls 6 [(5, .int ((nI c0) - 1)), (0, .ref h), (1, .int (nI i0)), (2, .int v0), (3, .int s0), (4, .int (nI k0))] := lv_sub hl [0, 1, 2, 3, 4, 5] rfl
  refine loop1 (c0 - i0) g s.heap [] ls (by omega) (fun j => by rw [if_neg (by omega)]) hP hD hS ?_
  rw [show i0 + (c0 - i0) = c0 by omega]
  exact hl
set_option maxHeartbeats 4000000 in
set_option maxRecDepth 100000 in
theorem m_delete0_bad (l : Launch) (D : va_G) (h q : Nat) (cA : ClassId)  (hst : l.stackTraces = false) (n e : Int32) (g : Nat → Int32) (p0 p1 : Int32) (hbad : p0 < 0 ∨ p1 < 1 ∨ n < p1 ∨ n - p1 < p0) : vx_Met l yX1_delete0 wsX1_delete0 ({ frames := 7, cells := 1, slots := 6, locals := 101 }) (lc_Tx [.ref h, .int p0, .int p1] D [(h, .inr (1, [.ref q, .int n, .int e])), (q, .inl (cA, 20000, .inl g))] [(cA, .int)] (fun _ => False)) lc_N (lc_X "java/lang/IllegalArgumentException") 1 6 (fun _ => False) := by
  refine vx_ofW (cc := cX1_delete0) (maxL := 4) (ret := (some .int)) (by decide) rfl ?_
  intro p e' s m args below meth c s₁ B hml htab hv
  obtain ⟨rfl, hP, hK, hZ⟩ := hv
  have hx := B.exec
  have hb := B.bytes
  have hr := B.returns
  have hts := atoms_spec (ws := wsX1_delete0) B.pre
  have hown : s.vm.findClass RX1 = some m.cls := findClass_of_methodNamed B.named
  have hlocks := B.notSynchronized
  have hinX1 : ∀ w ∈ u_ws RX1 TX1 3, w ∈ wsX1_delete0 := fun w h => List.mem_cons_of_mem _ (lb_X1 w h)
  have hl := lv_entry ([.ref h, .int p0, .int p1]) (n := 4) (Nat.le_of_ble_eq_true rfl)
  rw [lg_entry_eq]
  generalize (lg_sl ([.ref h, .int p0, .int p1]) ++ List.replicate (4 - (lg_sl ([.ref h, .int p0, .int p1])).length) Slot.unset).toArray = ls at hl ⊢
  have hl : lv_has ls 4 [(0, .ref h), (1, .int p0), (2, .int p1)] := hl
  have h30 : W p l e' (headSpec wsX1_delete0 ({ frames := 7, cells := 1, slots := 6, locals := 101 })).room s m ([.ref h, .int p0, .int p1] : List Value).toArray below meth c s.heap [] 0 0 (vx_MQ below lc_N (lc_X "java/lang/IllegalArgumentException") ([.ref h, .int p0, .int p1] : List Value).toArray s 1 6 (fun _ => False)) (F0 m 31 ls []) := by
    refine lv_iconst (v := 0) hx hb dX1_delete0_31 (by decide) ?_
    refine lc_callX (vx_runS (As := [.int 0]) (rest := []) ⟨hx, hb, hml, hown, hts⟩ (m_check_bad l D hst) (cwS 1 hts gX1_delete0_X1_check rfl rfl rfl (by decide +kernel) ⟨Nat.le_of_ble_eq_true rfl, Nat.le_of_ble_eq_true rfl⟩) (lc_TxS (hP.sub (ws' := []) [] rfl) (hK.sub (tys' := []) [] rfl) hZ) rfl rfl hl.1 rfl (lv_room (Nat.le_of_ble_eq_true rfl)) dX1_delete0_32 ⟨Nat.le_refl _, Nat.le_refl _⟩) (fun ce q9 H1 hz hk hce hcv hcl => ?_)
    exact vx_out (fun x hx => (htab x hx).elim) hlocks hce hcv hcl (fun t ht _ => ⟨rfl, by rw [ht]; exact hz, fun q h1 _ => by rw [ht]; exact hk q h1⟩) (fun _ h => nomatch h) (Nat.le_refl _) (Nat.le_refl _)
  refine lv_iload_n hx hb dX1_delete0_0 rfl (lv_at hl 1 rfl) ?_
  refine lv_if_lt hx hb dX1_delete0_1 (tgt := 31) rfl (fun h1 => ?_) (fun h1 => ?_)
  · exact h30
  · refine lv_iload_n hx hb dX1_delete0_4 rfl (lv_at hl 2 rfl) ?_
    refine lv_iconst (v := 1) hx hb dX1_delete0_5 (by decide) ?_
    refine lv_icmp_lt hx hb dX1_delete0_6 (tgt := 31) rfl (fun h2 => ?_) (fun h2 => ?_)
    · exact h30
    · refine lv_iload_n hx hb dX1_delete0_9 rfl (lv_at hl 2 rfl) ?_
      refine lv_aload_n hx hb dX1_delete0_10 rfl (lv_at hl 0 rfl) ?_
      refine va_get (D := D) (ci := 1) (v := .int n) (C := RX1) (T := TX1) (N := 3) hx hb hts hinX1 hown hK hP 0 rfl rfl 1 (by decide) (hts _ (List.mem_cons_of_mem _ lb_237)) (fun _ h9 => h9) rfl dX1_delete0_11 ?_
      refine lv_icmp_gt hx hb dX1_delete0_14 (tgt := 31) rfl (fun h3 => ?_) (fun h3 => ?_)
      · exact h30
      · refine lv_iload_n hx hb dX1_delete0_17 rfl (lv_at hl 1 rfl) ?_
        refine lv_aload_n hx hb dX1_delete0_18 rfl (lv_at hl 0 rfl) ?_
        refine va_get (D := D) (ci := 1) (v := .int n) (C := RX1) (T := TX1) (N := 3) hx hb hts hinX1 hown hK hP 0 rfl rfl 1 (by decide) (hts _ (List.mem_cons_of_mem _ lb_237)) (fun _ h9 => h9) rfl dX1_delete0_19 ?_
        refine lv_iload_n hx hb dX1_delete0_22 rfl (lv_at hl 2 rfl) ?_
        refine lv_isub hx hb dX1_delete0_23 ?_
        refine lv_icmp_gt hx hb dX1_delete0_24 (tgt := 31) rfl (fun _ => ?_) (fun hc => absurd (hbad.elim (fun h => absurd h h1) (fun hb9 => hb9.elim (fun h => absurd h h2) (fun hb8 => hb8.elim (fun h => absurd h h3) (fun hb7 => hb7)))) hc)
        exact h30
set_option maxHeartbeats 4000000 in
set_option maxRecDepth 100000 in
theorem m_delete0 (l : Launch) (D : va_G) (h q : Nat) (cA : ClassId) (sz : Nat) (e : Int32) (c0 : Nat) (g : Nat → Int32) (hc0 : c0 ≤ 20000) (i0 k0 : Nat) (hk0 : 1 ≤ k0) (hik : i0 + k0 ≤ c0) : Met l yX1_delete0 wsX1_delete0 ({ frames := 7, cells := 0, slots := 0, locals := 101 }) (lc_Wr [.ref h, .int (nI i0), .int (nI k0)] D [(h, .inr (1, [.ref q, .int (nI c0), .int e])), (q, .inl (cA, 20000, .inl g))] [(cA, .int)] sz) (lc_QW (S := (Nat → Int32)) D (va_A [(h, .inr (1, [.ref q, .int (nI c0), .int e])), (q, .inl (cA, 20000, .inl g))] sz) (fun u => some (.int (nI (c0 - k0)))) (fun u => [(h, .inr (1, [.ref q, .int (nI (c0 - k0)), .int e])), (q, .inl (cA, 20000, .inl u))]) (fun u => [(cA, .int)]) (fun u => ∀ j, j < c0 - k0 → u j = lc_del g i0 k0 j)) 0 0 (va_A [(h, .inr (1, [.ref q, .int (nI c0), .int e])), (q, .inl (cA, 20000, .inl g))] sz) := by
  refine Met.ofW (cc := cX1_delete0) (maxL := 4) (ret := (some .int)) (by decide) rfl ?_
  intro p e' s m args below meth c s₁ B hml hv
  obtain ⟨rfl, hsz, hP, hK, hD0⟩ := hv
  have hx := B.exec
  have hb := B.bytes
  have hr := B.returns
  have hts := atoms_spec (ws := wsX1_delete0) B.pre
  have hown : s.vm.findClass RX1 = some m.cls := findClass_of_methodNamed B.named
  have hlocks := B.notSynchronized
  have hinX1 : ∀ w ∈ u_ws RX1 TX1 3, w ∈ wsX1_delete0 := fun w h => List.mem_cons_of_mem _ (lb_X1 w h)
  subst hsz
  have hD := hD0.self (sz := s.heap.size)
  generalize hAe : va_A [(h, .inr (1, [.ref q, .int (nI c0), .int e])), (q, .inl (cA, 20000, .inl g))] s.heap.size = A at hD ⊢
  have hA : ∀ q : Nat, s.heap.size ≤ q → A q := fun q h => by rw [← hAe]; exact Or.inr h
  have hS : va_S A s.heap s.heap [] := va_S.rf
  have hP : va_P D vwCl [(h, .inr (1, [.ref q, .int (nI c0), .int e])), (q, .inl (cA, 20000, .inl g))] s.heap := hP
  skip
  have hl := lv_entry ([.ref h, .int (nI i0), .int (nI k0)]) (n := 4) (Nat.le_of_ble_eq_true rfl)
  rw [lg_entry_eq]
  generalize (lg_sl ([.ref h, .int (nI i0), .int (nI k0)]) ++ List.replicate (4 - (lg_sl ([.ref h, .int (nI i0), .int (nI k0)])).length) Slot.unset).toArray = ls at hl ⊢
  have hl : lv_has ls 4 [(0, .ref h), (1, .int (nI i0)), (2, .int (nI k0))] := hl
  have loop : ∀ (k i : Nat) (f : Nat → Int32) (H : Heap) (locs : List Loc) (ls : Array Slot), i0 + k0 + i + k = c0 → (∀ j, f j = if i0 ≤ j ∧ j < i0 + i then g (j + k0) else g j) → va_P D vwCl [(h, .inr (1, [.ref q, .int (nI c0), .int e])), (q, .inl (cA, 20000, .inl f))] H → va_D A [(h, .inr (1, [.ref q, .int (nI c0), .int e])), (q, .inl (cA, 20000, .inl f))] → va_S A s.heap H locs → lv_has ls 4 [(3, .int (nI (i0 + k0 + i))), (0, .ref h), (1, .int (nI i0)), (2, .int (nI k0))] → W p l e' (headSpec wsX1_delete0 ({ frames := 7, cells := 0, slots := 0, locals := 101 })).room s m ([.ref h, .int (nI i0), .int (nI k0)] : List Value).toArray below meth c H locs 0 0 (MQ below (lc_QW (S := (Nat → Int32)) D A (fun u => some (.int (nI (c0 - k0)))) (fun u => [(h, .inr (1, [.ref q, .int (nI (c0 - k0)), .int e])), (q, .inl (cA, 20000, .inl u))]) (fun u => [(cA, .int)]) (fun u => ∀ j, j < c0 - k0 → u j = lc_del g i0 k0 j)) ([.ref h, .int (nI i0), .int (nI k0)] : List Value).toArray s 0 0 A) (F0 m 39 ls []) := by
    intro k
    induction k with
    | zero =>
      intro i f H locs ls hi hf hP hD hS hl
      refine lv_iload_n hx hb dX1_delete0_39 rfl (lv_at hl 0 rfl) ?_
      refine lv_aload_n hx hb dX1_delete0_40 rfl (lv_at hl 1 rfl) ?_
      refine va_get (D := D) (ci := 1) (v := .int (nI c0)) (C := RX1) (T := TX1) (N := 3) hx hb hts hinX1 hown hK hP 0 rfl rfl 1 (by decide) (hts _ (List.mem_cons_of_mem _ lb_237)) (fun _ h9 => h9) rfl dX1_delete0_41 ?_
      refine lv_icmp_ge hx hb dX1_delete0_44 (tgt := 67) rfl (fun _ => ?_) (fun hc => absurd (nI_le (show c0 ≤ i0 + k0 + i by omega) (by omega)) hc)
      refine lv_aload_n hx hb dX1_delete0_67 rfl (lv_at hl 1 rfl) ?_
      refine lv_dup hx hb dX1_delete0_68 rfl ?_
      refine va_get (D := D) (ci := 1) (v := .int (nI c0)) (C := RX1) (T := TX1) (N := 3) hx hb hts hinX1 hown hK hP 0 rfl rfl 1 (by decide) (hts _ (List.mem_cons_of_mem _ lb_237)) (fun _ h9 => h9) rfl dX1_delete0_69 ?_
      refine lv_iload_n hx hb dX1_delete0_72 rfl (lv_at hl 3 rfl) ?_
      refine lv_isub hx hb dX1_delete0_73 ?_
      refine lc_top (y := nI (c0 - k0)) (pk_sub (by omega)) ?_
      refine va_put (D := D) (ci := 1) (v := .int (nI (c0 - k0))) (ty := .int) (C := RX1) (T := TX1) (N := 3) hx hb hts hinX1 tyX1 tyX1_ok nmX1 hown hK hP hD hS 0 rfl rfl 1 (by decide) (hts _ (List.mem_cons_of_mem _ lb_237)) (fun _ h9 => h9) rfl (by decide +kernel) rfl rfl (Nat.le_of_ble_eq_true rfl) dX1_delete0_74 (fun H locs hP hD hS => ?_)
      have hP : va_P D vwCl [(h, .inr (1, [.ref q, .int (nI (c0 - k0)), .int e])), (q, .inl (cA, 20000, .inl f))] H := hP
      have hD : va_D A [(h, .inr (1, [.ref q, .int (nI (c0 - k0)), .int e])), (q, .inl (cA, 20000, .inl f))] := hD
      refine lv_aload_n hx hb dX1_delete0_77 rfl (lv_at hl 1 rfl) ?_
      refine va_get (D := D) (ci := 1) (v := .int (nI (c0 - k0))) (C := RX1) (T := TX1) (N := 3) hx hb hts hinX1 hown hK hP 0 rfl rfl 1 (by decide) (hts _ (List.mem_cons_of_mem _ lb_237)) (fun _ h9 => h9) rfl dX1_delete0_78 ?_
      refine W.iret (v := nI (c0 - k0)) hx hb hr (fun t ht hW => ⟨f, rfl, (fun j hj => ?_), by rw [ht]; refine hP, va_K.moved hW.alike hK, hD, hS.F ht⟩) hS.2.2 dX1_delete0_81
      show f j = lc_del g i0 k0 j
      rw [hf j]
      unfold lc_del
      by_cases h1 : j < i0
      · rw [if_pos h1, if_neg (by omega)]
      · rw [if_neg h1, if_pos (by omega)]
    | succ k ih =>
      intro i f H locs ls hi hf hP hD hS hl
      refine lv_iload_n hx hb dX1_delete0_39 rfl (lv_at hl 0 rfl) ?_
      refine lv_aload_n hx hb dX1_delete0_40 rfl (lv_at hl 1 rfl) ?_
      refine va_get (D := D) (ci := 1) (v := .int (nI c0)) (C := RX1) (T := TX1) (N := 3) hx hb hts hinX1 hown hK hP 0 rfl rfl 1 (by decide) (hts _ (List.mem_cons_of_mem _ lb_237)) (fun _ h9 => h9) rfl dX1_delete0_41 ?_
      refine lv_icmp_ge hx hb dX1_delete0_44 (tgt := 67) rfl (fun hc => absurd hc (nI_ge (show i0 + k0 + i < c0 by omega) (by omega))) (fun _ => ?_)
      refine lv_aload_n hx hb dX1_delete0_47 rfl (lv_at hl 1 rfl) ?_
      refine va_get (D := D) (ci := 1) (v := .ref q) (C := RX1) (T := TX1) (N := 3) hx hb hts hinX1 hown hK hP 0 rfl rfl 0 (by decide) (hts _ (List.mem_cons_of_mem _ lb_236)) (fun _ h9 => h9) rfl dX1_delete0_48 ?_
      refine lv_iload_n hx hb dX1_delete0_51 rfl (lv_at hl 0 rfl) ?_
      refine lv_iload_n hx hb dX1_delete0_52 rfl (lv_at hl 3 rfl) ?_
      refine lv_isub hx hb dX1_delete0_53 ?_
      refine lc_top (y := nI (i0 + i)) ((pk_sub (by omega)).trans (congrArg nI (by omega))) ?_
      refine lv_aload_n hx hb dX1_delete0_54 rfl (lv_at hl 1 rfl) ?_
      refine va_get (D := D) (ci := 1) (v := .ref q) (C := RX1) (T := TX1) (N := 3) hx hb hts hinX1 hown hK hP 0 rfl rfl 0 (by decide) (hts _ (List.mem_cons_of_mem _ lb_236)) (fun _ h9 => h9) rfl dX1_delete0_55 ?_
      refine lv_iload_n hx hb dX1_delete0_58 rfl (lv_at hl 0 rfl) ?_
      refine va_iald (D := D) hx hb hK hP 1 0 rfl rfl (vp_in_nI (show i0 + k0 + i < 20000 by omega) (by omega)) dX1_delete0_59 ?_
      refine lc_top (y := f (i0 + k0 + i)) (congrArg _ (nI_clamp (by omega))) ?_
      refine va_iast (D := D) hx hb hK hP hD hS 1 0 rfl rfl (vp_in_nI (show i0 + i < 20000 by omega) (by omega)) dX1_delete0_60 (fun H locs hP hD hS => ?_)
      rw [show (nI (i0 + i)).toNatClampNeg = i0 + i from nI_clamp (by omega)] at hP hD
      have hP : va_P D vwCl [(h, .inr (1, [.ref q, .int (nI c0), .int e])), (q, .inl (cA, 20000, .inl (upd f (i0 + i) (f (i0 + k0 + i)))))] H := hP
      have hD : va_D A [(h, .inr (1, [.ref q, .int (nI c0), .int e])), (q, .inl (cA, 20000, .inl (upd f (i0 + i) (f (i0 + k0 + i)))))] := hD
      refine lv_iinc (k := 0) (v := nI (i0 + k0 + (i + 1))) hx hb dX1_delete0_61 hl rfl (nI_1 _) (by decide) rfl (fun ls hl => ?_)
      have hl : lv_has ls 4 [(3, .int (nI (i0 + k0 + (i + 1)))), (0, .ref h), (1, .int (nI i0)), (2, .int (nI k0))] := hl
      refine lv_goto hx hb dX1_delete0_64 (tgt := 39) rfl ?_
      have hl : lv_has ls 4 [(3, .int (nI (i0 + k0 + (i + 1)))), (0, .ref h), (1, .int (nI i0)), (2, .int (nI k0))] := lv_sub hl [0, 1, 2, 3] rfl
      refine ih (i + 1) _ H locs ls (by omega) (fun j => ?_) hP hD hS hl
      by_cases hj : j = i0 + i
      · subst hj; rw [pk_us, hf (i0 + k0 + i), if_neg (by omega), if_pos (by omega)]; congr 1; omega
      · rw [pk_un hj, hf j]
        by_cases h2 : i0 ≤ j ∧ j < i0 + i
        · rw [if_pos h2, if_pos (by omega)]
        · rw [if_neg h2, if_neg (by omega)]
  refine lv_iload_n hx hb dX1_delete0_0 rfl (lv_at hl 1 rfl) ?_
  refine lv_if_lt hx hb dX1_delete0_1 (tgt := 31) rfl (fun hc => absurd hc (nI_pos (by omega))) (fun _ => ?_)
  refine lv_iload_n hx hb dX1_delete0_4 rfl (lv_at hl 2 rfl) ?_
  refine lv_iconst (v := 1) hx hb dX1_delete0_5 (by decide) ?_
  refine lv_icmp_lt hx hb dX1_delete0_6 (tgt := 31) rfl (fun hc => absurd hc (nI_nlt (b := 1) hk0 (by omega))) (fun _ => ?_)
  refine lv_iload_n hx hb dX1_delete0_9 rfl (lv_at hl 2 rfl) ?_
  refine lv_aload_n hx hb dX1_delete0_10 rfl (lv_at hl 0 rfl) ?_
  refine va_get (D := D) (ci := 1) (v := .int (nI c0)) (C := RX1) (T := TX1) (N := 3) hx hb hts hinX1 hown hK hP 0 rfl rfl 1 (by decide) (hts _ (List.mem_cons_of_mem _ lb_237)) (fun _ h9 => h9) rfl dX1_delete0_11 ?_
  refine lv_icmp_gt hx hb dX1_delete0_14 (tgt := 31) rfl (fun hc => absurd hc (nI_nlt (show k0 ≤ c0 by omega) (by omega))) (fun _ => ?_)
  refine lv_iload_n hx hb dX1_delete0_17 rfl (lv_at hl 1 rfl) ?_
  refine lv_aload_n hx hb dX1_delete0_18 rfl (lv_at hl 0 rfl) ?_
  refine va_get (D := D) (ci := 1) (v := .int (nI c0)) (C := RX1) (T := TX1) (N := 3) hx hb hts hinX1 hown hK hP 0 rfl rfl 1 (by decide) (hts _ (List.mem_cons_of_mem _ lb_237)) (fun _ h9 => h9) rfl dX1_delete0_19 ?_
  refine lv_iload_n hx hb dX1_delete0_22 rfl (lv_at hl 2 rfl) ?_
  refine lv_isub hx hb dX1_delete0_23 ?_
  refine lc_top (y := nI (c0 - k0)) (pk_sub (by omega)) ?_
  refine lv_icmp_gt hx hb dX1_delete0_24 (tgt := 31) rfl (fun hc => absurd hc (nI_nlt (show i0 ≤ c0 - k0 by omega) (by omega))) (fun _ => ?_)
  refine lv_iconst (v := 1) hx hb dX1_delete0_27 (by decide) ?_
  refine lv_goto hx hb dX1_delete0_28 (tgt := 32) rfl ?_
  refine lc_callV (W.runS (As := [.int 1]) (rest := []) ⟨hx, hb, hml, hown, hts⟩ (m_check l D) (cwS 1 hts gX1_delete0_X1_check rfl rfl rfl (by decide +kernel) ⟨Nat.le_of_ble_eq_true rfl, Nat.le_of_ble_eq_true rfl⟩) (lc_RdS (hP.sub (ws' := []) [] rfl) (hK.sub (tys' := []) [] rfl)) rfl rfl hl.1 rfl (lv_room (Nat.le_of_ble_eq_true rfl)) dX1_delete0_32 ⟨Nat.zero_le _, Nat.zero_le _⟩) ?_
  refine lv_iload_n hx hb dX1_delete0_35 rfl (lv_at hl 1 rfl) ?_
  refine lv_iload_n hx hb dX1_delete0_36 rfl (lv_at hl 2 rfl) ?_
  refine lv_iadd hx hb dX1_delete0_37 ?_
  refine lc_top (y := nI (i0 + k0 + 0)) (nI_add i0 k0) ?_
  refine lv_istore_n hx hb dX1_delete0_38 rfl hl (by decide) rfl (fun ls hl => ?_)
  have hl : lv_has ls 4 [(3, .int (nI (i0 + k0 + 0))), (0, .ref h), (1, .int (nI i0)), (2, .int (nI k0))] := hl
  have hl : lv_has ls 4 [(3, .int (nI (i0 + k0 + 0))), (0, .ref h), (1, .int (nI i0)), (2, .int (nI k0))] := lv_sub hl [0, 1, 2, 3] rfl
  exact loop (c0 - (i0 + k0)) 0 g s.heap [] ls (by omega) (fun j => by rw [if_neg (by omega)]) hP hD hS hl
set_option maxHeartbeats 4000000 in
set_option maxRecDepth 100000 in
theorem m_get0 (l : Launch) (D : va_G) (h q : Nat) (cA : ClassId) (e : Int32) (c0 : Nat) (g : Nat → Int32) (hc0 : c0 ≤ 20000) (i : Nat) (hi : i < c0) : Met l yX1_get0 wsX1_get0 ({ frames := 6, cells := 0, slots := 0, locals := 81 }) (lc_Rd [.ref h, .int (nI i)] D [(h, .inr (1, [.ref q, .int (nI c0), .int e])), (q, .inl (cA, 20000, .inl g))] [(cA, .int)]) (QcRead (g i)) 0 0 (fun _ => False) := by
  refine Met.ofW (cc := cX1_get0) (maxL := 2) (ret := (some .int)) (by decide) rfl ?_
  intro p e' s m args below meth c s₁ B hml hv
  obtain ⟨rfl, hP, hK⟩ := hv
  have hx := B.exec
  have hb := B.bytes
  have hr := B.returns
  have hts := atoms_spec (ws := wsX1_get0) B.pre
  have hown : s.vm.findClass RX1 = some m.cls := findClass_of_methodNamed B.named
  have hlocks := B.notSynchronized
  have hinX1 : ∀ w ∈ u_ws RX1 TX1 3, w ∈ wsX1_get0 := fun w h => List.mem_cons_of_mem _ (lb_X1 w h)
  have hl := lv_entry ([.ref h, .int (nI i)]) (n := 2) (Nat.le_of_ble_eq_true rfl)
  rw [lg_entry_eq]
  generalize (lg_sl ([.ref h, .int (nI i)]) ++ List.replicate (2 - (lg_sl ([.ref h, .int (nI i)])).length) Slot.unset).toArray = ls at hl ⊢
  have hl : lv_has ls 2 [(0, .ref h), (1, .int (nI i))] := hl
  refine lv_iload_n hx hb dX1_get0_0 rfl (lv_at hl 1 rfl) ?_
  refine lv_if_lt hx hb dX1_get0_1 (tgt := 12) rfl (fun hc => absurd hc (nI_pos (by omega))) (fun _ => ?_)
  refine lv_iload_n hx hb dX1_get0_4 rfl (lv_at hl 1 rfl) ?_
  refine lv_aload_n hx hb dX1_get0_5 rfl (lv_at hl 0 rfl) ?_
  refine va_get (D := D) (ci := 1) (v := .int (nI c0)) (C := RX1) (T := TX1) (N := 3) hx hb hts hinX1 hown hK hP 0 rfl rfl 1 (by decide) (hts _ (List.mem_cons_of_mem _ lb_237)) (fun _ h9 => h9) rfl dX1_get0_6 ?_
  refine lv_icmp_lt hx hb dX1_get0_9 (tgt := 20) rfl (fun _ => ?_) (fun hc => absurd (nI_lt hi (by omega)) hc)
  refine lv_aload_n hx hb dX1_get0_20 rfl (lv_at hl 0 rfl) ?_
  refine va_get (D := D) (ci := 1) (v := .ref q) (C := RX1) (T := TX1) (N := 3) hx hb hts hinX1 hown hK hP 0 rfl rfl 0 (by decide) (hts _ (List.mem_cons_of_mem _ lb_236)) (fun _ h9 => h9) rfl dX1_get0_21 ?_
  refine lv_iload_n hx hb dX1_get0_24 rfl (lv_at hl 1 rfl) ?_
  refine va_iald (D := D) hx hb hK hP 1 0 rfl rfl (vp_in_nI (show i < 20000 by omega) (by omega)) dX1_get0_25 ?_
  refine lc_top (y := g i) (congrArg _ (nI_clamp (by omega))) ?_
  exact W.iret (v := g i) hx hb hr (fun t ht _ => ⟨rfl, ht⟩) (fun _ h => nomatch h) dX1_get0_26
set_option maxHeartbeats 4000000 in
set_option maxRecDepth 100000 in
theorem m_get0_bad (l : Launch) (D : va_G) (h q : Nat) (cA : ClassId)  (hst : l.stackTraces = false) (n e : Int32) (g : Nat → Int32) (p0 : Int32) (hbad : p0 < 0 ∨ n ≤ p0) : vx_Met l yX1_get0 wsX1_get0 ({ frames := 6, cells := 1, slots := 6, locals := 81 }) (lc_Tx [.ref h, .int p0] D [(h, .inr (1, [.ref q, .int n, .int e])), (q, .inl (cA, 20000, .inl g))] [(cA, .int)] (fun _ => False)) lc_N (lc_X "java/util/NoSuchElementException") 1 6 (fun _ => False) := by
  refine vx_ofW (cc := cX1_get0) (maxL := 2) (ret := (some .int)) (by decide) rfl ?_
  intro p e' s m args below meth c s₁ B hml htab hv
  obtain ⟨rfl, hP, hK, hZ⟩ := hv
  have hx := B.exec
  have hb := B.bytes
  have hr := B.returns
  have hts := atoms_spec (ws := wsX1_get0) B.pre
  have hown : s.vm.findClass RX1 = some m.cls := findClass_of_methodNamed B.named
  have hlocks := B.notSynchronized
  have hinX1 : ∀ w ∈ u_ws RX1 TX1 3, w ∈ wsX1_get0 := fun w h => List.mem_cons_of_mem _ (lb_X1 w h)
  have hl := lv_entry ([.ref h, .int p0]) (n := 2) (Nat.le_of_ble_eq_true rfl)
  rw [lg_entry_eq]
  generalize (lg_sl ([.ref h, .int p0]) ++ List.replicate (2 - (lg_sl ([.ref h, .int p0])).length) Slot.unset).toArray = ls at hl ⊢
  have hl : lv_has ls 2 [(0, .ref h), (1, .int p0)] := hl
  have hat : ∀ w ∈ vx_at0 RX1 29 "java/util/NoSuchElementException" ["java/lang/RuntimeException", "java/lang/Exception"], w.before ([.ref h, .int p0] : List Value).toArray s = true := vx_hat (fun w hw => hts w (List.mem_cons_of_mem _ (lb_at_X1_29 w hw))) (B := lc_Nws) (by decide +kernel) (lc_nws hZ.2.2)
  have hthr : W p l e' (headSpec wsX1_get0 ({ frames := 6, cells := 1, slots := 6, locals := 81 })).room s m ([.ref h, .int p0] : List Value).toArray below meth c s.heap [] 0 0 (vx_MQ below lc_N (lc_X "java/util/NoSuchElementException") ([.ref h, .int p0] : List Value).toArray s 1 6 (fun _ => False)) (F0 m 12 ls []) := vx_throw0 hx hb hst hown (by decide +kernel) (by decide +kernel) (hts _ (List.mem_cons_of_mem _ lb_277)) (hts _ (List.mem_cons_of_mem _ lb_26)) hat (by decide +kernel) hZ.1 hZ.2.1 va_S.rf (hl.1.trans hml.symm) dX1_get0_12 dX1_get0_15 dX1_get0_16 dX1_get0_19 (fun x hx => (htab x hx).elim) (Nat.le_of_ble_eq_true rfl) (Nat.le_of_ble_eq_true rfl) (Nat.le_refl _) (Nat.le_refl _) hlocks (fun t _ hz hk => ⟨rfl, hz, fun q h1 _ => hk q h1⟩) (fun _ h => nomatch h) (Nat.le_refl _) (Nat.le_refl _)
  refine lv_iload_n hx hb dX1_get0_0 rfl (lv_at hl 1 rfl) ?_
  refine lv_if_lt hx hb dX1_get0_1 (tgt := 12) rfl (fun h1 => ?_) (fun h1 => ?_)
  · exact hthr
  · refine lv_iload_n hx hb dX1_get0_4 rfl (lv_at hl 1 rfl) ?_
    refine lv_aload_n hx hb dX1_get0_5 rfl (lv_at hl 0 rfl) ?_
    refine va_get (D := D) (ci := 1) (v := .int n) (C := RX1) (T := TX1) (N := 3) hx hb hts hinX1 hown hK hP 0 rfl rfl 1 (by decide) (hts _ (List.mem_cons_of_mem _ lb_237)) (fun _ h9 => h9) rfl dX1_get0_6 ?_
    refine lv_icmp_lt hx hb dX1_get0_9 (tgt := 20) rfl (fun hc => absurd hc (fun hc => hbad.elim h1 (fun hb9 => absurd hc (Int32.not_lt.mpr hb9)))) (fun _ => ?_)
    exact hthr
set_option maxHeartbeats 4000000 in
set_option maxRecDepth 100000 in
theorem m_length0 (l : Launch) (D : va_G) (h q : Nat) (cA : ClassId) (n e : Int32) (g : Nat → Int32) : Met l yX1_length0 wsX1_length0 ({ frames := 0, cells := 0, slots := 0, locals := 0 }) (lc_Rd [.ref h] D [(h, .inr (1, [.ref q, .int n, .int e])), (q, .inl (cA, 20000, .inl g))] [(cA, .int)]) (QcRead (n)) 0 0 (fun _ => False) := by
  refine Met.ofW (cc := cX1_length0) (maxL := 1) (ret := (some .int)) (by decide) rfl ?_
  intro p e' s m args below meth c s₁ B hml hv
  obtain ⟨rfl, hP, hK⟩ := hv
  have hx := B.exec
  have hb := B.bytes
  have hr := B.returns
  have hts := atoms_spec (ws := wsX1_length0) B.pre
  have hown : s.vm.findClass RX1 = some m.cls := findClass_of_methodNamed B.named
  have hlocks := B.notSynchronized
  have hinX1 : ∀ w ∈ u_ws RX1 TX1 3, w ∈ wsX1_length0 := fun w h => List.mem_cons_of_mem _ (lb_X1 w h)
  have hl := lv_entry ([.ref h]) (n := 1) (Nat.le_of_ble_eq_true rfl)
  rw [lg_entry_eq]
  generalize (lg_sl ([.ref h]) ++ List.replicate (1 - (lg_sl ([.ref h])).length) Slot.unset).toArray = ls at hl ⊢
  have hl : lv_has ls 1 [(0, .ref h)] := hl
  refine lv_aload_n hx hb dX1_length0_0 rfl (lv_at hl 0 rfl) ?_
  refine va_get (D := D) (ci := 1) (v := .int n) (C := RX1) (T := TX1) (N := 3) hx hb hts hinX1 hown hK hP 0 rfl rfl 1 (by decide) (hts _ (List.mem_cons_of_mem _ lb_237)) (fun _ h9 => h9) rfl dX1_length0_1 ?_
  exact W.iret (v := n) hx hb hr (fun t ht _ => ⟨rfl, ht⟩) (fun _ h => nomatch h) dX1_length0_4
set_option maxHeartbeats 4000000 in
set_option maxRecDepth 100000 in
theorem m_thrown (l : Launch) (D : va_G) (h q : Nat) (cA : ClassId) (n e : Int32) (g : Nat → Int32) : Met l yX1_thrown wsX1_thrown ({ frames := 0, cells := 0, slots := 0, locals := 0 }) (lc_Rd [.ref h] D [(h, .inr (1, [.ref q, .int n, .int e])), (q, .inl (cA, 20000, .inl g))] [(cA, .int)]) (QcRead (e)) 0 0 (fun _ => False) := by
  refine Met.ofW (cc := cX1_thrown) (maxL := 1) (ret := (some .int)) (by decide) rfl ?_
  intro p e' s m args below meth c s₁ B hml hv
  obtain ⟨rfl, hP, hK⟩ := hv
  have hx := B.exec
  have hb := B.bytes
  have hr := B.returns
  have hts := atoms_spec (ws := wsX1_thrown) B.pre
  have hown : s.vm.findClass RX1 = some m.cls := findClass_of_methodNamed B.named
  have hlocks := B.notSynchronized
  have hinX1 : ∀ w ∈ u_ws RX1 TX1 3, w ∈ wsX1_thrown := fun w h => List.mem_cons_of_mem _ (lb_X1 w h)
  have hl := lv_entry ([.ref h]) (n := 1) (Nat.le_of_ble_eq_true rfl)
  rw [lg_entry_eq]
  generalize (lg_sl ([.ref h]) ++ List.replicate (1 - (lg_sl ([.ref h])).length) Slot.unset).toArray = ls at hl ⊢
  have hl : lv_has ls 1 [(0, .ref h)] := hl
  refine lv_aload_n hx hb dX1_thrown_0 rfl (lv_at hl 0 rfl) ?_
  refine va_get (D := D) (ci := 1) (v := .int e) (C := RX1) (T := TX1) (N := 3) hx hb hts hinX1 hown hK hP 0 rfl rfl 2 (by decide) (hts _ (List.mem_cons_of_mem _ lb_238)) (fun _ h9 => h9) rfl dX1_thrown_1 ?_
  exact W.iret (v := e) hx hb hr (fun t ht _ => ⟨rfl, ht⟩) (fun _ h => nomatch h) dX1_thrown_4
set_option maxHeartbeats 4000000 in
set_option maxRecDepth 100000 in
theorem m_ends (l : Launch) (D : va_G) (h q : Nat) (cA : ClassId) (n e : Int32) (g : Nat → Int32) (b : Nat) (hb2 : b ≤ 20000) : Met l yX1_endsBefore wsX1_endsBefore ({ frames := 0, cells := 0, slots := 0, locals := 0 }) (lc_Rd [.ref h, .int (nI b)] D [(h, .inr (1, [.ref q, .int n, .int e])), (q, .inl (cA, 20000, .inl g))] [(cA, .int)]) (QcRead (nI (lc_cnt g b))) 0 0 (fun _ => False) := by
  refine Met.ofW (cc := cX1_endsBefore) (maxL := 4) (ret := (some .int)) (by decide) rfl ?_
  intro p e' s m args below meth c s₁ B hml hv
  obtain ⟨rfl, hP, hK⟩ := hv
  have hx := B.exec
  have hb := B.bytes
  have hr := B.returns
  have hts := atoms_spec (ws := wsX1_endsBefore) B.pre
  have hown : s.vm.findClass RX1 = some m.cls := findClass_of_methodNamed B.named
  have hlocks := B.notSynchronized
  have hinX1 : ∀ w ∈ u_ws RX1 TX1 3, w ∈ wsX1_endsBefore := fun w h => List.mem_cons_of_mem _ (lb_X1 w h)
  have hl := lv_entry ([.ref h, .int (nI b)]) (n := 4) (Nat.le_of_ble_eq_true rfl)
  rw [lg_entry_eq]
  generalize (lg_sl ([.ref h, .int (nI b)]) ++ List.replicate (4 - (lg_sl ([.ref h, .int (nI b)])).length) Slot.unset).toArray = ls at hl ⊢
  have hl : lv_has ls 4 [(0, .ref h), (1, .int (nI b))] := hl
  have loop : ∀ (k i : Nat) (ls : Array Slot), i + k = b → lv_has ls 4 [(3, .int (nI i)), (2, .int (nI (lc_cnt g i))), (0, .ref h), (1, .int (nI b))] → W p l e' (headSpec wsX1_endsBefore ({ frames := 0, cells := 0, slots := 0, locals := 0 })).room s m ([.ref h, .int (nI b)] : List Value).toArray below meth c s.heap [] 0 0 (MQ below (QcRead (nI (lc_cnt g b))) ([.ref h, .int (nI b)] : List Value).toArray s 0 0 (fun _ => False)) (F0 m 4 ls []) := by
    intro k
    induction k with
    | zero =>
      intro i ls hi hl
      have hi : i = b := by omega
      subst hi
      refine lv_iload_n hx hb dX1_endsBefore_4 rfl (lv_at hl 0 rfl) ?_
      refine lv_iload_n hx hb dX1_endsBefore_5 rfl (lv_at hl 3 rfl) ?_
      refine lv_icmp_ge hx hb dX1_endsBefore_6 (tgt := 29) rfl (fun _ => ?_) (fun hc => absurd (nI_le (Nat.le_refl i) (by omega)) hc)
      refine lv_iload_n hx hb dX1_endsBefore_29 rfl (lv_at hl 1 rfl) ?_
      exact W.iret (v := nI (lc_cnt g i)) hx hb hr (fun t ht _ => ⟨rfl, ht⟩) (fun _ h => nomatch h) dX1_endsBefore_30
    | succ k ih =>
      intro i ls hi hl
      refine lv_iload_n hx hb dX1_endsBefore_4 rfl (lv_at hl 0 rfl) ?_
      refine lv_iload_n hx hb dX1_endsBefore_5 rfl (lv_at hl 3 rfl) ?_
      refine lv_icmp_ge hx hb dX1_endsBefore_6 (tgt := 29) rfl (fun hc => absurd hc (nI_ge (show i < b by omega) (by omega))) (fun _ => ?_)
      refine lv_aload_n hx hb dX1_endsBefore_9 rfl (lv_at hl 2 rfl) ?_
      refine va_get (D := D) (ci := 1) (v := .ref q) (C := RX1) (T := TX1) (N := 3) hx hb hts hinX1 hown hK hP 0 rfl rfl 0 (by decide) (hts _ (List.mem_cons_of_mem _ lb_236)) (fun _ h9 => h9) rfl dX1_endsBefore_10 ?_
      refine lv_iload_n hx hb dX1_endsBefore_13 rfl (lv_at hl 0 rfl) ?_
      refine va_iald (D := D) hx hb hK hP 1 0 rfl rfl (vp_in_nI (show i < 20000 by omega) (by omega)) dX1_endsBefore_14 ?_
      refine lc_top (y := g i) (congrArg _ (nI_clamp (by omega))) ?_
      refine lv_bipush (v := 10) hx hb dX1_endsBefore_15 (by decide) ?_
      refine lv_icmp_ne hx hb dX1_endsBefore_17 (tgt := 23) rfl (fun hc => ?_) (fun hc => ?_)
      · refine lv_iinc (k := 0) (v := nI (i + 1)) hx hb dX1_endsBefore_23 hl rfl (nI_1 i) (by decide) rfl (fun ls hl => ?_)
        have hl : lv_has ls 4 [(3, .int (nI (i + 1))), (2, .int (nI (lc_cnt g i))), (0, .ref h), (1, .int (nI b))] := hl
        refine lv_goto hx hb dX1_endsBefore_26 (tgt := 4) rfl ?_
        have hl : lv_has ls 4 [(3, .int (nI (i + 1))), (2, .int (nI (lc_cnt g i))), (0, .ref h), (1, .int (nI b))] := lv_sub hl [0, 1, 2, 3] rfl
        exact ih (i + 1) ls (by omega) (by rw [lc_cnt_f hc]; exact hl)
      · refine lv_iinc (k := 1) (v := nI (lc_cnt g i + 1)) hx hb dX1_endsBefore_20 hl rfl (nI_1 _) (by decide) rfl (fun ls hl => ?_)
        have hl : lv_has ls 4 [(2, .int (nI (lc_cnt g i + 1))), (3, .int (nI i)), (0, .ref h), (1, .int (nI b))] := hl
        refine lv_iinc (k := 1) (v := nI (i + 1)) hx hb dX1_endsBefore_23 hl rfl (nI_1 i) (by decide) rfl (fun ls hl => ?_)
        have hl : lv_has ls 4 [(3, .int (nI (i + 1))), (2, .int (nI (lc_cnt g i + 1))), (0, .ref h), (1, .int (nI b))] := hl
        refine lv_goto hx hb dX1_endsBefore_26 (tgt := 4) rfl ?_
        have hl : lv_has ls 4 [(3, .int (nI (i + 1))), (2, .int (nI (lc_cnt g i + 1))), (0, .ref h), (1, .int (nI b))] := lv_sub hl [0, 1, 2, 3] rfl
        exact ih (i + 1) ls (by omega) (by rw [lc_cnt_t hc]; exact hl)
  refine lv_iconst (v := 0) hx hb dX1_endsBefore_0 (by decide) ?_
  refine lv_istore_n hx hb dX1_endsBefore_1 rfl hl (by decide) rfl (fun ls hl => ?_)
  have hl : lv_has ls 4 [(2, .int 0), (0, .ref h), (1, .int (nI b))] := hl
  refine lv_iconst (v := 0) hx hb dX1_endsBefore_2 (by decide) ?_
  refine lv_istore_n hx hb dX1_endsBefore_3 rfl hl (by decide) rfl (fun ls hl => ?_)
  have hl : lv_has ls 4 [(3, .int 0), (2, .int 0), (0, .ref h), (1, .int (nI b))] := hl
  have hl : lv_has ls 4 [(3, .int 0), (2, .int 0), (0, .ref h), (1, .int (nI b))] := lv_sub hl [0, 1, 2, 3] rfl
  exact loop b 0 ls (by omega) hl
set_option maxHeartbeats 4000000 in
set_option maxRecDepth 100000 in
theorem m_lines0 (l : Launch) (D : va_G) (h q : Nat) (cA : ClassId) (e : Int32) (c0 : Nat) (g : Nat → Int32) (hc0 : c0 ≤ 20000) : Met l yX1_lines0 wsX1_lines0 ({ frames := 1, cells := 0, slots := 0, locals := 23 }) (lc_Rd [.ref h] D [(h, .inr (1, [.ref q, .int (nI c0), .int e])), (q, .inl (cA, 20000, .inl g))] [(cA, .int)]) (QcRead (nI (lc_cnt g c0) + 1)) 0 0 (fun _ => False) := by
  refine Met.ofW (cc := cX1_lines0) (maxL := 1) (ret := (some .int)) (by decide) rfl ?_
  intro p e' s m args below meth c s₁ B hml hv
  obtain ⟨rfl, hP, hK⟩ := hv
  have hx := B.exec
  have hb := B.bytes
  have hr := B.returns
  have hts := atoms_spec (ws := wsX1_lines0) B.pre
  have hown : s.vm.findClass RX1 = some m.cls := findClass_of_methodNamed B.named
  have hlocks := B.notSynchronized
  have hinX1 : ∀ w ∈ u_ws RX1 TX1 3, w ∈ wsX1_lines0 := fun w h => List.mem_cons_of_mem _ (lb_X1 w h)
  have hl := lv_entry ([.ref h]) (n := 1) (Nat.le_of_ble_eq_true rfl)
  rw [lg_entry_eq]
  generalize (lg_sl ([.ref h]) ++ List.replicate (1 - (lg_sl ([.ref h])).length) Slot.unset).toArray = ls at hl ⊢
  have hl : lv_has ls 1 [(0, .ref h)] := hl
  refine lv_aload_n hx hb dX1_lines0_0 rfl (lv_at hl 0 rfl) ?_
  refine lv_aload_n hx hb dX1_lines0_1 rfl (lv_at hl 0 rfl) ?_
  refine va_get (D := D) (ci := 1) (v := .int (nI c0)) (C := RX1) (T := TX1) (N := 3) hx hb hts hinX1 hown hK hP 0 rfl rfl 1 (by decide) (hts _ (List.mem_cons_of_mem _ lb_237)) (fun _ h9 => h9) rfl dX1_lines0_2 ?_
  refine lc_callR (W.runV (As := [.int (nI c0)]) (rest := []) ⟨hx, hb, hml, hown, hts⟩ (m_ends l D h q cA (nI c0) (e) g c0 (hc0)) (cwV 1 hts gX1_lines0_X1_endsBefore rfl rfl rfl (by decide +kernel) ⟨Nat.le_of_ble_eq_true rfl, Nat.le_of_ble_eq_true rfl⟩) (lc_RdV (q0 := 0) (ci := 1) (q := (RX1, TX1, 3)) hP hK rfl rfl) rfl rfl hl.1 rfl (lv_room (Nat.le_of_ble_eq_true rfl)) dX1_lines0_5 ⟨Nat.zero_le _, Nat.zero_le _⟩) ?_
  refine lv_iconst (v := 1) hx hb dX1_lines0_8 (by decide) ?_
  refine lv_iadd hx hb dX1_lines0_9 ?_
  exact W.iret (v := nI (lc_cnt g c0) + 1) hx hb hr (fun t ht _ => ⟨rfl, ht⟩) (fun _ h => nomatch h) dX1_lines0_10
set_option maxHeartbeats 4000000 in
set_option maxRecDepth 100000 in
theorem m_line0 (l : Launch) (D : va_G) (h q : Nat) (cA : ClassId) (e : Int32) (c0 : Nat) (g : Nat → Int32) (hc0 : c0 ≤ 20000) (k0 j0 : Nat) (hk0 : k0 ≤ lc_cnt g c0) (hj : lc_isL g k0 j0) (hj0 : j0 ≤ c0) : Met l yX1_line0 wsX1_line0 ({ frames := 6, cells := 0, slots := 0, locals := 81 }) (lc_Rd [.ref h, .int (nI k0)] D [(h, .inr (1, [.ref q, .int (nI c0), .int e])), (q, .inl (cA, 20000, .inl g))] [(cA, .int)]) (QcRead (nI j0)) 0 0 (fun _ => False) := by
  refine Met.ofW (cc := cX1_line0) (maxL := 3) (ret := (some .int)) (by decide) rfl ?_
  intro p e' s m args below meth c s₁ B hml hv
  obtain ⟨rfl, hP, hK⟩ := hv
  have hx := B.exec
  have hb := B.bytes
  have hr := B.returns
  have hts := atoms_spec (ws := wsX1_line0) B.pre
  have hown : s.vm.findClass RX1 = some m.cls := findClass_of_methodNamed B.named
  have hlocks := B.notSynchronized
  have hinX1 : ∀ w ∈ u_ws RX1 TX1 3, w ∈ wsX1_line0 := fun w h => List.mem_cons_of_mem _ (lb_X1 w h)
  have hl := lv_entry ([.ref h, .int (nI k0)]) (n := 3) (Nat.le_of_ble_eq_true rfl)
  rw [lg_entry_eq]
  generalize (lg_sl ([.ref h, .int (nI k0)]) ++ List.replicate (3 - (lg_sl ([.ref h, .int (nI k0)])).length) Slot.unset).toArray = ls at hl ⊢
  have hl : lv_has ls 3 [(0, .ref h), (1, .int (nI k0))] := hl
  have hle := lc_cnt_le g c0
  have loop : ∀ (k i : Nat) (ls : Array Slot), i + k = j0 → lv_has ls 3 [(2, .int (nI i)), (0, .ref h), (1, .int (nI k0))] → W p l e' (headSpec wsX1_line0 ({ frames := 6, cells := 0, slots := 0, locals := 81 })).room s m ([.ref h, .int (nI k0)] : List Value).toArray below meth c s.heap [] 0 0 (MQ below (QcRead (nI j0)) ([.ref h, .int (nI k0)] : List Value).toArray s 0 0 (fun _ => False)) (F0 m 26 ls []) := by
    intro k
    induction k with
    | zero =>
      intro i ls hi hl
      have hi : i = j0 := by omega
      subst hi
      have hlei := lc_cnt_le g i
      refine lv_aload_n hx hb dX1_line0_26 rfl (lv_at hl 1 rfl) ?_
      refine lv_iload_n hx hb dX1_line0_27 rfl (lv_at hl 0 rfl) ?_
      refine lc_callR (W.runV (As := [.int (nI i)]) (rest := []) ⟨hx, hb, hml, hown, hts⟩ (m_ends l D h q cA (nI c0) (e) g i (by omega)) (cwV 1 hts gX1_line0_X1_endsBefore rfl rfl rfl (by decide +kernel) ⟨Nat.le_of_ble_eq_true rfl, Nat.le_of_ble_eq_true rfl⟩) (lc_RdV (q0 := 0) (ci := 1) (q := (RX1, TX1, 3)) hP hK rfl rfl) rfl rfl hl.1 rfl (lv_room (Nat.le_of_ble_eq_true rfl)) dX1_line0_28 ⟨Nat.zero_le _, Nat.zero_le _⟩) ?_
      refine lv_iload_n hx hb dX1_line0_31 rfl (lv_at hl 2 rfl) ?_
      refine lv_icmp_ge hx hb dX1_line0_32 (tgt := 41) rfl (fun _ => ?_) (fun hc => absurd (nI_le hj.1 (by omega)) hc)
      refine lv_iload_n hx hb dX1_line0_41 rfl (lv_at hl 0 rfl) ?_
      exact W.iret (v := nI i) hx hb hr (fun t ht _ => ⟨rfl, ht⟩) (fun _ h => nomatch h) dX1_line0_42
    | succ k ih =>
      intro i ls hi hl
      have hlt := hj.2 i (by omega)
      refine lv_aload_n hx hb dX1_line0_26 rfl (lv_at hl 1 rfl) ?_
      refine lv_iload_n hx hb dX1_line0_27 rfl (lv_at hl 0 rfl) ?_
      refine lc_callR (W.runV (As := [.int (nI i)]) (rest := []) ⟨hx, hb, hml, hown, hts⟩ (m_ends l D h q cA (nI c0) (e) g i (by omega)) (cwV 1 hts gX1_line0_X1_endsBefore rfl rfl rfl (by decide +kernel) ⟨Nat.le_of_ble_eq_true rfl, Nat.le_of_ble_eq_true rfl⟩) (lc_RdV (q0 := 0) (ci := 1) (q := (RX1, TX1, 3)) hP hK rfl rfl) rfl rfl hl.1 rfl (lv_room (Nat.le_of_ble_eq_true rfl)) dX1_line0_28 ⟨Nat.zero_le _, Nat.zero_le _⟩) ?_
      refine lv_iload_n hx hb dX1_line0_31 rfl (lv_at hl 2 rfl) ?_
      refine lv_icmp_ge hx hb dX1_line0_32 (tgt := 41) rfl (fun hc => absurd hc (nI_ge hlt (by omega))) (fun _ => ?_)
      refine lv_iinc (k := 0) (v := nI (i + 1)) hx hb dX1_line0_35 hl rfl (nI_1 i) (by decide) rfl (fun ls hl => ?_)
      have hl : lv_has ls 3 [(2, .int (nI (i + 1))), (0, .ref h), (1, .int (nI k0))] := hl
      refine lv_goto hx hb dX1_line0_38 (tgt := 26) rfl ?_
      have hl : lv_has ls 3 [(2, .int (nI (i + 1))), (0, .ref h), (1, .int (nI k0))] := lv_sub hl [0, 1, 2] rfl
      exact ih (i + 1) ls (by omega) hl
  refine lv_iload_n hx hb dX1_line0_0 rfl (lv_at hl 1 rfl) ?_
  refine lv_if_lt hx hb dX1_line0_1 (tgt := 16) rfl (fun hc => absurd hc (nI_pos (by omega))) (fun _ => ?_)
  refine lv_iload_n hx hb dX1_line0_4 rfl (lv_at hl 1 rfl) ?_
  refine lv_aload_n hx hb dX1_line0_5 rfl (lv_at hl 0 rfl) ?_
  refine lv_aload_n hx hb dX1_line0_6 rfl (lv_at hl 0 rfl) ?_
  refine va_get (D := D) (ci := 1) (v := .int (nI c0)) (C := RX1) (T := TX1) (N := 3) hx hb hts hinX1 hown hK hP 0 rfl rfl 1 (by decide) (hts _ (List.mem_cons_of_mem _ lb_237)) (fun _ h9 => h9) rfl dX1_line0_7 ?_
  refine lc_callR (W.runV (As := [.int (nI c0)]) (rest := [.int (nI k0)]) ⟨hx, hb, hml, hown, hts⟩ (m_ends l D h q cA (nI c0) (e) g c0 (hc0)) (cwV 1 hts gX1_line0_X1_endsBefore rfl rfl rfl (by decide +kernel) ⟨Nat.le_of_ble_eq_true rfl, Nat.le_of_ble_eq_true rfl⟩) (lc_RdV (q0 := 0) (ci := 1) (q := (RX1, TX1, 3)) hP hK rfl rfl) rfl rfl hl.1 rfl (lv_room (Nat.le_of_ble_eq_true rfl)) dX1_line0_10 ⟨Nat.zero_le _, Nat.zero_le _⟩) ?_
  refine lv_icmp_le hx hb dX1_line0_13 (tgt := 24) rfl (fun _ => ?_) (fun hc => absurd (nI_le hk0 (by omega)) hc)
  refine lv_iconst (v := 0) hx hb dX1_line0_24 (by decide) ?_
  refine lv_istore_n hx hb dX1_line0_25 rfl hl (by decide) rfl (fun ls hl => ?_)
  have hl : lv_has ls 3 [(2, .int 0), (0, .ref h), (1, .int (nI k0))] := hl
  have hl : lv_has ls 3 [(2, .int 0), (0, .ref h), (1, .int (nI k0))] := lv_sub hl [0, 1, 2] rfl
  exact loop j0 0 ls (by omega) hl
set_option maxHeartbeats 4000000 in
set_option maxRecDepth 100000 in
theorem m_line0_bad (l : Launch) (D : va_G) (h q : Nat) (cA : ClassId)  (hst : l.stackTraces = false) (e : Int32) (c0 : Nat) (g : Nat → Int32) (hc0 : c0 ≤ 20000) (p0 : Int32) (hbad : p0 < 0 ∨ nI (lc_cnt g c0) < p0) : vx_Met l yX1_line0 wsX1_line0 ({ frames := 6, cells := 1, slots := 6, locals := 81 }) (lc_Tx [.ref h, .int p0] D [(h, .inr (1, [.ref q, .int (nI c0), .int e])), (q, .inl (cA, 20000, .inl g))] [(cA, .int)] (fun _ => False)) lc_N (lc_X "java/util/NoSuchElementException") 1 6 (fun _ => False) := by
  refine vx_ofW (cc := cX1_line0) (maxL := 3) (ret := (some .int)) (by decide) rfl ?_
  intro p e' s m args below meth c s₁ B hml htab hv
  obtain ⟨rfl, hP, hK, hZ⟩ := hv
  have hx := B.exec
  have hb := B.bytes
  have hr := B.returns
  have hts := atoms_spec (ws := wsX1_line0) B.pre
  have hown : s.vm.findClass RX1 = some m.cls := findClass_of_methodNamed B.named
  have hlocks := B.notSynchronized
  have hinX1 : ∀ w ∈ u_ws RX1 TX1 3, w ∈ wsX1_line0 := fun w h => List.mem_cons_of_mem _ (lb_X1 w h)
  have hl := lv_entry ([.ref h, .int p0]) (n := 3) (Nat.le_of_ble_eq_true rfl)
  rw [lg_entry_eq]
  generalize (lg_sl ([.ref h, .int p0]) ++ List.replicate (3 - (lg_sl ([.ref h, .int p0])).length) Slot.unset).toArray = ls at hl ⊢
  have hl : lv_has ls 3 [(0, .ref h), (1, .int p0)] := hl
  have hat : ∀ w ∈ vx_at0 RX1 29 "java/util/NoSuchElementException" ["java/lang/RuntimeException", "java/lang/Exception"], w.before ([.ref h, .int p0] : List Value).toArray s = true := vx_hat (fun w hw => hts w (List.mem_cons_of_mem _ (lb_at_X1_29 w hw))) (B := lc_Nws) (by decide +kernel) (lc_nws hZ.2.2)
  have hthr : W p l e' (headSpec wsX1_line0 ({ frames := 6, cells := 1, slots := 6, locals := 81 })).room s m ([.ref h, .int p0] : List Value).toArray below meth c s.heap [] 0 0 (vx_MQ below lc_N (lc_X "java/util/NoSuchElementException") ([.ref h, .int p0] : List Value).toArray s 1 6 (fun _ => False)) (F0 m 16 ls []) := vx_throw0 hx hb hst hown (by decide +kernel) (by decide +kernel) (hts _ (List.mem_cons_of_mem _ lb_277)) (hts _ (List.mem_cons_of_mem _ lb_26)) hat (by decide +kernel) hZ.1 hZ.2.1 va_S.rf (hl.1.trans hml.symm) dX1_line0_16 dX1_line0_19 dX1_line0_20 dX1_line0_23 (fun x hx => (htab x hx).elim) (Nat.le_of_ble_eq_true rfl) (Nat.le_of_ble_eq_true rfl) (Nat.le_refl _) (Nat.le_refl _) hlocks (fun t _ hz hk => ⟨rfl, hz, fun q h1 _ => hk q h1⟩) (fun _ h => nomatch h) (Nat.le_refl _) (Nat.le_refl _)
  refine lv_iload_n hx hb dX1_line0_0 rfl (lv_at hl 1 rfl) ?_
  refine lv_if_lt hx hb dX1_line0_1 (tgt := 16) rfl (fun h1 => ?_) (fun h1 => ?_)
  · exact hthr
  · refine lv_iload_n hx hb dX1_line0_4 rfl (lv_at hl 1 rfl) ?_
    refine lv_aload_n hx hb dX1_line0_5 rfl (lv_at hl 0 rfl) ?_
    refine lv_aload_n hx hb dX1_line0_6 rfl (lv_at hl 0 rfl) ?_
    refine va_get (D := D) (ci := 1) (v := .int (nI c0)) (C := RX1) (T := TX1) (N := 3) hx hb hts hinX1 hown hK hP 0 rfl rfl 1 (by decide) (hts _ (List.mem_cons_of_mem _ lb_237)) (fun _ h9 => h9) rfl dX1_line0_7 ?_
    refine lc_callR (W.runV (As := [.int (nI c0)]) (rest := [.int p0]) ⟨hx, hb, hml, hown, hts⟩ (m_ends l D h q cA (nI c0) (e) g c0 (hc0)) (cwV 1 hts gX1_line0_X1_endsBefore rfl rfl rfl (by decide +kernel) ⟨Nat.le_of_ble_eq_true rfl, Nat.le_of_ble_eq_true rfl⟩) (lc_RdV (q0 := 0) (ci := 1) (q := (RX1, TX1, 3)) hP hK rfl rfl) rfl rfl hl.1 rfl (lv_room (Nat.le_of_ble_eq_true rfl)) dX1_line0_10 ⟨Nat.zero_le _, Nat.zero_le _⟩) ?_
    refine lv_icmp_le hx hb dX1_line0_13 (tgt := 24) rfl (fun hc => absurd hc (fun hc => hbad.elim h1 (fun hb9 => absurd hb9 (Int32.not_lt.mpr hc)))) (fun _ => ?_)
    exact hthr
set_option maxHeartbeats 4000000 in
set_option maxRecDepth 100000 in
theorem m_lineOf0 (l : Launch) (D : va_G) (h q : Nat) (cA : ClassId) (e : Int32) (c0 : Nat) (g : Nat → Int32) (hc0 : c0 ≤ 20000) (i : Nat) (hi : i ≤ c0) : Met l yX1_lineOf0 wsX1_lineOf0 ({ frames := 7, cells := 0, slots := 0, locals := 101 }) (lc_Rd [.ref h, .int (nI i)] D [(h, .inr (1, [.ref q, .int (nI c0), .int e])), (q, .inl (cA, 20000, .inl g))] [(cA, .int)]) (QcRead (nI (lc_cnt g i))) 0 0 (fun _ => False) := by
  refine Met.ofW (cc := cX1_lineOf0) (maxL := 2) (ret := (some .int)) (by decide) rfl ?_
  intro p e' s m args below meth c s₁ B hml hv
  obtain ⟨rfl, hP, hK⟩ := hv
  have hx := B.exec
  have hb := B.bytes
  have hr := B.returns
  have hts := atoms_spec (ws := wsX1_lineOf0) B.pre
  have hown : s.vm.findClass RX1 = some m.cls := findClass_of_methodNamed B.named
  have hlocks := B.notSynchronized
  have hinX1 : ∀ w ∈ u_ws RX1 TX1 3, w ∈ wsX1_lineOf0 := fun w h => List.mem_cons_of_mem _ (lb_X1 w h)
  have hl := lv_entry ([.ref h, .int (nI i)]) (n := 2) (Nat.le_of_ble_eq_true rfl)
  rw [lg_entry_eq]
  generalize (lg_sl ([.ref h, .int (nI i)]) ++ List.replicate (2 - (lg_sl ([.ref h, .int (nI i)])).length) Slot.unset).toArray = ls at hl ⊢
  have hl : lv_has ls 2 [(0, .ref h), (1, .int (nI i))] := hl
  refine lv_iload_n hx hb dX1_lineOf0_0 rfl (lv_at hl 1 rfl) ?_
  refine lv_if_lt hx hb dX1_lineOf0_1 (tgt := 16) rfl (fun hc => absurd hc (nI_pos (by omega))) (fun _ => ?_)
  refine lv_iload_n hx hb dX1_lineOf0_4 rfl (lv_at hl 1 rfl) ?_
  refine lv_aload_n hx hb dX1_lineOf0_5 rfl (lv_at hl 0 rfl) ?_
  refine va_get (D := D) (ci := 1) (v := .int (nI c0)) (C := RX1) (T := TX1) (N := 3) hx hb hts hinX1 hown hK hP 0 rfl rfl 1 (by decide) (hts _ (List.mem_cons_of_mem _ lb_237)) (fun _ h9 => h9) rfl dX1_lineOf0_6 ?_
  refine lv_icmp_gt hx hb dX1_lineOf0_9 (tgt := 16) rfl (fun hc => absurd hc (nI_nlt hi (by omega))) (fun _ => ?_)
  refine lv_iconst (v := 1) hx hb dX1_lineOf0_12 (by decide) ?_
  refine lv_goto hx hb dX1_lineOf0_13 (tgt := 17) rfl ?_
  refine lc_callV (W.runS (As := [.int 1]) (rest := []) ⟨hx, hb, hml, hown, hts⟩ (m_check l D) (cwS 1 hts gX1_lineOf0_X1_check rfl rfl rfl (by decide +kernel) ⟨Nat.le_of_ble_eq_true rfl, Nat.le_of_ble_eq_true rfl⟩) (lc_RdS (hP.sub (ws' := []) [] rfl) (hK.sub (tys' := []) [] rfl)) rfl rfl hl.1 rfl (lv_room (Nat.le_of_ble_eq_true rfl)) dX1_lineOf0_17 ⟨Nat.zero_le _, Nat.zero_le _⟩) ?_
  refine lv_aload_n hx hb dX1_lineOf0_20 rfl (lv_at hl 0 rfl) ?_
  refine lv_iload_n hx hb dX1_lineOf0_21 rfl (lv_at hl 1 rfl) ?_
  refine lc_callR (W.runV (As := [.int (nI i)]) (rest := []) ⟨hx, hb, hml, hown, hts⟩ (m_ends l D h q cA (nI c0) (e) g i (by omega)) (cwV 1 hts gX1_lineOf0_X1_endsBefore rfl rfl rfl (by decide +kernel) ⟨Nat.le_of_ble_eq_true rfl, Nat.le_of_ble_eq_true rfl⟩) (lc_RdV (q0 := 0) (ci := 1) (q := (RX1, TX1, 3)) hP hK rfl rfl) rfl rfl hl.1 rfl (lv_room (Nat.le_of_ble_eq_true rfl)) dX1_lineOf0_22 ⟨Nat.zero_le _, Nat.zero_le _⟩) ?_
  exact W.iret (v := nI (lc_cnt g i)) hx hb hr (fun t ht _ => ⟨rfl, ht⟩) (fun _ h => nomatch h) dX1_lineOf0_25
set_option maxHeartbeats 4000000 in
set_option maxRecDepth 100000 in
theorem m_lineOf0_bad (l : Launch) (D : va_G) (h q : Nat) (cA : ClassId)  (hst : l.stackTraces = false) (n e : Int32) (g : Nat → Int32) (p0 : Int32) (hbad : p0 < 0 ∨ n < p0) : vx_Met l yX1_lineOf0 wsX1_lineOf0 ({ frames := 7, cells := 1, slots := 6, locals := 101 }) (lc_Tx [.ref h, .int p0] D [(h, .inr (1, [.ref q, .int n, .int e])), (q, .inl (cA, 20000, .inl g))] [(cA, .int)] (fun _ => False)) lc_N (lc_X "java/lang/IllegalArgumentException") 1 6 (fun _ => False) := by
  refine vx_ofW (cc := cX1_lineOf0) (maxL := 2) (ret := (some .int)) (by decide) rfl ?_
  intro p e' s m args below meth c s₁ B hml htab hv
  obtain ⟨rfl, hP, hK, hZ⟩ := hv
  have hx := B.exec
  have hb := B.bytes
  have hr := B.returns
  have hts := atoms_spec (ws := wsX1_lineOf0) B.pre
  have hown : s.vm.findClass RX1 = some m.cls := findClass_of_methodNamed B.named
  have hlocks := B.notSynchronized
  have hinX1 : ∀ w ∈ u_ws RX1 TX1 3, w ∈ wsX1_lineOf0 := fun w h => List.mem_cons_of_mem _ (lb_X1 w h)
  have hl := lv_entry ([.ref h, .int p0]) (n := 2) (Nat.le_of_ble_eq_true rfl)
  rw [lg_entry_eq]
  generalize (lg_sl ([.ref h, .int p0]) ++ List.replicate (2 - (lg_sl ([.ref h, .int p0])).length) Slot.unset).toArray = ls at hl ⊢
  have hl : lv_has ls 2 [(0, .ref h), (1, .int p0)] := hl
  have h30 : W p l e' (headSpec wsX1_lineOf0 ({ frames := 7, cells := 1, slots := 6, locals := 101 })).room s m ([.ref h, .int p0] : List Value).toArray below meth c s.heap [] 0 0 (vx_MQ below lc_N (lc_X "java/lang/IllegalArgumentException") ([.ref h, .int p0] : List Value).toArray s 1 6 (fun _ => False)) (F0 m 16 ls []) := by
    refine lv_iconst (v := 0) hx hb dX1_lineOf0_16 (by decide) ?_
    refine lc_callX (vx_runS (As := [.int 0]) (rest := []) ⟨hx, hb, hml, hown, hts⟩ (m_check_bad l D hst) (cwS 1 hts gX1_lineOf0_X1_check rfl rfl rfl (by decide +kernel) ⟨Nat.le_of_ble_eq_true rfl, Nat.le_of_ble_eq_true rfl⟩) (lc_TxS (hP.sub (ws' := []) [] rfl) (hK.sub (tys' := []) [] rfl) hZ) rfl rfl hl.1 rfl (lv_room (Nat.le_of_ble_eq_true rfl)) dX1_lineOf0_17 ⟨Nat.le_refl _, Nat.le_refl _⟩) (fun ce q9 H1 hz hk hce hcv hcl => ?_)
    exact vx_out (fun x hx => (htab x hx).elim) hlocks hce hcv hcl (fun t ht _ => ⟨rfl, by rw [ht]; exact hz, fun q h1 _ => by rw [ht]; exact hk q h1⟩) (fun _ h => nomatch h) (Nat.le_refl _) (Nat.le_refl _)
  refine lv_iload_n hx hb dX1_lineOf0_0 rfl (lv_at hl 1 rfl) ?_
  refine lv_if_lt hx hb dX1_lineOf0_1 (tgt := 16) rfl (fun h1 => ?_) (fun h1 => ?_)
  · exact h30
  · refine lv_iload_n hx hb dX1_lineOf0_4 rfl (lv_at hl 1 rfl) ?_
    refine lv_aload_n hx hb dX1_lineOf0_5 rfl (lv_at hl 0 rfl) ?_
    refine va_get (D := D) (ci := 1) (v := .int n) (C := RX1) (T := TX1) (N := 3) hx hb hts hinX1 hown hK hP 0 rfl rfl 1 (by decide) (hts _ (List.mem_cons_of_mem _ lb_237)) (fun _ h9 => h9) rfl dX1_lineOf0_6 ?_
    refine lv_icmp_gt hx hb dX1_lineOf0_9 (tgt := 16) rfl (fun _ => ?_) (fun hc => absurd (hbad.elim (fun h => absurd h h1) (fun hb9 => hb9)) hc)
    exact h30
set_option maxHeartbeats 4000000 in
set_option maxRecDepth 100000 in
theorem m_digest0 (l : Launch) (D : va_G) (h q : Nat) (cA : ClassId) (e : Int32) (c0 : Nat) (g : Nat → Int32) (hc0 : c0 ≤ 20000) : Met l yX1_digest0 wsX1_digest0 ({ frames := 0, cells := 0, slots := 0, locals := 0 }) (lc_Rd [.ref h] D [(h, .inr (1, [.ref q, .int (nI c0), .int e])), (q, .inl (cA, 20000, .inl g))] [(cA, .int)]) (QcRead (lc_dig g c0)) 0 0 (fun _ => False) := by
  refine Met.ofW (cc := cX1_digest0) (maxL := 3) (ret := (some .int)) (by decide) rfl ?_
  intro p e' s m args below meth c s₁ B hml hv
  obtain ⟨rfl, hP, hK⟩ := hv
  have hx := B.exec
  have hb := B.bytes
  have hr := B.returns
  have hts := atoms_spec (ws := wsX1_digest0) B.pre
  have hown : s.vm.findClass RX1 = some m.cls := findClass_of_methodNamed B.named
  have hlocks := B.notSynchronized
  have hinX1 : ∀ w ∈ u_ws RX1 TX1 3, w ∈ wsX1_digest0 := fun w h => List.mem_cons_of_mem _ (lb_X1 w h)
  have hl := lv_entry ([.ref h]) (n := 3) (Nat.le_of_ble_eq_true rfl)
  rw [lg_entry_eq]
  generalize (lg_sl ([.ref h]) ++ List.replicate (3 - (lg_sl ([.ref h])).length) Slot.unset).toArray = ls at hl ⊢
  have hl : lv_has ls 3 [(0, .ref h)] := hl
  have loop : ∀ (k i : Nat) (ls : Array Slot), i + k = c0 → lv_has ls 3 [(2, .int (nI i)), (1, .int (lc_dig g i)), (0, .ref h)] → W p l e' (headSpec wsX1_digest0 ({ frames := 0, cells := 0, slots := 0, locals := 0 })).room s m ([.ref h] : List Value).toArray below meth c s.heap [] 0 0 (MQ below (QcRead (lc_dig g c0)) ([.ref h] : List Value).toArray s 0 0 (fun _ => False)) (F0 m 4 ls []) := by
    intro k
    induction k with
    | zero =>
      intro i ls hi hl
      have hi : i = c0 := by omega
      subst hi
      refine lv_iload_n hx hb dX1_digest0_4 rfl (lv_at hl 0 rfl) ?_
      refine lv_aload_n hx hb dX1_digest0_5 rfl (lv_at hl 2 rfl) ?_
      refine va_get (D := D) (ci := 1) (v := .int (nI i)) (C := RX1) (T := TX1) (N := 3) hx hb hts hinX1 hown hK hP 0 rfl rfl 1 (by decide) (hts _ (List.mem_cons_of_mem _ lb_237)) (fun _ h9 => h9) rfl dX1_digest0_6 ?_
      refine lv_icmp_ge hx hb dX1_digest0_9 (tgt := 31) rfl (fun _ => ?_) (fun hc => absurd (nI_le (Nat.le_refl i) (by omega)) hc)
      refine lv_iload_n hx hb dX1_digest0_31 rfl (lv_at hl 1 rfl) ?_
      exact W.iret (v := lc_dig g i) hx hb hr (fun t ht _ => ⟨rfl, ht⟩) (fun _ h => nomatch h) dX1_digest0_32
    | succ k ih =>
      intro i ls hi hl
      refine lv_iload_n hx hb dX1_digest0_4 rfl (lv_at hl 0 rfl) ?_
      refine lv_aload_n hx hb dX1_digest0_5 rfl (lv_at hl 2 rfl) ?_
      refine va_get (D := D) (ci := 1) (v := .int (nI c0)) (C := RX1) (T := TX1) (N := 3) hx hb hts hinX1 hown hK hP 0 rfl rfl 1 (by decide) (hts _ (List.mem_cons_of_mem _ lb_237)) (fun _ h9 => h9) rfl dX1_digest0_6 ?_
      refine lv_icmp_ge hx hb dX1_digest0_9 (tgt := 31) rfl (fun hc => absurd hc (nI_ge (show i < c0 by omega) (by omega))) (fun _ => ?_)
      refine lv_iload_n hx hb dX1_digest0_12 rfl (lv_at hl 1 rfl) ?_
      refine lv_aload_n hx hb dX1_digest0_13 rfl (lv_at hl 2 rfl) ?_
      refine va_get (D := D) (ci := 1) (v := .ref q) (C := RX1) (T := TX1) (N := 3) hx hb hts hinX1 hown hK hP 0 rfl rfl 0 (by decide) (hts _ (List.mem_cons_of_mem _ lb_236)) (fun _ h9 => h9) rfl dX1_digest0_14 ?_
      refine lv_iload_n hx hb dX1_digest0_17 rfl (lv_at hl 0 rfl) ?_
      refine va_iald (D := D) hx hb hK hP 1 0 rfl rfl (vp_in_nI (show i < 20000 by omega) (by omega)) dX1_digest0_18 ?_
      refine lc_top (y := g i) (congrArg _ (nI_clamp (by omega))) ?_
      refine lv_iload_n hx hb dX1_digest0_19 rfl (lv_at hl 0 rfl) ?_
      refine lv_iconst (v := 1) hx hb dX1_digest0_20 (by decide) ?_
      refine lv_iadd hx hb dX1_digest0_21 ?_
      refine lc_top (y := nI (i + 1)) (nI_1 i) ?_
      refine lv_imul hx hb dX1_digest0_22 ?_
      refine lv_iadd hx hb dX1_digest0_23 ?_
      refine lv_istore_n hx hb dX1_digest0_24 rfl hl (by decide) rfl (fun ls hl => ?_)
      have hl : lv_has ls 3 [(1, .int ((lc_dig g i) + ((g i) * (nI (i + 1))))), (2, .int (nI i)), (0, .ref h)] := hl
      refine lv_iinc (k := 1) (v := nI (i + 1)) hx hb dX1_digest0_25 hl rfl (nI_1 i) (by decide) rfl (fun ls hl => ?_)
      have hl : lv_has ls 3 [(2, .int (nI (i + 1))), (1, .int ((lc_dig g i) + ((g i) * (nI (i + 1))))), (0, .ref h)] := hl
      refine lv_goto hx hb dX1_digest0_28 (tgt := 4) rfl ?_
      have hl : lv_has ls 3 [(2, .int (nI (i + 1))), (1, .int ((lc_dig g i) + ((g i) * (nI (i + 1))))), (0, .ref h)] := lv_sub hl [0, 1, 2] rfl
      exact ih (i + 1) ls (by omega) hl
  refine lv_iconst (v := 0) hx hb dX1_digest0_0 (by decide) ?_
  refine lv_istore_n hx hb dX1_digest0_1 rfl hl (by decide) rfl (fun ls hl => ?_)
  have hl : lv_has ls 3 [(1, .int 0), (0, .ref h)] := hl
  refine lv_iconst (v := 0) hx hb dX1_digest0_2 (by decide) ?_
  refine lv_istore_n hx hb dX1_digest0_3 rfl hl (by decide) rfl (fun ls hl => ?_)
  have hl : lv_has ls 3 [(2, .int 0), (1, .int 0), (0, .ref h)] := hl
  have hl : lv_has ls 3 [(2, .int 0), (1, .int 0), (0, .ref h)] := lv_sub hl [0, 1, 2] rfl
  exact loop c0 0 ls (by omega) hl
end
section
set_option maxHeartbeats 4000000 in
set_option maxRecDepth 100000 in
theorem m_length (l : Launch) (D : va_G) (h q : Nat) (cA : ClassId) (sz : Nat) (n e : Int32) (g : Nat → Int32) : Met l yX1_length wsX1_length ({ frames := 9, cells := 0, slots := 0, locals := 160 }) (lc_Wr [.ref h] D [(h, .inr (1, [.ref q, .int n, .int e])), (q, .inl (cA, 20000, .inl g))] [(cA, .int)] sz) (lc_QW (S := Unit) D (va_A [(h, .inr (1, [.ref q, .int n, .int e])), (q, .inl (cA, 20000, .inl g))] sz) (fun u => some (.int n)) (fun u => [(h, .inr (1, [.ref q, .int n, .int 0])), (q, .inl (cA, 20000, .inl g))]) (fun u => [(cA, .int)]) (fun u => True)) 0 0 (va_A [(h, .inr (1, [.ref q, .int n, .int e])), (q, .inl (cA, 20000, .inl g))] sz) := by
  refine Met.ofW (cc := cX1_length) (maxL := 1) (ret := (some .int)) (by decide) rfl ?_
  intro p e' s m args below meth c s₁ B hml hv
  obtain ⟨rfl, hsz, hP, hK, hD0⟩ := hv
  have hx := B.exec
  have hb := B.bytes
  have hr := B.returns
  have hts := atoms_spec (ws := wsX1_length) B.pre
  have hown : s.vm.findClass RX1 = some m.cls := findClass_of_methodNamed B.named
  have hlocks := B.notSynchronized
  have hinX1 : ∀ w ∈ u_ws RX1 TX1 3, w ∈ wsX1_length := fun w h => List.mem_cons_of_mem _ (lb_X1 w h)
  subst hsz
  have hD := hD0.self (sz := s.heap.size)
  generalize hAe : va_A [(h, .inr (1, [.ref q, .int n, .int e])), (q, .inl (cA, 20000, .inl g))] s.heap.size = A at hD ⊢
  have hA : ∀ q : Nat, s.heap.size ≤ q → A q := fun q h => by rw [← hAe]; exact Or.inr h
  have hS : va_S A s.heap s.heap [] := va_S.rf
  have hP : va_P D vwCl [(h, .inr (1, [.ref q, .int n, .int e])), (q, .inl (cA, 20000, .inl g))] s.heap := hP
  have hl := lv_entry ([.ref h]) (n := 1) (Nat.le_of_ble_eq_true rfl)
  rw [lg_entry_eq]
  generalize (lg_sl ([.ref h]) ++ List.replicate (1 - (lg_sl ([.ref h])).length) Slot.unset).toArray = ls at hl ⊢
  have hl : lv_has ls 1 [(0, .ref h)] := hl
  refine lv_aload_n hx hb dX1_length_0 rfl (lv_at hl 0 rfl) ?_
  refine lv_iconst (v := 0) hx hb dX1_length_1 (by decide) ?_
  refine va_put (D := D) (ci := 1) (v := .int 0) (ty := .int) (C := RX1) (T := TX1) (N := 3) hx hb hts hinX1 tyX1 tyX1_ok nmX1 hown hK hP hD hS 0 rfl rfl 2 (by decide) (hts _ (List.mem_cons_of_mem _ lb_238)) (fun _ h9 => h9) rfl (by decide +kernel) rfl rfl (Nat.le_of_ble_eq_true rfl) dX1_length_2 (fun H locs hP hD hS => ?_)
  have hP : va_P D vwCl [(h, .inr (1, [.ref q, .int n, .int 0])), (q, .inl (cA, 20000, .inl g))] H := hP
  have hD : va_D A [(h, .inr (1, [.ref q, .int n, .int 0])), (q, .inl (cA, 20000, .inl g))] := hD
  refine lv_aload_n hx hb dX1_length_5 rfl (lv_at hl 0 rfl) ?_
  refine lc_callR (W.runV (As := []) (rest := []) ⟨hx, hb, hml, hown, hts⟩ (m_length0 l D h q cA n 0 g) (cwV 0 hts gX1_length_X1_length0 rfl rfl rfl (by decide +kernel) ⟨Nat.le_of_ble_eq_true rfl, Nat.le_of_ble_eq_true rfl⟩) (lc_RdV (q0 := 0) (ci := 1) (q := (RX1, TX1, 3)) hP hK rfl rfl) rfl rfl hl.1 rfl (lv_room (Nat.le_of_ble_eq_true rfl)) dX1_length_6 ⟨Nat.le_refl _, Nat.le_refl _⟩) ?_
  exact W.iret (v := n) hx hb hr (fun t ht hW => ⟨(), rfl, trivial, by rw [ht]; exact hP, va_K.moved hW.alike hK, hD, hS.F ht⟩) hS.2.2 dX1_length_9
set_option maxHeartbeats 4000000 in
set_option maxRecDepth 100000 in
theorem m_lines (l : Launch) (D : va_G) (h q : Nat) (cA : ClassId) (sz : Nat) (e : Int32) (c0 : Nat) (g : Nat → Int32) (hc0 : c0 ≤ 20000) : Met l yX1_lines wsX1_lines ({ frames := 9, cells := 0, slots := 0, locals := 160 }) (lc_Wr [.ref h] D [(h, .inr (1, [.ref q, .int (nI c0), .int e])), (q, .inl (cA, 20000, .inl g))] [(cA, .int)] sz) (lc_QW (S := Unit) D (va_A [(h, .inr (1, [.ref q, .int (nI c0), .int e])), (q, .inl (cA, 20000, .inl g))] sz) (fun u => some (.int (nI (lc_cnt g c0) + 1))) (fun u => [(h, .inr (1, [.ref q, .int (nI c0), .int 0])), (q, .inl (cA, 20000, .inl g))]) (fun u => [(cA, .int)]) (fun u => True)) 0 0 (va_A [(h, .inr (1, [.ref q, .int (nI c0), .int e])), (q, .inl (cA, 20000, .inl g))] sz) := by
  refine Met.ofW (cc := cX1_lines) (maxL := 1) (ret := (some .int)) (by decide) rfl ?_
  intro p e' s m args below meth c s₁ B hml hv
  obtain ⟨rfl, hsz, hP, hK, hD0⟩ := hv
  have hx := B.exec
  have hb := B.bytes
  have hr := B.returns
  have hts := atoms_spec (ws := wsX1_lines) B.pre
  have hown : s.vm.findClass RX1 = some m.cls := findClass_of_methodNamed B.named
  have hlocks := B.notSynchronized
  have hinX1 : ∀ w ∈ u_ws RX1 TX1 3, w ∈ wsX1_lines := fun w h => List.mem_cons_of_mem _ (lb_X1 w h)
  subst hsz
  have hD := hD0.self (sz := s.heap.size)
  generalize hAe : va_A [(h, .inr (1, [.ref q, .int (nI c0), .int e])), (q, .inl (cA, 20000, .inl g))] s.heap.size = A at hD ⊢
  have hA : ∀ q : Nat, s.heap.size ≤ q → A q := fun q h => by rw [← hAe]; exact Or.inr h
  have hS : va_S A s.heap s.heap [] := va_S.rf
  have hP : va_P D vwCl [(h, .inr (1, [.ref q, .int (nI c0), .int e])), (q, .inl (cA, 20000, .inl g))] s.heap := hP
  have hl := lv_entry ([.ref h]) (n := 1) (Nat.le_of_ble_eq_true rfl)
  rw [lg_entry_eq]
  generalize (lg_sl ([.ref h]) ++ List.replicate (1 - (lg_sl ([.ref h])).length) Slot.unset).toArray = ls at hl ⊢
  have hl : lv_has ls 1 [(0, .ref h)] := hl
  refine lv_aload_n hx hb dX1_lines_0 rfl (lv_at hl 0 rfl) ?_
  refine lv_iconst (v := 0) hx hb dX1_lines_1 (by decide) ?_
  refine va_put (D := D) (ci := 1) (v := .int 0) (ty := .int) (C := RX1) (T := TX1) (N := 3) hx hb hts hinX1 tyX1 tyX1_ok nmX1 hown hK hP hD hS 0 rfl rfl 2 (by decide) (hts _ (List.mem_cons_of_mem _ lb_238)) (fun _ h9 => h9) rfl (by decide +kernel) rfl rfl (Nat.le_of_ble_eq_true rfl) dX1_lines_2 (fun H locs hP hD hS => ?_)
  have hP : va_P D vwCl [(h, .inr (1, [.ref q, .int (nI c0), .int 0])), (q, .inl (cA, 20000, .inl g))] H := hP
  have hD : va_D A [(h, .inr (1, [.ref q, .int (nI c0), .int 0])), (q, .inl (cA, 20000, .inl g))] := hD
  refine lv_aload_n hx hb dX1_lines_5 rfl (lv_at hl 0 rfl) ?_
  refine lc_callR (W.runV (As := []) (rest := []) ⟨hx, hb, hml, hown, hts⟩ (m_lines0 l D h q cA 0 c0 g hc0) (cwV 0 hts gX1_lines_X1_lines0 rfl rfl rfl (by decide +kernel) ⟨Nat.le_of_ble_eq_true rfl, Nat.le_of_ble_eq_true rfl⟩) (lc_RdV (q0 := 0) (ci := 1) (q := (RX1, TX1, 3)) hP hK rfl rfl) rfl rfl hl.1 rfl (lv_room (Nat.le_of_ble_eq_true rfl)) dX1_lines_6 ⟨Nat.le_refl _, Nat.le_refl _⟩) ?_
  exact W.iret (v := nI (lc_cnt g c0) + 1) hx hb hr (fun t ht hW => ⟨(), rfl, trivial, by rw [ht]; exact hP, va_K.moved hW.alike hK, hD, hS.F ht⟩) hS.2.2 dX1_lines_9
set_option maxHeartbeats 4000000 in
set_option maxRecDepth 100000 in
theorem m_digest (l : Launch) (D : va_G) (h q : Nat) (cA : ClassId) (sz : Nat) (e : Int32) (c0 : Nat) (g : Nat → Int32) (hc0 : c0 ≤ 20000) : Met l yX1_digest wsX1_digest ({ frames := 9, cells := 0, slots := 0, locals := 160 }) (lc_Wr [.ref h] D [(h, .inr (1, [.ref q, .int (nI c0), .int e])), (q, .inl (cA, 20000, .inl g))] [(cA, .int)] sz) (lc_QW (S := Unit) D (va_A [(h, .inr (1, [.ref q, .int (nI c0), .int e])), (q, .inl (cA, 20000, .inl g))] sz) (fun u => some (.int (lc_dig g c0))) (fun u => [(h, .inr (1, [.ref q, .int (nI c0), .int 0])), (q, .inl (cA, 20000, .inl g))]) (fun u => [(cA, .int)]) (fun u => True)) 0 0 (va_A [(h, .inr (1, [.ref q, .int (nI c0), .int e])), (q, .inl (cA, 20000, .inl g))] sz) := by
  refine Met.ofW (cc := cX1_digest) (maxL := 1) (ret := (some .int)) (by decide) rfl ?_
  intro p e' s m args below meth c s₁ B hml hv
  obtain ⟨rfl, hsz, hP, hK, hD0⟩ := hv
  have hx := B.exec
  have hb := B.bytes
  have hr := B.returns
  have hts := atoms_spec (ws := wsX1_digest) B.pre
  have hown : s.vm.findClass RX1 = some m.cls := findClass_of_methodNamed B.named
  have hlocks := B.notSynchronized
  have hinX1 : ∀ w ∈ u_ws RX1 TX1 3, w ∈ wsX1_digest := fun w h => List.mem_cons_of_mem _ (lb_X1 w h)
  subst hsz
  have hD := hD0.self (sz := s.heap.size)
  generalize hAe : va_A [(h, .inr (1, [.ref q, .int (nI c0), .int e])), (q, .inl (cA, 20000, .inl g))] s.heap.size = A at hD ⊢
  have hA : ∀ q : Nat, s.heap.size ≤ q → A q := fun q h => by rw [← hAe]; exact Or.inr h
  have hS : va_S A s.heap s.heap [] := va_S.rf
  have hP : va_P D vwCl [(h, .inr (1, [.ref q, .int (nI c0), .int e])), (q, .inl (cA, 20000, .inl g))] s.heap := hP
  have hl := lv_entry ([.ref h]) (n := 1) (Nat.le_of_ble_eq_true rfl)
  rw [lg_entry_eq]
  generalize (lg_sl ([.ref h]) ++ List.replicate (1 - (lg_sl ([.ref h])).length) Slot.unset).toArray = ls at hl ⊢
  have hl : lv_has ls 1 [(0, .ref h)] := hl
  refine lv_aload_n hx hb dX1_digest_0 rfl (lv_at hl 0 rfl) ?_
  refine lv_iconst (v := 0) hx hb dX1_digest_1 (by decide) ?_
  refine va_put (D := D) (ci := 1) (v := .int 0) (ty := .int) (C := RX1) (T := TX1) (N := 3) hx hb hts hinX1 tyX1 tyX1_ok nmX1 hown hK hP hD hS 0 rfl rfl 2 (by decide) (hts _ (List.mem_cons_of_mem _ lb_238)) (fun _ h9 => h9) rfl (by decide +kernel) rfl rfl (Nat.le_of_ble_eq_true rfl) dX1_digest_2 (fun H locs hP hD hS => ?_)
  have hP : va_P D vwCl [(h, .inr (1, [.ref q, .int (nI c0), .int 0])), (q, .inl (cA, 20000, .inl g))] H := hP
  have hD : va_D A [(h, .inr (1, [.ref q, .int (nI c0), .int 0])), (q, .inl (cA, 20000, .inl g))] := hD
  refine lv_aload_n hx hb dX1_digest_5 rfl (lv_at hl 0 rfl) ?_
  refine lc_callR (W.runV (As := []) (rest := []) ⟨hx, hb, hml, hown, hts⟩ (m_digest0 l D h q cA 0 c0 g hc0) (cwV 0 hts gX1_digest_X1_digest0 rfl rfl rfl (by decide +kernel) ⟨Nat.le_of_ble_eq_true rfl, Nat.le_of_ble_eq_true rfl⟩) (lc_RdV (q0 := 0) (ci := 1) (q := (RX1, TX1, 3)) hP hK rfl rfl) rfl rfl hl.1 rfl (lv_room (Nat.le_of_ble_eq_true rfl)) dX1_digest_6 ⟨Nat.le_refl _, Nat.le_refl _⟩) ?_
  exact W.iret (v := lc_dig g c0) hx hb hr (fun t ht hW => ⟨(), rfl, trivial, by rw [ht]; exact hP, va_K.moved hW.alike hK, hD, hS.F ht⟩) hS.2.2 dX1_digest_9
set_option maxHeartbeats 4000000 in
set_option maxRecDepth 100000 in
theorem m_get (l : Launch) (D : va_G) (h q : Nat) (cA : ClassId) (sz : Nat) (e : Int32) (c0 : Nat) (g : Nat → Int32) (hc0 : c0 ≤ 20000) (i : Nat) (hi : i < c0) : Met l yX1_get wsX1_get ({ frames := 9, cells := 0, slots := 0, locals := 160 }) (lc_Wr [.ref h, .int (nI i)] D [(h, .inr (1, [.ref q, .int (nI c0), .int e])), (q, .inl (cA, 20000, .inl g))] [(cA, .int)] sz) (lc_QW (S := Unit) D (va_A [(h, .inr (1, [.ref q, .int (nI c0), .int e])), (q, .inl (cA, 20000, .inl g))] sz) (fun u => some (.int (g i))) (fun u => [(h, .inr (1, [.ref q, .int (nI c0), .int 0])), (q, .inl (cA, 20000, .inl g))]) (fun u => [(cA, .int)]) (fun u => True)) 0 0 (va_A [(h, .inr (1, [.ref q, .int (nI c0), .int e])), (q, .inl (cA, 20000, .inl g))] sz) := by
  refine va_MetW (cc := cX1_get) (maxL := 3) (ret := (some .int)) (hh := [(5, 10, 11, 27)]) (by decide) rfl ?_
  intro p e' s m args below meth c s₁ B hml hv
  obtain ⟨rfl, hsz, hP, hK, hD0⟩ := hv
  have hx := B.exec
  have hb := B.bytes
  have hr := B.returns
  have hts := atoms_spec (ws := wsX1_get) B.pre
  have hown : s.vm.findClass RX1 = some m.cls := findClass_of_methodNamed B.named
  have hlocks := B.notSynchronized
  have hinX1 : ∀ w ∈ u_ws RX1 TX1 3, w ∈ wsX1_get := fun w h => List.mem_cons_of_mem _ (lb_X1 w h)
  subst hsz
  have hD := hD0.self (sz := s.heap.size)
  generalize hAe : va_A [(h, .inr (1, [.ref q, .int (nI c0), .int e])), (q, .inl (cA, 20000, .inl g))] s.heap.size = A at hD ⊢
  have hA : ∀ q : Nat, s.heap.size ≤ q → A q := fun q h => by rw [← hAe]; exact Or.inr h
  have hS : va_S A s.heap s.heap [] := va_S.rf
  have hP : va_P D vwCl [(h, .inr (1, [.ref q, .int (nI c0), .int e])), (q, .inl (cA, 20000, .inl g))] s.heap := hP
  have hl := lv_entry ([.ref h, .int (nI i)]) (n := 3) (Nat.le_of_ble_eq_true rfl)
  rw [lg_entry_eq]
  generalize (lg_sl ([.ref h, .int (nI i)]) ++ List.replicate (3 - (lg_sl ([.ref h, .int (nI i)])).length) Slot.unset).toArray = ls at hl ⊢
  have hl : lv_has ls 3 [(0, .ref h), (1, .int (nI i))] := hl
  refine lv_aload_n hx hb dX1_get_0 rfl (lv_at hl 0 rfl) ?_
  refine lv_iconst (v := 0) hx hb dX1_get_1 (by decide) ?_
  refine va_put (D := D) (ci := 1) (v := .int 0) (ty := .int) (C := RX1) (T := TX1) (N := 3) hx hb hts hinX1 tyX1 tyX1_ok nmX1 hown hK hP hD hS 0 rfl rfl 2 (by decide) (hts _ (List.mem_cons_of_mem _ lb_238)) (fun _ h9 => h9) rfl (by decide +kernel) rfl rfl (Nat.le_of_ble_eq_true rfl) dX1_get_2 (fun H locs hP hD hS => ?_)
  have hP : va_P D vwCl [(h, .inr (1, [.ref q, .int (nI c0), .int 0])), (q, .inl (cA, 20000, .inl g))] H := hP
  have hD : va_D A [(h, .inr (1, [.ref q, .int (nI c0), .int 0])), (q, .inl (cA, 20000, .inl g))] := hD
  refine lv_aload_n hx hb dX1_get_5 rfl (lv_at hl 0 rfl) ?_
  refine lv_iload_n hx hb dX1_get_6 rfl (lv_at hl 1 rfl) ?_
  refine lc_callR (W.runV (As := [.int (nI i)]) (rest := []) ⟨hx, hb, hml, hown, hts⟩ (m_get0 l D h q cA 0 c0 g hc0 i hi) (cwV 1 hts gX1_get_X1_get0 rfl rfl rfl (by decide +kernel) ⟨Nat.le_of_ble_eq_true rfl, Nat.le_of_ble_eq_true rfl⟩) (lc_RdV (q0 := 0) (ci := 1) (q := (RX1, TX1, 3)) hP hK rfl rfl) rfl rfl hl.1 rfl (lv_room (Nat.le_of_ble_eq_true rfl)) dX1_get_7 ⟨Nat.le_refl _, Nat.le_refl _⟩) ?_
  exact W.iret (v := g i) hx hb hr (fun t ht hW => ⟨(), rfl, trivial, by rw [ht]; exact hP, va_K.moved hW.alike hK, hD, hS.F ht⟩) hS.2.2 dX1_get_10
set_option maxHeartbeats 4000000 in
set_option maxRecDepth 100000 in
theorem m_line (l : Launch) (D : va_G) (h q : Nat) (cA : ClassId) (sz : Nat) (e : Int32) (c0 : Nat) (g : Nat → Int32) (hc0 : c0 ≤ 20000) (k0 j0 : Nat) (hk0 : k0 ≤ lc_cnt g c0) (hj : lc_isL g k0 j0) (hj0 : j0 ≤ c0) : Met l yX1_line wsX1_line ({ frames := 9, cells := 0, slots := 0, locals := 160 }) (lc_Wr [.ref h, .int (nI k0)] D [(h, .inr (1, [.ref q, .int (nI c0), .int e])), (q, .inl (cA, 20000, .inl g))] [(cA, .int)] sz) (lc_QW (S := Unit) D (va_A [(h, .inr (1, [.ref q, .int (nI c0), .int e])), (q, .inl (cA, 20000, .inl g))] sz) (fun u => some (.int (nI j0))) (fun u => [(h, .inr (1, [.ref q, .int (nI c0), .int 0])), (q, .inl (cA, 20000, .inl g))]) (fun u => [(cA, .int)]) (fun u => True)) 0 0 (va_A [(h, .inr (1, [.ref q, .int (nI c0), .int e])), (q, .inl (cA, 20000, .inl g))] sz) := by
  refine va_MetW (cc := cX1_line) (maxL := 3) (ret := (some .int)) (hh := [(5, 10, 11, 27)]) (by decide) rfl ?_
  intro p e' s m args below meth c s₁ B hml hv
  obtain ⟨rfl, hsz, hP, hK, hD0⟩ := hv
  have hx := B.exec
  have hb := B.bytes
  have hr := B.returns
  have hts := atoms_spec (ws := wsX1_line) B.pre
  have hown : s.vm.findClass RX1 = some m.cls := findClass_of_methodNamed B.named
  have hlocks := B.notSynchronized
  have hinX1 : ∀ w ∈ u_ws RX1 TX1 3, w ∈ wsX1_line := fun w h => List.mem_cons_of_mem _ (lb_X1 w h)
  subst hsz
  have hD := hD0.self (sz := s.heap.size)
  generalize hAe : va_A [(h, .inr (1, [.ref q, .int (nI c0), .int e])), (q, .inl (cA, 20000, .inl g))] s.heap.size = A at hD ⊢
  have hA : ∀ q : Nat, s.heap.size ≤ q → A q := fun q h => by rw [← hAe]; exact Or.inr h
  have hS : va_S A s.heap s.heap [] := va_S.rf
  have hP : va_P D vwCl [(h, .inr (1, [.ref q, .int (nI c0), .int e])), (q, .inl (cA, 20000, .inl g))] s.heap := hP
  have hl := lv_entry ([.ref h, .int (nI k0)]) (n := 3) (Nat.le_of_ble_eq_true rfl)
  rw [lg_entry_eq]
  generalize (lg_sl ([.ref h, .int (nI k0)]) ++ List.replicate (3 - (lg_sl ([.ref h, .int (nI k0)])).length) Slot.unset).toArray = ls at hl ⊢
  have hl : lv_has ls 3 [(0, .ref h), (1, .int (nI k0))] := hl
  refine lv_aload_n hx hb dX1_line_0 rfl (lv_at hl 0 rfl) ?_
  refine lv_iconst (v := 0) hx hb dX1_line_1 (by decide) ?_
  refine va_put (D := D) (ci := 1) (v := .int 0) (ty := .int) (C := RX1) (T := TX1) (N := 3) hx hb hts hinX1 tyX1 tyX1_ok nmX1 hown hK hP hD hS 0 rfl rfl 2 (by decide) (hts _ (List.mem_cons_of_mem _ lb_238)) (fun _ h9 => h9) rfl (by decide +kernel) rfl rfl (Nat.le_of_ble_eq_true rfl) dX1_line_2 (fun H locs hP hD hS => ?_)
  have hP : va_P D vwCl [(h, .inr (1, [.ref q, .int (nI c0), .int 0])), (q, .inl (cA, 20000, .inl g))] H := hP
  have hD : va_D A [(h, .inr (1, [.ref q, .int (nI c0), .int 0])), (q, .inl (cA, 20000, .inl g))] := hD
  refine lv_aload_n hx hb dX1_line_5 rfl (lv_at hl 0 rfl) ?_
  refine lv_iload_n hx hb dX1_line_6 rfl (lv_at hl 1 rfl) ?_
  refine lc_callR (W.runV (As := [.int (nI k0)]) (rest := []) ⟨hx, hb, hml, hown, hts⟩ (m_line0 l D h q cA 0 c0 g hc0 k0 j0 hk0 hj hj0) (cwV 1 hts gX1_line_X1_line0 rfl rfl rfl (by decide +kernel) ⟨Nat.le_of_ble_eq_true rfl, Nat.le_of_ble_eq_true rfl⟩) (lc_RdV (q0 := 0) (ci := 1) (q := (RX1, TX1, 3)) hP hK rfl rfl) rfl rfl hl.1 rfl (lv_room (Nat.le_of_ble_eq_true rfl)) dX1_line_7 ⟨Nat.le_refl _, Nat.le_refl _⟩) ?_
  exact W.iret (v := nI j0) hx hb hr (fun t ht hW => ⟨(), rfl, trivial, by rw [ht]; exact hP, va_K.moved hW.alike hK, hD, hS.F ht⟩) hS.2.2 dX1_line_10
set_option maxHeartbeats 4000000 in
set_option maxRecDepth 100000 in
theorem m_lineOf (l : Launch) (D : va_G) (h q : Nat) (cA : ClassId) (sz : Nat) (e : Int32) (c0 : Nat) (g : Nat → Int32) (hc0 : c0 ≤ 20000) (i : Nat) (hi : i ≤ c0) : Met l yX1_lineOf wsX1_lineOf ({ frames := 9, cells := 0, slots := 0, locals := 160 }) (lc_Wr [.ref h, .int (nI i)] D [(h, .inr (1, [.ref q, .int (nI c0), .int e])), (q, .inl (cA, 20000, .inl g))] [(cA, .int)] sz) (lc_QW (S := Unit) D (va_A [(h, .inr (1, [.ref q, .int (nI c0), .int e])), (q, .inl (cA, 20000, .inl g))] sz) (fun u => some (.int (nI (lc_cnt g i)))) (fun u => [(h, .inr (1, [.ref q, .int (nI c0), .int 0])), (q, .inl (cA, 20000, .inl g))]) (fun u => [(cA, .int)]) (fun u => True)) 0 0 (va_A [(h, .inr (1, [.ref q, .int (nI c0), .int e])), (q, .inl (cA, 20000, .inl g))] sz) := by
  refine va_MetW (cc := cX1_lineOf) (maxL := 3) (ret := (some .int)) (hh := [(5, 10, 11, 13)]) (by decide) rfl ?_
  intro p e' s m args below meth c s₁ B hml hv
  obtain ⟨rfl, hsz, hP, hK, hD0⟩ := hv
  have hx := B.exec
  have hb := B.bytes
  have hr := B.returns
  have hts := atoms_spec (ws := wsX1_lineOf) B.pre
  have hown : s.vm.findClass RX1 = some m.cls := findClass_of_methodNamed B.named
  have hlocks := B.notSynchronized
  have hinX1 : ∀ w ∈ u_ws RX1 TX1 3, w ∈ wsX1_lineOf := fun w h => List.mem_cons_of_mem _ (lb_X1 w h)
  subst hsz
  have hD := hD0.self (sz := s.heap.size)
  generalize hAe : va_A [(h, .inr (1, [.ref q, .int (nI c0), .int e])), (q, .inl (cA, 20000, .inl g))] s.heap.size = A at hD ⊢
  have hA : ∀ q : Nat, s.heap.size ≤ q → A q := fun q h => by rw [← hAe]; exact Or.inr h
  have hS : va_S A s.heap s.heap [] := va_S.rf
  have hP : va_P D vwCl [(h, .inr (1, [.ref q, .int (nI c0), .int e])), (q, .inl (cA, 20000, .inl g))] s.heap := hP
  have hl := lv_entry ([.ref h, .int (nI i)]) (n := 3) (Nat.le_of_ble_eq_true rfl)
  rw [lg_entry_eq]
  generalize (lg_sl ([.ref h, .int (nI i)]) ++ List.replicate (3 - (lg_sl ([.ref h, .int (nI i)])).length) Slot.unset).toArray = ls at hl ⊢
  have hl : lv_has ls 3 [(0, .ref h), (1, .int (nI i))] := hl
  refine lv_aload_n hx hb dX1_lineOf_0 rfl (lv_at hl 0 rfl) ?_
  refine lv_iconst (v := 0) hx hb dX1_lineOf_1 (by decide) ?_
  refine va_put (D := D) (ci := 1) (v := .int 0) (ty := .int) (C := RX1) (T := TX1) (N := 3) hx hb hts hinX1 tyX1 tyX1_ok nmX1 hown hK hP hD hS 0 rfl rfl 2 (by decide) (hts _ (List.mem_cons_of_mem _ lb_238)) (fun _ h9 => h9) rfl (by decide +kernel) rfl rfl (Nat.le_of_ble_eq_true rfl) dX1_lineOf_2 (fun H locs hP hD hS => ?_)
  have hP : va_P D vwCl [(h, .inr (1, [.ref q, .int (nI c0), .int 0])), (q, .inl (cA, 20000, .inl g))] H := hP
  have hD : va_D A [(h, .inr (1, [.ref q, .int (nI c0), .int 0])), (q, .inl (cA, 20000, .inl g))] := hD
  refine lv_aload_n hx hb dX1_lineOf_5 rfl (lv_at hl 0 rfl) ?_
  refine lv_iload_n hx hb dX1_lineOf_6 rfl (lv_at hl 1 rfl) ?_
  refine lc_callR (W.runV (As := [.int (nI i)]) (rest := []) ⟨hx, hb, hml, hown, hts⟩ (m_lineOf0 l D h q cA 0 c0 g hc0 i hi) (cwV 1 hts gX1_lineOf_X1_lineOf0 rfl rfl rfl (by decide +kernel) ⟨Nat.le_of_ble_eq_true rfl, Nat.le_of_ble_eq_true rfl⟩) (lc_RdV (q0 := 0) (ci := 1) (q := (RX1, TX1, 3)) hP hK rfl rfl) rfl rfl hl.1 rfl (lv_room (Nat.le_of_ble_eq_true rfl)) dX1_lineOf_7 ⟨Nat.le_refl _, Nat.le_refl _⟩) ?_
  exact W.iret (v := nI (lc_cnt g i)) hx hb hr (fun t ht hW => ⟨(), rfl, trivial, by rw [ht]; exact hP, va_K.moved hW.alike hK, hD, hS.F ht⟩) hS.2.2 dX1_lineOf_10
set_option maxHeartbeats 4000000 in
set_option maxRecDepth 100000 in
theorem m_get_bad (l : Launch) (D : va_G) (h q : Nat) (cA : ClassId) (sz : Nat) (hst : l.stackTraces = false) (n e : Int32) (g : Nat → Int32) (p0 : Int32) (hbad : p0 < 0 ∨ n ≤ p0) : Met l yX1_get wsX1_get ({ frames := 9, cells := 1, slots := 6, locals := 160 }) (lc_WT [.ref h, .int p0] D [(h, .inr (1, [.ref q, .int n, .int e])), (q, .inl (cA, 20000, .inl g))] [(cA, .int)] sz) (lc_QW (S := Unit) D (va_A [(h, .inr (1, [.ref q, .int n, .int e])), (q, .inl (cA, 20000, .inl g))] sz) (fun u => some (.int 0)) (fun u => [(h, .inr (1, [.ref q, .int n, .int 1])), (q, .inl (cA, 20000, .inl g))]) (fun u => [(cA, .int)]) (fun u => True)) 1 6 (va_A [(h, .inr (1, [.ref q, .int n, .int e])), (q, .inl (cA, 20000, .inl g))] sz) := by
  refine va_MetW (cc := cX1_get) (maxL := 3) (ret := (some .int)) (hh := [(5, 10, 11, 27)]) (by decide) rfl ?_
  intro p e' s m args below meth c s₁ B hml hv
  obtain ⟨rfl, hsz, hP, hK, hD0, hZ⟩ := hv
  have hx := B.exec
  have hb := B.bytes
  have hr := B.returns
  have hts := atoms_spec (ws := wsX1_get) B.pre
  have hown : s.vm.findClass RX1 = some m.cls := findClass_of_methodNamed B.named
  have hlocks := B.notSynchronized
  have hinX1 : ∀ w ∈ u_ws RX1 TX1 3, w ∈ wsX1_get := fun w h => List.mem_cons_of_mem _ (lb_X1 w h)
  have htb : c.exceptionTable.toList = tableOf [(5, 10, 11, 27)] := vx_table (x := yX1_get) B (hts (.codeWith yX1_get cX1_get 3 (some .int) [(5, 10, 11, 27)]) List.mem_cons_self)
  subst hsz
  have hD := hD0.self (sz := s.heap.size)
  generalize hAe : va_A [(h, .inr (1, [.ref q, .int n, .int e])), (q, .inl (cA, 20000, .inl g))] s.heap.size = A at hD hZ ⊢
  have hA : ∀ q : Nat, s.heap.size ≤ q → A q := fun q h => by rw [← hAe]; exact Or.inr h
  have hS : va_S A s.heap s.heap [] := va_S.rf
  have hP : va_P D vwCl [(h, .inr (1, [.ref q, .int n, .int e])), (q, .inl (cA, 20000, .inl g))] s.heap := hP
  have hl := lv_entry ([.ref h, .int p0]) (n := 3) (Nat.le_of_ble_eq_true rfl)
  rw [lg_entry_eq]
  generalize (lg_sl ([.ref h, .int p0]) ++ List.replicate (3 - (lg_sl ([.ref h, .int p0])).length) Slot.unset).toArray = ls at hl ⊢
  have hl : lv_has ls 3 [(0, .ref h), (1, .int p0)] := hl
  refine lv_aload_n hx hb dX1_get_0 rfl (lv_at hl 0 rfl) ?_
  refine lv_iconst (v := 0) hx hb dX1_get_1 (by decide) ?_
  refine va_put (D := D) (ci := 1) (v := .int 0) (ty := .int) (C := RX1) (T := TX1) (N := 3) hx hb hts hinX1 tyX1 tyX1_ok nmX1 hown hK hP hD hS 0 rfl rfl 2 (by decide) (hts _ (List.mem_cons_of_mem _ lb_238)) (fun _ h9 => h9) rfl (by decide +kernel) rfl rfl (Nat.le_of_ble_eq_true rfl) dX1_get_2 (fun H locs hP hD hS => ?_)
  have hP : va_P D vwCl [(h, .inr (1, [.ref q, .int n, .int 0])), (q, .inl (cA, 20000, .inl g))] H := hP
  have hD : va_D A [(h, .inr (1, [.ref q, .int n, .int 0])), (q, .inl (cA, 20000, .inl g))] := hD
  have hZ := hZ.kept hS.2.1
  refine lv_aload_n hx hb dX1_get_5 rfl (lv_at hl 0 rfl) ?_
  refine lv_iload_n hx hb dX1_get_6 rfl (lv_at hl 1 rfl) ?_
  refine lc_callX (vx_runV (As := [.int p0]) (rest := []) ⟨hx, hb, hml, hown, hts⟩ (m_get0_bad l D h q cA hst n 0 g p0 hbad) (cwV 1 hts gX1_get_X1_get0 rfl rfl rfl (by decide +kernel) ⟨Nat.le_of_ble_eq_true rfl, Nat.le_of_ble_eq_true rfl⟩) (lc_TxV (q0 := 0) (ci := 1) (q := (RX1, TX1, 3)) hP hK (hZ.narrow (fun _ h => h.elim)) rfl rfl) rfl rfl hl.1 rfl (lv_room (Nat.le_of_ble_eq_true rfl)) dX1_get_7 ⟨Nat.le_refl _, Nat.le_refl _⟩) (fun ce q9 H1 hz hk hce hcv hcl => ?_)
  refine vx_catch (name := "java/util/NoSuchElementException") hown [] ⟨5, 10, 11, 27⟩ [] (by rw [htb]; rfl) (fun _ h => nomatch h) (by decide) (by decide) (hts _ (List.mem_cons_of_mem _ lb_277)) (hZ.2.2.2.2.1.use rfl) hce hcv hcl ?_
  have hP := lc_keptP hP hk
  have hS := lc_keptS hS hz hk
  refine W.eq (g2 := F0 m 11 ls [.ref q9]) rfl ?_
  refine lv_astore_n hx hb dX1_get_11 rfl hl (by decide) rfl (fun ls hl => ?_)
  have hl : lv_has ls 3 [(2, .ref q9), (0, .ref h), (1, .int p0)] := hl
  refine lv_aload_n hx hb dX1_get_12 rfl (lv_at hl 1 rfl) ?_
  refine lv_iconst (v := 1) hx hb dX1_get_13 (by decide) ?_
  refine va_put (D := D) (ci := 1) (v := .int 1) (ty := .int) (C := RX1) (T := TX1) (N := 3) hx hb hts hinX1 tyX1 tyX1_ok nmX1 hown hK hP hD hS 0 rfl rfl 2 (by decide) (hts _ (List.mem_cons_of_mem _ lb_238)) (fun _ h9 => h9) rfl (by decide +kernel) rfl rfl (Nat.le_of_ble_eq_true rfl) dX1_get_14 (fun H locs hP hD hS => ?_)
  have hP : va_P D vwCl [(h, .inr (1, [.ref q, .int n, .int 1])), (q, .inl (cA, 20000, .inl g))] H := hP
  have hD : va_D A [(h, .inr (1, [.ref q, .int n, .int 1])), (q, .inl (cA, 20000, .inl g))] := hD
  refine lv_iconst (v := 0) hx hb dX1_get_17 (by decide) ?_
  exact W.iret (v := 0) hx hb hr (fun t ht hW => ⟨(), rfl, trivial, by rw [ht]; exact hP, va_K.moved hW.alike hK, hD, hS.F ht⟩) hS.2.2 dX1_get_18
set_option maxHeartbeats 4000000 in
set_option maxRecDepth 100000 in
theorem m_line_bad (l : Launch) (D : va_G) (h q : Nat) (cA : ClassId) (sz : Nat) (hst : l.stackTraces = false) (e : Int32) (c0 : Nat) (g : Nat → Int32) (hc0 : c0 ≤ 20000) (p0 : Int32) (hbad : p0 < 0 ∨ nI (lc_cnt g c0) < p0) : Met l yX1_line wsX1_line ({ frames := 9, cells := 1, slots := 6, locals := 160 }) (lc_WT [.ref h, .int p0] D [(h, .inr (1, [.ref q, .int (nI c0), .int e])), (q, .inl (cA, 20000, .inl g))] [(cA, .int)] sz) (lc_QW (S := Unit) D (va_A [(h, .inr (1, [.ref q, .int (nI c0), .int e])), (q, .inl (cA, 20000, .inl g))] sz) (fun u => some (.int 0)) (fun u => [(h, .inr (1, [.ref q, .int (nI c0), .int 1])), (q, .inl (cA, 20000, .inl g))]) (fun u => [(cA, .int)]) (fun u => True)) 1 6 (va_A [(h, .inr (1, [.ref q, .int (nI c0), .int e])), (q, .inl (cA, 20000, .inl g))] sz) := by
  refine va_MetW (cc := cX1_line) (maxL := 3) (ret := (some .int)) (hh := [(5, 10, 11, 27)]) (by decide) rfl ?_
  intro p e' s m args below meth c s₁ B hml hv
  obtain ⟨rfl, hsz, hP, hK, hD0, hZ⟩ := hv
  have hx := B.exec
  have hb := B.bytes
  have hr := B.returns
  have hts := atoms_spec (ws := wsX1_line) B.pre
  have hown : s.vm.findClass RX1 = some m.cls := findClass_of_methodNamed B.named
  have hlocks := B.notSynchronized
  have hinX1 : ∀ w ∈ u_ws RX1 TX1 3, w ∈ wsX1_line := fun w h => List.mem_cons_of_mem _ (lb_X1 w h)
  have htb : c.exceptionTable.toList = tableOf [(5, 10, 11, 27)] := vx_table (x := yX1_line) B (hts (.codeWith yX1_line cX1_line 3 (some .int) [(5, 10, 11, 27)]) List.mem_cons_self)
  subst hsz
  have hD := hD0.self (sz := s.heap.size)
  generalize hAe : va_A [(h, .inr (1, [.ref q, .int (nI c0), .int e])), (q, .inl (cA, 20000, .inl g))] s.heap.size = A at hD hZ ⊢
  have hA : ∀ q : Nat, s.heap.size ≤ q → A q := fun q h => by rw [← hAe]; exact Or.inr h
  have hS : va_S A s.heap s.heap [] := va_S.rf
  have hP : va_P D vwCl [(h, .inr (1, [.ref q, .int (nI c0), .int e])), (q, .inl (cA, 20000, .inl g))] s.heap := hP
  have hl := lv_entry ([.ref h, .int p0]) (n := 3) (Nat.le_of_ble_eq_true rfl)
  rw [lg_entry_eq]
  generalize (lg_sl ([.ref h, .int p0]) ++ List.replicate (3 - (lg_sl ([.ref h, .int p0])).length) Slot.unset).toArray = ls at hl ⊢
  have hl : lv_has ls 3 [(0, .ref h), (1, .int p0)] := hl
  refine lv_aload_n hx hb dX1_line_0 rfl (lv_at hl 0 rfl) ?_
  refine lv_iconst (v := 0) hx hb dX1_line_1 (by decide) ?_
  refine va_put (D := D) (ci := 1) (v := .int 0) (ty := .int) (C := RX1) (T := TX1) (N := 3) hx hb hts hinX1 tyX1 tyX1_ok nmX1 hown hK hP hD hS 0 rfl rfl 2 (by decide) (hts _ (List.mem_cons_of_mem _ lb_238)) (fun _ h9 => h9) rfl (by decide +kernel) rfl rfl (Nat.le_of_ble_eq_true rfl) dX1_line_2 (fun H locs hP hD hS => ?_)
  have hP : va_P D vwCl [(h, .inr (1, [.ref q, .int (nI c0), .int 0])), (q, .inl (cA, 20000, .inl g))] H := hP
  have hD : va_D A [(h, .inr (1, [.ref q, .int (nI c0), .int 0])), (q, .inl (cA, 20000, .inl g))] := hD
  have hZ := hZ.kept hS.2.1
  refine lv_aload_n hx hb dX1_line_5 rfl (lv_at hl 0 rfl) ?_
  refine lv_iload_n hx hb dX1_line_6 rfl (lv_at hl 1 rfl) ?_
  refine lc_callX (vx_runV (As := [.int p0]) (rest := []) ⟨hx, hb, hml, hown, hts⟩ (m_line0_bad l D h q cA hst 0 c0 g hc0 p0 hbad) (cwV 1 hts gX1_line_X1_line0 rfl rfl rfl (by decide +kernel) ⟨Nat.le_of_ble_eq_true rfl, Nat.le_of_ble_eq_true rfl⟩) (lc_TxV (q0 := 0) (ci := 1) (q := (RX1, TX1, 3)) hP hK (hZ.narrow (fun _ h => h.elim)) rfl rfl) rfl rfl hl.1 rfl (lv_room (Nat.le_of_ble_eq_true rfl)) dX1_line_7 ⟨Nat.le_refl _, Nat.le_refl _⟩) (fun ce q9 H1 hz hk hce hcv hcl => ?_)
  refine vx_catch (name := "java/util/NoSuchElementException") hown [] ⟨5, 10, 11, 27⟩ [] (by rw [htb]; rfl) (fun _ h => nomatch h) (by decide) (by decide) (hts _ (List.mem_cons_of_mem _ lb_277)) (hZ.2.2.2.2.1.use rfl) hce hcv hcl ?_
  have hP := lc_keptP hP hk
  have hS := lc_keptS hS hz hk
  refine W.eq (g2 := F0 m 11 ls [.ref q9]) rfl ?_
  refine lv_astore_n hx hb dX1_line_11 rfl hl (by decide) rfl (fun ls hl => ?_)
  have hl : lv_has ls 3 [(2, .ref q9), (0, .ref h), (1, .int p0)] := hl
  refine lv_aload_n hx hb dX1_line_12 rfl (lv_at hl 1 rfl) ?_
  refine lv_iconst (v := 1) hx hb dX1_line_13 (by decide) ?_
  refine va_put (D := D) (ci := 1) (v := .int 1) (ty := .int) (C := RX1) (T := TX1) (N := 3) hx hb hts hinX1 tyX1 tyX1_ok nmX1 hown hK hP hD hS 0 rfl rfl 2 (by decide) (hts _ (List.mem_cons_of_mem _ lb_238)) (fun _ h9 => h9) rfl (by decide +kernel) rfl rfl (Nat.le_of_ble_eq_true rfl) dX1_line_14 (fun H locs hP hD hS => ?_)
  have hP : va_P D vwCl [(h, .inr (1, [.ref q, .int (nI c0), .int 1])), (q, .inl (cA, 20000, .inl g))] H := hP
  have hD : va_D A [(h, .inr (1, [.ref q, .int (nI c0), .int 1])), (q, .inl (cA, 20000, .inl g))] := hD
  refine lv_iconst (v := 0) hx hb dX1_line_17 (by decide) ?_
  exact W.iret (v := 0) hx hb hr (fun t ht hW => ⟨(), rfl, trivial, by rw [ht]; exact hP, va_K.moved hW.alike hK, hD, hS.F ht⟩) hS.2.2 dX1_line_18
set_option maxHeartbeats 4000000 in
set_option maxRecDepth 100000 in
theorem m_lineOf_bad (l : Launch) (D : va_G) (h q : Nat) (cA : ClassId) (sz : Nat) (hst : l.stackTraces = false) (n e : Int32) (g : Nat → Int32) (p0 : Int32) (hbad : p0 < 0 ∨ n < p0) : Met l yX1_lineOf wsX1_lineOf ({ frames := 9, cells := 1, slots := 6, locals := 160 }) (lc_WT [.ref h, .int p0] D [(h, .inr (1, [.ref q, .int n, .int e])), (q, .inl (cA, 20000, .inl g))] [(cA, .int)] sz) (lc_QW (S := Unit) D (va_A [(h, .inr (1, [.ref q, .int n, .int e])), (q, .inl (cA, 20000, .inl g))] sz) (fun u => some (.int 0)) (fun u => [(h, .inr (1, [.ref q, .int n, .int 1])), (q, .inl (cA, 20000, .inl g))]) (fun u => [(cA, .int)]) (fun u => True)) 1 6 (va_A [(h, .inr (1, [.ref q, .int n, .int e])), (q, .inl (cA, 20000, .inl g))] sz) := by
  refine va_MetW (cc := cX1_lineOf) (maxL := 3) (ret := (some .int)) (hh := [(5, 10, 11, 13)]) (by decide) rfl ?_
  intro p e' s m args below meth c s₁ B hml hv
  obtain ⟨rfl, hsz, hP, hK, hD0, hZ⟩ := hv
  have hx := B.exec
  have hb := B.bytes
  have hr := B.returns
  have hts := atoms_spec (ws := wsX1_lineOf) B.pre
  have hown : s.vm.findClass RX1 = some m.cls := findClass_of_methodNamed B.named
  have hlocks := B.notSynchronized
  have hinX1 : ∀ w ∈ u_ws RX1 TX1 3, w ∈ wsX1_lineOf := fun w h => List.mem_cons_of_mem _ (lb_X1 w h)
  have htb : c.exceptionTable.toList = tableOf [(5, 10, 11, 13)] := vx_table (x := yX1_lineOf) B (hts (.codeWith yX1_lineOf cX1_lineOf 3 (some .int) [(5, 10, 11, 13)]) List.mem_cons_self)
  subst hsz
  have hD := hD0.self (sz := s.heap.size)
  generalize hAe : va_A [(h, .inr (1, [.ref q, .int n, .int e])), (q, .inl (cA, 20000, .inl g))] s.heap.size = A at hD hZ ⊢
  have hA : ∀ q : Nat, s.heap.size ≤ q → A q := fun q h => by rw [← hAe]; exact Or.inr h
  have hS : va_S A s.heap s.heap [] := va_S.rf
  have hP : va_P D vwCl [(h, .inr (1, [.ref q, .int n, .int e])), (q, .inl (cA, 20000, .inl g))] s.heap := hP
  have hl := lv_entry ([.ref h, .int p0]) (n := 3) (Nat.le_of_ble_eq_true rfl)
  rw [lg_entry_eq]
  generalize (lg_sl ([.ref h, .int p0]) ++ List.replicate (3 - (lg_sl ([.ref h, .int p0])).length) Slot.unset).toArray = ls at hl ⊢
  have hl : lv_has ls 3 [(0, .ref h), (1, .int p0)] := hl
  refine lv_aload_n hx hb dX1_lineOf_0 rfl (lv_at hl 0 rfl) ?_
  refine lv_iconst (v := 0) hx hb dX1_lineOf_1 (by decide) ?_
  refine va_put (D := D) (ci := 1) (v := .int 0) (ty := .int) (C := RX1) (T := TX1) (N := 3) hx hb hts hinX1 tyX1 tyX1_ok nmX1 hown hK hP hD hS 0 rfl rfl 2 (by decide) (hts _ (List.mem_cons_of_mem _ lb_238)) (fun _ h9 => h9) rfl (by decide +kernel) rfl rfl (Nat.le_of_ble_eq_true rfl) dX1_lineOf_2 (fun H locs hP hD hS => ?_)
  have hP : va_P D vwCl [(h, .inr (1, [.ref q, .int n, .int 0])), (q, .inl (cA, 20000, .inl g))] H := hP
  have hD : va_D A [(h, .inr (1, [.ref q, .int n, .int 0])), (q, .inl (cA, 20000, .inl g))] := hD
  have hZ := hZ.kept hS.2.1
  refine lv_aload_n hx hb dX1_lineOf_5 rfl (lv_at hl 0 rfl) ?_
  refine lv_iload_n hx hb dX1_lineOf_6 rfl (lv_at hl 1 rfl) ?_
  refine lc_callX (vx_runV (As := [.int p0]) (rest := []) ⟨hx, hb, hml, hown, hts⟩ (m_lineOf0_bad l D h q cA hst n 0 g p0 hbad) (cwV 1 hts gX1_lineOf_X1_lineOf0 rfl rfl rfl (by decide +kernel) ⟨Nat.le_of_ble_eq_true rfl, Nat.le_of_ble_eq_true rfl⟩) (lc_TxV (q0 := 0) (ci := 1) (q := (RX1, TX1, 3)) hP hK (hZ.narrow (fun _ h => h.elim)) rfl rfl) rfl rfl hl.1 rfl (lv_room (Nat.le_of_ble_eq_true rfl)) dX1_lineOf_7 ⟨Nat.le_refl _, Nat.le_refl _⟩) (fun ce q9 H1 hz hk hce hcv hcl => ?_)
  refine vx_catch (name := "java/lang/IllegalArgumentException") hown [] ⟨5, 10, 11, 13⟩ [] (by rw [htb]; rfl) (fun _ h => nomatch h) (by decide) (by decide) (hts _ (List.mem_cons_of_mem _ lb_254)) (hZ.2.2.1.use rfl) hce hcv hcl ?_
  have hP := lc_keptP hP hk
  have hS := lc_keptS hS hz hk
  refine W.eq (g2 := F0 m 11 ls [.ref q9]) rfl ?_
  refine lv_astore_n hx hb dX1_lineOf_11 rfl hl (by decide) rfl (fun ls hl => ?_)
  have hl : lv_has ls 3 [(2, .ref q9), (0, .ref h), (1, .int p0)] := hl
  refine lv_aload_n hx hb dX1_lineOf_12 rfl (lv_at hl 1 rfl) ?_
  refine lv_iconst (v := 1) hx hb dX1_lineOf_13 (by decide) ?_
  refine va_put (D := D) (ci := 1) (v := .int 1) (ty := .int) (C := RX1) (T := TX1) (N := 3) hx hb hts hinX1 tyX1 tyX1_ok nmX1 hown hK hP hD hS 0 rfl rfl 2 (by decide) (hts _ (List.mem_cons_of_mem _ lb_238)) (fun _ h9 => h9) rfl (by decide +kernel) rfl rfl (Nat.le_of_ble_eq_true rfl) dX1_lineOf_14 (fun H locs hP hD hS => ?_)
  have hP : va_P D vwCl [(h, .inr (1, [.ref q, .int n, .int 1])), (q, .inl (cA, 20000, .inl g))] H := hP
  have hD : va_D A [(h, .inr (1, [.ref q, .int n, .int 1])), (q, .inl (cA, 20000, .inl g))] := hD
  refine lv_iconst (v := 0) hx hb dX1_lineOf_17 (by decide) ?_
  exact W.iret (v := 0) hx hb hr (fun t ht hW => ⟨(), rfl, trivial, by rw [ht]; exact hP, va_K.moved hW.alike hK, hD, hS.F ht⟩) hS.2.2 dX1_lineOf_18
set_option maxHeartbeats 4000000 in
set_option maxRecDepth 100000 in
theorem m_delete_bad (l : Launch) (D : va_G) (h q : Nat) (cA : ClassId) (sz : Nat) (hst : l.stackTraces = false) (n e : Int32) (g : Nat → Int32) (p0 p1 : Int32) (hbad : p0 < 0 ∨ p1 < 1 ∨ n < p1 ∨ n - p1 < p0) : Met l yX1_delete wsX1_delete ({ frames := 9, cells := 1, slots := 6, locals := 160 }) (lc_WT [.ref h, .int p0, .int p1] D [(h, .inr (1, [.ref q, .int n, .int e])), (q, .inl (cA, 20000, .inl g))] [(cA, .int)] sz) (lc_QW (S := Unit) D (va_A [(h, .inr (1, [.ref q, .int n, .int e])), (q, .inl (cA, 20000, .inl g))] sz) (fun u => some (.int 0)) (fun u => [(h, .inr (1, [.ref q, .int n, .int 1])), (q, .inl (cA, 20000, .inl g))]) (fun u => [(cA, .int)]) (fun u => True)) 1 6 (va_A [(h, .inr (1, [.ref q, .int n, .int e])), (q, .inl (cA, 20000, .inl g))] sz) := by
  refine va_MetW (cc := cX1_delete) (maxL := 4) (ret := (some .int)) (hh := [(5, 11, 12, 13)]) (by decide) rfl ?_
  intro p e' s m args below meth c s₁ B hml hv
  obtain ⟨rfl, hsz, hP, hK, hD0, hZ⟩ := hv
  have hx := B.exec
  have hb := B.bytes
  have hr := B.returns
  have hts := atoms_spec (ws := wsX1_delete) B.pre
  have hown : s.vm.findClass RX1 = some m.cls := findClass_of_methodNamed B.named
  have hlocks := B.notSynchronized
  have hinX1 : ∀ w ∈ u_ws RX1 TX1 3, w ∈ wsX1_delete := fun w h => List.mem_cons_of_mem _ (lb_X1 w h)
  have htb : c.exceptionTable.toList = tableOf [(5, 11, 12, 13)] := vx_table (x := yX1_delete) B (hts (.codeWith yX1_delete cX1_delete 4 (some .int) [(5, 11, 12, 13)]) List.mem_cons_self)
  subst hsz
  have hD := hD0.self (sz := s.heap.size)
  generalize hAe : va_A [(h, .inr (1, [.ref q, .int n, .int e])), (q, .inl (cA, 20000, .inl g))] s.heap.size = A at hD hZ ⊢
  have hA : ∀ q : Nat, s.heap.size ≤ q → A q := fun q h => by rw [← hAe]; exact Or.inr h
  have hS : va_S A s.heap s.heap [] := va_S.rf
  have hP : va_P D vwCl [(h, .inr (1, [.ref q, .int n, .int e])), (q, .inl (cA, 20000, .inl g))] s.heap := hP
  have hl := lv_entry ([.ref h, .int p0, .int p1]) (n := 4) (Nat.le_of_ble_eq_true rfl)
  rw [lg_entry_eq]
  generalize (lg_sl ([.ref h, .int p0, .int p1]) ++ List.replicate (4 - (lg_sl ([.ref h, .int p0, .int p1])).length) Slot.unset).toArray = ls at hl ⊢
  have hl : lv_has ls 4 [(0, .ref h), (1, .int p0), (2, .int p1)] := hl
  refine lv_aload_n hx hb dX1_delete_0 rfl (lv_at hl 0 rfl) ?_
  refine lv_iconst (v := 0) hx hb dX1_delete_1 (by decide) ?_
  refine va_put (D := D) (ci := 1) (v := .int 0) (ty := .int) (C := RX1) (T := TX1) (N := 3) hx hb hts hinX1 tyX1 tyX1_ok nmX1 hown hK hP hD hS 0 rfl rfl 2 (by decide) (hts _ (List.mem_cons_of_mem _ lb_238)) (fun _ h9 => h9) rfl (by decide +kernel) rfl rfl (Nat.le_of_ble_eq_true rfl) dX1_delete_2 (fun H locs hP hD hS => ?_)
  have hP : va_P D vwCl [(h, .inr (1, [.ref q, .int n, .int 0])), (q, .inl (cA, 20000, .inl g))] H := hP
  have hD : va_D A [(h, .inr (1, [.ref q, .int n, .int 0])), (q, .inl (cA, 20000, .inl g))] := hD
  have hZ := hZ.kept hS.2.1
  refine lv_aload_n hx hb dX1_delete_5 rfl (lv_at hl 0 rfl) ?_
  refine lv_iload_n hx hb dX1_delete_6 rfl (lv_at hl 1 rfl) ?_
  refine lv_iload_n hx hb dX1_delete_7 rfl (lv_at hl 2 rfl) ?_
  refine lc_callX (vx_runV (As := [.int p0, .int p1]) (rest := []) ⟨hx, hb, hml, hown, hts⟩ (m_delete0_bad l D h q cA hst n 0 g p0 p1 hbad) (cwV 2 hts gX1_delete_X1_delete0 rfl rfl rfl (by decide +kernel) ⟨Nat.le_of_ble_eq_true rfl, Nat.le_of_ble_eq_true rfl⟩) (lc_TxV (q0 := 0) (ci := 1) (q := (RX1, TX1, 3)) hP hK (hZ.narrow (fun _ h => h.elim)) rfl rfl) rfl rfl hl.1 rfl (lv_room (Nat.le_of_ble_eq_true rfl)) dX1_delete_8 ⟨Nat.le_refl _, Nat.le_refl _⟩) (fun ce q9 H1 hz hk hce hcv hcl => ?_)
  refine vx_catch (name := "java/lang/IllegalArgumentException") hown [] ⟨5, 11, 12, 13⟩ [] (by rw [htb]; rfl) (fun _ h => nomatch h) (by decide) (by decide) (hts _ (List.mem_cons_of_mem _ lb_254)) (hZ.2.2.1.use rfl) hce hcv hcl ?_
  have hP := lc_keptP hP hk
  have hS := lc_keptS hS hz hk
  refine W.eq (g2 := F0 m 12 ls [.ref q9]) rfl ?_
  refine lv_astore_n hx hb dX1_delete_12 rfl hl (by decide) rfl (fun ls hl => ?_)
  have hl : lv_has ls 4 [(3, .ref q9), (0, .ref h), (1, .int p0), (2, .int p1)] := hl
  refine lv_aload_n hx hb dX1_delete_13 rfl (lv_at hl 1 rfl) ?_
  refine lv_iconst (v := 1) hx hb dX1_delete_14 (by decide) ?_
  refine va_put (D := D) (ci := 1) (v := .int 1) (ty := .int) (C := RX1) (T := TX1) (N := 3) hx hb hts hinX1 tyX1 tyX1_ok nmX1 hown hK hP hD hS 0 rfl rfl 2 (by decide) (hts _ (List.mem_cons_of_mem _ lb_238)) (fun _ h9 => h9) rfl (by decide +kernel) rfl rfl (Nat.le_of_ble_eq_true rfl) dX1_delete_15 (fun H locs hP hD hS => ?_)
  have hP : va_P D vwCl [(h, .inr (1, [.ref q, .int n, .int 1])), (q, .inl (cA, 20000, .inl g))] H := hP
  have hD : va_D A [(h, .inr (1, [.ref q, .int n, .int 1])), (q, .inl (cA, 20000, .inl g))] := hD
  refine lv_iconst (v := 0) hx hb dX1_delete_18 (by decide) ?_
  exact W.iret (v := 0) hx hb hr (fun t ht hW => ⟨(), rfl, trivial, by rw [ht]; exact hP, va_K.moved hW.alike hK, hD, hS.F ht⟩) hS.2.2 dX1_delete_19
set_option maxHeartbeats 4000000 in
set_option maxRecDepth 100000 in
theorem m_insert_bad (l : Launch) (D : va_G) (h q : Nat) (cA : ClassId) (sz : Nat) (hst : l.stackTraces = false) (n e : Int32) (g : Nat → Int32) (p0 p1 p2 p3 : Int32) (hbad : p0 < 0 ∨ n < p0 ∨ p3 < 1 ∨ 500 < p3) : Met l yX1_insert wsX1_insert ({ frames := 9, cells := 1, slots := 6, locals := 160 }) (lc_WT [.ref h, .int p0, .int p1, .int p2, .int p3] D [(h, .inr (1, [.ref q, .int n, .int e])), (q, .inl (cA, 20000, .inl g))] [(cA, .int)] sz) (lc_QW (S := Unit) D (va_A [(h, .inr (1, [.ref q, .int n, .int e])), (q, .inl (cA, 20000, .inl g))] sz) (fun u => some (.int 0)) (fun u => [(h, .inr (1, [.ref q, .int n, .int 1])), (q, .inl (cA, 20000, .inl g))]) (fun u => [(cA, .int)]) (fun u => True)) 1 6 (va_A [(h, .inr (1, [.ref q, .int n, .int e])), (q, .inl (cA, 20000, .inl g))] sz) := by
  refine va_MetW (cc := cX1_insert) (maxL := 6) (ret := (some .int)) (hh := [(5, 14, 15, 13), (5, 14, 25, 24)]) (by decide) rfl ?_
  intro p e' s m args below meth c s₁ B hml hv
  obtain ⟨rfl, hsz, hP, hK, hD0, hZ⟩ := hv
  have hx := B.exec
  have hb := B.bytes
  have hr := B.returns
  have hts := atoms_spec (ws := wsX1_insert) B.pre
  have hown : s.vm.findClass RX1 = some m.cls := findClass_of_methodNamed B.named
  have hlocks := B.notSynchronized
  have hinX1 : ∀ w ∈ u_ws RX1 TX1 3, w ∈ wsX1_insert := fun w h => List.mem_cons_of_mem _ (lb_X1 w h)
  have htb : c.exceptionTable.toList = tableOf [(5, 14, 15, 13), (5, 14, 25, 24)] := vx_table (x := yX1_insert) B (hts (.codeWith yX1_insert cX1_insert 6 (some .int) [(5, 14, 15, 13), (5, 14, 25, 24)]) List.mem_cons_self)
  subst hsz
  have hD := hD0.self (sz := s.heap.size)
  generalize hAe : va_A [(h, .inr (1, [.ref q, .int n, .int e])), (q, .inl (cA, 20000, .inl g))] s.heap.size = A at hD hZ ⊢
  have hA : ∀ q : Nat, s.heap.size ≤ q → A q := fun q h => by rw [← hAe]; exact Or.inr h
  have hS : va_S A s.heap s.heap [] := va_S.rf
  have hP : va_P D vwCl [(h, .inr (1, [.ref q, .int n, .int e])), (q, .inl (cA, 20000, .inl g))] s.heap := hP
  have hl := lv_entry ([.ref h, .int p0, .int p1, .int p2, .int p3]) (n := 6) (Nat.le_of_ble_eq_true rfl)
  rw [lg_entry_eq]
  generalize (lg_sl ([.ref h, .int p0, .int p1, .int p2, .int p3]) ++ List.replicate (6 - (lg_sl ([.ref h, .int p0, .int p1, .int p2, .int p3])).length) Slot.unset).toArray = ls at hl ⊢
  have hl : lv_has ls 6 [(0, .ref h), (1, .int p0), (2, .int p1), (3, .int p2), (4, .int p3)] := hl
  refine lv_aload_n hx hb dX1_insert_0 rfl (lv_at hl 0 rfl) ?_
  refine lv_iconst (v := 0) hx hb dX1_insert_1 (by decide) ?_
  refine va_put (D := D) (ci := 1) (v := .int 0) (ty := .int) (C := RX1) (T := TX1) (N := 3) hx hb hts hinX1 tyX1 tyX1_ok nmX1 hown hK hP hD hS 0 rfl rfl 2 (by decide) (hts _ (List.mem_cons_of_mem _ lb_238)) (fun _ h9 => h9) rfl (by decide +kernel) rfl rfl (Nat.le_of_ble_eq_true rfl) dX1_insert_2 (fun H locs hP hD hS => ?_)
  have hP : va_P D vwCl [(h, .inr (1, [.ref q, .int n, .int 0])), (q, .inl (cA, 20000, .inl g))] H := hP
  have hD : va_D A [(h, .inr (1, [.ref q, .int n, .int 0])), (q, .inl (cA, 20000, .inl g))] := hD
  have hZ := hZ.kept hS.2.1
  refine lv_aload_n hx hb dX1_insert_5 rfl (lv_at hl 0 rfl) ?_
  refine lv_iload_n hx hb dX1_insert_6 rfl (lv_at hl 1 rfl) ?_
  refine lv_iload_n hx hb dX1_insert_7 rfl (lv_at hl 2 rfl) ?_
  refine lv_iload_n hx hb dX1_insert_8 rfl (lv_at hl 3 rfl) ?_
  refine lv_iload hx hb dX1_insert_9 (lv_at hl 4 rfl) ?_
  refine lc_callX (vx_runV (As := [.int p0, .int p1, .int p2, .int p3]) (rest := []) ⟨hx, hb, hml, hown, hts⟩ (m_insert0_bad l D h q cA hst n 0 g p0 p1 p2 p3 hbad) (cwV 4 hts gX1_insert_X1_insert0 rfl rfl rfl (by decide +kernel) ⟨Nat.le_of_ble_eq_true rfl, Nat.le_of_ble_eq_true rfl⟩) (lc_TxV (q0 := 0) (ci := 1) (q := (RX1, TX1, 3)) hP hK (hZ.narrow (fun _ h => h.elim)) rfl rfl) rfl rfl hl.1 rfl (lv_room (Nat.le_of_ble_eq_true rfl)) dX1_insert_11 ⟨Nat.le_refl _, Nat.le_refl _⟩) (fun ce q9 H1 hz hk hce hcv hcl => ?_)
  refine vx_catch (name := "java/lang/IllegalArgumentException") hown [] ⟨5, 14, 15, 13⟩ [⟨5, 14, 25, 24⟩] (by rw [htb]; rfl) (fun _ h => nomatch h) (by decide) (by decide) (hts _ (List.mem_cons_of_mem _ lb_254)) (hZ.2.2.1.use rfl) hce hcv hcl ?_
  have hP := lc_keptP hP hk
  have hS := lc_keptS hS hz hk
  refine W.eq (g2 := F0 m 15 ls [.ref q9]) rfl ?_
  refine lv_astore hx hb dX1_insert_15 hl (by decide) rfl (fun ls hl => ?_)
  have hl : lv_has ls 6 [(5, .ref q9), (0, .ref h), (1, .int p0), (2, .int p1), (3, .int p2), (4, .int p3)] := hl
  refine lv_aload_n hx hb dX1_insert_17 rfl (lv_at hl 1 rfl) ?_
  refine lv_iconst (v := 1) hx hb dX1_insert_18 (by decide) ?_
  refine va_put (D := D) (ci := 1) (v := .int 1) (ty := .int) (C := RX1) (T := TX1) (N := 3) hx hb hts hinX1 tyX1 tyX1_ok nmX1 hown hK hP hD hS 0 rfl rfl 2 (by decide) (hts _ (List.mem_cons_of_mem _ lb_238)) (fun _ h9 => h9) rfl (by decide +kernel) rfl rfl (Nat.le_of_ble_eq_true rfl) dX1_insert_19 (fun H locs hP hD hS => ?_)
  have hP : va_P D vwCl [(h, .inr (1, [.ref q, .int n, .int 1])), (q, .inl (cA, 20000, .inl g))] H := hP
  have hD : va_D A [(h, .inr (1, [.ref q, .int n, .int 1])), (q, .inl (cA, 20000, .inl g))] := hD
  refine lv_goto hx hb dX1_insert_22 (tgt := 32) rfl ?_
  refine lv_iconst (v := 0) hx hb dX1_insert_32 (by decide) ?_
  exact W.iret (v := 0) hx hb hr (fun t ht hW => ⟨(), rfl, trivial, by rw [ht]; exact hP, va_K.moved hW.alike hK, hD, hS.F ht⟩) hS.2.2 dX1_insert_33
set_option maxHeartbeats 4000000 in
set_option maxRecDepth 100000 in
theorem m_insert_full (l : Launch) (D : va_G) (h q : Nat) (cA : ClassId) (sz : Nat) (hst : l.stackTraces = false) (e : Int32) (c0 : Nat) (g : Nat → Int32) (i0 k0 : Nat) (p1 p2 : Int32) (hc0 : c0 ≤ 20000) (hi0 : i0 ≤ c0) (hk0 : 1 ≤ k0) (hk5 : k0 ≤ 500) (hfull : 20000 < c0 + k0) : Met l yX1_insert wsX1_insert ({ frames := 9, cells := 1, slots := 6, locals := 160 }) (lc_WT [.ref h, .int (nI i0), .int p1, .int p2, .int (nI k0)] D [(h, .inr (1, [.ref q, .int (nI c0), .int e])), (q, .inl (cA, 20000, .inl g))] [(cA, .int)] sz) (lc_QW (S := Unit) D (va_A [(h, .inr (1, [.ref q, .int (nI c0), .int e])), (q, .inl (cA, 20000, .inl g))] sz) (fun u => some (.int 0)) (fun u => [(h, .inr (1, [.ref q, .int (nI c0), .int 2])), (q, .inl (cA, 20000, .inl g))]) (fun u => [(cA, .int)]) (fun u => True)) 1 6 (va_A [(h, .inr (1, [.ref q, .int (nI c0), .int e])), (q, .inl (cA, 20000, .inl g))] sz) := by
  refine va_MetW (cc := cX1_insert) (maxL := 6) (ret := (some .int)) (hh := [(5, 14, 15, 13), (5, 14, 25, 24)]) (by decide) rfl ?_
  intro p e' s m args below meth c s₁ B hml hv
  obtain ⟨rfl, hsz, hP, hK, hD0, hZ⟩ := hv
  have hx := B.exec
  have hb := B.bytes
  have hr := B.returns
  have hts := atoms_spec (ws := wsX1_insert) B.pre
  have hown : s.vm.findClass RX1 = some m.cls := findClass_of_methodNamed B.named
  have hlocks := B.notSynchronized
  have hinX1 : ∀ w ∈ u_ws RX1 TX1 3, w ∈ wsX1_insert := fun w h => List.mem_cons_of_mem _ (lb_X1 w h)
  have htb : c.exceptionTable.toList = tableOf [(5, 14, 15, 13), (5, 14, 25, 24)] := vx_table (x := yX1_insert) B (hts (.codeWith yX1_insert cX1_insert 6 (some .int) [(5, 14, 15, 13), (5, 14, 25, 24)]) List.mem_cons_self)
  subst hsz
  have hD := hD0.self (sz := s.heap.size)
  generalize hAe : va_A [(h, .inr (1, [.ref q, .int (nI c0), .int e])), (q, .inl (cA, 20000, .inl g))] s.heap.size = A at hD hZ ⊢
  have hA : ∀ q : Nat, s.heap.size ≤ q → A q := fun q h => by rw [← hAe]; exact Or.inr h
  have hS : va_S A s.heap s.heap [] := va_S.rf
  have hP : va_P D vwCl [(h, .inr (1, [.ref q, .int (nI c0), .int e])), (q, .inl (cA, 20000, .inl g))] s.heap := hP
  have hl := lv_entry ([.ref h, .int (nI i0), .int p1, .int p2, .int (nI k0)]) (n := 6) (Nat.le_of_ble_eq_true rfl)
  rw [lg_entry_eq]
  generalize (lg_sl ([.ref h, .int (nI i0), .int p1, .int p2, .int (nI k0)]) ++ List.replicate (6 - (lg_sl ([.ref h, .int (nI i0), .int p1, .int p2, .int (nI k0)])).length) Slot.unset).toArray = ls at hl ⊢
  have hl : lv_has ls 6 [(0, .ref h), (1, .int (nI i0)), (2, .int p1), (3, .int p2), (4, .int (nI k0))] := hl
  refine lv_aload_n hx hb dX1_insert_0 rfl (lv_at hl 0 rfl) ?_
  refine lv_iconst (v := 0) hx hb dX1_insert_1 (by decide) ?_
  refine va_put (D := D) (ci := 1) (v := .int 0) (ty := .int) (C := RX1) (T := TX1) (N := 3) hx hb hts hinX1 tyX1 tyX1_ok nmX1 hown hK hP hD hS 0 rfl rfl 2 (by decide) (hts _ (List.mem_cons_of_mem _ lb_238)) (fun _ h9 => h9) rfl (by decide +kernel) rfl rfl (Nat.le_of_ble_eq_true rfl) dX1_insert_2 (fun H locs hP hD hS => ?_)
  have hP : va_P D vwCl [(h, .inr (1, [.ref q, .int (nI c0), .int 0])), (q, .inl (cA, 20000, .inl g))] H := hP
  have hD : va_D A [(h, .inr (1, [.ref q, .int (nI c0), .int 0])), (q, .inl (cA, 20000, .inl g))] := hD
  have hZ := hZ.kept hS.2.1
  refine lv_aload_n hx hb dX1_insert_5 rfl (lv_at hl 0 rfl) ?_
  refine lv_iload_n hx hb dX1_insert_6 rfl (lv_at hl 1 rfl) ?_
  refine lv_iload_n hx hb dX1_insert_7 rfl (lv_at hl 2 rfl) ?_
  refine lv_iload_n hx hb dX1_insert_8 rfl (lv_at hl 3 rfl) ?_
  refine lv_iload hx hb dX1_insert_9 (lv_at hl 4 rfl) ?_
  refine lc_callX (vx_runV (As := [.int (nI i0), .int p1, .int p2, .int (nI k0)]) (rest := []) ⟨hx, hb, hml, hown, hts⟩ (m_insert0_full l D h q cA hst 0 c0 g i0 k0 p1 p2 hc0 hi0 hk0 hk5 hfull) (cwV 4 hts gX1_insert_X1_insert0 rfl rfl rfl (by decide +kernel) ⟨Nat.le_of_ble_eq_true rfl, Nat.le_of_ble_eq_true rfl⟩) (lc_TxV (q0 := 0) (ci := 1) (q := (RX1, TX1, 3)) hP hK (hZ.narrow (fun _ h => h.elim)) rfl rfl) rfl rfl hl.1 rfl (lv_room (Nat.le_of_ble_eq_true rfl)) dX1_insert_11 ⟨Nat.le_refl _, Nat.le_refl _⟩) (fun ce q9 H1 hz hk hce hcv hcl => ?_)
  refine vx_catch (name := "java/lang/IllegalStateException") hown [⟨5, 14, 15, 13⟩] ⟨5, 14, 25, 24⟩ [] (by rw [htb]; rfl) (fun z hz => by rw [List.mem_singleton.mp hz]; exact Or.inr ⟨by decide, "java/lang/IllegalArgumentException", hts (.classLink RX1 13 "java/lang/IllegalArgumentException") (by decide +kernel), hZ.2.2.2.2.2.2.2.2⟩) (by decide) (by decide) (hts _ (List.mem_cons_of_mem _ lb_255)) (hZ.2.2.2.1.use rfl) hce hcv hcl ?_
  have hP := lc_keptP hP hk
  have hS := lc_keptS hS hz hk
  refine W.eq (g2 := F0 m 25 ls [.ref q9]) rfl ?_
  refine lv_astore hx hb dX1_insert_25 hl (by decide) rfl (fun ls hl => ?_)
  have hl : lv_has ls 6 [(5, .ref q9), (0, .ref h), (1, .int (nI i0)), (2, .int p1), (3, .int p2), (4, .int (nI k0))] := hl
  refine lv_aload_n hx hb dX1_insert_27 rfl (lv_at hl 1 rfl) ?_
  refine lv_iconst (v := 2) hx hb dX1_insert_28 (by decide) ?_
  refine va_put (D := D) (ci := 1) (v := .int 2) (ty := .int) (C := RX1) (T := TX1) (N := 3) hx hb hts hinX1 tyX1 tyX1_ok nmX1 hown hK hP hD hS 0 rfl rfl 2 (by decide) (hts _ (List.mem_cons_of_mem _ lb_238)) (fun _ h9 => h9) rfl (by decide +kernel) rfl rfl (Nat.le_of_ble_eq_true rfl) dX1_insert_29 (fun H locs hP hD hS => ?_)
  have hP : va_P D vwCl [(h, .inr (1, [.ref q, .int (nI c0), .int 2])), (q, .inl (cA, 20000, .inl g))] H := hP
  have hD : va_D A [(h, .inr (1, [.ref q, .int (nI c0), .int 2])), (q, .inl (cA, 20000, .inl g))] := hD
  refine lv_iconst (v := 0) hx hb dX1_insert_32 (by decide) ?_
  exact W.iret (v := 0) hx hb hr (fun t ht hW => ⟨(), rfl, trivial, by rw [ht]; exact hP, va_K.moved hW.alike hK, hD, hS.F ht⟩) hS.2.2 dX1_insert_33
set_option maxHeartbeats 4000000 in
set_option maxRecDepth 100000 in
theorem m_insert (l : Launch) (D : va_G) (h q : Nat) (cA : ClassId) (sz : Nat) (e : Int32) (c0 : Nat) (g : Nat → Int32) (i0 k0 : Nat) (v0 s0 : Int32) (hi0 : i0 ≤ c0) (hk0 : 1 ≤ k0) (hk5 : k0 ≤ 500) (hfit : c0 + k0 ≤ 20000) : Met l yX1_insert wsX1_insert ({ frames := 9, cells := 0, slots := 0, locals := 160 }) (lc_Wr [.ref h, .int (nI i0), .int v0, .int s0, .int (nI k0)] D [(h, .inr (1, [.ref q, .int (nI c0), .int e])), (q, .inl (cA, 20000, .inl g))] [(cA, .int)] sz) (lc_QW (S := (Nat → Int32)) D (va_A [(h, .inr (1, [.ref q, .int (nI c0), .int e])), (q, .inl (cA, 20000, .inl g))] sz) (fun u => some (.int (nI (c0 + k0)))) (fun u => [(h, .inr (1, [.ref q, .int (nI (c0 + k0)), .int 0])), (q, .inl (cA, 20000, .inl u))]) (fun u => [(cA, .int)]) (fun u => ∀ j, j < c0 + k0 → u j = lc_ins g i0 v0 s0 k0 j)) 0 0 (va_A [(h, .inr (1, [.ref q, .int (nI c0), .int e])), (q, .inl (cA, 20000, .inl g))] sz) := by
  refine va_MetW (cc := cX1_insert) (maxL := 6) (ret := (some .int)) (hh := [(5, 14, 15, 13), (5, 14, 25, 24)]) (by decide) rfl ?_
  intro p e' s m args below meth c s₁ B hml hv
  obtain ⟨rfl, hsz, hP, hK, hD0⟩ := hv
  have hx := B.exec
  have hb := B.bytes
  have hr := B.returns
  have hts := atoms_spec (ws := wsX1_insert) B.pre
  have hown : s.vm.findClass RX1 = some m.cls := findClass_of_methodNamed B.named
  have hlocks := B.notSynchronized
  have hinX1 : ∀ w ∈ u_ws RX1 TX1 3, w ∈ wsX1_insert := fun w h => List.mem_cons_of_mem _ (lb_X1 w h)
  subst hsz
  have hD := hD0.self (sz := s.heap.size)
  generalize hAe : va_A [(h, .inr (1, [.ref q, .int (nI c0), .int e])), (q, .inl (cA, 20000, .inl g))] s.heap.size = A at hD ⊢
  have hA : ∀ q : Nat, s.heap.size ≤ q → A q := fun q h => by rw [← hAe]; exact Or.inr h
  have hS : va_S A s.heap s.heap [] := va_S.rf
  have hP : va_P D vwCl [(h, .inr (1, [.ref q, .int (nI c0), .int e])), (q, .inl (cA, 20000, .inl g))] s.heap := hP
  have hl := lv_entry ([.ref h, .int (nI i0), .int v0, .int s0, .int (nI k0)]) (n := 6) (Nat.le_of_ble_eq_true rfl)
  rw [lg_entry_eq]
  generalize (lg_sl ([.ref h, .int (nI i0), .int v0, .int s0, .int (nI k0)]) ++ List.replicate (6 - (lg_sl ([.ref h, .int (nI i0), .int v0, .int s0, .int (nI k0)])).length) Slot.unset).toArray = ls at hl ⊢
  have hl : lv_has ls 6 [(0, .ref h), (1, .int (nI i0)), (2, .int v0), (3, .int s0), (4, .int (nI k0))] := hl
  refine lv_aload_n hx hb dX1_insert_0 rfl (lv_at hl 0 rfl) ?_
  refine lv_iconst (v := 0) hx hb dX1_insert_1 (by decide) ?_
  refine va_put (D := D) (ci := 1) (v := .int 0) (ty := .int) (C := RX1) (T := TX1) (N := 3) hx hb hts hinX1 tyX1 tyX1_ok nmX1 hown hK hP hD hS 0 rfl rfl 2 (by decide) (hts _ (List.mem_cons_of_mem _ lb_238)) (fun _ h9 => h9) rfl (by decide +kernel) rfl rfl (Nat.le_of_ble_eq_true rfl) dX1_insert_2 (fun H locs hP hD hS => ?_)
  have hP : va_P D vwCl [(h, .inr (1, [.ref q, .int (nI c0), .int 0])), (q, .inl (cA, 20000, .inl g))] H := hP
  have hD : va_D A [(h, .inr (1, [.ref q, .int (nI c0), .int 0])), (q, .inl (cA, 20000, .inl g))] := hD
  refine lv_aload_n hx hb dX1_insert_5 rfl (lv_at hl 0 rfl) ?_
  refine lv_iload_n hx hb dX1_insert_6 rfl (lv_at hl 1 rfl) ?_
  refine lv_iload_n hx hb dX1_insert_7 rfl (lv_at hl 2 rfl) ?_
  refine lv_iload_n hx hb dX1_insert_8 rfl (lv_at hl 3 rfl) ?_
  refine lv_iload hx hb dX1_insert_9 (lv_at hl 4 rfl) ?_
  have hF := va_free (wc := [(h, .inr (1, [.ref q, .int (nI c0), .int 0])), (q, .inl (cA, 20000, .inl g))]) hD hS hA [0, 1] rfl
  refine lc_callW (va_runV (As := [.int (nI i0), .int v0, .int s0, .int (nI k0)]) (rest := []) ⟨hx, hb, hml, hown, hts⟩ (m_insert0 l D h q cA H.size 0 c0 g i0 k0 v0 s0 hi0 hk0 hk5 hfit) (cwV 4 hts gX1_insert_X1_insert0 rfl rfl rfl (by decide +kernel) ⟨Nat.le_of_ble_eq_true rfl, Nat.le_of_ble_eq_true rfl⟩) (lc_WrV (q0 := 0) (ci := 1) (q := (RX1, TX1, 3)) hP hK hD rfl rfl) rfl rfl hl.1 rfl (lv_room (Nat.le_of_ble_eq_true rfl)) dX1_insert_11 ⟨Nat.le_refl _, Nat.le_refl _⟩) hS (fun q h => hF q h) (fun u H locs hp hP hK hD1 hz hk hS => ?_)
  have hD := hD1.weaken (fun _ _ _ h => hF _ h)
  refine W.eq (g2 := F0 m 14 ls [.int (nI (c0 + k0))]) rfl ?_
  exact W.iret (v := nI (c0 + k0)) hx hb hr (fun t ht hW => ⟨u, rfl, hp, by rw [ht]; exact hP, va_K.moved hW.alike hK, hD, hS.F ht⟩) hS.2.2 dX1_insert_14
set_option maxHeartbeats 4000000 in
set_option maxRecDepth 100000 in
theorem m_delete (l : Launch) (D : va_G) (h q : Nat) (cA : ClassId) (sz : Nat) (e : Int32) (c0 : Nat) (g : Nat → Int32) (hc0 : c0 ≤ 20000) (i0 k0 : Nat) (hk0 : 1 ≤ k0) (hik : i0 + k0 ≤ c0) : Met l yX1_delete wsX1_delete ({ frames := 9, cells := 0, slots := 0, locals := 160 }) (lc_Wr [.ref h, .int (nI i0), .int (nI k0)] D [(h, .inr (1, [.ref q, .int (nI c0), .int e])), (q, .inl (cA, 20000, .inl g))] [(cA, .int)] sz) (lc_QW (S := (Nat → Int32)) D (va_A [(h, .inr (1, [.ref q, .int (nI c0), .int e])), (q, .inl (cA, 20000, .inl g))] sz) (fun u => some (.int (nI (c0 - k0)))) (fun u => [(h, .inr (1, [.ref q, .int (nI (c0 - k0)), .int 0])), (q, .inl (cA, 20000, .inl u))]) (fun u => [(cA, .int)]) (fun u => ∀ j, j < c0 - k0 → u j = lc_del g i0 k0 j)) 0 0 (va_A [(h, .inr (1, [.ref q, .int (nI c0), .int e])), (q, .inl (cA, 20000, .inl g))] sz) := by
  refine va_MetW (cc := cX1_delete) (maxL := 4) (ret := (some .int)) (hh := [(5, 11, 12, 13)]) (by decide) rfl ?_
  intro p e' s m args below meth c s₁ B hml hv
  obtain ⟨rfl, hsz, hP, hK, hD0⟩ := hv
  have hx := B.exec
  have hb := B.bytes
  have hr := B.returns
  have hts := atoms_spec (ws := wsX1_delete) B.pre
  have hown : s.vm.findClass RX1 = some m.cls := findClass_of_methodNamed B.named
  have hlocks := B.notSynchronized
  have hinX1 : ∀ w ∈ u_ws RX1 TX1 3, w ∈ wsX1_delete := fun w h => List.mem_cons_of_mem _ (lb_X1 w h)
  subst hsz
  have hD := hD0.self (sz := s.heap.size)
  generalize hAe : va_A [(h, .inr (1, [.ref q, .int (nI c0), .int e])), (q, .inl (cA, 20000, .inl g))] s.heap.size = A at hD ⊢
  have hA : ∀ q : Nat, s.heap.size ≤ q → A q := fun q h => by rw [← hAe]; exact Or.inr h
  have hS : va_S A s.heap s.heap [] := va_S.rf
  have hP : va_P D vwCl [(h, .inr (1, [.ref q, .int (nI c0), .int e])), (q, .inl (cA, 20000, .inl g))] s.heap := hP
  have hl := lv_entry ([.ref h, .int (nI i0), .int (nI k0)]) (n := 4) (Nat.le_of_ble_eq_true rfl)
  rw [lg_entry_eq]
  generalize (lg_sl ([.ref h, .int (nI i0), .int (nI k0)]) ++ List.replicate (4 - (lg_sl ([.ref h, .int (nI i0), .int (nI k0)])).length) Slot.unset).toArray = ls at hl ⊢
  have hl : lv_has ls 4 [(0, .ref h), (1, .int (nI i0)), (2, .int (nI k0))] := hl
  refine lv_aload_n hx hb dX1_delete_0 rfl (lv_at hl 0 rfl) ?_
  refine lv_iconst (v := 0) hx hb dX1_delete_1 (by decide) ?_
  refine va_put (D := D) (ci := 1) (v := .int 0) (ty := .int) (C := RX1) (T := TX1) (N := 3) hx hb hts hinX1 tyX1 tyX1_ok nmX1 hown hK hP hD hS 0 rfl rfl 2 (by decide) (hts _ (List.mem_cons_of_mem _ lb_238)) (fun _ h9 => h9) rfl (by decide +kernel) rfl rfl (Nat.le_of_ble_eq_true rfl) dX1_delete_2 (fun H locs hP hD hS => ?_)
  have hP : va_P D vwCl [(h, .inr (1, [.ref q, .int (nI c0), .int 0])), (q, .inl (cA, 20000, .inl g))] H := hP
  have hD : va_D A [(h, .inr (1, [.ref q, .int (nI c0), .int 0])), (q, .inl (cA, 20000, .inl g))] := hD
  refine lv_aload_n hx hb dX1_delete_5 rfl (lv_at hl 0 rfl) ?_
  refine lv_iload_n hx hb dX1_delete_6 rfl (lv_at hl 1 rfl) ?_
  refine lv_iload_n hx hb dX1_delete_7 rfl (lv_at hl 2 rfl) ?_
  have hF := va_free (wc := [(h, .inr (1, [.ref q, .int (nI c0), .int 0])), (q, .inl (cA, 20000, .inl g))]) hD hS hA [0, 1] rfl
  refine lc_callW (va_runV (As := [.int (nI i0), .int (nI k0)]) (rest := []) ⟨hx, hb, hml, hown, hts⟩ (m_delete0 l D h q cA H.size 0 c0 g hc0 i0 k0 hk0 hik) (cwV 2 hts gX1_delete_X1_delete0 rfl rfl rfl (by decide +kernel) ⟨Nat.le_of_ble_eq_true rfl, Nat.le_of_ble_eq_true rfl⟩) (lc_WrV (q0 := 0) (ci := 1) (q := (RX1, TX1, 3)) hP hK hD rfl rfl) rfl rfl hl.1 rfl (lv_room (Nat.le_of_ble_eq_true rfl)) dX1_delete_8 ⟨Nat.le_refl _, Nat.le_refl _⟩) hS (fun q h => hF q h) (fun u H locs hp hP hK hD1 hz hk hS => ?_)
  have hD := hD1.weaken (fun _ _ _ h => hF _ h)
  refine W.eq (g2 := F0 m 11 ls [.int (nI (c0 - k0))]) rfl ?_
  exact W.iret (v := nI (c0 - k0)) hx hb hr (fun t ht hW => ⟨u, rfl, hp, by rw [ht]; exact hP, va_K.moved hW.alike hK, hD, hS.F ht⟩) hS.2.2 dX1_delete_11
end
section
set_option maxHeartbeats 4000000 in
set_option maxRecDepth 100000 in
theorem w_get (l : Launch) (D : va_G) (h q : Nat) (cA : ClassId) (o : Nat) (cJ : ClassId) (sz : Nat) (fo : Nat → Int64) (e : Int32) (L c0 : Nat) (g : Nat → Int32) (hL : L ≤ 20000) (hc0 : c0 ≤ L) (i : Nat) (hi : i < c0) : Met l yL_get wsL_get ({ frames := 8, cells := 0, slots := 0, locals := 140 }) (lc_Wr [.ref h, .int (nI i), .ref o] D [(h, .inr (0, [.ref q, .int (nI c0), .int e])), (q, .inl (cA, L, .inl g)), (o, .inl (cJ, 1, .inr (.inl fo)))] [(cA, .int), (cJ, .long)] sz) (lc_QW (S := (Nat → Int64)) D (va_A [(h, .inr (0, [.ref q, .int (nI c0), .int e])), (q, .inl (cA, L, .inl g)), (o, .inl (cJ, 1, .inr (.inl fo)))] sz) (fun _ => some (.int 0)) (fun u => [(h, .inr (0, [.ref q, .int (nI c0), .int e])), (q, .inl (cA, L, .inl g)), (o, .inl (cJ, 1, .inr (.inl u)))]) (fun _ => [(cA, .int), (cJ, .long)]) (fun u => u 0 = (g i).toInt64)) 0 0 (va_A [(h, .inr (0, [.ref q, .int (nI c0), .int e])), (q, .inl (cA, L, .inl g)), (o, .inl (cJ, 1, .inr (.inl fo)))] sz) := by
  refine va_MetW (cc := cL_get) (maxL := 4) (ret := (some .int)) (hh := [(0, 9, 12, 25)]) (by decide) rfl ?_
  intro p e' s m args below meth c s₁ B hml hv
  obtain ⟨rfl, hsz, hP, hK, hD0⟩ := hv
  have hx := B.exec
  have hb := B.bytes
  have hr := B.returns
  have hts := atoms_spec (ws := wsL_get) B.pre
  have hown : s.vm.findClass RL = some m.cls := findClass_of_methodNamed B.named
  have hlocks := B.notSynchronized
  subst hsz
  have hD := hD0.self (sz := s.heap.size)
  generalize hAe : va_A [(h, .inr (0, [.ref q, .int (nI c0), .int e])), (q, .inl (cA, L, .inl g)), (o, .inl (cJ, 1, .inr (.inl fo)))] s.heap.size = A at hD ⊢
  have hA : ∀ q : Nat, s.heap.size ≤ q → A q := fun q h => by rw [← hAe]; exact Or.inr h
  have hS : va_S A s.heap s.heap [] := va_S.rf
  have hP : va_P D vwCl [(h, .inr (0, [.ref q, .int (nI c0), .int e])), (q, .inl (cA, L, .inl g)), (o, .inl (cJ, 1, .inr (.inl fo)))] s.heap := hP
  have hl := lv_entry ([.ref h, .int (nI i), .ref o]) (n := 4) (Nat.le_of_ble_eq_true rfl)
  rw [lg_entry_eq]
  generalize (lg_sl ([.ref h, .int (nI i), .ref o]) ++ List.replicate (4 - (lg_sl ([.ref h, .int (nI i), .ref o])).length) Slot.unset).toArray = ls at hl ⊢
  have hl : lv_has ls 4 [(0, .ref h), (1, .int (nI i)), (2, .ref o)] := hl
  refine lv_aload_n hx hb dL_get_0 rfl (lv_at hl 2 rfl) ?_
  refine lv_iconst (v := 0) hx hb dL_get_1 (by decide) ?_
  refine lv_aload_n hx hb dL_get_2 rfl (lv_at hl 0 rfl) ?_
  refine lv_iload_n hx hb dL_get_3 rfl (lv_at hl 1 rfl) ?_
  refine lc_callR (W.runV (As := [.int (nI i)]) (rest := [.int 0, .ref o]) ⟨hx, hb, hml, hown, hts⟩ (k_get l D h q cA e L c0 g hL hc0 i hi) (cwV 1 hts gL_get_X0_get rfl rfl rfl (by decide +kernel) ⟨Nat.le_of_ble_eq_true rfl, Nat.le_of_ble_eq_true rfl⟩) (lc_RdV (q0 := 0) (ci := 0) (q := (RX0, TX0, 3)) (hP.sub (ws' := [(h, .inr (0, [.ref q, .int (nI c0), .int e])), (q, .inl (cA, L, .inl g))]) [0, 1] rfl) (hK.sub (tys' := [(cA, .int)]) [0] rfl) rfl rfl) rfl rfl hl.1 rfl (lv_room (Nat.le_of_ble_eq_true rfl)) dL_get_4 ⟨Nat.le_refl _, Nat.le_refl _⟩) ?_
  refine lv_i2l (v := (g i).toInt64) hx hb dL_get_7 rfl ?_
  refine va_last (D := D) hx hb hK hP hD hS 2 1 rfl rfl (vp_in_nI (n := 0) (N := 1) (by decide) (by decide)) dL_get_8 (fun H locs hP hD hS => ?_)
  have hP : va_P D vwCl [(h, .inr (0, [.ref q, .int (nI c0), .int e])), (q, .inl (cA, L, .inl g)), (o, .inl (cJ, 1, .inr (.inl (vp_updL fo ((0 : Int32).toNatClampNeg) (g i).toInt64))))] H := hP
  have hD : va_D A [(h, .inr (0, [.ref q, .int (nI c0), .int e])), (q, .inl (cA, L, .inl g)), (o, .inl (cJ, 1, .inr (.inl (vp_updL fo ((0 : Int32).toNatClampNeg) (g i).toInt64))))] := hD
  refine lv_goto hx hb dL_get_9 (tgt := 15) rfl ?_
  refine lv_iconst (v := 0) hx hb dL_get_15 (by decide) ?_
  exact W.iret (v := 0) hx hb hr (fun t ht hW => ⟨vp_updL fo ((0 : Int32).toNatClampNeg) (g i).toInt64, rfl, pk_uLs, by rw [ht]; exact hP, va_K.moved hW.alike hK, hD, hS.F ht⟩) hS.2.2 dL_get_16
set_option maxHeartbeats 4000000 in
set_option maxRecDepth 100000 in
theorem w_line (l : Launch) (D : va_G) (h q : Nat) (cA : ClassId) (o : Nat) (cJ : ClassId) (sz : Nat) (fo : Nat → Int64) (L c0 : Nat) (g : Nat → Int32) (hL : L ≤ 20000) (hc0 : c0 ≤ L) (k0 j0 : Nat) (hk0 : k0 ≤ lc_cnt g c0) (hj : lc_isL g k0 j0) (hj0 : j0 ≤ c0) : Met l yL_line wsL_line ({ frames := 8, cells := 0, slots := 0, locals := 140 }) (lc_Wr [.ref h, .int (nI k0), .ref o] D [(h, .inr (0, [.ref q, .int (nI c0), .int (nI (lc_cnt g c0))])), (q, .inl (cA, L, .inl g)), (o, .inl (cJ, 1, .inr (.inl fo)))] [(cA, .int), (cJ, .long)] sz) (lc_QW (S := (Nat → Int64)) D (va_A [(h, .inr (0, [.ref q, .int (nI c0), .int (nI (lc_cnt g c0))])), (q, .inl (cA, L, .inl g)), (o, .inl (cJ, 1, .inr (.inl fo)))] sz) (fun _ => some (.int 0)) (fun u => [(h, .inr (0, [.ref q, .int (nI c0), .int (nI (lc_cnt g c0))])), (q, .inl (cA, L, .inl g)), (o, .inl (cJ, 1, .inr (.inl u)))]) (fun _ => [(cA, .int), (cJ, .long)]) (fun u => u 0 = (nI j0).toInt64)) 0 0 (va_A [(h, .inr (0, [.ref q, .int (nI c0), .int (nI (lc_cnt g c0))])), (q, .inl (cA, L, .inl g)), (o, .inl (cJ, 1, .inr (.inl fo)))] sz) := by
  refine va_MetW (cc := cL_line) (maxL := 4) (ret := (some .int)) (hh := [(0, 9, 12, 25)]) (by decide) rfl ?_
  intro p e' s m args below meth c s₁ B hml hv
  obtain ⟨rfl, hsz, hP, hK, hD0⟩ := hv
  have hx := B.exec
  have hb := B.bytes
  have hr := B.returns
  have hts := atoms_spec (ws := wsL_line) B.pre
  have hown : s.vm.findClass RL = some m.cls := findClass_of_methodNamed B.named
  have hlocks := B.notSynchronized
  subst hsz
  have hD := hD0.self (sz := s.heap.size)
  generalize hAe : va_A [(h, .inr (0, [.ref q, .int (nI c0), .int (nI (lc_cnt g c0))])), (q, .inl (cA, L, .inl g)), (o, .inl (cJ, 1, .inr (.inl fo)))] s.heap.size = A at hD ⊢
  have hA : ∀ q : Nat, s.heap.size ≤ q → A q := fun q h => by rw [← hAe]; exact Or.inr h
  have hS : va_S A s.heap s.heap [] := va_S.rf
  have hP : va_P D vwCl [(h, .inr (0, [.ref q, .int (nI c0), .int (nI (lc_cnt g c0))])), (q, .inl (cA, L, .inl g)), (o, .inl (cJ, 1, .inr (.inl fo)))] s.heap := hP
  have hl := lv_entry ([.ref h, .int (nI k0), .ref o]) (n := 4) (Nat.le_of_ble_eq_true rfl)
  rw [lg_entry_eq]
  generalize (lg_sl ([.ref h, .int (nI k0), .ref o]) ++ List.replicate (4 - (lg_sl ([.ref h, .int (nI k0), .ref o])).length) Slot.unset).toArray = ls at hl ⊢
  have hl : lv_has ls 4 [(0, .ref h), (1, .int (nI k0)), (2, .ref o)] := hl
  refine lv_aload_n hx hb dL_line_0 rfl (lv_at hl 2 rfl) ?_
  refine lv_iconst (v := 0) hx hb dL_line_1 (by decide) ?_
  refine lv_aload_n hx hb dL_line_2 rfl (lv_at hl 0 rfl) ?_
  refine lv_iload_n hx hb dL_line_3 rfl (lv_at hl 1 rfl) ?_
  refine lc_callR (W.runV (As := [.int (nI k0)]) (rest := [.int 0, .ref o]) ⟨hx, hb, hml, hown, hts⟩ (k_line l D h q cA L c0 g hL hc0 k0 j0 hk0 hj hj0) (cwV 1 hts gL_line_X0_line rfl rfl rfl (by decide +kernel) ⟨Nat.le_of_ble_eq_true rfl, Nat.le_of_ble_eq_true rfl⟩) (lc_RdV (q0 := 0) (ci := 0) (q := (RX0, TX0, 3)) (hP.sub (ws' := [(h, .inr (0, [.ref q, .int (nI c0), .int (nI (lc_cnt g c0))])), (q, .inl (cA, L, .inl g))]) [0, 1] rfl) (hK.sub (tys' := [(cA, .int)]) [0] rfl) rfl rfl) rfl rfl hl.1 rfl (lv_room (Nat.le_of_ble_eq_true rfl)) dL_line_4 ⟨Nat.le_refl _, Nat.le_refl _⟩) ?_
  refine lv_i2l (v := (nI j0).toInt64) hx hb dL_line_7 rfl ?_
  refine va_last (D := D) hx hb hK hP hD hS 2 1 rfl rfl (vp_in_nI (n := 0) (N := 1) (by decide) (by decide)) dL_line_8 (fun H locs hP hD hS => ?_)
  have hP : va_P D vwCl [(h, .inr (0, [.ref q, .int (nI c0), .int (nI (lc_cnt g c0))])), (q, .inl (cA, L, .inl g)), (o, .inl (cJ, 1, .inr (.inl (vp_updL fo ((0 : Int32).toNatClampNeg) (nI j0).toInt64))))] H := hP
  have hD : va_D A [(h, .inr (0, [.ref q, .int (nI c0), .int (nI (lc_cnt g c0))])), (q, .inl (cA, L, .inl g)), (o, .inl (cJ, 1, .inr (.inl (vp_updL fo ((0 : Int32).toNatClampNeg) (nI j0).toInt64))))] := hD
  refine lv_goto hx hb dL_line_9 (tgt := 15) rfl ?_
  refine lv_iconst (v := 0) hx hb dL_line_15 (by decide) ?_
  exact W.iret (v := 0) hx hb hr (fun t ht hW => ⟨vp_updL fo ((0 : Int32).toNatClampNeg) (nI j0).toInt64, rfl, pk_uLs, by rw [ht]; exact hP, va_K.moved hW.alike hK, hD, hS.F ht⟩) hS.2.2 dL_line_16
set_option maxHeartbeats 4000000 in
set_option maxRecDepth 100000 in
theorem w_lineOf (l : Launch) (D : va_G) (h q : Nat) (cA : ClassId) (o : Nat) (cJ : ClassId) (sz : Nat) (fo : Nat → Int64) (e : Int32) (L c0 : Nat) (g : Nat → Int32) (hL : L ≤ 20000) (hc0 : c0 ≤ L) (i : Nat) (hi : i ≤ c0) : Met l yL_lineOf wsL_lineOf ({ frames := 8, cells := 0, slots := 0, locals := 140 }) (lc_Wr [.ref h, .int (nI i), .ref o] D [(h, .inr (0, [.ref q, .int (nI c0), .int e])), (q, .inl (cA, L, .inl g)), (o, .inl (cJ, 1, .inr (.inl fo)))] [(cA, .int), (cJ, .long)] sz) (lc_QW (S := (Nat → Int64)) D (va_A [(h, .inr (0, [.ref q, .int (nI c0), .int e])), (q, .inl (cA, L, .inl g)), (o, .inl (cJ, 1, .inr (.inl fo)))] sz) (fun _ => some (.int 0)) (fun u => [(h, .inr (0, [.ref q, .int (nI c0), .int e])), (q, .inl (cA, L, .inl g)), (o, .inl (cJ, 1, .inr (.inl u)))]) (fun _ => [(cA, .int), (cJ, .long)]) (fun u => u 0 = (nI (lc_cnt g i)).toInt64)) 0 0 (va_A [(h, .inr (0, [.ref q, .int (nI c0), .int e])), (q, .inl (cA, L, .inl g)), (o, .inl (cJ, 1, .inr (.inl fo)))] sz) := by
  refine va_MetW (cc := cL_lineOf) (maxL := 4) (ret := (some .int)) (hh := [(0, 9, 12, 13)]) (by decide) rfl ?_
  intro p e' s m args below meth c s₁ B hml hv
  obtain ⟨rfl, hsz, hP, hK, hD0⟩ := hv
  have hx := B.exec
  have hb := B.bytes
  have hr := B.returns
  have hts := atoms_spec (ws := wsL_lineOf) B.pre
  have hown : s.vm.findClass RL = some m.cls := findClass_of_methodNamed B.named
  have hlocks := B.notSynchronized
  subst hsz
  have hD := hD0.self (sz := s.heap.size)
  generalize hAe : va_A [(h, .inr (0, [.ref q, .int (nI c0), .int e])), (q, .inl (cA, L, .inl g)), (o, .inl (cJ, 1, .inr (.inl fo)))] s.heap.size = A at hD ⊢
  have hA : ∀ q : Nat, s.heap.size ≤ q → A q := fun q h => by rw [← hAe]; exact Or.inr h
  have hS : va_S A s.heap s.heap [] := va_S.rf
  have hP : va_P D vwCl [(h, .inr (0, [.ref q, .int (nI c0), .int e])), (q, .inl (cA, L, .inl g)), (o, .inl (cJ, 1, .inr (.inl fo)))] s.heap := hP
  have hl := lv_entry ([.ref h, .int (nI i), .ref o]) (n := 4) (Nat.le_of_ble_eq_true rfl)
  rw [lg_entry_eq]
  generalize (lg_sl ([.ref h, .int (nI i), .ref o]) ++ List.replicate (4 - (lg_sl ([.ref h, .int (nI i), .ref o])).length) Slot.unset).toArray = ls at hl ⊢
  have hl : lv_has ls 4 [(0, .ref h), (1, .int (nI i)), (2, .ref o)] := hl
  refine lv_aload_n hx hb dL_lineOf_0 rfl (lv_at hl 2 rfl) ?_
  refine lv_iconst (v := 0) hx hb dL_lineOf_1 (by decide) ?_
  refine lv_aload_n hx hb dL_lineOf_2 rfl (lv_at hl 0 rfl) ?_
  refine lv_iload_n hx hb dL_lineOf_3 rfl (lv_at hl 1 rfl) ?_
  refine lc_callR (W.runV (As := [.int (nI i)]) (rest := [.int 0, .ref o]) ⟨hx, hb, hml, hown, hts⟩ (k_lineOf l D h q cA e L c0 g hL hc0 i hi) (cwV 1 hts gL_lineOf_X0_lineOf rfl rfl rfl (by decide +kernel) ⟨Nat.le_of_ble_eq_true rfl, Nat.le_of_ble_eq_true rfl⟩) (lc_RdV (q0 := 0) (ci := 0) (q := (RX0, TX0, 3)) (hP.sub (ws' := [(h, .inr (0, [.ref q, .int (nI c0), .int e])), (q, .inl (cA, L, .inl g))]) [0, 1] rfl) (hK.sub (tys' := [(cA, .int)]) [0] rfl) rfl rfl) rfl rfl hl.1 rfl (lv_room (Nat.le_of_ble_eq_true rfl)) dL_lineOf_4 ⟨Nat.le_refl _, Nat.le_refl _⟩) ?_
  refine lv_i2l (v := (nI (lc_cnt g i)).toInt64) hx hb dL_lineOf_7 rfl ?_
  refine va_last (D := D) hx hb hK hP hD hS 2 1 rfl rfl (vp_in_nI (n := 0) (N := 1) (by decide) (by decide)) dL_lineOf_8 (fun H locs hP hD hS => ?_)
  have hP : va_P D vwCl [(h, .inr (0, [.ref q, .int (nI c0), .int e])), (q, .inl (cA, L, .inl g)), (o, .inl (cJ, 1, .inr (.inl (vp_updL fo ((0 : Int32).toNatClampNeg) (nI (lc_cnt g i)).toInt64))))] H := hP
  have hD : va_D A [(h, .inr (0, [.ref q, .int (nI c0), .int e])), (q, .inl (cA, L, .inl g)), (o, .inl (cJ, 1, .inr (.inl (vp_updL fo ((0 : Int32).toNatClampNeg) (nI (lc_cnt g i)).toInt64))))] := hD
  refine lv_goto hx hb dL_lineOf_9 (tgt := 15) rfl ?_
  refine lv_iconst (v := 0) hx hb dL_lineOf_15 (by decide) ?_
  exact W.iret (v := 0) hx hb hr (fun t ht hW => ⟨vp_updL fo ((0 : Int32).toNatClampNeg) (nI (lc_cnt g i)).toInt64, rfl, pk_uLs, by rw [ht]; exact hP, va_K.moved hW.alike hK, hD, hS.F ht⟩) hS.2.2 dL_lineOf_16
set_option maxHeartbeats 4000000 in
set_option maxRecDepth 100000 in
theorem w_get_bad (l : Launch) (D : va_G) (h q : Nat) (cA : ClassId) (o : Nat) (cJ : ClassId) (hst : l.stackTraces = false) (n e : Int32) (L : Nat) (g : Nat → Int32) (p0 : Int32) (hbad : p0 < 0 ∨ n ≤ p0) : Met l yL_get wsL_get ({ frames := 8, cells := 1, slots := 6, locals := 140 }) (lc_Tx [.ref h, .int p0, .ref o] D [(h, .inr (0, [.ref q, .int n, .int e])), (q, .inl (cA, L, .inl g))] [(cA, .int)] (fun _ => False)) (lc_QB 1) 1 6 (fun _ => False) := by
  refine va_MetW (cc := cL_get) (maxL := 4) (ret := (some .int)) (hh := [(0, 9, 12, 25)]) (by decide) rfl ?_
  intro p e' s m args below meth c s₁ B hml hv
  obtain ⟨rfl, hP, hK, hZ⟩ := hv
  have hx := B.exec
  have hb := B.bytes
  have hr := B.returns
  have hts := atoms_spec (ws := wsL_get) B.pre
  have hown : s.vm.findClass RL = some m.cls := findClass_of_methodNamed B.named
  have hlocks := B.notSynchronized
  have htb : c.exceptionTable.toList = tableOf [(0, 9, 12, 25)] := vx_table (x := yL_get) B (hts (.codeWith yL_get cL_get 4 (some .int) [(0, 9, 12, 25)]) List.mem_cons_self)
  have hl := lv_entry ([.ref h, .int p0, .ref o]) (n := 4) (Nat.le_of_ble_eq_true rfl)
  rw [lg_entry_eq]
  generalize (lg_sl ([.ref h, .int p0, .ref o]) ++ List.replicate (4 - (lg_sl ([.ref h, .int p0, .ref o])).length) Slot.unset).toArray = ls at hl ⊢
  have hl : lv_has ls 4 [(0, .ref h), (1, .int p0), (2, .ref o)] := hl
  refine lv_aload_n hx hb dL_get_0 rfl (lv_at hl 2 rfl) ?_
  refine lv_iconst (v := 0) hx hb dL_get_1 (by decide) ?_
  refine lv_aload_n hx hb dL_get_2 rfl (lv_at hl 0 rfl) ?_
  refine lv_iload_n hx hb dL_get_3 rfl (lv_at hl 1 rfl) ?_
  refine lc_callX (vx_runV (As := [.int p0]) (rest := [.int 0, .ref o]) ⟨hx, hb, hml, hown, hts⟩ (k_get_bad l D h q cA hst n e L g p0 hbad) (cwV 1 hts gL_get_X0_get rfl rfl rfl (by decide +kernel) ⟨Nat.le_of_ble_eq_true rfl, Nat.le_of_ble_eq_true rfl⟩) (lc_TxV (q0 := 0) (ci := 0) (q := (RX0, TX0, 3)) hP hK hZ rfl rfl) rfl rfl hl.1 rfl (lv_room (Nat.le_of_ble_eq_true rfl)) dL_get_4 ⟨Nat.le_refl _, Nat.le_refl _⟩) (fun ce q9 H1 hz hk hce hcv hcl => ?_)
  refine vx_catch (name := "java/util/NoSuchElementException") hown [] ⟨0, 9, 12, 25⟩ [] (by rw [htb]; rfl) (fun _ h => nomatch h) (by decide) (by decide) (hts _ (List.mem_cons_of_mem _ lb_192)) (hZ.2.2.2.2.1.use rfl) hce hcv hcl ?_
  refine W.eq (g2 := F0 m 12 ls [.ref q9]) rfl ?_
  refine lv_astore_n hx hb dL_get_12 rfl hl (by decide) rfl (fun ls hl => ?_)
  have hl : lv_has ls 4 [(3, .ref q9), (0, .ref h), (1, .int p0), (2, .ref o)] := hl
  refine lv_iconst (v := 1) hx hb dL_get_13 (by decide) ?_
  exact W.iret (v := 1) hx hb hr (fun t ht _ => ⟨rfl, by rw [ht]; exact hz, fun q h1 _ => by rw [ht]; exact hk q h1⟩) (fun _ h => nomatch h) dL_get_14
set_option maxHeartbeats 4000000 in
set_option maxRecDepth 100000 in
theorem w_line_bad (l : Launch) (D : va_G) (h q : Nat) (cA : ClassId) (o : Nat) (cJ : ClassId) (hst : l.stackTraces = false) (n e : Int32) (L : Nat) (g : Nat → Int32) (p0 : Int32) (hbad : p0 < 0 ∨ e < p0) : Met l yL_line wsL_line ({ frames := 8, cells := 1, slots := 6, locals := 140 }) (lc_Tx [.ref h, .int p0, .ref o] D [(h, .inr (0, [.ref q, .int n, .int e])), (q, .inl (cA, L, .inl g))] [(cA, .int)] (fun _ => False)) (lc_QB 1) 1 6 (fun _ => False) := by
  refine va_MetW (cc := cL_line) (maxL := 4) (ret := (some .int)) (hh := [(0, 9, 12, 25)]) (by decide) rfl ?_
  intro p e' s m args below meth c s₁ B hml hv
  obtain ⟨rfl, hP, hK, hZ⟩ := hv
  have hx := B.exec
  have hb := B.bytes
  have hr := B.returns
  have hts := atoms_spec (ws := wsL_line) B.pre
  have hown : s.vm.findClass RL = some m.cls := findClass_of_methodNamed B.named
  have hlocks := B.notSynchronized
  have htb : c.exceptionTable.toList = tableOf [(0, 9, 12, 25)] := vx_table (x := yL_line) B (hts (.codeWith yL_line cL_line 4 (some .int) [(0, 9, 12, 25)]) List.mem_cons_self)
  have hl := lv_entry ([.ref h, .int p0, .ref o]) (n := 4) (Nat.le_of_ble_eq_true rfl)
  rw [lg_entry_eq]
  generalize (lg_sl ([.ref h, .int p0, .ref o]) ++ List.replicate (4 - (lg_sl ([.ref h, .int p0, .ref o])).length) Slot.unset).toArray = ls at hl ⊢
  have hl : lv_has ls 4 [(0, .ref h), (1, .int p0), (2, .ref o)] := hl
  refine lv_aload_n hx hb dL_line_0 rfl (lv_at hl 2 rfl) ?_
  refine lv_iconst (v := 0) hx hb dL_line_1 (by decide) ?_
  refine lv_aload_n hx hb dL_line_2 rfl (lv_at hl 0 rfl) ?_
  refine lv_iload_n hx hb dL_line_3 rfl (lv_at hl 1 rfl) ?_
  refine lc_callX (vx_runV (As := [.int p0]) (rest := [.int 0, .ref o]) ⟨hx, hb, hml, hown, hts⟩ (k_line_bad l D h q cA hst n e L g p0 hbad) (cwV 1 hts gL_line_X0_line rfl rfl rfl (by decide +kernel) ⟨Nat.le_of_ble_eq_true rfl, Nat.le_of_ble_eq_true rfl⟩) (lc_TxV (q0 := 0) (ci := 0) (q := (RX0, TX0, 3)) hP hK hZ rfl rfl) rfl rfl hl.1 rfl (lv_room (Nat.le_of_ble_eq_true rfl)) dL_line_4 ⟨Nat.le_refl _, Nat.le_refl _⟩) (fun ce q9 H1 hz hk hce hcv hcl => ?_)
  refine vx_catch (name := "java/util/NoSuchElementException") hown [] ⟨0, 9, 12, 25⟩ [] (by rw [htb]; rfl) (fun _ h => nomatch h) (by decide) (by decide) (hts _ (List.mem_cons_of_mem _ lb_192)) (hZ.2.2.2.2.1.use rfl) hce hcv hcl ?_
  refine W.eq (g2 := F0 m 12 ls [.ref q9]) rfl ?_
  refine lv_astore_n hx hb dL_line_12 rfl hl (by decide) rfl (fun ls hl => ?_)
  have hl : lv_has ls 4 [(3, .ref q9), (0, .ref h), (1, .int p0), (2, .ref o)] := hl
  refine lv_iconst (v := 1) hx hb dL_line_13 (by decide) ?_
  exact W.iret (v := 1) hx hb hr (fun t ht _ => ⟨rfl, by rw [ht]; exact hz, fun q h1 _ => by rw [ht]; exact hk q h1⟩) (fun _ h => nomatch h) dL_line_14
set_option maxHeartbeats 4000000 in
set_option maxRecDepth 100000 in
theorem w_lineOf_bad (l : Launch) (D : va_G) (h q : Nat) (cA : ClassId) (o : Nat) (cJ : ClassId) (hst : l.stackTraces = false) (n e : Int32) (L : Nat) (g : Nat → Int32) (p0 : Int32) (hbad : p0 < 0 ∨ n < p0) : Met l yL_lineOf wsL_lineOf ({ frames := 8, cells := 1, slots := 6, locals := 140 }) (lc_Tx [.ref h, .int p0, .ref o] D [(h, .inr (0, [.ref q, .int n, .int e])), (q, .inl (cA, L, .inl g))] [(cA, .int)] (fun _ => False)) (lc_QB 1) 1 6 (fun _ => False) := by
  refine va_MetW (cc := cL_lineOf) (maxL := 4) (ret := (some .int)) (hh := [(0, 9, 12, 13)]) (by decide) rfl ?_
  intro p e' s m args below meth c s₁ B hml hv
  obtain ⟨rfl, hP, hK, hZ⟩ := hv
  have hx := B.exec
  have hb := B.bytes
  have hr := B.returns
  have hts := atoms_spec (ws := wsL_lineOf) B.pre
  have hown : s.vm.findClass RL = some m.cls := findClass_of_methodNamed B.named
  have hlocks := B.notSynchronized
  have htb : c.exceptionTable.toList = tableOf [(0, 9, 12, 13)] := vx_table (x := yL_lineOf) B (hts (.codeWith yL_lineOf cL_lineOf 4 (some .int) [(0, 9, 12, 13)]) List.mem_cons_self)
  have hl := lv_entry ([.ref h, .int p0, .ref o]) (n := 4) (Nat.le_of_ble_eq_true rfl)
  rw [lg_entry_eq]
  generalize (lg_sl ([.ref h, .int p0, .ref o]) ++ List.replicate (4 - (lg_sl ([.ref h, .int p0, .ref o])).length) Slot.unset).toArray = ls at hl ⊢
  have hl : lv_has ls 4 [(0, .ref h), (1, .int p0), (2, .ref o)] := hl
  refine lv_aload_n hx hb dL_lineOf_0 rfl (lv_at hl 2 rfl) ?_
  refine lv_iconst (v := 0) hx hb dL_lineOf_1 (by decide) ?_
  refine lv_aload_n hx hb dL_lineOf_2 rfl (lv_at hl 0 rfl) ?_
  refine lv_iload_n hx hb dL_lineOf_3 rfl (lv_at hl 1 rfl) ?_
  refine lc_callX (vx_runV (As := [.int p0]) (rest := [.int 0, .ref o]) ⟨hx, hb, hml, hown, hts⟩ (k_lineOf_bad l D h q cA hst n e L g p0 hbad) (cwV 1 hts gL_lineOf_X0_lineOf rfl rfl rfl (by decide +kernel) ⟨Nat.le_of_ble_eq_true rfl, Nat.le_of_ble_eq_true rfl⟩) (lc_TxV (q0 := 0) (ci := 0) (q := (RX0, TX0, 3)) hP hK hZ rfl rfl) rfl rfl hl.1 rfl (lv_room (Nat.le_of_ble_eq_true rfl)) dL_lineOf_4 ⟨Nat.le_refl _, Nat.le_refl _⟩) (fun ce q9 H1 hz hk hce hcv hcl => ?_)
  refine vx_catch (name := "java/lang/IllegalArgumentException") hown [] ⟨0, 9, 12, 13⟩ [] (by rw [htb]; rfl) (fun _ h => nomatch h) (by decide) (by decide) (hts _ (List.mem_cons_of_mem _ lb_61)) (hZ.2.2.1.use rfl) hce hcv hcl ?_
  refine W.eq (g2 := F0 m 12 ls [.ref q9]) rfl ?_
  refine lv_astore_n hx hb dL_lineOf_12 rfl hl (by decide) rfl (fun ls hl => ?_)
  have hl : lv_has ls 4 [(3, .ref q9), (0, .ref h), (1, .int p0), (2, .ref o)] := hl
  refine lv_iconst (v := 1) hx hb dL_lineOf_13 (by decide) ?_
  exact W.iret (v := 1) hx hb hr (fun t ht _ => ⟨rfl, by rw [ht]; exact hz, fun q h1 _ => by rw [ht]; exact hk q h1⟩) (fun _ h => nomatch h) dL_lineOf_14
set_option maxHeartbeats 4000000 in
set_option maxRecDepth 100000 in
theorem w_delete_bad (l : Launch) (D : va_G) (h q : Nat) (cA : ClassId) (o : Nat) (cJ : ClassId) (hst : l.stackTraces = false) (n e : Int32) (L : Nat) (g : Nat → Int32) (p0 p1 : Int32) (hbad : p0 < 0 ∨ p1 < 1 ∨ n - p1 < p0) : Met l yL_delete wsL_delete ({ frames := 8, cells := 1, slots := 6, locals := 140 }) (lc_Tx [.ref h, .int p0, .int p1, .ref o] D [(h, .inr (0, [.ref q, .int n, .int e])), (q, .inl (cA, L, .inl g))] [(cA, .int)] (fun _ => False)) (lc_QB 1) 1 6 (fun _ => False) := by
  refine va_MetW (cc := cL_delete) (maxL := 5) (ret := (some .int)) (hh := [(0, 10, 13, 13)]) (by decide) rfl ?_
  intro p e' s m args below meth c s₁ B hml hv
  obtain ⟨rfl, hP, hK, hZ⟩ := hv
  have hx := B.exec
  have hb := B.bytes
  have hr := B.returns
  have hts := atoms_spec (ws := wsL_delete) B.pre
  have hown : s.vm.findClass RL = some m.cls := findClass_of_methodNamed B.named
  have hlocks := B.notSynchronized
  have htb : c.exceptionTable.toList = tableOf [(0, 10, 13, 13)] := vx_table (x := yL_delete) B (hts (.codeWith yL_delete cL_delete 5 (some .int) [(0, 10, 13, 13)]) List.mem_cons_self)
  have hl := lv_entry ([.ref h, .int p0, .int p1, .ref o]) (n := 5) (Nat.le_of_ble_eq_true rfl)
  rw [lg_entry_eq]
  generalize (lg_sl ([.ref h, .int p0, .int p1, .ref o]) ++ List.replicate (5 - (lg_sl ([.ref h, .int p0, .int p1, .ref o])).length) Slot.unset).toArray = ls at hl ⊢
  have hl : lv_has ls 5 [(0, .ref h), (1, .int p0), (2, .int p1), (3, .ref o)] := hl
  refine lv_aload_n hx hb dL_delete_0 rfl (lv_at hl 3 rfl) ?_
  refine lv_iconst (v := 0) hx hb dL_delete_1 (by decide) ?_
  refine lv_aload_n hx hb dL_delete_2 rfl (lv_at hl 0 rfl) ?_
  refine lv_iload_n hx hb dL_delete_3 rfl (lv_at hl 1 rfl) ?_
  refine lv_iload_n hx hb dL_delete_4 rfl (lv_at hl 2 rfl) ?_
  refine lc_callX (vx_runV (As := [.int p0, .int p1]) (rest := [.int 0, .ref o]) ⟨hx, hb, hml, hown, hts⟩ (k_delete_bad l D h q cA hst n e L g p0 p1 hbad) (cwV 2 hts gL_delete_X0_delete rfl rfl rfl (by decide +kernel) ⟨Nat.le_of_ble_eq_true rfl, Nat.le_of_ble_eq_true rfl⟩) (lc_TxV (q0 := 0) (ci := 0) (q := (RX0, TX0, 3)) hP hK hZ rfl rfl) rfl rfl hl.1 rfl (lv_room (Nat.le_of_ble_eq_true rfl)) dL_delete_5 ⟨Nat.le_refl _, Nat.le_refl _⟩) (fun ce q9 H1 hz hk hce hcv hcl => ?_)
  refine vx_catch (name := "java/lang/IllegalArgumentException") hown [] ⟨0, 10, 13, 13⟩ [] (by rw [htb]; rfl) (fun _ h => nomatch h) (by decide) (by decide) (hts _ (List.mem_cons_of_mem _ lb_61)) (hZ.2.2.1.use rfl) hce hcv hcl ?_
  refine W.eq (g2 := F0 m 13 ls [.ref q9]) rfl ?_
  refine lv_astore hx hb dL_delete_13 hl (by decide) rfl (fun ls hl => ?_)
  have hl : lv_has ls 5 [(4, .ref q9), (0, .ref h), (1, .int p0), (2, .int p1), (3, .ref o)] := hl
  refine lv_iconst (v := 1) hx hb dL_delete_15 (by decide) ?_
  exact W.iret (v := 1) hx hb hr (fun t ht _ => ⟨rfl, by rw [ht]; exact hz, fun q h1 _ => by rw [ht]; exact hk q h1⟩) (fun _ h => nomatch h) dL_delete_16
set_option maxHeartbeats 4000000 in
set_option maxRecDepth 100000 in
theorem w_insert_bad (l : Launch) (D : va_G) (h q : Nat) (cA : ClassId) (o : Nat) (cJ : ClassId) (hst : l.stackTraces = false) (n e : Int32) (L : Nat) (g : Nat → Int32) (p0 p1 p2 p3 : Int32) (hbad : p0 < 0 ∨ n < p0 ∨ p3 < 1 ∨ 500 < p3) : Met l yL_insert wsL_insert ({ frames := 8, cells := 1, slots := 6, locals := 140 }) (lc_Tx [.ref h, .int p0, .int p1, .int p2, .int p3, .ref o] D [(h, .inr (0, [.ref q, .int n, .int e])), (q, .inl (cA, L, .inl g))] [(cA, .int)] (fun _ => False)) (lc_QB 1) 1 6 (fun _ => False) := by
  refine va_MetW (cc := cL_insert) (maxL := 7) (ret := (some .int)) (hh := [(0, 14, 17, 13), (0, 14, 21, 15)]) (by decide) rfl ?_
  intro p e' s m args below meth c s₁ B hml hv
  obtain ⟨rfl, hP, hK, hZ⟩ := hv
  have hx := B.exec
  have hb := B.bytes
  have hr := B.returns
  have hts := atoms_spec (ws := wsL_insert) B.pre
  have hown : s.vm.findClass RL = some m.cls := findClass_of_methodNamed B.named
  have hlocks := B.notSynchronized
  have htb : c.exceptionTable.toList = tableOf [(0, 14, 17, 13), (0, 14, 21, 15)] := vx_table (x := yL_insert) B (hts (.codeWith yL_insert cL_insert 7 (some .int) [(0, 14, 17, 13), (0, 14, 21, 15)]) List.mem_cons_self)
  have hl := lv_entry ([.ref h, .int p0, .int p1, .int p2, .int p3, .ref o]) (n := 7) (Nat.le_of_ble_eq_true rfl)
  rw [lg_entry_eq]
  generalize (lg_sl ([.ref h, .int p0, .int p1, .int p2, .int p3, .ref o]) ++ List.replicate (7 - (lg_sl ([.ref h, .int p0, .int p1, .int p2, .int p3, .ref o])).length) Slot.unset).toArray = ls at hl ⊢
  have hl : lv_has ls 7 [(0, .ref h), (1, .int p0), (2, .int p1), (3, .int p2), (4, .int p3), (5, .ref o)] := hl
  refine lv_aload hx hb dL_insert_0 (lv_at hl 5 rfl) ?_
  refine lv_iconst (v := 0) hx hb dL_insert_2 (by decide) ?_
  refine lv_aload_n hx hb dL_insert_3 rfl (lv_at hl 0 rfl) ?_
  refine lv_iload_n hx hb dL_insert_4 rfl (lv_at hl 1 rfl) ?_
  refine lv_iload_n hx hb dL_insert_5 rfl (lv_at hl 2 rfl) ?_
  refine lv_iload_n hx hb dL_insert_6 rfl (lv_at hl 3 rfl) ?_
  refine lv_iload hx hb dL_insert_7 (lv_at hl 4 rfl) ?_
  refine lc_callX (vx_runV (As := [.int p0, .int p1, .int p2, .int p3]) (rest := [.int 0, .ref o]) ⟨hx, hb, hml, hown, hts⟩ (k_insert_bad l D h q cA hst n e L g p0 p1 p2 p3 hbad) (cwV 4 hts gL_insert_X0_insert rfl rfl rfl (by decide +kernel) ⟨Nat.le_of_ble_eq_true rfl, Nat.le_of_ble_eq_true rfl⟩) (lc_TxV (q0 := 0) (ci := 0) (q := (RX0, TX0, 3)) hP hK hZ rfl rfl) rfl rfl hl.1 rfl (lv_room (Nat.le_of_ble_eq_true rfl)) dL_insert_9 ⟨Nat.le_refl _, Nat.le_refl _⟩) (fun ce q9 H1 hz hk hce hcv hcl => ?_)
  refine vx_catch (name := "java/lang/IllegalArgumentException") hown [] ⟨0, 14, 17, 13⟩ [⟨0, 14, 21, 15⟩] (by rw [htb]; rfl) (fun _ h => nomatch h) (by decide) (by decide) (hts _ (List.mem_cons_of_mem _ lb_61)) (hZ.2.2.1.use rfl) hce hcv hcl ?_
  refine W.eq (g2 := F0 m 17 ls [.ref q9]) rfl ?_
  refine lv_astore hx hb dL_insert_17 hl (by decide) rfl (fun ls hl => ?_)
  have hl : lv_has ls 7 [(6, .ref q9), (0, .ref h), (1, .int p0), (2, .int p1), (3, .int p2), (4, .int p3), (5, .ref o)] := hl
  refine lv_iconst (v := 1) hx hb dL_insert_19 (by decide) ?_
  exact W.iret (v := 1) hx hb hr (fun t ht _ => ⟨rfl, by rw [ht]; exact hz, fun q h1 _ => by rw [ht]; exact hk q h1⟩) (fun _ h => nomatch h) dL_insert_20
set_option maxHeartbeats 4000000 in
set_option maxRecDepth 100000 in
theorem w_insert_full (l : Launch) (D : va_G) (h q : Nat) (cA : ClassId) (o : Nat) (cJ : ClassId) (hst : l.stackTraces = false) (e : Int32) (L c0 : Nat) (g : Nat → Int32) (i0 k0 : Nat) (p1 p2 : Int32) (hc0 : c0 ≤ 20000) (hi0 : i0 ≤ c0) (hk0 : 1 ≤ k0) (hk5 : k0 ≤ 500) (hfull : 20000 < c0 + k0) : Met l yL_insert wsL_insert ({ frames := 8, cells := 1, slots := 6, locals := 140 }) (lc_Tx [.ref h, .int (nI i0), .int p1, .int p2, .int (nI k0), .ref o] D [(h, .inr (0, [.ref q, .int (nI c0), .int e])), (q, .inl (cA, L, .inl g))] [(cA, .int)] (fun _ => False)) (lc_QB 2) 1 6 (fun _ => False) := by
  refine va_MetW (cc := cL_insert) (maxL := 7) (ret := (some .int)) (hh := [(0, 14, 17, 13), (0, 14, 21, 15)]) (by decide) rfl ?_
  intro p e' s m args below meth c s₁ B hml hv
  obtain ⟨rfl, hP, hK, hZ⟩ := hv
  have hx := B.exec
  have hb := B.bytes
  have hr := B.returns
  have hts := atoms_spec (ws := wsL_insert) B.pre
  have hown : s.vm.findClass RL = some m.cls := findClass_of_methodNamed B.named
  have hlocks := B.notSynchronized
  have htb : c.exceptionTable.toList = tableOf [(0, 14, 17, 13), (0, 14, 21, 15)] := vx_table (x := yL_insert) B (hts (.codeWith yL_insert cL_insert 7 (some .int) [(0, 14, 17, 13), (0, 14, 21, 15)]) List.mem_cons_self)
  have hl := lv_entry ([.ref h, .int (nI i0), .int p1, .int p2, .int (nI k0), .ref o]) (n := 7) (Nat.le_of_ble_eq_true rfl)
  rw [lg_entry_eq]
  generalize (lg_sl ([.ref h, .int (nI i0), .int p1, .int p2, .int (nI k0), .ref o]) ++ List.replicate (7 - (lg_sl ([.ref h, .int (nI i0), .int p1, .int p2, .int (nI k0), .ref o])).length) Slot.unset).toArray = ls at hl ⊢
  have hl : lv_has ls 7 [(0, .ref h), (1, .int (nI i0)), (2, .int p1), (3, .int p2), (4, .int (nI k0)), (5, .ref o)] := hl
  refine lv_aload hx hb dL_insert_0 (lv_at hl 5 rfl) ?_
  refine lv_iconst (v := 0) hx hb dL_insert_2 (by decide) ?_
  refine lv_aload_n hx hb dL_insert_3 rfl (lv_at hl 0 rfl) ?_
  refine lv_iload_n hx hb dL_insert_4 rfl (lv_at hl 1 rfl) ?_
  refine lv_iload_n hx hb dL_insert_5 rfl (lv_at hl 2 rfl) ?_
  refine lv_iload_n hx hb dL_insert_6 rfl (lv_at hl 3 rfl) ?_
  refine lv_iload hx hb dL_insert_7 (lv_at hl 4 rfl) ?_
  refine lc_callX (vx_runV (As := [.int (nI i0), .int p1, .int p2, .int (nI k0)]) (rest := [.int 0, .ref o]) ⟨hx, hb, hml, hown, hts⟩ (k_insert_full l D h q cA hst e L c0 g i0 k0 p1 p2 hc0 hi0 hk0 hk5 hfull) (cwV 4 hts gL_insert_X0_insert rfl rfl rfl (by decide +kernel) ⟨Nat.le_of_ble_eq_true rfl, Nat.le_of_ble_eq_true rfl⟩) (lc_TxV (q0 := 0) (ci := 0) (q := (RX0, TX0, 3)) hP hK hZ rfl rfl) rfl rfl hl.1 rfl (lv_room (Nat.le_of_ble_eq_true rfl)) dL_insert_9 ⟨Nat.le_refl _, Nat.le_refl _⟩) (fun ce q9 H1 hz hk hce hcv hcl => ?_)
  refine vx_catch (name := "java/lang/IllegalStateException") hown [⟨0, 14, 17, 13⟩] ⟨0, 14, 21, 15⟩ [] (by rw [htb]; rfl) (fun z hz => by rw [List.mem_singleton.mp hz]; exact Or.inr ⟨by decide, "java/lang/IllegalArgumentException", hts (.classLink RL 13 "java/lang/IllegalArgumentException") (by decide +kernel), hZ.2.2.2.2.2.2.2.2⟩) (by decide) (by decide) (hts _ (List.mem_cons_of_mem _ lb_62)) (hZ.2.2.2.1.use rfl) hce hcv hcl ?_
  refine W.eq (g2 := F0 m 21 ls [.ref q9]) rfl ?_
  refine lv_astore hx hb dL_insert_21 hl (by decide) rfl (fun ls hl => ?_)
  have hl : lv_has ls 7 [(6, .ref q9), (0, .ref h), (1, .int (nI i0)), (2, .int p1), (3, .int p2), (4, .int (nI k0)), (5, .ref o)] := hl
  refine lv_iconst (v := 2) hx hb dL_insert_23 (by decide) ?_
  exact W.iret (v := 2) hx hb hr (fun t ht _ => ⟨rfl, by rw [ht]; exact hz, fun q h1 _ => by rw [ht]; exact hk q h1⟩) (fun _ h => nomatch h) dL_insert_24
set_option maxHeartbeats 4000000 in
set_option maxRecDepth 100000 in
theorem w_delete (l : Launch) (D : va_G) (h q : Nat) (cA : ClassId) (o : Nat) (cJ : ClassId) (sz : Nat) (fo : Nat → Int64) (L c0 : Nat) (g : Nat → Int32) (hL : L ≤ 20000) (hc0 : c0 ≤ L) (i0 k0 : Nat) (hk0 : 1 ≤ k0) (hik : i0 + k0 ≤ c0) : Met l yL_delete wsL_delete ({ frames := 8, cells := 0, slots := 0, locals := 140 }) (lc_Wr [.ref h, .int (nI i0), .int (nI k0), .ref o] D [(h, .inr (0, [.ref q, .int (nI c0), .int (nI (lc_cnt g c0))])), (q, .inl (cA, L, .inl g)), (o, .inl (cJ, 1, .inr (.inl fo)))] [(cA, .int), (cJ, .long)] sz) (lc_QW (S := (Nat → Int32) × (Nat → Int64)) D (va_A [(h, .inr (0, [.ref q, .int (nI c0), .int (nI (lc_cnt g c0))])), (q, .inl (cA, L, .inl g)), (o, .inl (cJ, 1, .inr (.inl fo)))] sz) (fun _ => some (.int 0)) (fun u => [(h, .inr (0, [.ref q, .int (nI (c0 - k0)), .int (nI (lc_cnt u.1 (c0 - k0)))])), (q, .inl (cA, L, .inl u.1)), (o, .inl (cJ, 1, .inr (.inl u.2)))]) (fun u => [(cA, .int), (cJ, .long)]) (fun u => (∀ j, j < c0 - k0 → u.1 j = lc_del g i0 k0 j) ∧ u.2 0 = (nI (c0 - k0)).toInt64)) 0 0 (va_A [(h, .inr (0, [.ref q, .int (nI c0), .int (nI (lc_cnt g c0))])), (q, .inl (cA, L, .inl g)), (o, .inl (cJ, 1, .inr (.inl fo)))] sz) := by
  refine va_MetW (cc := cL_delete) (maxL := 5) (ret := (some .int)) (hh := [(0, 10, 13, 13)]) (by decide) rfl ?_
  intro p e' s m args below meth c s₁ B hml hv
  obtain ⟨rfl, hsz, hP, hK, hD0⟩ := hv
  have hx := B.exec
  have hb := B.bytes
  have hr := B.returns
  have hts := atoms_spec (ws := wsL_delete) B.pre
  have hown : s.vm.findClass RL = some m.cls := findClass_of_methodNamed B.named
  have hlocks := B.notSynchronized
  subst hsz
  have hD := hD0.self (sz := s.heap.size)
  generalize hAe : va_A [(h, .inr (0, [.ref q, .int (nI c0), .int (nI (lc_cnt g c0))])), (q, .inl (cA, L, .inl g)), (o, .inl (cJ, 1, .inr (.inl fo)))] s.heap.size = A at hD ⊢
  have hA : ∀ q : Nat, s.heap.size ≤ q → A q := fun q h => by rw [← hAe]; exact Or.inr h
  have hS : va_S A s.heap s.heap [] := va_S.rf
  have hP : va_P D vwCl [(h, .inr (0, [.ref q, .int (nI c0), .int (nI (lc_cnt g c0))])), (q, .inl (cA, L, .inl g)), (o, .inl (cJ, 1, .inr (.inl fo)))] s.heap := hP
  have hl := lv_entry ([.ref h, .int (nI i0), .int (nI k0), .ref o]) (n := 5) (Nat.le_of_ble_eq_true rfl)
  rw [lg_entry_eq]
  generalize (lg_sl ([.ref h, .int (nI i0), .int (nI k0), .ref o]) ++ List.replicate (5 - (lg_sl ([.ref h, .int (nI i0), .int (nI k0), .ref o])).length) Slot.unset).toArray = ls at hl ⊢
  have hl : lv_has ls 5 [(0, .ref h), (1, .int (nI i0)), (2, .int (nI k0)), (3, .ref o)] := hl
  refine lv_aload_n hx hb dL_delete_0 rfl (lv_at hl 3 rfl) ?_
  refine lv_iconst (v := 0) hx hb dL_delete_1 (by decide) ?_
  refine lv_aload_n hx hb dL_delete_2 rfl (lv_at hl 0 rfl) ?_
  refine lv_iload_n hx hb dL_delete_3 rfl (lv_at hl 1 rfl) ?_
  refine lv_iload_n hx hb dL_delete_4 rfl (lv_at hl 2 rfl) ?_
  have hPc := hP.sub (ws' := [(h, .inr (0, [.ref q, .int (nI c0), .int (nI (lc_cnt g c0))])), (q, .inl (cA, L, .inl g))]) [0, 1] rfl
  have hDc := hD.sub (ws' := [(h, .inr (0, [.ref q, .int (nI c0), .int (nI (lc_cnt g c0))])), (q, .inl (cA, L, .inl g))]) [0, 1] (by decide) rfl
  have hKc := hK.sub (tys' := [(cA, .int)]) [0] rfl
  have hF := va_free (wc := [(h, .inr (0, [.ref q, .int (nI c0), .int (nI (lc_cnt g c0))])), (q, .inl (cA, L, .inl g))]) hD hS hA [0, 1] rfl
  refine lc_callW (va_runV (As := [.int (nI i0), .int (nI k0)]) (rest := [.int 0, .ref o]) ⟨hx, hb, hml, hown, hts⟩ (k_delete l D h q cA s.heap.size L c0 g hL hc0 i0 k0 hk0 hik) (cwV 2 hts gL_delete_X0_delete rfl rfl rfl (by decide +kernel) ⟨Nat.le_of_ble_eq_true rfl, Nat.le_of_ble_eq_true rfl⟩) (lc_WrV (q0 := 0) (ci := 0) (q := (RX0, TX0, 3)) hPc hKc hDc rfl rfl) rfl rfl hl.1 rfl (lv_room (Nat.le_of_ble_eq_true rfl)) dL_delete_5 ⟨Nat.le_refl _, by show 0 + 0 ≤ 0; omega⟩) hS (fun q h => hF q h) (fun u H locs hp hP1 hK1 hD1 hz hk hS => ?_)
  obtain ⟨g1, hg1⟩ : ∃ z : Nat → Int32, z = u := ⟨u, rfl⟩
  rw [← hg1] at hp hP1 hD1
  obtain ⟨hP, hD⟩ := va_join (wr := [(o, .inl (cJ, 1, .inr (.inl fo)))]) (w1 := [(h, .inr (0, [.ref q, .int (nI (c0 - k0)), .int (nI (lc_cnt g1 (c0 - k0)))])), (q, .inl (cA, L, .inl g1))]) hP hD [0, 1] [2] rfl rfl (by decide) (by decide) hk hF hP1 hD1
  have hK := (hK.sub (tys' := [(cJ, .long)]) [1] rfl).app hK1
  have hK : va_K D vwCl [(cJ, .long), (cA, .int)] s := hK
  have hP : va_P D vwCl [(o, .inl (cJ, 1, .inr (.inl fo))), (h, .inr (0, [.ref q, .int (nI (c0 - k0)), .int (nI (lc_cnt g1 (c0 - k0)))])), (q, .inl (cA, L, .inl g1))] H := hP
  have hD : va_D A [(o, .inl (cJ, 1, .inr (.inl fo))), (h, .inr (0, [.ref q, .int (nI (c0 - k0)), .int (nI (lc_cnt g1 (c0 - k0)))])), (q, .inl (cA, L, .inl g1))] := hD
  refine W.eq (g2 := F0 m 8 ls [.int (nI (c0 - k0)), .int 0, .ref o]) rfl ?_
  refine lv_i2l (v := (nI (c0 - k0)).toInt64) hx hb dL_delete_8 rfl ?_
  refine va_last (D := D) hx hb hK hP hD hS 0 0 rfl rfl (vp_in_nI (n := 0) (N := 1) (by decide) (by decide)) dL_delete_9 (fun H locs hP hD hS => ?_)
  have hP : va_P D vwCl [(o, .inl (cJ, 1, .inr (.inl (vp_updL fo ((0 : Int32).toNatClampNeg) (nI (c0 - k0)).toInt64)))), (h, .inr (0, [.ref q, .int (nI (c0 - k0)), .int (nI (lc_cnt g1 (c0 - k0)))])), (q, .inl (cA, L, .inl g1))] H := hP
  have hD : va_D A [(o, .inl (cJ, 1, .inr (.inl (vp_updL fo ((0 : Int32).toNatClampNeg) (nI (c0 - k0)).toInt64)))), (h, .inr (0, [.ref q, .int (nI (c0 - k0)), .int (nI (lc_cnt g1 (c0 - k0)))])), (q, .inl (cA, L, .inl g1))] := hD
  refine lv_goto hx hb dL_delete_10 (tgt := 17) rfl ?_
  refine lv_iconst (v := 0) hx hb dL_delete_17 (by decide) ?_
  have hP := hP.sub (ws' := [(h, .inr (0, [.ref q, .int (nI (c0 - k0)), .int (nI (lc_cnt g1 (c0 - k0)))])), (q, .inl (cA, L, .inl g1)), (o, .inl (cJ, 1, .inr (.inl (vp_updL fo ((0 : Int32).toNatClampNeg) (nI (c0 - k0)).toInt64))))]) [1, 2, 0] rfl
  have hD := hD.sub (ws' := [(h, .inr (0, [.ref q, .int (nI (c0 - k0)), .int (nI (lc_cnt g1 (c0 - k0)))])), (q, .inl (cA, L, .inl g1)), (o, .inl (cJ, 1, .inr (.inl (vp_updL fo ((0 : Int32).toNatClampNeg) (nI (c0 - k0)).toInt64))))]) [1, 2, 0] (by decide) rfl
  have hK := hK.sub (tys' := [(cA, .int), (cJ, .long)]) [1, 0] rfl
  have hu0 : (vp_updL fo ((0 : Int32).toNatClampNeg) (nI (c0 - k0)).toInt64) 0 = (nI (c0 - k0)).toInt64 := by rw [sb_cl0]; exact pk_uLs
  exact W.iret (v := 0) hx hb hr (fun t ht hW => ⟨(g1, vp_updL fo ((0 : Int32).toNatClampNeg) (nI (c0 - k0)).toInt64), rfl, ⟨hp, hu0⟩, by rw [ht]; exact hP, va_K.moved hW.alike hK, hD, hS.F ht⟩) hS.2.2 dL_delete_18
set_option maxHeartbeats 4000000 in
set_option maxRecDepth 100000 in
theorem w_insert (l : Launch) (D : va_G) (h q : Nat) (cA : ClassId) (o : Nat) (cJ : ClassId) (sz : Nat) (fo : Nat → Int64) (L c0 : Nat) (g : Nat → Int32) (hL5 : 512 ≤ L) (hL : L ≤ 20000) (hc0 : c0 ≤ L) (i0 k0 : Nat) (v0 s0 : Int32) (hi0 : i0 ≤ c0) (hk0 : 1 ≤ k0) (hk5 : k0 ≤ 500) (hfit : c0 + k0 ≤ 20000) : Met l yL_insert wsL_insert ({ frames := 8, cells := 1, slots := lc_gr L (c0 + k0), locals := 140 }) (lc_Wr [.ref h, .int (nI i0), .int v0, .int s0, .int (nI k0), .ref o] D [(h, .inr (0, [.ref q, .int (nI c0), .int (nI (lc_cnt g c0))])), (q, .inl (cA, L, .inl g)), (o, .inl (cJ, 1, .inr (.inl fo)))] [(cA, .int), (cJ, .long)] sz) (lc_QW (S := (Nat × ClassId × (Nat → Int32)) × (Nat → Int64)) D (va_A [(h, .inr (0, [.ref q, .int (nI c0), .int (nI (lc_cnt g c0))])), (q, .inl (cA, L, .inl g)), (o, .inl (cJ, 1, .inr (.inl fo)))] sz) (fun _ => some (.int 0)) (fun u => [(h, .inr (0, [.ref u.1.1, .int (nI (c0 + k0)), .int (nI (lc_cnt u.1.2.2 (c0 + k0)))])), (u.1.1, .inl (u.1.2.1, lc_L L (c0 + k0), .inl u.1.2.2)), (o, .inl (cJ, 1, .inr (.inl u.2)))]) (fun u => [(u.1.2.1, .int), (cJ, .long)]) (fun u => (∀ j, j < c0 + k0 → u.1.2.2 j = lc_ins g i0 v0 s0 k0 j) ∧ u.2 0 = (nI (c0 + k0)).toInt64)) 1 (lc_gr L (c0 + k0)) (va_A [(h, .inr (0, [.ref q, .int (nI c0), .int (nI (lc_cnt g c0))])), (q, .inl (cA, L, .inl g)), (o, .inl (cJ, 1, .inr (.inl fo)))] sz) := by
  refine va_MetW (cc := cL_insert) (maxL := 7) (ret := (some .int)) (hh := [(0, 14, 17, 13), (0, 14, 21, 15)]) (by decide) rfl ?_
  intro p e' s m args below meth c s₁ B hml hv
  obtain ⟨rfl, hsz, hP, hK, hD0⟩ := hv
  have hx := B.exec
  have hb := B.bytes
  have hr := B.returns
  have hts := atoms_spec (ws := wsL_insert) B.pre
  have hown : s.vm.findClass RL = some m.cls := findClass_of_methodNamed B.named
  have hlocks := B.notSynchronized
  subst hsz
  have hD := hD0.self (sz := s.heap.size)
  generalize hAe : va_A [(h, .inr (0, [.ref q, .int (nI c0), .int (nI (lc_cnt g c0))])), (q, .inl (cA, L, .inl g)), (o, .inl (cJ, 1, .inr (.inl fo)))] s.heap.size = A at hD ⊢
  have hA : ∀ q : Nat, s.heap.size ≤ q → A q := fun q h => by rw [← hAe]; exact Or.inr h
  have hS : va_S A s.heap s.heap [] := va_S.rf
  have hP : va_P D vwCl [(h, .inr (0, [.ref q, .int (nI c0), .int (nI (lc_cnt g c0))])), (q, .inl (cA, L, .inl g)), (o, .inl (cJ, 1, .inr (.inl fo)))] s.heap := hP
  have hl := lv_entry ([.ref h, .int (nI i0), .int v0, .int s0, .int (nI k0), .ref o]) (n := 7) (Nat.le_of_ble_eq_true rfl)
  rw [lg_entry_eq]
  generalize (lg_sl ([.ref h, .int (nI i0), .int v0, .int s0, .int (nI k0), .ref o]) ++ List.replicate (7 - (lg_sl ([.ref h, .int (nI i0), .int v0, .int s0, .int (nI k0), .ref o])).length) Slot.unset).toArray = ls at hl ⊢
  have hl : lv_has ls 7 [(0, .ref h), (1, .int (nI i0)), (2, .int v0), (3, .int s0), (4, .int (nI k0)), (5, .ref o)] := hl
  refine lv_aload hx hb dL_insert_0 (lv_at hl 5 rfl) ?_
  refine lv_iconst (v := 0) hx hb dL_insert_2 (by decide) ?_
  refine lv_aload_n hx hb dL_insert_3 rfl (lv_at hl 0 rfl) ?_
  refine lv_iload_n hx hb dL_insert_4 rfl (lv_at hl 1 rfl) ?_
  refine lv_iload_n hx hb dL_insert_5 rfl (lv_at hl 2 rfl) ?_
  refine lv_iload_n hx hb dL_insert_6 rfl (lv_at hl 3 rfl) ?_
  refine lv_iload hx hb dL_insert_7 (lv_at hl 4 rfl) ?_
  have hPc := hP.sub (ws' := [(h, .inr (0, [.ref q, .int (nI c0), .int (nI (lc_cnt g c0))])), (q, .inl (cA, L, .inl g))]) [0, 1] rfl
  have hDc := hD.sub (ws' := [(h, .inr (0, [.ref q, .int (nI c0), .int (nI (lc_cnt g c0))])), (q, .inl (cA, L, .inl g))]) [0, 1] (by decide) rfl
  have hKc := hK.sub (tys' := [(cA, .int)]) [0] rfl
  have hF := va_free (wc := [(h, .inr (0, [.ref q, .int (nI c0), .int (nI (lc_cnt g c0))])), (q, .inl (cA, L, .inl g))]) hD hS hA [0, 1] rfl
  refine lc_callW (va_runV (As := [.int (nI i0), .int v0, .int s0, .int (nI k0)]) (rest := [.int 0, .ref o]) ⟨hx, hb, hml, hown, hts⟩ (k_insert l D h q cA s.heap.size L c0 g hL5 hL hc0 i0 k0 v0 s0 hi0 hk0 hk5 hfit) (cwV 4 hts gL_insert_X0_insert rfl rfl rfl (by decide +kernel) ⟨Nat.le_of_ble_eq_true rfl, Nat.le_of_ble_eq_true rfl⟩) (lc_WrV (q0 := 0) (ci := 0) (q := (RX0, TX0, 3)) hPc hKc hDc rfl rfl) rfl rfl hl.1 rfl (lv_room (Nat.le_of_ble_eq_true rfl)) dL_insert_9 ⟨Nat.le_refl _, by show 0 + (lc_gr L (c0 + k0)) ≤ (lc_gr L (c0 + k0)); omega⟩) hS (fun q h => hF q h) (fun u H locs hp hP1 hK1 hD1 hz hk hS => ?_)
  obtain ⟨q1, cA1, g1⟩ := u
  dsimp only at hp hP1 hK1 hD1
  obtain ⟨hP, hD⟩ := va_join (wr := [(o, .inl (cJ, 1, .inr (.inl fo)))]) (w1 := [(h, .inr (0, [.ref q1, .int (nI (c0 + k0)), .int (nI (lc_cnt g1 (c0 + k0)))])), (q1, .inl (cA1, lc_L L (c0 + k0), .inl g1))]) hP hD [0, 1] [2] rfl rfl (by decide) (by decide) hk hF hP1 hD1
  have hK := (hK.sub (tys' := [(cJ, .long)]) [1] rfl).app hK1
  have hK : va_K D vwCl [(cJ, .long), (cA1, .int)] s := hK
  have hP : va_P D vwCl [(o, .inl (cJ, 1, .inr (.inl fo))), (h, .inr (0, [.ref q1, .int (nI (c0 + k0)), .int (nI (lc_cnt g1 (c0 + k0)))])), (q1, .inl (cA1, lc_L L (c0 + k0), .inl g1))] H := hP
  have hD : va_D A [(o, .inl (cJ, 1, .inr (.inl fo))), (h, .inr (0, [.ref q1, .int (nI (c0 + k0)), .int (nI (lc_cnt g1 (c0 + k0)))])), (q1, .inl (cA1, lc_L L (c0 + k0), .inl g1))] := hD
  refine W.eq (g2 := F0 m 12 ls [.int (nI (c0 + k0)), .int 0, .ref o]) rfl ?_
  refine lv_i2l (v := (nI (c0 + k0)).toInt64) hx hb dL_insert_12 rfl ?_
  refine va_last (D := D) hx hb hK hP hD hS 0 0 rfl rfl (vp_in_nI (n := 0) (N := 1) (by decide) (by decide)) dL_insert_13 (fun H locs hP hD hS => ?_)
  have hP : va_P D vwCl [(o, .inl (cJ, 1, .inr (.inl (vp_updL fo ((0 : Int32).toNatClampNeg) (nI (c0 + k0)).toInt64)))), (h, .inr (0, [.ref q1, .int (nI (c0 + k0)), .int (nI (lc_cnt g1 (c0 + k0)))])), (q1, .inl (cA1, lc_L L (c0 + k0), .inl g1))] H := hP
  have hD : va_D A [(o, .inl (cJ, 1, .inr (.inl (vp_updL fo ((0 : Int32).toNatClampNeg) (nI (c0 + k0)).toInt64)))), (h, .inr (0, [.ref q1, .int (nI (c0 + k0)), .int (nI (lc_cnt g1 (c0 + k0)))])), (q1, .inl (cA1, lc_L L (c0 + k0), .inl g1))] := hD
  refine lv_goto hx hb dL_insert_14 (tgt := 25) rfl ?_
  refine lv_iconst (v := 0) hx hb dL_insert_25 (by decide) ?_
  have hP := hP.sub (ws' := [(h, .inr (0, [.ref q1, .int (nI (c0 + k0)), .int (nI (lc_cnt g1 (c0 + k0)))])), (q1, .inl (cA1, lc_L L (c0 + k0), .inl g1)), (o, .inl (cJ, 1, .inr (.inl (vp_updL fo ((0 : Int32).toNatClampNeg) (nI (c0 + k0)).toInt64))))]) [1, 2, 0] rfl
  have hD := hD.sub (ws' := [(h, .inr (0, [.ref q1, .int (nI (c0 + k0)), .int (nI (lc_cnt g1 (c0 + k0)))])), (q1, .inl (cA1, lc_L L (c0 + k0), .inl g1)), (o, .inl (cJ, 1, .inr (.inl (vp_updL fo ((0 : Int32).toNatClampNeg) (nI (c0 + k0)).toInt64))))]) [1, 2, 0] (by decide) rfl
  have hK := hK.sub (tys' := [(cA1, .int), (cJ, .long)]) [1, 0] rfl
  have hu0 : (vp_updL fo ((0 : Int32).toNatClampNeg) (nI (c0 + k0)).toInt64) 0 = (nI (c0 + k0)).toInt64 := by rw [sb_cl0]; exact pk_uLs
  refine W.widen (k := 1) (n := lc_gr L (c0 + k0)) (Nat.le_refl _) (by omega) ?_
  exact W.iret (v := 0) hx hb hr (fun t ht hW => ⟨((q1, cA1, g1), vp_updL fo ((0 : Int32).toNatClampNeg) (nI (c0 + k0)).toInt64), rfl, ⟨hp, hu0⟩, by rw [ht]; exact hP, va_K.moved hW.alike hK, hD, hS.F ht⟩) hS.2.2 dL_insert_26
end
section
def R_law : String := "LineChunksLaw"
def lw_P (b : Addr) (xs : List Int32) (args : Array Value) (s : State) : Prop := args = #[.ref b] ∧ s.IntsAt b xs ∧ xs.length ≤ 2560 ∧ (Jvm.Cond.and given_1 narrow_1).before args s = true
def lw_Q (_ : Array Value) (s : State) (o : Outcome) (t : State) : Prop := o = .returned (some (.int 1)) ∧ Framed s o t [] 601024 7293034
def lw_Z (below : List Frame) (a : Array Value) (s : State) : State → Prop := fun t => ∃ o, t.status = .running ∧ Ended t below o ∧ lw_Q a s o t
/-- the law's own end, with 1 on the stack, nothing written that was there before, its room as the claim has it -/
theorem lw_ret {p : Program} {l : Launch} {e : Env} {s : State} {m : MethodId} {below : List Frame} {meth : Method} {c : Code} {b : Nat} (hx : p.tables.exec = Jvm.exec) (hb : c.code = code) (hr : meth.sig.returnType = ret) (hlocks : meth.locks = false) {pc : Nat} {H : Heap} {ls : Array Slot} (hdg : decode code pc = .ok (.ireturn, 1)) : W p l e room_1 s m #[Value.ref b] below meth c H [] 601024 7293034 (lw_Z below #[Value.ref b] s) (F0 m pc ls [.int 1]) := by
  intro T hT X
  obtain ⟨fs, hret, hrun, hended, hW, hframe⟩ := X.leave (v := some (.int 1)) (hlocks := hlocks) (fun h => by rw [hr] at h; cases h)
  have hmeth' : T.vm.method? m = some meth := X.method'
  refine ⟨T.setFrames fs, ?_, .returned (some (.int 1)), hrun, hended, rfl, ⟨_, rfl⟩, hW, hframe⟩
  jvm_step X.here [X.here.top, hx, hb, hdg, hmeth', hr, ret, narrow_b1]
  (try refine ⟨rfl, ?_⟩); (try refine ⟨rfl, ?_⟩)
  first | (intro acts; rw [hret _ acts rfl rfl rfl]) | rw [hret _ _ rfl rfl rfl]
  exact Steps.refl _
/-- what holds at the law's entry: the machine, the code, the tables' words (any of lw_tbl by 'hts w (by decide +kernel)'), the script of L ints xs at the cell b, what the Statement gives of the start (any of its parts by flat_of_before) -/
def lw_At (p : Program) (s : State) (m : MethodId) (meth : Method) (c : Code) (b L : Nat) (xs : Nat → Int32) : Prop :=
  p.tables.exec = Jvm.exec ∧ c.code = code ∧ meth.sig.returnType = ret ∧ c.maxLocals = 7 ∧ s.vm.findClass R_law = some m.cls ∧ (∀ w ∈ lw_tbl, w.before #[Value.ref b] s = true) ∧ va_X b L xs s s.heap ∧ b < s.heap.size ∧ meth.locks = false ∧ (Jvm.Cond.and given_1 narrow_1).before #[Value.ref b] s = true
end
section
/-- between two calls of the script: the class holds c0 numbers g, the reference the same numbers, pt slots were made by growth -/
def lc_I (D : va_G) (s : State) (H : Heap) (locs : List Loc) (h hm o pt : Nat) : Prop := ∃ (q : Nat) (cA : ClassId) (Lx c0 : Nat) (g : Nat → Int32) (qm : Nat) (cM : ClassId) (th : Int32) (r : Nat → Int32) (cJ : ClassId) (fo : Nat → Int64), 512 ≤ Lx ∧ Lx ≤ 20000 ∧ c0 ≤ Lx ∧ (∀ j, j < c0 → r j = g j) ∧ ((Lx = 20000 ∧ pt ≤ 60000) ∨ (Lx < 20000 ∧ pt ≤ 2 * Lx)) ∧ va_P D vwCl [(h, .inr (0, [.ref q, .int (nI c0), .int (nI (lc_cnt g c0))])), (q, .inl (cA, Lx, .inl g)), (hm, .inr (1, [.ref qm, .int (nI c0), .int th])), (qm, .inl (cM, 20000, .inl r)), (o, .inl (cJ, 1, .inr (.inl fo)))] H ∧ va_D (fun q => s.heap.size ≤ q) [(h, .inr (0, [.ref q, .int (nI c0), .int (nI (lc_cnt g c0))])), (q, .inl (cA, Lx, .inl g)), (hm, .inr (1, [.ref qm, .int (nI c0), .int th])), (qm, .inl (cM, 20000, .inl r)), (o, .inl (cJ, 1, .inr (.inl fo)))] ∧ va_K D vwCl [(cA, .int), (cM, .int), (cJ, .long)] s ∧ va_S (fun q => s.heap.size ≤ q) s.heap H locs

set_option maxHeartbeats 4000000 in
set_option maxRecDepth 100000 in
theorem q_length {p : Program} {l : Launch} {e : Env} {s : State} {m : MethodId} {below : List Frame} {meth : Method} {c : Code} {b L : Nat} {xs : Nat → Int32} (C0 : lw_At p s m meth c b L xs) (hst : l.stackTraces = false) (hL : L ≤ 2560) {D : va_G} (hZ : lc_TZ (fun q => s.heap.size ≤ q) s s.heap) {h hm o t : Nat} (ht : 5 * t + 5 ≤ L) (next : ∀ (pt : Nat) (H : Heap) (locs : List Loc) (ls : Array Slot), lc_I D s H locs h hm o pt → lv_has ls 7 [(4, .int (nI (5 * t))), (0, .ref b), (1, .ref h), (2, .ref hm), (3, .ref o)] → W p l e room_1 s m #[Value.ref b] below meth c H locs (5 + 2 * (t + 1)) (20519 + 12 * (t + 1) + pt) (lw_Z below #[Value.ref b] s) (F0 m 451 ls [])) {pt : Nat} {H : Heap} {locs : List Loc} {ls : Array Slot} (hI : lc_I D s H locs h hm o pt) (hl : lv_has ls 7 [(4, .int (nI (5 * t))), (0, .ref b), (1, .ref h), (2, .ref hm), (3, .ref o)]) : W p l e room_1 s m #[Value.ref b] below meth c H locs (5 + 2 * t) (20519 + 12 * t + pt) (lw_Z below #[Value.ref b] s) (F0 m 300 ls []) := by
  obtain ⟨hx, hb, hr, hml, hown, hts, hX, hbl, hlocks, hgv⟩ := C0
  have hts : ∀ w ∈ wsL_law, w.before #[Value.ref b] s = true := fun w h => hts w (lc_lawin w h)
  obtain ⟨q, cA, Lx, c0, g, qm, cM, th, r, cJ, fo, hL5, hLx, hc0, heq, hpt, hP, hD, hK, hS⟩ := hI
  have hA : ∀ q : Nat, s.heap.size ≤ q → (fun q => s.heap.size ≤ q) q := fun q h => h
  have hbA : ¬ (fun q => s.heap.size ≤ q) b := fun h => absurd hbl (Nat.not_lt.mpr h)
  refine lv_aload_n hx hb dL_law_300 rfl (lv_at hl 2 rfl) ?_
  refine lc_callR (W.runV (As := []) (rest := []) ⟨hx, hb, hml, hown, hts⟩ (k_length l D h q cA (nI c0) (nI (lc_cnt g c0)) Lx g) (cwV 0 hts gL_law_X0_length rfl rfl rfl (by decide +kernel) ⟨Nat.le_of_ble_eq_true rfl, Nat.le_of_ble_eq_true rfl⟩) (lc_RdV (q0 := 0) (ci := 0) (q := (RX0, TX0, 3)) (hP.sub (ws' := [(h, .inr (0, [.ref q, .int (nI c0), .int (nI (lc_cnt g c0))])), (q, .inl (cA, Lx, .inl g))]) [0, 1] rfl) (hK.sub (tys' := [(cA, .int)]) [0] rfl) rfl rfl) rfl rfl hl.1 rfl (lv_room (Nat.le_of_ble_eq_true rfl)) dL_law_301 ⟨by show _ ≤ (601024 : Nat); omega, by show _ ≤ (7293034 : Nat); omega⟩) ?_
  refine lv_aload_n hx hb dL_law_304 rfl (lv_at hl 3 rfl) ?_
  have hPc := hP.sub (ws' := [(hm, .inr (1, [.ref qm, .int (nI c0), .int th])), (qm, .inl (cM, 20000, .inl r))]) [2, 3] rfl
  have hDc := hD.sub (ws' := [(hm, .inr (1, [.ref qm, .int (nI c0), .int th])), (qm, .inl (cM, 20000, .inl r))]) [2, 3] (by decide) rfl
  have hKc := hK.sub (tys' := [(cM, .int)]) [1] rfl
  have hF := va_free (wc := [(hm, .inr (1, [.ref qm, .int (nI c0), .int th])), (qm, .inl (cM, 20000, .inl r))]) hD hS hA [2, 3] rfl
  refine lc_callW (va_runV (As := []) (rest := [.int (nI c0)]) ⟨hx, hb, hml, hown, hts⟩ (m_length l D hm qm cM H.size (nI c0) th r) (cwV 0 hts gL_law_X1_length rfl rfl rfl (by decide +kernel) ⟨Nat.le_of_ble_eq_true rfl, Nat.le_of_ble_eq_true rfl⟩) (lc_WrV (q0 := 0) (ci := 1) (q := (RX1, TX1, 3)) hPc hKc hDc rfl rfl) rfl rfl hl.1 rfl (lv_room (Nat.le_of_ble_eq_true rfl)) dL_law_305 ⟨by show _ ≤ (601024 : Nat); omega, by show _ ≤ (7293034 : Nat); omega⟩) hS (fun q h => hF q h) (fun u H locs hp hP1 hK1 hD1 hz hk hS => ?_)
  obtain ⟨hP, hD⟩ := va_join (wr := [(h, .inr (0, [.ref q, .int (nI c0), .int (nI (lc_cnt g c0))])), (q, .inl (cA, Lx, .inl g)), (o, .inl (cJ, 1, .inr (.inl fo)))]) (w1 := [(hm, .inr (1, [.ref qm, .int (nI c0), .int 0])), (qm, .inl (cM, 20000, .inl r))]) hP hD [2, 3] [0, 1, 4] rfl rfl (by decide) (by decide) hk hF hP1 hD1
  have hK := (hK.sub (tys' := [(cA, .int), (cJ, .long)]) [0, 2] rfl).app hK1
  have hP := hP.sub (ws' := [(h, .inr (0, [.ref q, .int (nI c0), .int (nI (lc_cnt g c0))])), (q, .inl (cA, Lx, .inl g)), (hm, .inr (1, [.ref qm, .int (nI c0), .int 0])), (qm, .inl (cM, 20000, .inl r)), (o, .inl (cJ, 1, .inr (.inl fo)))]) [0, 1, 3, 4, 2] rfl
  have hD := hD.sub (ws' := [(h, .inr (0, [.ref q, .int (nI c0), .int (nI (lc_cnt g c0))])), (q, .inl (cA, Lx, .inl g)), (hm, .inr (1, [.ref qm, .int (nI c0), .int 0])), (qm, .inl (cM, 20000, .inl r)), (o, .inl (cJ, 1, .inr (.inl fo)))]) [0, 1, 3, 4, 2] (by decide) rfl
  have hK := hK.sub (tys' := [(cA, .int), (cM, .int), (cJ, .long)]) [0, 2, 1] rfl
  clear hz hk hPc hDc hKc hF hP1 hK1 hD1
  refine W.eq (g2 := F0 m 308 ls [.int (nI c0), .int (nI c0)]) rfl ?_
  refine lv_icmp_eq hx hb dL_law_308 (tgt := 451) rfl (fun _ => ?_) (fun hc => absurd (rfl) hc)
  have hl : lv_has ls 7 [(4, .int (nI (5 * t))), (0, .ref b), (1, .ref h), (2, .ref hm), (3, .ref o)] := lv_sub hl [0, 1, 2, 3, 4] rfl
  refine W.widen (k := 5 + 2 * (t + 1)) (n := 20519 + 12 * (t + 1) + pt) (by omega) (by omega) ?_
  exact next pt H locs ls ⟨q, cA, Lx, c0, g, qm, cM, 0, r, cJ, fo, hL5, hLx, hc0, heq, hpt, hP, hD, hK, hS⟩ hl
set_option maxHeartbeats 4000000 in
set_option maxRecDepth 100000 in
theorem q_lines {p : Program} {l : Launch} {e : Env} {s : State} {m : MethodId} {below : List Frame} {meth : Method} {c : Code} {b L : Nat} {xs : Nat → Int32} (C0 : lw_At p s m meth c b L xs) (hst : l.stackTraces = false) (hL : L ≤ 2560) {D : va_G} (hZ : lc_TZ (fun q => s.heap.size ≤ q) s s.heap) {h hm o t : Nat} (ht : 5 * t + 5 ≤ L) (next : ∀ (pt : Nat) (H : Heap) (locs : List Loc) (ls : Array Slot), lc_I D s H locs h hm o pt → lv_has ls 7 [(4, .int (nI (5 * t))), (0, .ref b), (1, .ref h), (2, .ref hm), (3, .ref o)] → W p l e room_1 s m #[Value.ref b] below meth c H locs (5 + 2 * (t + 1)) (20519 + 12 * (t + 1) + pt) (lw_Z below #[Value.ref b] s) (F0 m 451 ls [])) {pt : Nat} {H : Heap} {locs : List Loc} {ls : Array Slot} (hI : lc_I D s H locs h hm o pt) (hl : lv_has ls 7 [(4, .int (nI (5 * t))), (0, .ref b), (1, .ref h), (2, .ref hm), (3, .ref o)]) : W p l e room_1 s m #[Value.ref b] below meth c H locs (5 + 2 * t) (20519 + 12 * t + pt) (lw_Z below #[Value.ref b] s) (F0 m 313 ls []) := by
  obtain ⟨hx, hb, hr, hml, hown, hts, hX, hbl, hlocks, hgv⟩ := C0
  have hts : ∀ w ∈ wsL_law, w.before #[Value.ref b] s = true := fun w h => hts w (lc_lawin w h)
  obtain ⟨q, cA, Lx, c0, g, qm, cM, th, r, cJ, fo, hL5, hLx, hc0, heq, hpt, hP, hD, hK, hS⟩ := hI
  have hA : ∀ q : Nat, s.heap.size ≤ q → (fun q => s.heap.size ≤ q) q := fun q h => h
  have hbA : ¬ (fun q => s.heap.size ≤ q) b := fun h => absurd hbl (Nat.not_lt.mpr h)
  refine lv_aload_n hx hb dL_law_313 rfl (lv_at hl 2 rfl) ?_
  refine lc_callR (W.runV (As := []) (rest := []) ⟨hx, hb, hml, hown, hts⟩ (k_lines l D h q cA (nI c0) (nI (lc_cnt g c0)) Lx g) (cwV 0 hts gL_law_X0_lines rfl rfl rfl (by decide +kernel) ⟨Nat.le_of_ble_eq_true rfl, Nat.le_of_ble_eq_true rfl⟩) (lc_RdV (q0 := 0) (ci := 0) (q := (RX0, TX0, 3)) (hP.sub (ws' := [(h, .inr (0, [.ref q, .int (nI c0), .int (nI (lc_cnt g c0))])), (q, .inl (cA, Lx, .inl g))]) [0, 1] rfl) (hK.sub (tys' := [(cA, .int)]) [0] rfl) rfl rfl) rfl rfl hl.1 rfl (lv_room (Nat.le_of_ble_eq_true rfl)) dL_law_314 ⟨by show _ ≤ (601024 : Nat); omega, by show _ ≤ (7293034 : Nat); omega⟩) ?_
  refine lv_aload_n hx hb dL_law_317 rfl (lv_at hl 3 rfl) ?_
  have hPc := hP.sub (ws' := [(hm, .inr (1, [.ref qm, .int (nI c0), .int th])), (qm, .inl (cM, 20000, .inl r))]) [2, 3] rfl
  have hDc := hD.sub (ws' := [(hm, .inr (1, [.ref qm, .int (nI c0), .int th])), (qm, .inl (cM, 20000, .inl r))]) [2, 3] (by decide) rfl
  have hKc := hK.sub (tys' := [(cM, .int)]) [1] rfl
  have hF := va_free (wc := [(hm, .inr (1, [.ref qm, .int (nI c0), .int th])), (qm, .inl (cM, 20000, .inl r))]) hD hS hA [2, 3] rfl
  refine lc_callW (va_runV (As := []) (rest := [.int (nI (lc_cnt g c0) + 1)]) ⟨hx, hb, hml, hown, hts⟩ (m_lines l D hm qm cM H.size th c0 r (by omega)) (cwV 0 hts gL_law_X1_lines rfl rfl rfl (by decide +kernel) ⟨Nat.le_of_ble_eq_true rfl, Nat.le_of_ble_eq_true rfl⟩) (lc_WrV (q0 := 0) (ci := 1) (q := (RX1, TX1, 3)) hPc hKc hDc rfl rfl) rfl rfl hl.1 rfl (lv_room (Nat.le_of_ble_eq_true rfl)) dL_law_318 ⟨by show _ ≤ (601024 : Nat); omega, by show _ ≤ (7293034 : Nat); omega⟩) hS (fun q h => hF q h) (fun u H locs hp hP1 hK1 hD1 hz hk hS => ?_)
  obtain ⟨hP, hD⟩ := va_join (wr := [(h, .inr (0, [.ref q, .int (nI c0), .int (nI (lc_cnt g c0))])), (q, .inl (cA, Lx, .inl g)), (o, .inl (cJ, 1, .inr (.inl fo)))]) (w1 := [(hm, .inr (1, [.ref qm, .int (nI c0), .int 0])), (qm, .inl (cM, 20000, .inl r))]) hP hD [2, 3] [0, 1, 4] rfl rfl (by decide) (by decide) hk hF hP1 hD1
  have hK := (hK.sub (tys' := [(cA, .int), (cJ, .long)]) [0, 2] rfl).app hK1
  have hP := hP.sub (ws' := [(h, .inr (0, [.ref q, .int (nI c0), .int (nI (lc_cnt g c0))])), (q, .inl (cA, Lx, .inl g)), (hm, .inr (1, [.ref qm, .int (nI c0), .int 0])), (qm, .inl (cM, 20000, .inl r)), (o, .inl (cJ, 1, .inr (.inl fo)))]) [0, 1, 3, 4, 2] rfl
  have hD := hD.sub (ws' := [(h, .inr (0, [.ref q, .int (nI c0), .int (nI (lc_cnt g c0))])), (q, .inl (cA, Lx, .inl g)), (hm, .inr (1, [.ref qm, .int (nI c0), .int 0])), (qm, .inl (cM, 20000, .inl r)), (o, .inl (cJ, 1, .inr (.inl fo)))]) [0, 1, 3, 4, 2] (by decide) rfl
  have hK := hK.sub (tys' := [(cA, .int), (cM, .int), (cJ, .long)]) [0, 2, 1] rfl
  clear hz hk hPc hDc hKc hF hP1 hK1 hD1
  refine W.eq (g2 := F0 m 321 ls [.int (nI (lc_cnt r c0) + 1), .int (nI (lc_cnt g c0) + 1)]) rfl ?_
  refine lv_icmp_eq hx hb dL_law_321 (tgt := 451) rfl (fun _ => ?_) (fun hc => absurd (by rw [lc_cnt_congr heq]) hc)
  have hl : lv_has ls 7 [(4, .int (nI (5 * t))), (0, .ref b), (1, .ref h), (2, .ref hm), (3, .ref o)] := lv_sub hl [0, 1, 2, 3, 4] rfl
  refine W.widen (k := 5 + 2 * (t + 1)) (n := 20519 + 12 * (t + 1) + pt) (by omega) (by omega) ?_
  exact next pt H locs ls ⟨q, cA, Lx, c0, g, qm, cM, 0, r, cJ, fo, hL5, hLx, hc0, heq, hpt, hP, hD, hK, hS⟩ hl
set_option maxHeartbeats 4000000 in
set_option maxRecDepth 100000 in
theorem q_digest {p : Program} {l : Launch} {e : Env} {s : State} {m : MethodId} {below : List Frame} {meth : Method} {c : Code} {b L : Nat} {xs : Nat → Int32} (C0 : lw_At p s m meth c b L xs) (hst : l.stackTraces = false) (hL : L ≤ 2560) {D : va_G} (hZ : lc_TZ (fun q => s.heap.size ≤ q) s s.heap) {h hm o t : Nat} (ht : 5 * t + 5 ≤ L) (next : ∀ (pt : Nat) (H : Heap) (locs : List Loc) (ls : Array Slot), lc_I D s H locs h hm o pt → lv_has ls 7 [(4, .int (nI (5 * t))), (0, .ref b), (1, .ref h), (2, .ref hm), (3, .ref o)] → W p l e room_1 s m #[Value.ref b] below meth c H locs (5 + 2 * (t + 1)) (20519 + 12 * (t + 1) + pt) (lw_Z below #[Value.ref b] s) (F0 m 451 ls [])) {pt : Nat} {H : Heap} {locs : List Loc} {ls : Array Slot} (hI : lc_I D s H locs h hm o pt) (hl : lv_has ls 7 [(4, .int (nI (5 * t))), (0, .ref b), (1, .ref h), (2, .ref hm), (3, .ref o)]) : W p l e room_1 s m #[Value.ref b] below meth c H locs (5 + 2 * t) (20519 + 12 * t + pt) (lw_Z below #[Value.ref b] s) (F0 m 438 ls []) := by
  obtain ⟨hx, hb, hr, hml, hown, hts, hX, hbl, hlocks, hgv⟩ := C0
  have hts : ∀ w ∈ wsL_law, w.before #[Value.ref b] s = true := fun w h => hts w (lc_lawin w h)
  obtain ⟨q, cA, Lx, c0, g, qm, cM, th, r, cJ, fo, hL5, hLx, hc0, heq, hpt, hP, hD, hK, hS⟩ := hI
  have hA : ∀ q : Nat, s.heap.size ≤ q → (fun q => s.heap.size ≤ q) q := fun q h => h
  have hbA : ¬ (fun q => s.heap.size ≤ q) b := fun h => absurd hbl (Nat.not_lt.mpr h)
  refine lv_aload_n hx hb dL_law_438 rfl (lv_at hl 2 rfl) ?_
  refine lc_callR (W.runV (As := []) (rest := []) ⟨hx, hb, hml, hown, hts⟩ (k_digest l D h q cA (nI (lc_cnt g c0)) Lx c0 g hLx hc0) (cwV 0 hts gL_law_X0_digest rfl rfl rfl (by decide +kernel) ⟨Nat.le_of_ble_eq_true rfl, Nat.le_of_ble_eq_true rfl⟩) (lc_RdV (q0 := 0) (ci := 0) (q := (RX0, TX0, 3)) (hP.sub (ws' := [(h, .inr (0, [.ref q, .int (nI c0), .int (nI (lc_cnt g c0))])), (q, .inl (cA, Lx, .inl g))]) [0, 1] rfl) (hK.sub (tys' := [(cA, .int)]) [0] rfl) rfl rfl) rfl rfl hl.1 rfl (lv_room (Nat.le_of_ble_eq_true rfl)) dL_law_439 ⟨by show _ ≤ (601024 : Nat); omega, by show _ ≤ (7293034 : Nat); omega⟩) ?_
  refine lv_aload_n hx hb dL_law_442 rfl (lv_at hl 3 rfl) ?_
  have hPc := hP.sub (ws' := [(hm, .inr (1, [.ref qm, .int (nI c0), .int th])), (qm, .inl (cM, 20000, .inl r))]) [2, 3] rfl
  have hDc := hD.sub (ws' := [(hm, .inr (1, [.ref qm, .int (nI c0), .int th])), (qm, .inl (cM, 20000, .inl r))]) [2, 3] (by decide) rfl
  have hKc := hK.sub (tys' := [(cM, .int)]) [1] rfl
  have hF := va_free (wc := [(hm, .inr (1, [.ref qm, .int (nI c0), .int th])), (qm, .inl (cM, 20000, .inl r))]) hD hS hA [2, 3] rfl
  refine lc_callW (va_runV (As := []) (rest := [.int (lc_dig g c0)]) ⟨hx, hb, hml, hown, hts⟩ (m_digest l D hm qm cM H.size th c0 r (by omega)) (cwV 0 hts gL_law_X1_digest rfl rfl rfl (by decide +kernel) ⟨Nat.le_of_ble_eq_true rfl, Nat.le_of_ble_eq_true rfl⟩) (lc_WrV (q0 := 0) (ci := 1) (q := (RX1, TX1, 3)) hPc hKc hDc rfl rfl) rfl rfl hl.1 rfl (lv_room (Nat.le_of_ble_eq_true rfl)) dL_law_443 ⟨by show _ ≤ (601024 : Nat); omega, by show _ ≤ (7293034 : Nat); omega⟩) hS (fun q h => hF q h) (fun u H locs hp hP1 hK1 hD1 hz hk hS => ?_)
  obtain ⟨hP, hD⟩ := va_join (wr := [(h, .inr (0, [.ref q, .int (nI c0), .int (nI (lc_cnt g c0))])), (q, .inl (cA, Lx, .inl g)), (o, .inl (cJ, 1, .inr (.inl fo)))]) (w1 := [(hm, .inr (1, [.ref qm, .int (nI c0), .int 0])), (qm, .inl (cM, 20000, .inl r))]) hP hD [2, 3] [0, 1, 4] rfl rfl (by decide) (by decide) hk hF hP1 hD1
  have hK := (hK.sub (tys' := [(cA, .int), (cJ, .long)]) [0, 2] rfl).app hK1
  have hP := hP.sub (ws' := [(h, .inr (0, [.ref q, .int (nI c0), .int (nI (lc_cnt g c0))])), (q, .inl (cA, Lx, .inl g)), (hm, .inr (1, [.ref qm, .int (nI c0), .int 0])), (qm, .inl (cM, 20000, .inl r)), (o, .inl (cJ, 1, .inr (.inl fo)))]) [0, 1, 3, 4, 2] rfl
  have hD := hD.sub (ws' := [(h, .inr (0, [.ref q, .int (nI c0), .int (nI (lc_cnt g c0))])), (q, .inl (cA, Lx, .inl g)), (hm, .inr (1, [.ref qm, .int (nI c0), .int 0])), (qm, .inl (cM, 20000, .inl r)), (o, .inl (cJ, 1, .inr (.inl fo)))]) [0, 1, 3, 4, 2] (by decide) rfl
  have hK := hK.sub (tys' := [(cA, .int), (cM, .int), (cJ, .long)]) [0, 2, 1] rfl
  clear hz hk hPc hDc hKc hF hP1 hK1 hD1
  refine W.eq (g2 := F0 m 446 ls [.int (lc_dig r c0), .int (lc_dig g c0)]) rfl ?_
  refine lv_icmp_eq hx hb dL_law_446 (tgt := 451) rfl (fun _ => ?_) (fun hc => absurd (by rw [lc_dig_congr heq]) hc)
  have hl : lv_has ls 7 [(4, .int (nI (5 * t))), (0, .ref b), (1, .ref h), (2, .ref hm), (3, .ref o)] := lv_sub hl [0, 1, 2, 3, 4] rfl
  refine W.widen (k := 5 + 2 * (t + 1)) (n := 20519 + 12 * (t + 1) + pt) (by omega) (by omega) ?_
  exact next pt H locs ls ⟨q, cA, Lx, c0, g, qm, cM, 0, r, cJ, fo, hL5, hLx, hc0, heq, hpt, hP, hD, hK, hS⟩ hl
set_option maxHeartbeats 4000000 in
set_option maxRecDepth 100000 in
theorem q_get {p : Program} {l : Launch} {e : Env} {s : State} {m : MethodId} {below : List Frame} {meth : Method} {c : Code} {b L : Nat} {xs : Nat → Int32} (C0 : lw_At p s m meth c b L xs) (hst : l.stackTraces = false) (hL : L ≤ 2560) {D : va_G} (hZ : lc_TZ (fun q => s.heap.size ≤ q) s s.heap) {h hm o t : Nat} (ht : 5 * t + 5 ≤ L) (next : ∀ (pt : Nat) (H : Heap) (locs : List Loc) (ls : Array Slot), lc_I D s H locs h hm o pt → lv_has ls 7 [(4, .int (nI (5 * t))), (0, .ref b), (1, .ref h), (2, .ref hm), (3, .ref o)] → W p l e room_1 s m #[Value.ref b] below meth c H locs (5 + 2 * (t + 1)) (20519 + 12 * (t + 1) + pt) (lw_Z below #[Value.ref b] s) (F0 m 451 ls [])) {pt : Nat} {H : Heap} {locs : List Loc} {ls : Array Slot} (hI : lc_I D s H locs h hm o pt) (hl : lv_has ls 7 [(4, .int (nI (5 * t))), (0, .ref b), (1, .ref h), (2, .ref hm), (3, .ref o)]) : W p l e room_1 s m #[Value.ref b] below meth c H locs (5 + 2 * t) (20519 + 12 * t + pt) (lw_Z below #[Value.ref b] s) (F0 m 244 ls []) := by
  obtain ⟨hx, hb, hr, hml, hown, hts, hX, hbl, hlocks, hgv⟩ := C0
  have hts : ∀ w ∈ wsL_law, w.before #[Value.ref b] s = true := fun w h => hts w (lc_lawin w h)
  obtain ⟨q, cA, Lx, c0, g, qm, cM, th, r, cJ, fo, hL5, hLx, hc0, heq, hpt, hP, hD, hK, hS⟩ := hI
  have hA : ∀ q : Nat, s.heap.size ≤ q → (fun q => s.heap.size ≤ q) q := fun q h => h
  have hbA : ¬ (fun q => s.heap.size ≤ q) b := fun h => absurd hbl (Nat.not_lt.mpr h)
  obtain ⟨p0, hp0⟩ : ∃ z, xs (5 * t + 1) = z := ⟨_, rfl⟩
  by_cases hbad : p0 < 0 ∨ nI c0 ≤ p0
  · refine lv_aload_n hx hb dL_law_244 rfl (lv_at hl 2 rfl) ?_
    refine lv_aload_n hx hb dL_law_245 rfl (lv_at hl 1 rfl) ?_
    refine lv_iload hx hb dL_law_246 (lv_at hl 0 rfl) ?_
    refine lv_iconst (v := 1) hx hb dL_law_248 (by decide) ?_
    refine lv_iadd hx hb dL_law_249 ?_
    refine lc_top (y := nI (5 * t + 1)) (nI_add (5 * t) 1) ?_
    refine va_sld hx hb hX hbl hbA hS (vp_in_nI (show 5 * t + 1 < L by omega) (by omega)) dL_law_250 ?_
    refine lc_top (y := p0) ((congrArg xs (nI_clamp (by omega))).trans hp0) ?_
    refine lv_aload_n hx hb dL_law_251 rfl (lv_at hl 4 rfl) ?_
    refine lc_callB (vx_runSW (hh := [(0, 9, 12, 25)]) (As := [.ref h, .int p0, .ref o]) (rest := []) ⟨hx, hb, hml, hown, hts⟩ (w_get_bad l D h q cA o cJ hst (nI c0) (nI (lc_cnt g c0)) Lx g p0 hbad) (vx_cwSW 3 hts gL_law_L_get rfl rfl rfl (by decide +kernel) ⟨Nat.le_of_ble_eq_true rfl, Nat.le_of_ble_eq_true rfl⟩) (lc_TxS (hP.sub (ws' := [(h, .inr (0, [.ref q, .int (nI c0), .int (nI (lc_cnt g c0))])), (q, .inl (cA, Lx, .inl g))]) [0, 1] rfl) (hK.sub (tys' := [(cA, .int)]) [0] rfl) ((hZ.kept hS.2.1).narrow (fun _ h => h.elim))) rfl rfl hl.1 rfl (lv_room (Nat.le_of_ble_eq_true rfl)) dL_law_252 ⟨by show _ ≤ (601024 : Nat); omega, by show _ ≤ (7293034 : Nat); omega⟩) (fun H1 hz hk => ?_)
    have hP := lc_keptP hP hk
    have hS := lc_keptS hS hz hk
    clear hz hk
    generalize H1 = H at hP hS ⊢
    refine lv_istore hx hb dL_law_255 hl (by decide) rfl (fun ls hl => ?_)
    have hl : lv_has ls 7 [(5, .int 1), (4, .int (nI (5 * t))), (0, .ref b), (1, .ref h), (2, .ref hm), (3, .ref o)] := hl
    refine lv_aload_n hx hb dL_law_257 rfl (lv_at hl 4 rfl) ?_
    refine lv_aload_n hx hb dL_law_258 rfl (lv_at hl 2 rfl) ?_
    refine lv_iload hx hb dL_law_259 (lv_at hl 1 rfl) ?_
    refine lv_iconst (v := 1) hx hb dL_law_261 (by decide) ?_
    refine lv_iadd hx hb dL_law_262 ?_
    refine lc_top (y := nI (5 * t + 1)) (nI_add (5 * t) 1) ?_
    refine va_sld hx hb hX hbl hbA hS (vp_in_nI (show 5 * t + 1 < L by omega) (by omega)) dL_law_263 ?_
    refine lc_top (y := p0) ((congrArg xs (nI_clamp (by omega))).trans hp0) ?_
    have hPc := hP.sub (ws' := [(hm, .inr (1, [.ref qm, .int (nI c0), .int th])), (qm, .inl (cM, 20000, .inl r))]) [2, 3] rfl
    have hDc := hD.sub (ws' := [(hm, .inr (1, [.ref qm, .int (nI c0), .int th])), (qm, .inl (cM, 20000, .inl r))]) [2, 3] (by decide) rfl
    have hKc := hK.sub (tys' := [(cM, .int)]) [1] rfl
    have hF := va_free (wc := [(hm, .inr (1, [.ref qm, .int (nI c0), .int th])), (qm, .inl (cM, 20000, .inl r))]) hD hS hA [2, 3] rfl
    refine lc_callW (vx_runVW (hh := [(5, 10, 11, 27)]) (As := [.int p0]) (rest := []) ⟨hx, hb, hml, hown, hts⟩ (m_get_bad l D hm qm cM H.size hst (nI c0) th r p0 hbad) (vx_cwVW 1 hts gL_law_X1_get rfl rfl rfl (by decide +kernel) ⟨Nat.le_of_ble_eq_true rfl, Nat.le_of_ble_eq_true rfl⟩) (lc_WTV (q0 := 0) (ci := 1) (q := (RX1, TX1, 3)) hPc hKc hDc ((hZ.kept hS.2.1).narrow (fun q h => hF q h)) rfl rfl) rfl rfl hl.1 rfl (lv_room (Nat.le_of_ble_eq_true rfl)) dL_law_264 ⟨by show _ ≤ (601024 : Nat); omega, by show _ ≤ (7293034 : Nat); omega⟩) hS (fun q h => hF q h) (fun u H locs hp hP1 hK1 hD1 hz hk hS => ?_)
    obtain ⟨hP, hD⟩ := va_join (wr := [(h, .inr (0, [.ref q, .int (nI c0), .int (nI (lc_cnt g c0))])), (q, .inl (cA, Lx, .inl g)), (o, .inl (cJ, 1, .inr (.inl fo)))]) (w1 := [(hm, .inr (1, [.ref qm, .int (nI c0), .int 1])), (qm, .inl (cM, 20000, .inl r))]) hP hD [2, 3] [0, 1, 4] rfl rfl (by decide) (by decide) hk hF hP1 hD1
    have hK := (hK.sub (tys' := [(cA, .int), (cJ, .long)]) [0, 2] rfl).app hK1
    have hP := hP.sub (ws' := [(h, .inr (0, [.ref q, .int (nI c0), .int (nI (lc_cnt g c0))])), (q, .inl (cA, Lx, .inl g)), (hm, .inr (1, [.ref qm, .int (nI c0), .int 1])), (qm, .inl (cM, 20000, .inl r)), (o, .inl (cJ, 1, .inr (.inl fo)))]) [0, 1, 3, 4, 2] rfl
    have hD := hD.sub (ws' := [(h, .inr (0, [.ref q, .int (nI c0), .int (nI (lc_cnt g c0))])), (q, .inl (cA, Lx, .inl g)), (hm, .inr (1, [.ref qm, .int (nI c0), .int 1])), (qm, .inl (cM, 20000, .inl r)), (o, .inl (cJ, 1, .inr (.inl fo)))]) [0, 1, 3, 4, 2] (by decide) rfl
    have hK := hK.sub (tys' := [(cA, .int), (cM, .int), (cJ, .long)]) [0, 2, 1] rfl
    clear hz hk hPc hDc hKc hF hP1 hK1 hD1
    refine W.eq (g2 := F0 m 267 ls [.int 0]) rfl ?_
    refine lv_istore hx hb dL_law_267 hl (by decide) rfl (fun ls hl => ?_)
    have hl : lv_has ls 7 [(6, .int 0), (5, .int 1), (4, .int (nI (5 * t))), (0, .ref b), (1, .ref h), (2, .ref hm), (3, .ref o)] := hl
    refine lv_aload_n hx hb dL_law_269 rfl (lv_at hl 5 rfl) ?_
    refine lc_callR (W.runV (As := []) (rest := []) ⟨hx, hb, hml, hown, hts⟩ (m_thrown l D hm qm cM (nI c0) 1 r) (cwV 0 hts gL_law_X1_thrown rfl rfl rfl (by decide +kernel) ⟨Nat.le_of_ble_eq_true rfl, Nat.le_of_ble_eq_true rfl⟩) (lc_RdV (q0 := 0) (ci := 1) (q := (RX1, TX1, 3)) (hP.sub (ws' := [(hm, .inr (1, [.ref qm, .int (nI c0), .int 1])), (qm, .inl (cM, 20000, .inl r))]) [2, 3] rfl) (hK.sub (tys' := [(cM, .int)]) [1] rfl) rfl rfl) rfl rfl hl.1 rfl (lv_room (Nat.le_of_ble_eq_true rfl)) dL_law_270 ⟨by show _ ≤ (601024 : Nat); omega, by show _ ≤ (7293034 : Nat); omega⟩) ?_
    refine lv_iload hx hb dL_law_273 (lv_at hl 1 rfl) ?_
    refine lv_icmp_eq hx hb dL_law_275 (tgt := 280) rfl (fun _ => ?_) (fun hc => absurd (rfl) hc)
    refine lv_iload hx hb dL_law_280 (lv_at hl 1 rfl) ?_
    refine lv_if_ne hx hb dL_law_282 (tgt := 297) rfl (fun _ => ?_) (fun hc => absurd hc (by decide))
    refine lv_goto hx hb dL_law_297 (tgt := 451) rfl ?_
    have hl : lv_has ls 7 [(4, .int (nI (5 * t))), (0, .ref b), (1, .ref h), (2, .ref hm), (3, .ref o)] := lv_sub hl [2, 3, 4, 5, 6] rfl
    refine W.widen (k := 5 + 2 * (t + 1)) (n := 20519 + 12 * (t + 1) + pt) (by omega) (by omega) ?_
    exact next pt H locs ls ⟨q, cA, Lx, c0, g, qm, cM, 1, r, cJ, fo, hL5, hLx, hc0, heq, hpt, hP, hD, hK, hS⟩ hl
  · obtain ⟨i, hi, rfl⟩ := lc_okG hbad (by omega)
    refine lv_aload_n hx hb dL_law_244 rfl (lv_at hl 2 rfl) ?_
    refine lv_aload_n hx hb dL_law_245 rfl (lv_at hl 1 rfl) ?_
    refine lv_iload hx hb dL_law_246 (lv_at hl 0 rfl) ?_
    refine lv_iconst (v := 1) hx hb dL_law_248 (by decide) ?_
    refine lv_iadd hx hb dL_law_249 ?_
    refine lc_top (y := nI (5 * t + 1)) (nI_add (5 * t) 1) ?_
    refine va_sld hx hb hX hbl hbA hS (vp_in_nI (show 5 * t + 1 < L by omega) (by omega)) dL_law_250 ?_
    refine lc_top (y := nI i) ((congrArg xs (nI_clamp (by omega))).trans hp0) ?_
    refine lv_aload_n hx hb dL_law_251 rfl (lv_at hl 4 rfl) ?_
    have hPc := hP.sub (ws' := [(h, .inr (0, [.ref q, .int (nI c0), .int (nI (lc_cnt g c0))])), (q, .inl (cA, Lx, .inl g)), (o, .inl (cJ, 1, .inr (.inl fo)))]) [0, 1, 4] rfl
    have hDc := hD.sub (ws' := [(h, .inr (0, [.ref q, .int (nI c0), .int (nI (lc_cnt g c0))])), (q, .inl (cA, Lx, .inl g)), (o, .inl (cJ, 1, .inr (.inl fo)))]) [0, 1, 4] (by decide) rfl
    have hKc := hK.sub (tys' := [(cA, .int), (cJ, .long)]) [0, 2] rfl
    have hF := va_free (wc := [(h, .inr (0, [.ref q, .int (nI c0), .int (nI (lc_cnt g c0))])), (q, .inl (cA, Lx, .inl g)), (o, .inl (cJ, 1, .inr (.inl fo)))]) hD hS hA [0, 1, 4] rfl
    refine lc_callW (vx_runSW (hh := [(0, 9, 12, 25)]) (As := [.ref h, .int (nI i), .ref o]) (rest := []) ⟨hx, hb, hml, hown, hts⟩ (w_get l D h q cA o cJ H.size fo (nI (lc_cnt g c0)) Lx c0 g hLx hc0 i hi) (vx_cwSW 3 hts gL_law_L_get rfl rfl rfl (by decide +kernel) ⟨Nat.le_of_ble_eq_true rfl, Nat.le_of_ble_eq_true rfl⟩) (lc_WrS hPc hKc hDc) rfl rfl hl.1 rfl (lv_room (Nat.le_of_ble_eq_true rfl)) dL_law_252 ⟨by show _ ≤ (601024 : Nat); omega, by show _ ≤ (7293034 : Nat); omega⟩) hS (fun q h => hF q h) (fun u H locs hp hP1 hK1 hD1 hz hk hS => ?_)
    obtain ⟨fo1, hfo1⟩ : ∃ z : Nat → Int64, z = u := ⟨u, rfl⟩
    rw [← hfo1] at hp hP1 hD1
    have hpf := hp
    obtain ⟨hP, hD⟩ := va_join (wr := [(hm, .inr (1, [.ref qm, .int (nI c0), .int th])), (qm, .inl (cM, 20000, .inl r))]) (w1 := [(h, .inr (0, [.ref q, .int (nI c0), .int (nI (lc_cnt g c0))])), (q, .inl (cA, Lx, .inl g)), (o, .inl (cJ, 1, .inr (.inl fo1)))]) hP hD [0, 1, 4] [2, 3] rfl rfl (by decide) (by decide) hk hF hP1 hD1
    have hK := (hK.sub (tys' := [(cM, .int)]) [1] rfl).app hK1
    have hP := hP.sub (ws' := [(h, .inr (0, [.ref q, .int (nI c0), .int (nI (lc_cnt g c0))])), (q, .inl (cA, Lx, .inl g)), (hm, .inr (1, [.ref qm, .int (nI c0), .int th])), (qm, .inl (cM, 20000, .inl r)), (o, .inl (cJ, 1, .inr (.inl fo1)))]) [2, 3, 0, 1, 4] rfl
    have hD := hD.sub (ws' := [(h, .inr (0, [.ref q, .int (nI c0), .int (nI (lc_cnt g c0))])), (q, .inl (cA, Lx, .inl g)), (hm, .inr (1, [.ref qm, .int (nI c0), .int th])), (qm, .inl (cM, 20000, .inl r)), (o, .inl (cJ, 1, .inr (.inl fo1)))]) [2, 3, 0, 1, 4] (by decide) rfl
    have hK := hK.sub (tys' := [(cA, .int), (cM, .int), (cJ, .long)]) [1, 0, 2] rfl
    clear hz hk hPc hDc hKc hF hP1 hK1 hD1
    refine W.eq (g2 := F0 m 255 ls [.int 0]) rfl ?_
    refine lv_istore hx hb dL_law_255 hl (by decide) rfl (fun ls hl => ?_)
    have hl : lv_has ls 7 [(5, .int 0), (4, .int (nI (5 * t))), (0, .ref b), (1, .ref h), (2, .ref hm), (3, .ref o)] := hl
    refine lv_aload_n hx hb dL_law_257 rfl (lv_at hl 4 rfl) ?_
    refine lv_aload_n hx hb dL_law_258 rfl (lv_at hl 2 rfl) ?_
    refine lv_iload hx hb dL_law_259 (lv_at hl 1 rfl) ?_
    refine lv_iconst (v := 1) hx hb dL_law_261 (by decide) ?_
    refine lv_iadd hx hb dL_law_262 ?_
    refine lc_top (y := nI (5 * t + 1)) (nI_add (5 * t) 1) ?_
    refine va_sld hx hb hX hbl hbA hS (vp_in_nI (show 5 * t + 1 < L by omega) (by omega)) dL_law_263 ?_
    refine lc_top (y := nI i) ((congrArg xs (nI_clamp (by omega))).trans hp0) ?_
    have hPc := hP.sub (ws' := [(hm, .inr (1, [.ref qm, .int (nI c0), .int th])), (qm, .inl (cM, 20000, .inl r))]) [2, 3] rfl
    have hDc := hD.sub (ws' := [(hm, .inr (1, [.ref qm, .int (nI c0), .int th])), (qm, .inl (cM, 20000, .inl r))]) [2, 3] (by decide) rfl
    have hKc := hK.sub (tys' := [(cM, .int)]) [1] rfl
    have hF := va_free (wc := [(hm, .inr (1, [.ref qm, .int (nI c0), .int th])), (qm, .inl (cM, 20000, .inl r))]) hD hS hA [2, 3] rfl
    refine lc_callW (vx_runVW (hh := [(5, 10, 11, 27)]) (As := [.int (nI i)]) (rest := []) ⟨hx, hb, hml, hown, hts⟩ (m_get l D hm qm cM H.size th c0 r (by omega) i hi) (vx_cwVW 1 hts gL_law_X1_get rfl rfl rfl (by decide +kernel) ⟨Nat.le_of_ble_eq_true rfl, Nat.le_of_ble_eq_true rfl⟩) (lc_WrV (q0 := 0) (ci := 1) (q := (RX1, TX1, 3)) hPc hKc hDc rfl rfl) rfl rfl hl.1 rfl (lv_room (Nat.le_of_ble_eq_true rfl)) dL_law_264 ⟨by show _ ≤ (601024 : Nat); omega, by show _ ≤ (7293034 : Nat); omega⟩) hS (fun q h => hF q h) (fun u H locs hp hP1 hK1 hD1 hz hk hS => ?_)
    obtain ⟨hP, hD⟩ := va_join (wr := [(h, .inr (0, [.ref q, .int (nI c0), .int (nI (lc_cnt g c0))])), (q, .inl (cA, Lx, .inl g)), (o, .inl (cJ, 1, .inr (.inl fo1)))]) (w1 := [(hm, .inr (1, [.ref qm, .int (nI c0), .int 0])), (qm, .inl (cM, 20000, .inl r))]) hP hD [2, 3] [0, 1, 4] rfl rfl (by decide) (by decide) hk hF hP1 hD1
    have hK := (hK.sub (tys' := [(cA, .int), (cJ, .long)]) [0, 2] rfl).app hK1
    have hP := hP.sub (ws' := [(h, .inr (0, [.ref q, .int (nI c0), .int (nI (lc_cnt g c0))])), (q, .inl (cA, Lx, .inl g)), (hm, .inr (1, [.ref qm, .int (nI c0), .int 0])), (qm, .inl (cM, 20000, .inl r)), (o, .inl (cJ, 1, .inr (.inl fo1)))]) [0, 1, 3, 4, 2] rfl
    have hD := hD.sub (ws' := [(h, .inr (0, [.ref q, .int (nI c0), .int (nI (lc_cnt g c0))])), (q, .inl (cA, Lx, .inl g)), (hm, .inr (1, [.ref qm, .int (nI c0), .int 0])), (qm, .inl (cM, 20000, .inl r)), (o, .inl (cJ, 1, .inr (.inl fo1)))]) [0, 1, 3, 4, 2] (by decide) rfl
    have hK := hK.sub (tys' := [(cA, .int), (cM, .int), (cJ, .long)]) [0, 2, 1] rfl
    clear hz hk hPc hDc hKc hF hP1 hK1 hD1
    refine W.eq (g2 := F0 m 267 ls [.int (r i)]) rfl ?_
    refine lc_top (y := g i) (heq i hi) ?_
    refine lv_istore hx hb dL_law_267 hl (by decide) rfl (fun ls hl => ?_)
    have hl : lv_has ls 7 [(6, .int (g i)), (5, .int 0), (4, .int (nI (5 * t))), (0, .ref b), (1, .ref h), (2, .ref hm), (3, .ref o)] := hl
    refine lv_aload_n hx hb dL_law_269 rfl (lv_at hl 5 rfl) ?_
    refine lc_callR (W.runV (As := []) (rest := []) ⟨hx, hb, hml, hown, hts⟩ (m_thrown l D hm qm cM (nI c0) 0 r) (cwV 0 hts gL_law_X1_thrown rfl rfl rfl (by decide +kernel) ⟨Nat.le_of_ble_eq_true rfl, Nat.le_of_ble_eq_true rfl⟩) (lc_RdV (q0 := 0) (ci := 1) (q := (RX1, TX1, 3)) (hP.sub (ws' := [(hm, .inr (1, [.ref qm, .int (nI c0), .int 0])), (qm, .inl (cM, 20000, .inl r))]) [2, 3] rfl) (hK.sub (tys' := [(cM, .int)]) [1] rfl) rfl rfl) rfl rfl hl.1 rfl (lv_room (Nat.le_of_ble_eq_true rfl)) dL_law_270 ⟨by show _ ≤ (601024 : Nat); omega, by show _ ≤ (7293034 : Nat); omega⟩) ?_
    refine lv_iload hx hb dL_law_273 (lv_at hl 1 rfl) ?_
    refine lv_icmp_eq hx hb dL_law_275 (tgt := 280) rfl (fun _ => ?_) (fun hc => absurd (rfl) hc)
    refine lv_iload hx hb dL_law_280 (lv_at hl 1 rfl) ?_
    refine lv_if_ne hx hb dL_law_282 (tgt := 297) rfl (fun hc => absurd (rfl) hc) (fun _ => ?_)
    refine lv_aload_n hx hb dL_law_285 rfl (lv_at hl 6 rfl) ?_
    refine lv_iconst (v := 0) hx hb dL_law_286 (by decide) ?_
    refine va_lald (D := D) hx hb hK hP 4 2 rfl rfl (vp_in_nI (n := 0) (N := 1) (by decide) (by decide)) dL_law_287 ?_
    refine lc_topl (y := (g i).toInt64) ((congrArg fo1 sb_cl0).trans hpf) ?_
    refine lv_iload hx hb dL_law_288 (lv_at hl 0 rfl) ?_
    refine lv_i2l (v := (g i).toInt64) hx hb dL_law_290 rfl ?_
    refine W.lcmp hx hb dL_law_291 ?_
    refine lc_top (y := 0) (lc_cmp _) ?_
    refine lv_if_eq hx hb dL_law_292 (tgt := 297) rfl (fun _ => ?_) (fun hc => absurd (rfl) hc)
    refine lv_goto hx hb dL_law_297 (tgt := 451) rfl ?_
    have hl : lv_has ls 7 [(4, .int (nI (5 * t))), (0, .ref b), (1, .ref h), (2, .ref hm), (3, .ref o)] := lv_sub hl [2, 3, 4, 5, 6] rfl
    refine W.widen (k := 5 + 2 * (t + 1)) (n := 20519 + 12 * (t + 1) + pt) (by omega) (by omega) ?_
    exact next pt H locs ls ⟨q, cA, Lx, c0, g, qm, cM, 0, r, cJ, fo1, hL5, hLx, hc0, heq, hpt, hP, hD, hK, hS⟩ hl
set_option maxHeartbeats 4000000 in
set_option maxRecDepth 100000 in
theorem q_line {p : Program} {l : Launch} {e : Env} {s : State} {m : MethodId} {below : List Frame} {meth : Method} {c : Code} {b L : Nat} {xs : Nat → Int32} (C0 : lw_At p s m meth c b L xs) (hst : l.stackTraces = false) (hL : L ≤ 2560) {D : va_G} (hZ : lc_TZ (fun q => s.heap.size ≤ q) s s.heap) {h hm o t : Nat} (ht : 5 * t + 5 ≤ L) (next : ∀ (pt : Nat) (H : Heap) (locs : List Loc) (ls : Array Slot), lc_I D s H locs h hm o pt → lv_has ls 7 [(4, .int (nI (5 * t))), (0, .ref b), (1, .ref h), (2, .ref hm), (3, .ref o)] → W p l e room_1 s m #[Value.ref b] below meth c H locs (5 + 2 * (t + 1)) (20519 + 12 * (t + 1) + pt) (lw_Z below #[Value.ref b] s) (F0 m 451 ls [])) {pt : Nat} {H : Heap} {locs : List Loc} {ls : Array Slot} (hI : lc_I D s H locs h hm o pt) (hl : lv_has ls 7 [(4, .int (nI (5 * t))), (0, .ref b), (1, .ref h), (2, .ref hm), (3, .ref o)]) : W p l e room_1 s m #[Value.ref b] below meth c H locs (5 + 2 * t) (20519 + 12 * t + pt) (lw_Z below #[Value.ref b] s) (F0 m 326 ls []) := by
  obtain ⟨hx, hb, hr, hml, hown, hts, hX, hbl, hlocks, hgv⟩ := C0
  have hts : ∀ w ∈ wsL_law, w.before #[Value.ref b] s = true := fun w h => hts w (lc_lawin w h)
  obtain ⟨q, cA, Lx, c0, g, qm, cM, th, r, cJ, fo, hL5, hLx, hc0, heq, hpt, hP, hD, hK, hS⟩ := hI
  have hA : ∀ q : Nat, s.heap.size ≤ q → (fun q => s.heap.size ≤ q) q := fun q h => h
  have hbA : ¬ (fun q => s.heap.size ≤ q) b := fun h => absurd hbl (Nat.not_lt.mpr h)
  obtain ⟨p0, hp0⟩ : ∃ z, xs (5 * t + 1) = z := ⟨_, rfl⟩
  have hle := lc_cnt_le g c0
  by_cases hbad : p0 < 0 ∨ nI (lc_cnt g c0) < p0
  · refine lv_aload_n hx hb dL_law_326 rfl (lv_at hl 2 rfl) ?_
    refine lv_aload_n hx hb dL_law_327 rfl (lv_at hl 1 rfl) ?_
    refine lv_iload hx hb dL_law_328 (lv_at hl 0 rfl) ?_
    refine lv_iconst (v := 1) hx hb dL_law_330 (by decide) ?_
    refine lv_iadd hx hb dL_law_331 ?_
    refine lc_top (y := nI (5 * t + 1)) (nI_add (5 * t) 1) ?_
    refine va_sld hx hb hX hbl hbA hS (vp_in_nI (show 5 * t + 1 < L by omega) (by omega)) dL_law_332 ?_
    refine lc_top (y := p0) ((congrArg xs (nI_clamp (by omega))).trans hp0) ?_
    refine lv_aload_n hx hb dL_law_333 rfl (lv_at hl 4 rfl) ?_
    refine lc_callB (vx_runSW (hh := [(0, 9, 12, 25)]) (As := [.ref h, .int p0, .ref o]) (rest := []) ⟨hx, hb, hml, hown, hts⟩ (w_line_bad l D h q cA o cJ hst (nI c0) (nI (lc_cnt g c0)) Lx g p0 hbad) (vx_cwSW 3 hts gL_law_L_line rfl rfl rfl (by decide +kernel) ⟨Nat.le_of_ble_eq_true rfl, Nat.le_of_ble_eq_true rfl⟩) (lc_TxS (hP.sub (ws' := [(h, .inr (0, [.ref q, .int (nI c0), .int (nI (lc_cnt g c0))])), (q, .inl (cA, Lx, .inl g))]) [0, 1] rfl) (hK.sub (tys' := [(cA, .int)]) [0] rfl) ((hZ.kept hS.2.1).narrow (fun _ h => h.elim))) rfl rfl hl.1 rfl (lv_room (Nat.le_of_ble_eq_true rfl)) dL_law_334 ⟨by show _ ≤ (601024 : Nat); omega, by show _ ≤ (7293034 : Nat); omega⟩) (fun H1 hz hk => ?_)
    have hP := lc_keptP hP hk
    have hS := lc_keptS hS hz hk
    clear hz hk
    generalize H1 = H at hP hS ⊢
    refine lv_istore hx hb dL_law_337 hl (by decide) rfl (fun ls hl => ?_)
    have hl : lv_has ls 7 [(5, .int 1), (4, .int (nI (5 * t))), (0, .ref b), (1, .ref h), (2, .ref hm), (3, .ref o)] := hl
    refine lv_aload_n hx hb dL_law_339 rfl (lv_at hl 4 rfl) ?_
    refine lv_aload_n hx hb dL_law_340 rfl (lv_at hl 2 rfl) ?_
    refine lv_iload hx hb dL_law_341 (lv_at hl 1 rfl) ?_
    refine lv_iconst (v := 1) hx hb dL_law_343 (by decide) ?_
    refine lv_iadd hx hb dL_law_344 ?_
    refine lc_top (y := nI (5 * t + 1)) (nI_add (5 * t) 1) ?_
    refine va_sld hx hb hX hbl hbA hS (vp_in_nI (show 5 * t + 1 < L by omega) (by omega)) dL_law_345 ?_
    refine lc_top (y := p0) ((congrArg xs (nI_clamp (by omega))).trans hp0) ?_
    have hPc := hP.sub (ws' := [(hm, .inr (1, [.ref qm, .int (nI c0), .int th])), (qm, .inl (cM, 20000, .inl r))]) [2, 3] rfl
    have hDc := hD.sub (ws' := [(hm, .inr (1, [.ref qm, .int (nI c0), .int th])), (qm, .inl (cM, 20000, .inl r))]) [2, 3] (by decide) rfl
    have hKc := hK.sub (tys' := [(cM, .int)]) [1] rfl
    have hF := va_free (wc := [(hm, .inr (1, [.ref qm, .int (nI c0), .int th])), (qm, .inl (cM, 20000, .inl r))]) hD hS hA [2, 3] rfl
    refine lc_callW (vx_runVW (hh := [(5, 10, 11, 27)]) (As := [.int p0]) (rest := []) ⟨hx, hb, hml, hown, hts⟩ (m_line_bad l D hm qm cM H.size hst th c0 r (by omega) p0 (by rw [lc_cnt_congr heq]; exact hbad)) (vx_cwVW 1 hts gL_law_X1_line rfl rfl rfl (by decide +kernel) ⟨Nat.le_of_ble_eq_true rfl, Nat.le_of_ble_eq_true rfl⟩) (lc_WTV (q0 := 0) (ci := 1) (q := (RX1, TX1, 3)) hPc hKc hDc ((hZ.kept hS.2.1).narrow (fun q h => hF q h)) rfl rfl) rfl rfl hl.1 rfl (lv_room (Nat.le_of_ble_eq_true rfl)) dL_law_346 ⟨by show _ ≤ (601024 : Nat); omega, by show _ ≤ (7293034 : Nat); omega⟩) hS (fun q h => hF q h) (fun u H locs hp hP1 hK1 hD1 hz hk hS => ?_)
    obtain ⟨hP, hD⟩ := va_join (wr := [(h, .inr (0, [.ref q, .int (nI c0), .int (nI (lc_cnt g c0))])), (q, .inl (cA, Lx, .inl g)), (o, .inl (cJ, 1, .inr (.inl fo)))]) (w1 := [(hm, .inr (1, [.ref qm, .int (nI c0), .int 1])), (qm, .inl (cM, 20000, .inl r))]) hP hD [2, 3] [0, 1, 4] rfl rfl (by decide) (by decide) hk hF hP1 hD1
    have hK := (hK.sub (tys' := [(cA, .int), (cJ, .long)]) [0, 2] rfl).app hK1
    have hP := hP.sub (ws' := [(h, .inr (0, [.ref q, .int (nI c0), .int (nI (lc_cnt g c0))])), (q, .inl (cA, Lx, .inl g)), (hm, .inr (1, [.ref qm, .int (nI c0), .int 1])), (qm, .inl (cM, 20000, .inl r)), (o, .inl (cJ, 1, .inr (.inl fo)))]) [0, 1, 3, 4, 2] rfl
    have hD := hD.sub (ws' := [(h, .inr (0, [.ref q, .int (nI c0), .int (nI (lc_cnt g c0))])), (q, .inl (cA, Lx, .inl g)), (hm, .inr (1, [.ref qm, .int (nI c0), .int 1])), (qm, .inl (cM, 20000, .inl r)), (o, .inl (cJ, 1, .inr (.inl fo)))]) [0, 1, 3, 4, 2] (by decide) rfl
    have hK := hK.sub (tys' := [(cA, .int), (cM, .int), (cJ, .long)]) [0, 2, 1] rfl
    clear hz hk hPc hDc hKc hF hP1 hK1 hD1
    refine W.eq (g2 := F0 m 349 ls [.int 0]) rfl ?_
    refine lv_istore hx hb dL_law_349 hl (by decide) rfl (fun ls hl => ?_)
    have hl : lv_has ls 7 [(6, .int 0), (5, .int 1), (4, .int (nI (5 * t))), (0, .ref b), (1, .ref h), (2, .ref hm), (3, .ref o)] := hl
    refine lv_aload_n hx hb dL_law_351 rfl (lv_at hl 5 rfl) ?_
    refine lc_callR (W.runV (As := []) (rest := []) ⟨hx, hb, hml, hown, hts⟩ (m_thrown l D hm qm cM (nI c0) 1 r) (cwV 0 hts gL_law_X1_thrown rfl rfl rfl (by decide +kernel) ⟨Nat.le_of_ble_eq_true rfl, Nat.le_of_ble_eq_true rfl⟩) (lc_RdV (q0 := 0) (ci := 1) (q := (RX1, TX1, 3)) (hP.sub (ws' := [(hm, .inr (1, [.ref qm, .int (nI c0), .int 1])), (qm, .inl (cM, 20000, .inl r))]) [2, 3] rfl) (hK.sub (tys' := [(cM, .int)]) [1] rfl) rfl rfl) rfl rfl hl.1 rfl (lv_room (Nat.le_of_ble_eq_true rfl)) dL_law_352 ⟨by show _ ≤ (601024 : Nat); omega, by show _ ≤ (7293034 : Nat); omega⟩) ?_
    refine lv_iload hx hb dL_law_355 (lv_at hl 1 rfl) ?_
    refine lv_icmp_eq hx hb dL_law_357 (tgt := 362) rfl (fun _ => ?_) (fun hc => absurd (rfl) hc)
    refine lv_iload hx hb dL_law_362 (lv_at hl 1 rfl) ?_
    refine lv_if_ne hx hb dL_law_364 (tgt := 379) rfl (fun _ => ?_) (fun hc => absurd hc (by decide))
    refine lv_goto hx hb dL_law_379 (tgt := 451) rfl ?_
    have hl : lv_has ls 7 [(4, .int (nI (5 * t))), (0, .ref b), (1, .ref h), (2, .ref hm), (3, .ref o)] := lv_sub hl [2, 3, 4, 5, 6] rfl
    refine W.widen (k := 5 + 2 * (t + 1)) (n := 20519 + 12 * (t + 1) + pt) (by omega) (by omega) ?_
    exact next pt H locs ls ⟨q, cA, Lx, c0, g, qm, cM, 1, r, cJ, fo, hL5, hLx, hc0, heq, hpt, hP, hD, hK, hS⟩ hl
  · obtain ⟨i, hi, rfl⟩ := lc_okL hbad (by omega)
    obtain ⟨j0, hj0, hj⟩ := lc_isL_ex hi
    refine lv_aload_n hx hb dL_law_326 rfl (lv_at hl 2 rfl) ?_
    refine lv_aload_n hx hb dL_law_327 rfl (lv_at hl 1 rfl) ?_
    refine lv_iload hx hb dL_law_328 (lv_at hl 0 rfl) ?_
    refine lv_iconst (v := 1) hx hb dL_law_330 (by decide) ?_
    refine lv_iadd hx hb dL_law_331 ?_
    refine lc_top (y := nI (5 * t + 1)) (nI_add (5 * t) 1) ?_
    refine va_sld hx hb hX hbl hbA hS (vp_in_nI (show 5 * t + 1 < L by omega) (by omega)) dL_law_332 ?_
    refine lc_top (y := nI i) ((congrArg xs (nI_clamp (by omega))).trans hp0) ?_
    refine lv_aload_n hx hb dL_law_333 rfl (lv_at hl 4 rfl) ?_
    have hPc := hP.sub (ws' := [(h, .inr (0, [.ref q, .int (nI c0), .int (nI (lc_cnt g c0))])), (q, .inl (cA, Lx, .inl g)), (o, .inl (cJ, 1, .inr (.inl fo)))]) [0, 1, 4] rfl
    have hDc := hD.sub (ws' := [(h, .inr (0, [.ref q, .int (nI c0), .int (nI (lc_cnt g c0))])), (q, .inl (cA, Lx, .inl g)), (o, .inl (cJ, 1, .inr (.inl fo)))]) [0, 1, 4] (by decide) rfl
    have hKc := hK.sub (tys' := [(cA, .int), (cJ, .long)]) [0, 2] rfl
    have hF := va_free (wc := [(h, .inr (0, [.ref q, .int (nI c0), .int (nI (lc_cnt g c0))])), (q, .inl (cA, Lx, .inl g)), (o, .inl (cJ, 1, .inr (.inl fo)))]) hD hS hA [0, 1, 4] rfl
    refine lc_callW (vx_runSW (hh := [(0, 9, 12, 25)]) (As := [.ref h, .int (nI i), .ref o]) (rest := []) ⟨hx, hb, hml, hown, hts⟩ (w_line l D h q cA o cJ H.size fo Lx c0 g hLx hc0 i j0 hi hj hj0) (vx_cwSW 3 hts gL_law_L_line rfl rfl rfl (by decide +kernel) ⟨Nat.le_of_ble_eq_true rfl, Nat.le_of_ble_eq_true rfl⟩) (lc_WrS hPc hKc hDc) rfl rfl hl.1 rfl (lv_room (Nat.le_of_ble_eq_true rfl)) dL_law_334 ⟨by show _ ≤ (601024 : Nat); omega, by show _ ≤ (7293034 : Nat); omega⟩) hS (fun q h => hF q h) (fun u H locs hp hP1 hK1 hD1 hz hk hS => ?_)
    obtain ⟨fo1, hfo1⟩ : ∃ z : Nat → Int64, z = u := ⟨u, rfl⟩
    rw [← hfo1] at hp hP1 hD1
    have hpf := hp
    obtain ⟨hP, hD⟩ := va_join (wr := [(hm, .inr (1, [.ref qm, .int (nI c0), .int th])), (qm, .inl (cM, 20000, .inl r))]) (w1 := [(h, .inr (0, [.ref q, .int (nI c0), .int (nI (lc_cnt g c0))])), (q, .inl (cA, Lx, .inl g)), (o, .inl (cJ, 1, .inr (.inl fo1)))]) hP hD [0, 1, 4] [2, 3] rfl rfl (by decide) (by decide) hk hF hP1 hD1
    have hK := (hK.sub (tys' := [(cM, .int)]) [1] rfl).app hK1
    have hP := hP.sub (ws' := [(h, .inr (0, [.ref q, .int (nI c0), .int (nI (lc_cnt g c0))])), (q, .inl (cA, Lx, .inl g)), (hm, .inr (1, [.ref qm, .int (nI c0), .int th])), (qm, .inl (cM, 20000, .inl r)), (o, .inl (cJ, 1, .inr (.inl fo1)))]) [2, 3, 0, 1, 4] rfl
    have hD := hD.sub (ws' := [(h, .inr (0, [.ref q, .int (nI c0), .int (nI (lc_cnt g c0))])), (q, .inl (cA, Lx, .inl g)), (hm, .inr (1, [.ref qm, .int (nI c0), .int th])), (qm, .inl (cM, 20000, .inl r)), (o, .inl (cJ, 1, .inr (.inl fo1)))]) [2, 3, 0, 1, 4] (by decide) rfl
    have hK := hK.sub (tys' := [(cA, .int), (cM, .int), (cJ, .long)]) [1, 0, 2] rfl
    clear hz hk hPc hDc hKc hF hP1 hK1 hD1
    refine W.eq (g2 := F0 m 337 ls [.int 0]) rfl ?_
    refine lv_istore hx hb dL_law_337 hl (by decide) rfl (fun ls hl => ?_)
    have hl : lv_has ls 7 [(5, .int 0), (4, .int (nI (5 * t))), (0, .ref b), (1, .ref h), (2, .ref hm), (3, .ref o)] := hl
    refine lv_aload_n hx hb dL_law_339 rfl (lv_at hl 4 rfl) ?_
    refine lv_aload_n hx hb dL_law_340 rfl (lv_at hl 2 rfl) ?_
    refine lv_iload hx hb dL_law_341 (lv_at hl 1 rfl) ?_
    refine lv_iconst (v := 1) hx hb dL_law_343 (by decide) ?_
    refine lv_iadd hx hb dL_law_344 ?_
    refine lc_top (y := nI (5 * t + 1)) (nI_add (5 * t) 1) ?_
    refine va_sld hx hb hX hbl hbA hS (vp_in_nI (show 5 * t + 1 < L by omega) (by omega)) dL_law_345 ?_
    refine lc_top (y := nI i) ((congrArg xs (nI_clamp (by omega))).trans hp0) ?_
    have hPc := hP.sub (ws' := [(hm, .inr (1, [.ref qm, .int (nI c0), .int th])), (qm, .inl (cM, 20000, .inl r))]) [2, 3] rfl
    have hDc := hD.sub (ws' := [(hm, .inr (1, [.ref qm, .int (nI c0), .int th])), (qm, .inl (cM, 20000, .inl r))]) [2, 3] (by decide) rfl
    have hKc := hK.sub (tys' := [(cM, .int)]) [1] rfl
    have hF := va_free (wc := [(hm, .inr (1, [.ref qm, .int (nI c0), .int th])), (qm, .inl (cM, 20000, .inl r))]) hD hS hA [2, 3] rfl
    refine lc_callW (vx_runVW (hh := [(5, 10, 11, 27)]) (As := [.int (nI i)]) (rest := []) ⟨hx, hb, hml, hown, hts⟩ (m_line l D hm qm cM H.size th c0 r (by omega) i j0 (by rw [lc_cnt_congr heq]; exact hi) (lc_isL_congr (fun j h => (heq j h).symm) hj0 hj) hj0) (vx_cwVW 1 hts gL_law_X1_line rfl rfl rfl (by decide +kernel) ⟨Nat.le_of_ble_eq_true rfl, Nat.le_of_ble_eq_true rfl⟩) (lc_WrV (q0 := 0) (ci := 1) (q := (RX1, TX1, 3)) hPc hKc hDc rfl rfl) rfl rfl hl.1 rfl (lv_room (Nat.le_of_ble_eq_true rfl)) dL_law_346 ⟨by show _ ≤ (601024 : Nat); omega, by show _ ≤ (7293034 : Nat); omega⟩) hS (fun q h => hF q h) (fun u H locs hp hP1 hK1 hD1 hz hk hS => ?_)
    obtain ⟨hP, hD⟩ := va_join (wr := [(h, .inr (0, [.ref q, .int (nI c0), .int (nI (lc_cnt g c0))])), (q, .inl (cA, Lx, .inl g)), (o, .inl (cJ, 1, .inr (.inl fo1)))]) (w1 := [(hm, .inr (1, [.ref qm, .int (nI c0), .int 0])), (qm, .inl (cM, 20000, .inl r))]) hP hD [2, 3] [0, 1, 4] rfl rfl (by decide) (by decide) hk hF hP1 hD1
    have hK := (hK.sub (tys' := [(cA, .int), (cJ, .long)]) [0, 2] rfl).app hK1
    have hP := hP.sub (ws' := [(h, .inr (0, [.ref q, .int (nI c0), .int (nI (lc_cnt g c0))])), (q, .inl (cA, Lx, .inl g)), (hm, .inr (1, [.ref qm, .int (nI c0), .int 0])), (qm, .inl (cM, 20000, .inl r)), (o, .inl (cJ, 1, .inr (.inl fo1)))]) [0, 1, 3, 4, 2] rfl
    have hD := hD.sub (ws' := [(h, .inr (0, [.ref q, .int (nI c0), .int (nI (lc_cnt g c0))])), (q, .inl (cA, Lx, .inl g)), (hm, .inr (1, [.ref qm, .int (nI c0), .int 0])), (qm, .inl (cM, 20000, .inl r)), (o, .inl (cJ, 1, .inr (.inl fo1)))]) [0, 1, 3, 4, 2] (by decide) rfl
    have hK := hK.sub (tys' := [(cA, .int), (cM, .int), (cJ, .long)]) [0, 2, 1] rfl
    clear hz hk hPc hDc hKc hF hP1 hK1 hD1
    refine W.eq (g2 := F0 m 349 ls [.int (nI j0)]) rfl ?_
    refine lv_istore hx hb dL_law_349 hl (by decide) rfl (fun ls hl => ?_)
    have hl : lv_has ls 7 [(6, .int (nI j0)), (5, .int 0), (4, .int (nI (5 * t))), (0, .ref b), (1, .ref h), (2, .ref hm), (3, .ref o)] := hl
    refine lv_aload_n hx hb dL_law_351 rfl (lv_at hl 5 rfl) ?_
    refine lc_callR (W.runV (As := []) (rest := []) ⟨hx, hb, hml, hown, hts⟩ (m_thrown l D hm qm cM (nI c0) 0 r) (cwV 0 hts gL_law_X1_thrown rfl rfl rfl (by decide +kernel) ⟨Nat.le_of_ble_eq_true rfl, Nat.le_of_ble_eq_true rfl⟩) (lc_RdV (q0 := 0) (ci := 1) (q := (RX1, TX1, 3)) (hP.sub (ws' := [(hm, .inr (1, [.ref qm, .int (nI c0), .int 0])), (qm, .inl (cM, 20000, .inl r))]) [2, 3] rfl) (hK.sub (tys' := [(cM, .int)]) [1] rfl) rfl rfl) rfl rfl hl.1 rfl (lv_room (Nat.le_of_ble_eq_true rfl)) dL_law_352 ⟨by show _ ≤ (601024 : Nat); omega, by show _ ≤ (7293034 : Nat); omega⟩) ?_
    refine lv_iload hx hb dL_law_355 (lv_at hl 1 rfl) ?_
    refine lv_icmp_eq hx hb dL_law_357 (tgt := 362) rfl (fun _ => ?_) (fun hc => absurd (rfl) hc)
    refine lv_iload hx hb dL_law_362 (lv_at hl 1 rfl) ?_
    refine lv_if_ne hx hb dL_law_364 (tgt := 379) rfl (fun hc => absurd (rfl) hc) (fun _ => ?_)
    refine lv_aload_n hx hb dL_law_367 rfl (lv_at hl 6 rfl) ?_
    refine lv_iconst (v := 0) hx hb dL_law_368 (by decide) ?_
    refine va_lald (D := D) hx hb hK hP 4 2 rfl rfl (vp_in_nI (n := 0) (N := 1) (by decide) (by decide)) dL_law_369 ?_
    refine lc_topl (y := (nI j0).toInt64) ((congrArg fo1 sb_cl0).trans hpf) ?_
    refine lv_iload hx hb dL_law_370 (lv_at hl 0 rfl) ?_
    refine lv_i2l (v := (nI j0).toInt64) hx hb dL_law_372 rfl ?_
    refine W.lcmp hx hb dL_law_373 ?_
    refine lc_top (y := 0) (lc_cmp _) ?_
    refine lv_if_eq hx hb dL_law_374 (tgt := 379) rfl (fun _ => ?_) (fun hc => absurd (rfl) hc)
    refine lv_goto hx hb dL_law_379 (tgt := 451) rfl ?_
    have hl : lv_has ls 7 [(4, .int (nI (5 * t))), (0, .ref b), (1, .ref h), (2, .ref hm), (3, .ref o)] := lv_sub hl [2, 3, 4, 5, 6] rfl
    refine W.widen (k := 5 + 2 * (t + 1)) (n := 20519 + 12 * (t + 1) + pt) (by omega) (by omega) ?_
    exact next pt H locs ls ⟨q, cA, Lx, c0, g, qm, cM, 0, r, cJ, fo1, hL5, hLx, hc0, heq, hpt, hP, hD, hK, hS⟩ hl
set_option maxHeartbeats 4000000 in
set_option maxRecDepth 100000 in
theorem q_lineOf {p : Program} {l : Launch} {e : Env} {s : State} {m : MethodId} {below : List Frame} {meth : Method} {c : Code} {b L : Nat} {xs : Nat → Int32} (C0 : lw_At p s m meth c b L xs) (hst : l.stackTraces = false) (hL : L ≤ 2560) {D : va_G} (hZ : lc_TZ (fun q => s.heap.size ≤ q) s s.heap) {h hm o t : Nat} (ht : 5 * t + 5 ≤ L) (next : ∀ (pt : Nat) (H : Heap) (locs : List Loc) (ls : Array Slot), lc_I D s H locs h hm o pt → lv_has ls 7 [(4, .int (nI (5 * t))), (0, .ref b), (1, .ref h), (2, .ref hm), (3, .ref o)] → W p l e room_1 s m #[Value.ref b] below meth c H locs (5 + 2 * (t + 1)) (20519 + 12 * (t + 1) + pt) (lw_Z below #[Value.ref b] s) (F0 m 451 ls [])) {pt : Nat} {H : Heap} {locs : List Loc} {ls : Array Slot} (hI : lc_I D s H locs h hm o pt) (hl : lv_has ls 7 [(4, .int (nI (5 * t))), (0, .ref b), (1, .ref h), (2, .ref hm), (3, .ref o)]) : W p l e room_1 s m #[Value.ref b] below meth c H locs (5 + 2 * t) (20519 + 12 * t + pt) (lw_Z below #[Value.ref b] s) (F0 m 382 ls []) := by
  obtain ⟨hx, hb, hr, hml, hown, hts, hX, hbl, hlocks, hgv⟩ := C0
  have hts : ∀ w ∈ wsL_law, w.before #[Value.ref b] s = true := fun w h => hts w (lc_lawin w h)
  obtain ⟨q, cA, Lx, c0, g, qm, cM, th, r, cJ, fo, hL5, hLx, hc0, heq, hpt, hP, hD, hK, hS⟩ := hI
  have hA : ∀ q : Nat, s.heap.size ≤ q → (fun q => s.heap.size ≤ q) q := fun q h => h
  have hbA : ¬ (fun q => s.heap.size ≤ q) b := fun h => absurd hbl (Nat.not_lt.mpr h)
  obtain ⟨p0, hp0⟩ : ∃ z, xs (5 * t + 1) = z := ⟨_, rfl⟩
  by_cases hbad : p0 < 0 ∨ nI c0 < p0
  · refine lv_aload_n hx hb dL_law_382 rfl (lv_at hl 2 rfl) ?_
    refine lv_aload_n hx hb dL_law_383 rfl (lv_at hl 1 rfl) ?_
    refine lv_iload hx hb dL_law_384 (lv_at hl 0 rfl) ?_
    refine lv_iconst (v := 1) hx hb dL_law_386 (by decide) ?_
    refine lv_iadd hx hb dL_law_387 ?_
    refine lc_top (y := nI (5 * t + 1)) (nI_add (5 * t) 1) ?_
    refine va_sld hx hb hX hbl hbA hS (vp_in_nI (show 5 * t + 1 < L by omega) (by omega)) dL_law_388 ?_
    refine lc_top (y := p0) ((congrArg xs (nI_clamp (by omega))).trans hp0) ?_
    refine lv_aload_n hx hb dL_law_389 rfl (lv_at hl 4 rfl) ?_
    refine lc_callB (vx_runSW (hh := [(0, 9, 12, 13)]) (As := [.ref h, .int p0, .ref o]) (rest := []) ⟨hx, hb, hml, hown, hts⟩ (w_lineOf_bad l D h q cA o cJ hst (nI c0) (nI (lc_cnt g c0)) Lx g p0 hbad) (vx_cwSW 3 hts gL_law_L_lineOf rfl rfl rfl (by decide +kernel) ⟨Nat.le_of_ble_eq_true rfl, Nat.le_of_ble_eq_true rfl⟩) (lc_TxS (hP.sub (ws' := [(h, .inr (0, [.ref q, .int (nI c0), .int (nI (lc_cnt g c0))])), (q, .inl (cA, Lx, .inl g))]) [0, 1] rfl) (hK.sub (tys' := [(cA, .int)]) [0] rfl) ((hZ.kept hS.2.1).narrow (fun _ h => h.elim))) rfl rfl hl.1 rfl (lv_room (Nat.le_of_ble_eq_true rfl)) dL_law_390 ⟨by show _ ≤ (601024 : Nat); omega, by show _ ≤ (7293034 : Nat); omega⟩) (fun H1 hz hk => ?_)
    have hP := lc_keptP hP hk
    have hS := lc_keptS hS hz hk
    clear hz hk
    generalize H1 = H at hP hS ⊢
    refine lv_istore hx hb dL_law_393 hl (by decide) rfl (fun ls hl => ?_)
    have hl : lv_has ls 7 [(5, .int 1), (4, .int (nI (5 * t))), (0, .ref b), (1, .ref h), (2, .ref hm), (3, .ref o)] := hl
    refine lv_aload_n hx hb dL_law_395 rfl (lv_at hl 4 rfl) ?_
    refine lv_aload_n hx hb dL_law_396 rfl (lv_at hl 2 rfl) ?_
    refine lv_iload hx hb dL_law_397 (lv_at hl 1 rfl) ?_
    refine lv_iconst (v := 1) hx hb dL_law_399 (by decide) ?_
    refine lv_iadd hx hb dL_law_400 ?_
    refine lc_top (y := nI (5 * t + 1)) (nI_add (5 * t) 1) ?_
    refine va_sld hx hb hX hbl hbA hS (vp_in_nI (show 5 * t + 1 < L by omega) (by omega)) dL_law_401 ?_
    refine lc_top (y := p0) ((congrArg xs (nI_clamp (by omega))).trans hp0) ?_
    have hPc := hP.sub (ws' := [(hm, .inr (1, [.ref qm, .int (nI c0), .int th])), (qm, .inl (cM, 20000, .inl r))]) [2, 3] rfl
    have hDc := hD.sub (ws' := [(hm, .inr (1, [.ref qm, .int (nI c0), .int th])), (qm, .inl (cM, 20000, .inl r))]) [2, 3] (by decide) rfl
    have hKc := hK.sub (tys' := [(cM, .int)]) [1] rfl
    have hF := va_free (wc := [(hm, .inr (1, [.ref qm, .int (nI c0), .int th])), (qm, .inl (cM, 20000, .inl r))]) hD hS hA [2, 3] rfl
    refine lc_callW (vx_runVW (hh := [(5, 10, 11, 13)]) (As := [.int p0]) (rest := []) ⟨hx, hb, hml, hown, hts⟩ (m_lineOf_bad l D hm qm cM H.size hst (nI c0) th r p0 hbad) (vx_cwVW 1 hts gL_law_X1_lineOf rfl rfl rfl (by decide +kernel) ⟨Nat.le_of_ble_eq_true rfl, Nat.le_of_ble_eq_true rfl⟩) (lc_WTV (q0 := 0) (ci := 1) (q := (RX1, TX1, 3)) hPc hKc hDc ((hZ.kept hS.2.1).narrow (fun q h => hF q h)) rfl rfl) rfl rfl hl.1 rfl (lv_room (Nat.le_of_ble_eq_true rfl)) dL_law_402 ⟨by show _ ≤ (601024 : Nat); omega, by show _ ≤ (7293034 : Nat); omega⟩) hS (fun q h => hF q h) (fun u H locs hp hP1 hK1 hD1 hz hk hS => ?_)
    obtain ⟨hP, hD⟩ := va_join (wr := [(h, .inr (0, [.ref q, .int (nI c0), .int (nI (lc_cnt g c0))])), (q, .inl (cA, Lx, .inl g)), (o, .inl (cJ, 1, .inr (.inl fo)))]) (w1 := [(hm, .inr (1, [.ref qm, .int (nI c0), .int 1])), (qm, .inl (cM, 20000, .inl r))]) hP hD [2, 3] [0, 1, 4] rfl rfl (by decide) (by decide) hk hF hP1 hD1
    have hK := (hK.sub (tys' := [(cA, .int), (cJ, .long)]) [0, 2] rfl).app hK1
    have hP := hP.sub (ws' := [(h, .inr (0, [.ref q, .int (nI c0), .int (nI (lc_cnt g c0))])), (q, .inl (cA, Lx, .inl g)), (hm, .inr (1, [.ref qm, .int (nI c0), .int 1])), (qm, .inl (cM, 20000, .inl r)), (o, .inl (cJ, 1, .inr (.inl fo)))]) [0, 1, 3, 4, 2] rfl
    have hD := hD.sub (ws' := [(h, .inr (0, [.ref q, .int (nI c0), .int (nI (lc_cnt g c0))])), (q, .inl (cA, Lx, .inl g)), (hm, .inr (1, [.ref qm, .int (nI c0), .int 1])), (qm, .inl (cM, 20000, .inl r)), (o, .inl (cJ, 1, .inr (.inl fo)))]) [0, 1, 3, 4, 2] (by decide) rfl
    have hK := hK.sub (tys' := [(cA, .int), (cM, .int), (cJ, .long)]) [0, 2, 1] rfl
    clear hz hk hPc hDc hKc hF hP1 hK1 hD1
    refine W.eq (g2 := F0 m 405 ls [.int 0]) rfl ?_
    refine lv_istore hx hb dL_law_405 hl (by decide) rfl (fun ls hl => ?_)
    have hl : lv_has ls 7 [(6, .int 0), (5, .int 1), (4, .int (nI (5 * t))), (0, .ref b), (1, .ref h), (2, .ref hm), (3, .ref o)] := hl
    refine lv_aload_n hx hb dL_law_407 rfl (lv_at hl 5 rfl) ?_
    refine lc_callR (W.runV (As := []) (rest := []) ⟨hx, hb, hml, hown, hts⟩ (m_thrown l D hm qm cM (nI c0) 1 r) (cwV 0 hts gL_law_X1_thrown rfl rfl rfl (by decide +kernel) ⟨Nat.le_of_ble_eq_true rfl, Nat.le_of_ble_eq_true rfl⟩) (lc_RdV (q0 := 0) (ci := 1) (q := (RX1, TX1, 3)) (hP.sub (ws' := [(hm, .inr (1, [.ref qm, .int (nI c0), .int 1])), (qm, .inl (cM, 20000, .inl r))]) [2, 3] rfl) (hK.sub (tys' := [(cM, .int)]) [1] rfl) rfl rfl) rfl rfl hl.1 rfl (lv_room (Nat.le_of_ble_eq_true rfl)) dL_law_408 ⟨by show _ ≤ (601024 : Nat); omega, by show _ ≤ (7293034 : Nat); omega⟩) ?_
    refine lv_iload hx hb dL_law_411 (lv_at hl 1 rfl) ?_
    refine lv_icmp_eq hx hb dL_law_413 (tgt := 418) rfl (fun _ => ?_) (fun hc => absurd (rfl) hc)
    refine lv_iload hx hb dL_law_418 (lv_at hl 1 rfl) ?_
    refine lv_if_ne hx hb dL_law_420 (tgt := 435) rfl (fun _ => ?_) (fun hc => absurd hc (by decide))
    refine lv_goto hx hb dL_law_435 (tgt := 451) rfl ?_
    have hl : lv_has ls 7 [(4, .int (nI (5 * t))), (0, .ref b), (1, .ref h), (2, .ref hm), (3, .ref o)] := lv_sub hl [2, 3, 4, 5, 6] rfl
    refine W.widen (k := 5 + 2 * (t + 1)) (n := 20519 + 12 * (t + 1) + pt) (by omega) (by omega) ?_
    exact next pt H locs ls ⟨q, cA, Lx, c0, g, qm, cM, 1, r, cJ, fo, hL5, hLx, hc0, heq, hpt, hP, hD, hK, hS⟩ hl
  · obtain ⟨i, hi, rfl⟩ := lc_okL hbad (by omega)
    refine lv_aload_n hx hb dL_law_382 rfl (lv_at hl 2 rfl) ?_
    refine lv_aload_n hx hb dL_law_383 rfl (lv_at hl 1 rfl) ?_
    refine lv_iload hx hb dL_law_384 (lv_at hl 0 rfl) ?_
    refine lv_iconst (v := 1) hx hb dL_law_386 (by decide) ?_
    refine lv_iadd hx hb dL_law_387 ?_
    refine lc_top (y := nI (5 * t + 1)) (nI_add (5 * t) 1) ?_
    refine va_sld hx hb hX hbl hbA hS (vp_in_nI (show 5 * t + 1 < L by omega) (by omega)) dL_law_388 ?_
    refine lc_top (y := nI i) ((congrArg xs (nI_clamp (by omega))).trans hp0) ?_
    refine lv_aload_n hx hb dL_law_389 rfl (lv_at hl 4 rfl) ?_
    have hPc := hP.sub (ws' := [(h, .inr (0, [.ref q, .int (nI c0), .int (nI (lc_cnt g c0))])), (q, .inl (cA, Lx, .inl g)), (o, .inl (cJ, 1, .inr (.inl fo)))]) [0, 1, 4] rfl
    have hDc := hD.sub (ws' := [(h, .inr (0, [.ref q, .int (nI c0), .int (nI (lc_cnt g c0))])), (q, .inl (cA, Lx, .inl g)), (o, .inl (cJ, 1, .inr (.inl fo)))]) [0, 1, 4] (by decide) rfl
    have hKc := hK.sub (tys' := [(cA, .int), (cJ, .long)]) [0, 2] rfl
    have hF := va_free (wc := [(h, .inr (0, [.ref q, .int (nI c0), .int (nI (lc_cnt g c0))])), (q, .inl (cA, Lx, .inl g)), (o, .inl (cJ, 1, .inr (.inl fo)))]) hD hS hA [0, 1, 4] rfl
    refine lc_callW (vx_runSW (hh := [(0, 9, 12, 13)]) (As := [.ref h, .int (nI i), .ref o]) (rest := []) ⟨hx, hb, hml, hown, hts⟩ (w_lineOf l D h q cA o cJ H.size fo (nI (lc_cnt g c0)) Lx c0 g hLx hc0 i hi) (vx_cwSW 3 hts gL_law_L_lineOf rfl rfl rfl (by decide +kernel) ⟨Nat.le_of_ble_eq_true rfl, Nat.le_of_ble_eq_true rfl⟩) (lc_WrS hPc hKc hDc) rfl rfl hl.1 rfl (lv_room (Nat.le_of_ble_eq_true rfl)) dL_law_390 ⟨by show _ ≤ (601024 : Nat); omega, by show _ ≤ (7293034 : Nat); omega⟩) hS (fun q h => hF q h) (fun u H locs hp hP1 hK1 hD1 hz hk hS => ?_)
    obtain ⟨fo1, hfo1⟩ : ∃ z : Nat → Int64, z = u := ⟨u, rfl⟩
    rw [← hfo1] at hp hP1 hD1
    have hpf := hp
    obtain ⟨hP, hD⟩ := va_join (wr := [(hm, .inr (1, [.ref qm, .int (nI c0), .int th])), (qm, .inl (cM, 20000, .inl r))]) (w1 := [(h, .inr (0, [.ref q, .int (nI c0), .int (nI (lc_cnt g c0))])), (q, .inl (cA, Lx, .inl g)), (o, .inl (cJ, 1, .inr (.inl fo1)))]) hP hD [0, 1, 4] [2, 3] rfl rfl (by decide) (by decide) hk hF hP1 hD1
    have hK := (hK.sub (tys' := [(cM, .int)]) [1] rfl).app hK1
    have hP := hP.sub (ws' := [(h, .inr (0, [.ref q, .int (nI c0), .int (nI (lc_cnt g c0))])), (q, .inl (cA, Lx, .inl g)), (hm, .inr (1, [.ref qm, .int (nI c0), .int th])), (qm, .inl (cM, 20000, .inl r)), (o, .inl (cJ, 1, .inr (.inl fo1)))]) [2, 3, 0, 1, 4] rfl
    have hD := hD.sub (ws' := [(h, .inr (0, [.ref q, .int (nI c0), .int (nI (lc_cnt g c0))])), (q, .inl (cA, Lx, .inl g)), (hm, .inr (1, [.ref qm, .int (nI c0), .int th])), (qm, .inl (cM, 20000, .inl r)), (o, .inl (cJ, 1, .inr (.inl fo1)))]) [2, 3, 0, 1, 4] (by decide) rfl
    have hK := hK.sub (tys' := [(cA, .int), (cM, .int), (cJ, .long)]) [1, 0, 2] rfl
    clear hz hk hPc hDc hKc hF hP1 hK1 hD1
    refine W.eq (g2 := F0 m 393 ls [.int 0]) rfl ?_
    refine lv_istore hx hb dL_law_393 hl (by decide) rfl (fun ls hl => ?_)
    have hl : lv_has ls 7 [(5, .int 0), (4, .int (nI (5 * t))), (0, .ref b), (1, .ref h), (2, .ref hm), (3, .ref o)] := hl
    refine lv_aload_n hx hb dL_law_395 rfl (lv_at hl 4 rfl) ?_
    refine lv_aload_n hx hb dL_law_396 rfl (lv_at hl 2 rfl) ?_
    refine lv_iload hx hb dL_law_397 (lv_at hl 1 rfl) ?_
    refine lv_iconst (v := 1) hx hb dL_law_399 (by decide) ?_
    refine lv_iadd hx hb dL_law_400 ?_
    refine lc_top (y := nI (5 * t + 1)) (nI_add (5 * t) 1) ?_
    refine va_sld hx hb hX hbl hbA hS (vp_in_nI (show 5 * t + 1 < L by omega) (by omega)) dL_law_401 ?_
    refine lc_top (y := nI i) ((congrArg xs (nI_clamp (by omega))).trans hp0) ?_
    have hPc := hP.sub (ws' := [(hm, .inr (1, [.ref qm, .int (nI c0), .int th])), (qm, .inl (cM, 20000, .inl r))]) [2, 3] rfl
    have hDc := hD.sub (ws' := [(hm, .inr (1, [.ref qm, .int (nI c0), .int th])), (qm, .inl (cM, 20000, .inl r))]) [2, 3] (by decide) rfl
    have hKc := hK.sub (tys' := [(cM, .int)]) [1] rfl
    have hF := va_free (wc := [(hm, .inr (1, [.ref qm, .int (nI c0), .int th])), (qm, .inl (cM, 20000, .inl r))]) hD hS hA [2, 3] rfl
    refine lc_callW (vx_runVW (hh := [(5, 10, 11, 13)]) (As := [.int (nI i)]) (rest := []) ⟨hx, hb, hml, hown, hts⟩ (m_lineOf l D hm qm cM H.size th c0 r (by omega) i hi) (vx_cwVW 1 hts gL_law_X1_lineOf rfl rfl rfl (by decide +kernel) ⟨Nat.le_of_ble_eq_true rfl, Nat.le_of_ble_eq_true rfl⟩) (lc_WrV (q0 := 0) (ci := 1) (q := (RX1, TX1, 3)) hPc hKc hDc rfl rfl) rfl rfl hl.1 rfl (lv_room (Nat.le_of_ble_eq_true rfl)) dL_law_402 ⟨by show _ ≤ (601024 : Nat); omega, by show _ ≤ (7293034 : Nat); omega⟩) hS (fun q h => hF q h) (fun u H locs hp hP1 hK1 hD1 hz hk hS => ?_)
    obtain ⟨hP, hD⟩ := va_join (wr := [(h, .inr (0, [.ref q, .int (nI c0), .int (nI (lc_cnt g c0))])), (q, .inl (cA, Lx, .inl g)), (o, .inl (cJ, 1, .inr (.inl fo1)))]) (w1 := [(hm, .inr (1, [.ref qm, .int (nI c0), .int 0])), (qm, .inl (cM, 20000, .inl r))]) hP hD [2, 3] [0, 1, 4] rfl rfl (by decide) (by decide) hk hF hP1 hD1
    have hK := (hK.sub (tys' := [(cA, .int), (cJ, .long)]) [0, 2] rfl).app hK1
    have hP := hP.sub (ws' := [(h, .inr (0, [.ref q, .int (nI c0), .int (nI (lc_cnt g c0))])), (q, .inl (cA, Lx, .inl g)), (hm, .inr (1, [.ref qm, .int (nI c0), .int 0])), (qm, .inl (cM, 20000, .inl r)), (o, .inl (cJ, 1, .inr (.inl fo1)))]) [0, 1, 3, 4, 2] rfl
    have hD := hD.sub (ws' := [(h, .inr (0, [.ref q, .int (nI c0), .int (nI (lc_cnt g c0))])), (q, .inl (cA, Lx, .inl g)), (hm, .inr (1, [.ref qm, .int (nI c0), .int 0])), (qm, .inl (cM, 20000, .inl r)), (o, .inl (cJ, 1, .inr (.inl fo1)))]) [0, 1, 3, 4, 2] (by decide) rfl
    have hK := hK.sub (tys' := [(cA, .int), (cM, .int), (cJ, .long)]) [0, 2, 1] rfl
    clear hz hk hPc hDc hKc hF hP1 hK1 hD1
    refine W.eq (g2 := F0 m 405 ls [.int (nI (lc_cnt r i))]) rfl ?_
    refine lc_top (y := nI (lc_cnt g i)) (by rw [lc_cnt_congr (fun j h => heq j (by omega))]) ?_
    refine lv_istore hx hb dL_law_405 hl (by decide) rfl (fun ls hl => ?_)
    have hl : lv_has ls 7 [(6, .int (nI (lc_cnt g i))), (5, .int 0), (4, .int (nI (5 * t))), (0, .ref b), (1, .ref h), (2, .ref hm), (3, .ref o)] := hl
    refine lv_aload_n hx hb dL_law_407 rfl (lv_at hl 5 rfl) ?_
    refine lc_callR (W.runV (As := []) (rest := []) ⟨hx, hb, hml, hown, hts⟩ (m_thrown l D hm qm cM (nI c0) 0 r) (cwV 0 hts gL_law_X1_thrown rfl rfl rfl (by decide +kernel) ⟨Nat.le_of_ble_eq_true rfl, Nat.le_of_ble_eq_true rfl⟩) (lc_RdV (q0 := 0) (ci := 1) (q := (RX1, TX1, 3)) (hP.sub (ws' := [(hm, .inr (1, [.ref qm, .int (nI c0), .int 0])), (qm, .inl (cM, 20000, .inl r))]) [2, 3] rfl) (hK.sub (tys' := [(cM, .int)]) [1] rfl) rfl rfl) rfl rfl hl.1 rfl (lv_room (Nat.le_of_ble_eq_true rfl)) dL_law_408 ⟨by show _ ≤ (601024 : Nat); omega, by show _ ≤ (7293034 : Nat); omega⟩) ?_
    refine lv_iload hx hb dL_law_411 (lv_at hl 1 rfl) ?_
    refine lv_icmp_eq hx hb dL_law_413 (tgt := 418) rfl (fun _ => ?_) (fun hc => absurd (rfl) hc)
    refine lv_iload hx hb dL_law_418 (lv_at hl 1 rfl) ?_
    refine lv_if_ne hx hb dL_law_420 (tgt := 435) rfl (fun hc => absurd (rfl) hc) (fun _ => ?_)
    refine lv_aload_n hx hb dL_law_423 rfl (lv_at hl 6 rfl) ?_
    refine lv_iconst (v := 0) hx hb dL_law_424 (by decide) ?_
    refine va_lald (D := D) hx hb hK hP 4 2 rfl rfl (vp_in_nI (n := 0) (N := 1) (by decide) (by decide)) dL_law_425 ?_
    refine lc_topl (y := (nI (lc_cnt g i)).toInt64) ((congrArg fo1 sb_cl0).trans hpf) ?_
    refine lv_iload hx hb dL_law_426 (lv_at hl 0 rfl) ?_
    refine lv_i2l (v := (nI (lc_cnt g i)).toInt64) hx hb dL_law_428 rfl ?_
    refine W.lcmp hx hb dL_law_429 ?_
    refine lc_top (y := 0) (lc_cmp _) ?_
    refine lv_if_eq hx hb dL_law_430 (tgt := 435) rfl (fun _ => ?_) (fun hc => absurd (rfl) hc)
    refine lv_goto hx hb dL_law_435 (tgt := 451) rfl ?_
    have hl : lv_has ls 7 [(4, .int (nI (5 * t))), (0, .ref b), (1, .ref h), (2, .ref hm), (3, .ref o)] := lv_sub hl [2, 3, 4, 5, 6] rfl
    refine W.widen (k := 5 + 2 * (t + 1)) (n := 20519 + 12 * (t + 1) + pt) (by omega) (by omega) ?_
    exact next pt H locs ls ⟨q, cA, Lx, c0, g, qm, cM, 0, r, cJ, fo1, hL5, hLx, hc0, heq, hpt, hP, hD, hK, hS⟩ hl
set_option maxHeartbeats 4000000 in
set_option maxRecDepth 100000 in
theorem q_delete {p : Program} {l : Launch} {e : Env} {s : State} {m : MethodId} {below : List Frame} {meth : Method} {c : Code} {b L : Nat} {xs : Nat → Int32} (C0 : lw_At p s m meth c b L xs) (hst : l.stackTraces = false) (hL : L ≤ 2560) {D : va_G} (hZ : lc_TZ (fun q => s.heap.size ≤ q) s s.heap) {h hm o t : Nat} (ht : 5 * t + 5 ≤ L) (next : ∀ (pt : Nat) (H : Heap) (locs : List Loc) (ls : Array Slot), lc_I D s H locs h hm o pt → lv_has ls 7 [(4, .int (nI (5 * t))), (0, .ref b), (1, .ref h), (2, .ref hm), (3, .ref o)] → W p l e room_1 s m #[Value.ref b] below meth c H locs (5 + 2 * (t + 1)) (20519 + 12 * (t + 1) + pt) (lw_Z below #[Value.ref b] s) (F0 m 451 ls [])) {pt : Nat} {H : Heap} {locs : List Loc} {ls : Array Slot} (hI : lc_I D s H locs h hm o pt) (hl : lv_has ls 7 [(4, .int (nI (5 * t))), (0, .ref b), (1, .ref h), (2, .ref hm), (3, .ref o)]) : W p l e room_1 s m #[Value.ref b] below meth c H locs (5 + 2 * t) (20519 + 12 * t + pt) (lw_Z below #[Value.ref b] s) (F0 m 176 ls []) := by
  obtain ⟨hx, hb, hr, hml, hown, hts, hX, hbl, hlocks, hgv⟩ := C0
  have hts : ∀ w ∈ wsL_law, w.before #[Value.ref b] s = true := fun w h => hts w (lc_lawin w h)
  obtain ⟨q, cA, Lx, c0, g, qm, cM, th, r, cJ, fo, hL5, hLx, hc0, heq, hpt, hP, hD, hK, hS⟩ := hI
  have hA : ∀ q : Nat, s.heap.size ≤ q → (fun q => s.heap.size ≤ q) q := fun q h => h
  have hbA : ¬ (fun q => s.heap.size ≤ q) b := fun h => absurd hbl (Nat.not_lt.mpr h)
  obtain ⟨p0, hp0⟩ : ∃ z, xs (5 * t + 1) = z := ⟨_, rfl⟩
  obtain ⟨p1, hp1⟩ : ∃ z, xs (5 * t + 2) = z := ⟨_, rfl⟩
  by_cases hbad : p0 < 0 ∨ p1 < 1 ∨ nI c0 < p1 ∨ nI c0 - p1 < p0
  · refine lv_aload_n hx hb dL_law_176 rfl (lv_at hl 2 rfl) ?_
    refine lv_aload_n hx hb dL_law_177 rfl (lv_at hl 1 rfl) ?_
    refine lv_iload hx hb dL_law_178 (lv_at hl 0 rfl) ?_
    refine lv_iconst (v := 1) hx hb dL_law_180 (by decide) ?_
    refine lv_iadd hx hb dL_law_181 ?_
    refine lc_top (y := nI (5 * t + 1)) (nI_add (5 * t) 1) ?_
    refine va_sld hx hb hX hbl hbA hS (vp_in_nI (show 5 * t + 1 < L by omega) (by omega)) dL_law_182 ?_
    refine lc_top (y := p0) ((congrArg xs (nI_clamp (by omega))).trans hp0) ?_
    refine lv_aload_n hx hb dL_law_183 rfl (lv_at hl 1 rfl) ?_
    refine lv_iload hx hb dL_law_184 (lv_at hl 0 rfl) ?_
    refine lv_iconst (v := 2) hx hb dL_law_186 (by decide) ?_
    refine lv_iadd hx hb dL_law_187 ?_
    refine lc_top (y := nI (5 * t + 2)) (nI_add (5 * t) 2) ?_
    refine va_sld hx hb hX hbl hbA hS (vp_in_nI (show 5 * t + 2 < L by omega) (by omega)) dL_law_188 ?_
    refine lc_top (y := p1) ((congrArg xs (nI_clamp (by omega))).trans hp1) ?_
    refine lv_aload_n hx hb dL_law_189 rfl (lv_at hl 4 rfl) ?_
    refine lc_callB (vx_runSW (hh := [(0, 10, 13, 13)]) (As := [.ref h, .int p0, .int p1, .ref o]) (rest := []) ⟨hx, hb, hml, hown, hts⟩ (w_delete_bad l D h q cA o cJ hst (nI c0) (nI (lc_cnt g c0)) Lx g p0 p1 (lc_badD hbad (by omega))) (vx_cwSW 4 hts gL_law_L_delete rfl rfl rfl (by decide +kernel) ⟨Nat.le_of_ble_eq_true rfl, Nat.le_of_ble_eq_true rfl⟩) (lc_TxS (hP.sub (ws' := [(h, .inr (0, [.ref q, .int (nI c0), .int (nI (lc_cnt g c0))])), (q, .inl (cA, Lx, .inl g))]) [0, 1] rfl) (hK.sub (tys' := [(cA, .int)]) [0] rfl) ((hZ.kept hS.2.1).narrow (fun _ h => h.elim))) rfl rfl hl.1 rfl (lv_room (Nat.le_of_ble_eq_true rfl)) dL_law_190 ⟨by show _ ≤ (601024 : Nat); omega, by show _ ≤ (7293034 : Nat); omega⟩) (fun H1 hz hk => ?_)
    have hP := lc_keptP hP hk
    have hS := lc_keptS hS hz hk
    clear hz hk
    generalize H1 = H at hP hS ⊢
    refine lv_istore hx hb dL_law_193 hl (by decide) rfl (fun ls hl => ?_)
    have hl : lv_has ls 7 [(5, .int 1), (4, .int (nI (5 * t))), (0, .ref b), (1, .ref h), (2, .ref hm), (3, .ref o)] := hl
    refine lv_aload_n hx hb dL_law_195 rfl (lv_at hl 4 rfl) ?_
    refine lv_aload_n hx hb dL_law_196 rfl (lv_at hl 2 rfl) ?_
    refine lv_iload hx hb dL_law_197 (lv_at hl 1 rfl) ?_
    refine lv_iconst (v := 1) hx hb dL_law_199 (by decide) ?_
    refine lv_iadd hx hb dL_law_200 ?_
    refine lc_top (y := nI (5 * t + 1)) (nI_add (5 * t) 1) ?_
    refine va_sld hx hb hX hbl hbA hS (vp_in_nI (show 5 * t + 1 < L by omega) (by omega)) dL_law_201 ?_
    refine lc_top (y := p0) ((congrArg xs (nI_clamp (by omega))).trans hp0) ?_
    refine lv_aload_n hx hb dL_law_202 rfl (lv_at hl 2 rfl) ?_
    refine lv_iload hx hb dL_law_203 (lv_at hl 1 rfl) ?_
    refine lv_iconst (v := 2) hx hb dL_law_205 (by decide) ?_
    refine lv_iadd hx hb dL_law_206 ?_
    refine lc_top (y := nI (5 * t + 2)) (nI_add (5 * t) 2) ?_
    refine va_sld hx hb hX hbl hbA hS (vp_in_nI (show 5 * t + 2 < L by omega) (by omega)) dL_law_207 ?_
    refine lc_top (y := p1) ((congrArg xs (nI_clamp (by omega))).trans hp1) ?_
    have hPc := hP.sub (ws' := [(hm, .inr (1, [.ref qm, .int (nI c0), .int th])), (qm, .inl (cM, 20000, .inl r))]) [2, 3] rfl
    have hDc := hD.sub (ws' := [(hm, .inr (1, [.ref qm, .int (nI c0), .int th])), (qm, .inl (cM, 20000, .inl r))]) [2, 3] (by decide) rfl
    have hKc := hK.sub (tys' := [(cM, .int)]) [1] rfl
    have hF := va_free (wc := [(hm, .inr (1, [.ref qm, .int (nI c0), .int th])), (qm, .inl (cM, 20000, .inl r))]) hD hS hA [2, 3] rfl
    refine lc_callW (vx_runVW (hh := [(5, 11, 12, 13)]) (As := [.int p0, .int p1]) (rest := []) ⟨hx, hb, hml, hown, hts⟩ (m_delete_bad l D hm qm cM H.size hst (nI c0) th r p0 p1 hbad) (vx_cwVW 2 hts gL_law_X1_delete rfl rfl rfl (by decide +kernel) ⟨Nat.le_of_ble_eq_true rfl, Nat.le_of_ble_eq_true rfl⟩) (lc_WTV (q0 := 0) (ci := 1) (q := (RX1, TX1, 3)) hPc hKc hDc ((hZ.kept hS.2.1).narrow (fun q h => hF q h)) rfl rfl) rfl rfl hl.1 rfl (lv_room (Nat.le_of_ble_eq_true rfl)) dL_law_208 ⟨by show _ ≤ (601024 : Nat); omega, by show _ ≤ (7293034 : Nat); omega⟩) hS (fun q h => hF q h) (fun u H locs hp hP1 hK1 hD1 hz hk hS => ?_)
    obtain ⟨hP, hD⟩ := va_join (wr := [(h, .inr (0, [.ref q, .int (nI c0), .int (nI (lc_cnt g c0))])), (q, .inl (cA, Lx, .inl g)), (o, .inl (cJ, 1, .inr (.inl fo)))]) (w1 := [(hm, .inr (1, [.ref qm, .int (nI c0), .int 1])), (qm, .inl (cM, 20000, .inl r))]) hP hD [2, 3] [0, 1, 4] rfl rfl (by decide) (by decide) hk hF hP1 hD1
    have hK := (hK.sub (tys' := [(cA, .int), (cJ, .long)]) [0, 2] rfl).app hK1
    have hP := hP.sub (ws' := [(h, .inr (0, [.ref q, .int (nI c0), .int (nI (lc_cnt g c0))])), (q, .inl (cA, Lx, .inl g)), (hm, .inr (1, [.ref qm, .int (nI c0), .int 1])), (qm, .inl (cM, 20000, .inl r)), (o, .inl (cJ, 1, .inr (.inl fo)))]) [0, 1, 3, 4, 2] rfl
    have hD := hD.sub (ws' := [(h, .inr (0, [.ref q, .int (nI c0), .int (nI (lc_cnt g c0))])), (q, .inl (cA, Lx, .inl g)), (hm, .inr (1, [.ref qm, .int (nI c0), .int 1])), (qm, .inl (cM, 20000, .inl r)), (o, .inl (cJ, 1, .inr (.inl fo)))]) [0, 1, 3, 4, 2] (by decide) rfl
    have hK := hK.sub (tys' := [(cA, .int), (cM, .int), (cJ, .long)]) [0, 2, 1] rfl
    clear hz hk hPc hDc hKc hF hP1 hK1 hD1
    refine W.eq (g2 := F0 m 211 ls [.int 0]) rfl ?_
    refine lv_istore hx hb dL_law_211 hl (by decide) rfl (fun ls hl => ?_)
    have hl : lv_has ls 7 [(6, .int 0), (5, .int 1), (4, .int (nI (5 * t))), (0, .ref b), (1, .ref h), (2, .ref hm), (3, .ref o)] := hl
    refine lv_aload_n hx hb dL_law_213 rfl (lv_at hl 5 rfl) ?_
    refine lc_callR (W.runV (As := []) (rest := []) ⟨hx, hb, hml, hown, hts⟩ (m_thrown l D hm qm cM (nI c0) 1 r) (cwV 0 hts gL_law_X1_thrown rfl rfl rfl (by decide +kernel) ⟨Nat.le_of_ble_eq_true rfl, Nat.le_of_ble_eq_true rfl⟩) (lc_RdV (q0 := 0) (ci := 1) (q := (RX1, TX1, 3)) (hP.sub (ws' := [(hm, .inr (1, [.ref qm, .int (nI c0), .int 1])), (qm, .inl (cM, 20000, .inl r))]) [2, 3] rfl) (hK.sub (tys' := [(cM, .int)]) [1] rfl) rfl rfl) rfl rfl hl.1 rfl (lv_room (Nat.le_of_ble_eq_true rfl)) dL_law_214 ⟨by show _ ≤ (601024 : Nat); omega, by show _ ≤ (7293034 : Nat); omega⟩) ?_
    refine lv_iload hx hb dL_law_217 (lv_at hl 1 rfl) ?_
    refine lv_icmp_eq hx hb dL_law_219 (tgt := 224) rfl (fun _ => ?_) (fun hc => absurd (rfl) hc)
    refine lv_iload hx hb dL_law_224 (lv_at hl 1 rfl) ?_
    refine lv_if_ne hx hb dL_law_226 (tgt := 241) rfl (fun _ => ?_) (fun hc => absurd hc (by decide))
    refine lv_goto hx hb dL_law_241 (tgt := 451) rfl ?_
    have hl : lv_has ls 7 [(4, .int (nI (5 * t))), (0, .ref b), (1, .ref h), (2, .ref hm), (3, .ref o)] := lv_sub hl [2, 3, 4, 5, 6] rfl
    refine W.widen (k := 5 + 2 * (t + 1)) (n := 20519 + 12 * (t + 1) + pt) (by omega) (by omega) ?_
    exact next pt H locs ls ⟨q, cA, Lx, c0, g, qm, cM, 1, r, cJ, fo, hL5, hLx, hc0, heq, hpt, hP, hD, hK, hS⟩ hl
  · obtain ⟨i0, k0, rfl, rfl, hk0, hik⟩ := lc_okD hbad (by omega)
    refine lv_aload_n hx hb dL_law_176 rfl (lv_at hl 2 rfl) ?_
    refine lv_aload_n hx hb dL_law_177 rfl (lv_at hl 1 rfl) ?_
    refine lv_iload hx hb dL_law_178 (lv_at hl 0 rfl) ?_
    refine lv_iconst (v := 1) hx hb dL_law_180 (by decide) ?_
    refine lv_iadd hx hb dL_law_181 ?_
    refine lc_top (y := nI (5 * t + 1)) (nI_add (5 * t) 1) ?_
    refine va_sld hx hb hX hbl hbA hS (vp_in_nI (show 5 * t + 1 < L by omega) (by omega)) dL_law_182 ?_
    refine lc_top (y := nI i0) ((congrArg xs (nI_clamp (by omega))).trans hp0) ?_
    refine lv_aload_n hx hb dL_law_183 rfl (lv_at hl 1 rfl) ?_
    refine lv_iload hx hb dL_law_184 (lv_at hl 0 rfl) ?_
    refine lv_iconst (v := 2) hx hb dL_law_186 (by decide) ?_
    refine lv_iadd hx hb dL_law_187 ?_
    refine lc_top (y := nI (5 * t + 2)) (nI_add (5 * t) 2) ?_
    refine va_sld hx hb hX hbl hbA hS (vp_in_nI (show 5 * t + 2 < L by omega) (by omega)) dL_law_188 ?_
    refine lc_top (y := nI k0) ((congrArg xs (nI_clamp (by omega))).trans hp1) ?_
    refine lv_aload_n hx hb dL_law_189 rfl (lv_at hl 4 rfl) ?_
    have hPc := hP.sub (ws' := [(h, .inr (0, [.ref q, .int (nI c0), .int (nI (lc_cnt g c0))])), (q, .inl (cA, Lx, .inl g)), (o, .inl (cJ, 1, .inr (.inl fo)))]) [0, 1, 4] rfl
    have hDc := hD.sub (ws' := [(h, .inr (0, [.ref q, .int (nI c0), .int (nI (lc_cnt g c0))])), (q, .inl (cA, Lx, .inl g)), (o, .inl (cJ, 1, .inr (.inl fo)))]) [0, 1, 4] (by decide) rfl
    have hKc := hK.sub (tys' := [(cA, .int), (cJ, .long)]) [0, 2] rfl
    have hF := va_free (wc := [(h, .inr (0, [.ref q, .int (nI c0), .int (nI (lc_cnt g c0))])), (q, .inl (cA, Lx, .inl g)), (o, .inl (cJ, 1, .inr (.inl fo)))]) hD hS hA [0, 1, 4] rfl
    refine lc_callW (vx_runSW (hh := [(0, 10, 13, 13)]) (As := [.ref h, .int (nI i0), .int (nI k0), .ref o]) (rest := []) ⟨hx, hb, hml, hown, hts⟩ (w_delete l D h q cA o cJ H.size fo Lx c0 g hLx hc0 i0 k0 hk0 hik) (vx_cwSW 4 hts gL_law_L_delete rfl rfl rfl (by decide +kernel) ⟨Nat.le_of_ble_eq_true rfl, Nat.le_of_ble_eq_true rfl⟩) (lc_WrS hPc hKc hDc) rfl rfl hl.1 rfl (lv_room (Nat.le_of_ble_eq_true rfl)) dL_law_190 ⟨by show _ ≤ (601024 : Nat); omega, by show _ ≤ (7293034 : Nat); omega⟩) hS (fun q h => hF q h) (fun u H locs hp hP1 hK1 hD1 hz hk hS => ?_)
    obtain ⟨g1, fo1⟩ := u
    dsimp only at hp hP1 hK1 hD1
    obtain ⟨hpg, hpf⟩ := hp
    obtain ⟨hP, hD⟩ := va_join (wr := [(hm, .inr (1, [.ref qm, .int (nI c0), .int th])), (qm, .inl (cM, 20000, .inl r))]) (w1 := [(h, .inr (0, [.ref q, .int (nI (c0 - k0)), .int (nI (lc_cnt g1 (c0 - k0)))])), (q, .inl (cA, Lx, .inl g1)), (o, .inl (cJ, 1, .inr (.inl fo1)))]) hP hD [0, 1, 4] [2, 3] rfl rfl (by decide) (by decide) hk hF hP1 hD1
    have hK := (hK.sub (tys' := [(cM, .int)]) [1] rfl).app hK1
    have hP := hP.sub (ws' := [(h, .inr (0, [.ref q, .int (nI (c0 - k0)), .int (nI (lc_cnt g1 (c0 - k0)))])), (q, .inl (cA, Lx, .inl g1)), (hm, .inr (1, [.ref qm, .int (nI c0), .int th])), (qm, .inl (cM, 20000, .inl r)), (o, .inl (cJ, 1, .inr (.inl fo1)))]) [2, 3, 0, 1, 4] rfl
    have hD := hD.sub (ws' := [(h, .inr (0, [.ref q, .int (nI (c0 - k0)), .int (nI (lc_cnt g1 (c0 - k0)))])), (q, .inl (cA, Lx, .inl g1)), (hm, .inr (1, [.ref qm, .int (nI c0), .int th])), (qm, .inl (cM, 20000, .inl r)), (o, .inl (cJ, 1, .inr (.inl fo1)))]) [2, 3, 0, 1, 4] (by decide) rfl
    have hK := hK.sub (tys' := [(cA, .int), (cM, .int), (cJ, .long)]) [1, 0, 2] rfl
    clear hz hk hPc hDc hKc hF hP1 hK1 hD1
    refine W.eq (g2 := F0 m 193 ls [.int 0]) rfl ?_
    refine lv_istore hx hb dL_law_193 hl (by decide) rfl (fun ls hl => ?_)
    have hl : lv_has ls 7 [(5, .int 0), (4, .int (nI (5 * t))), (0, .ref b), (1, .ref h), (2, .ref hm), (3, .ref o)] := hl
    refine lv_aload_n hx hb dL_law_195 rfl (lv_at hl 4 rfl) ?_
    refine lv_aload_n hx hb dL_law_196 rfl (lv_at hl 2 rfl) ?_
    refine lv_iload hx hb dL_law_197 (lv_at hl 1 rfl) ?_
    refine lv_iconst (v := 1) hx hb dL_law_199 (by decide) ?_
    refine lv_iadd hx hb dL_law_200 ?_
    refine lc_top (y := nI (5 * t + 1)) (nI_add (5 * t) 1) ?_
    refine va_sld hx hb hX hbl hbA hS (vp_in_nI (show 5 * t + 1 < L by omega) (by omega)) dL_law_201 ?_
    refine lc_top (y := nI i0) ((congrArg xs (nI_clamp (by omega))).trans hp0) ?_
    refine lv_aload_n hx hb dL_law_202 rfl (lv_at hl 2 rfl) ?_
    refine lv_iload hx hb dL_law_203 (lv_at hl 1 rfl) ?_
    refine lv_iconst (v := 2) hx hb dL_law_205 (by decide) ?_
    refine lv_iadd hx hb dL_law_206 ?_
    refine lc_top (y := nI (5 * t + 2)) (nI_add (5 * t) 2) ?_
    refine va_sld hx hb hX hbl hbA hS (vp_in_nI (show 5 * t + 2 < L by omega) (by omega)) dL_law_207 ?_
    refine lc_top (y := nI k0) ((congrArg xs (nI_clamp (by omega))).trans hp1) ?_
    have hPc := hP.sub (ws' := [(hm, .inr (1, [.ref qm, .int (nI c0), .int th])), (qm, .inl (cM, 20000, .inl r))]) [2, 3] rfl
    have hDc := hD.sub (ws' := [(hm, .inr (1, [.ref qm, .int (nI c0), .int th])), (qm, .inl (cM, 20000, .inl r))]) [2, 3] (by decide) rfl
    have hKc := hK.sub (tys' := [(cM, .int)]) [1] rfl
    have hF := va_free (wc := [(hm, .inr (1, [.ref qm, .int (nI c0), .int th])), (qm, .inl (cM, 20000, .inl r))]) hD hS hA [2, 3] rfl
    refine lc_callW (vx_runVW (hh := [(5, 11, 12, 13)]) (As := [.int (nI i0), .int (nI k0)]) (rest := []) ⟨hx, hb, hml, hown, hts⟩ (m_delete l D hm qm cM H.size th c0 r (by omega) i0 k0 hk0 hik) (vx_cwVW 2 hts gL_law_X1_delete rfl rfl rfl (by decide +kernel) ⟨Nat.le_of_ble_eq_true rfl, Nat.le_of_ble_eq_true rfl⟩) (lc_WrV (q0 := 0) (ci := 1) (q := (RX1, TX1, 3)) hPc hKc hDc rfl rfl) rfl rfl hl.1 rfl (lv_room (Nat.le_of_ble_eq_true rfl)) dL_law_208 ⟨by show _ ≤ (601024 : Nat); omega, by show _ ≤ (7293034 : Nat); omega⟩) hS (fun q h => hF q h) (fun u H locs hp hP1 hK1 hD1 hz hk hS => ?_)
    obtain ⟨r1, hr1⟩ : ∃ z : Nat → Int32, z = u := ⟨u, rfl⟩
    rw [← hr1] at hp hP1 hD1
    have hpr := hp
    obtain ⟨hP, hD⟩ := va_join (wr := [(h, .inr (0, [.ref q, .int (nI (c0 - k0)), .int (nI (lc_cnt g1 (c0 - k0)))])), (q, .inl (cA, Lx, .inl g1)), (o, .inl (cJ, 1, .inr (.inl fo1)))]) (w1 := [(hm, .inr (1, [.ref qm, .int (nI (c0 - k0)), .int 0])), (qm, .inl (cM, 20000, .inl r1))]) hP hD [2, 3] [0, 1, 4] rfl rfl (by decide) (by decide) hk hF hP1 hD1
    have hK := (hK.sub (tys' := [(cA, .int), (cJ, .long)]) [0, 2] rfl).app hK1
    have hP := hP.sub (ws' := [(h, .inr (0, [.ref q, .int (nI (c0 - k0)), .int (nI (lc_cnt g1 (c0 - k0)))])), (q, .inl (cA, Lx, .inl g1)), (hm, .inr (1, [.ref qm, .int (nI (c0 - k0)), .int 0])), (qm, .inl (cM, 20000, .inl r1)), (o, .inl (cJ, 1, .inr (.inl fo1)))]) [0, 1, 3, 4, 2] rfl
    have hD := hD.sub (ws' := [(h, .inr (0, [.ref q, .int (nI (c0 - k0)), .int (nI (lc_cnt g1 (c0 - k0)))])), (q, .inl (cA, Lx, .inl g1)), (hm, .inr (1, [.ref qm, .int (nI (c0 - k0)), .int 0])), (qm, .inl (cM, 20000, .inl r1)), (o, .inl (cJ, 1, .inr (.inl fo1)))]) [0, 1, 3, 4, 2] (by decide) rfl
    have hK := hK.sub (tys' := [(cA, .int), (cM, .int), (cJ, .long)]) [0, 2, 1] rfl
    clear hz hk hPc hDc hKc hF hP1 hK1 hD1
    refine W.eq (g2 := F0 m 211 ls [.int (nI (c0 - k0))]) rfl ?_
    refine lv_istore hx hb dL_law_211 hl (by decide) rfl (fun ls hl => ?_)
    have hl : lv_has ls 7 [(6, .int (nI (c0 - k0))), (5, .int 0), (4, .int (nI (5 * t))), (0, .ref b), (1, .ref h), (2, .ref hm), (3, .ref o)] := hl
    refine lv_aload_n hx hb dL_law_213 rfl (lv_at hl 5 rfl) ?_
    refine lc_callR (W.runV (As := []) (rest := []) ⟨hx, hb, hml, hown, hts⟩ (m_thrown l D hm qm cM (nI (c0 - k0)) 0 r1) (cwV 0 hts gL_law_X1_thrown rfl rfl rfl (by decide +kernel) ⟨Nat.le_of_ble_eq_true rfl, Nat.le_of_ble_eq_true rfl⟩) (lc_RdV (q0 := 0) (ci := 1) (q := (RX1, TX1, 3)) (hP.sub (ws' := [(hm, .inr (1, [.ref qm, .int (nI (c0 - k0)), .int 0])), (qm, .inl (cM, 20000, .inl r1))]) [2, 3] rfl) (hK.sub (tys' := [(cM, .int)]) [1] rfl) rfl rfl) rfl rfl hl.1 rfl (lv_room (Nat.le_of_ble_eq_true rfl)) dL_law_214 ⟨by show _ ≤ (601024 : Nat); omega, by show _ ≤ (7293034 : Nat); omega⟩) ?_
    refine lv_iload hx hb dL_law_217 (lv_at hl 1 rfl) ?_
    refine lv_icmp_eq hx hb dL_law_219 (tgt := 224) rfl (fun _ => ?_) (fun hc => absurd (rfl) hc)
    refine lv_iload hx hb dL_law_224 (lv_at hl 1 rfl) ?_
    refine lv_if_ne hx hb dL_law_226 (tgt := 241) rfl (fun hc => absurd (rfl) hc) (fun _ => ?_)
    refine lv_aload_n hx hb dL_law_229 rfl (lv_at hl 6 rfl) ?_
    refine lv_iconst (v := 0) hx hb dL_law_230 (by decide) ?_
    refine va_lald (D := D) hx hb hK hP 4 2 rfl rfl (vp_in_nI (n := 0) (N := 1) (by decide) (by decide)) dL_law_231 ?_
    refine lc_topl (y := (nI (c0 - k0)).toInt64) ((congrArg fo1 sb_cl0).trans hpf) ?_
    refine lv_iload hx hb dL_law_232 (lv_at hl 0 rfl) ?_
    refine lv_i2l (v := (nI (c0 - k0)).toInt64) hx hb dL_law_234 rfl ?_
    refine W.lcmp hx hb dL_law_235 ?_
    refine lc_top (y := 0) (lc_cmp _) ?_
    refine lv_if_eq hx hb dL_law_236 (tgt := 241) rfl (fun _ => ?_) (fun hc => absurd (rfl) hc)
    refine lv_goto hx hb dL_law_241 (tgt := 451) rfl ?_
    have hl : lv_has ls 7 [(4, .int (nI (5 * t))), (0, .ref b), (1, .ref h), (2, .ref hm), (3, .ref o)] := lv_sub hl [2, 3, 4, 5, 6] rfl
    refine W.widen (k := 5 + 2 * (t + 1)) (n := 20519 + 12 * (t + 1) + pt) (by omega) (by omega) ?_
    exact next pt H locs ls ⟨q, cA, Lx, (c0 - k0), g1, qm, cM, 0, r1, cJ, fo1, hL5, hLx, (by omega), (fun j hj => by rw [hpr j hj, hpg j hj]; exact lc_del_congr heq hik j hj), hpt, hP, hD, hK, hS⟩ hl
set_option maxHeartbeats 4000000 in
set_option maxRecDepth 100000 in
theorem q_insert {p : Program} {l : Launch} {e : Env} {s : State} {m : MethodId} {below : List Frame} {meth : Method} {c : Code} {b L : Nat} {xs : Nat → Int32} (C0 : lw_At p s m meth c b L xs) (hst : l.stackTraces = false) (hL : L ≤ 2560) {D : va_G} (hZ : lc_TZ (fun q => s.heap.size ≤ q) s s.heap) {h hm o t : Nat} (ht : 5 * t + 5 ≤ L) (next : ∀ (pt : Nat) (H : Heap) (locs : List Loc) (ls : Array Slot), lc_I D s H locs h hm o pt → lv_has ls 7 [(4, .int (nI (5 * t))), (0, .ref b), (1, .ref h), (2, .ref hm), (3, .ref o)] → W p l e room_1 s m #[Value.ref b] below meth c H locs (5 + 2 * (t + 1)) (20519 + 12 * (t + 1) + pt) (lw_Z below #[Value.ref b] s) (F0 m 451 ls [])) {pt : Nat} {H : Heap} {locs : List Loc} {ls : Array Slot} (hI : lc_I D s H locs h hm o pt) (hl : lv_has ls 7 [(4, .int (nI (5 * t))), (0, .ref b), (1, .ref h), (2, .ref hm), (3, .ref o)]) : W p l e room_1 s m #[Value.ref b] below meth c H locs (5 + 2 * t) (20519 + 12 * t + pt) (lw_Z below #[Value.ref b] s) (F0 m 84 ls []) := by
  obtain ⟨hx, hb, hr, hml, hown, hts, hX, hbl, hlocks, hgv⟩ := C0
  have hts : ∀ w ∈ wsL_law, w.before #[Value.ref b] s = true := fun w h => hts w (lc_lawin w h)
  obtain ⟨q, cA, Lx, c0, g, qm, cM, th, r, cJ, fo, hL5, hLx, hc0, heq, hpt, hP, hD, hK, hS⟩ := hI
  have hA : ∀ q : Nat, s.heap.size ≤ q → (fun q => s.heap.size ≤ q) q := fun q h => h
  have hbA : ¬ (fun q => s.heap.size ≤ q) b := fun h => absurd hbl (Nat.not_lt.mpr h)
  obtain ⟨p0, hp0⟩ : ∃ z, xs (5 * t + 1) = z := ⟨_, rfl⟩
  obtain ⟨p1, hp1⟩ : ∃ z, xs (5 * t + 2) = z := ⟨_, rfl⟩
  obtain ⟨p2, hp2⟩ : ∃ z, xs (5 * t + 3) = z := ⟨_, rfl⟩
  obtain ⟨p3, hp3⟩ : ∃ z, xs (5 * t + 4) = z := ⟨_, rfl⟩
  by_cases hbad : p0 < 0 ∨ nI c0 < p0 ∨ p3 < 1 ∨ 500 < p3
  · refine lv_aload_n hx hb dL_law_84 rfl (lv_at hl 2 rfl) ?_
    refine lv_aload_n hx hb dL_law_85 rfl (lv_at hl 1 rfl) ?_
    refine lv_iload hx hb dL_law_86 (lv_at hl 0 rfl) ?_
    refine lv_iconst (v := 1) hx hb dL_law_88 (by decide) ?_
    refine lv_iadd hx hb dL_law_89 ?_
    refine lc_top (y := nI (5 * t + 1)) (nI_add (5 * t) 1) ?_
    refine va_sld hx hb hX hbl hbA hS (vp_in_nI (show 5 * t + 1 < L by omega) (by omega)) dL_law_90 ?_
    refine lc_top (y := p0) ((congrArg xs (nI_clamp (by omega))).trans hp0) ?_
    refine lv_aload_n hx hb dL_law_91 rfl (lv_at hl 1 rfl) ?_
    refine lv_iload hx hb dL_law_92 (lv_at hl 0 rfl) ?_
    refine lv_iconst (v := 2) hx hb dL_law_94 (by decide) ?_
    refine lv_iadd hx hb dL_law_95 ?_
    refine lc_top (y := nI (5 * t + 2)) (nI_add (5 * t) 2) ?_
    refine va_sld hx hb hX hbl hbA hS (vp_in_nI (show 5 * t + 2 < L by omega) (by omega)) dL_law_96 ?_
    refine lc_top (y := p1) ((congrArg xs (nI_clamp (by omega))).trans hp1) ?_
    refine lv_aload_n hx hb dL_law_97 rfl (lv_at hl 1 rfl) ?_
    refine lv_iload hx hb dL_law_98 (lv_at hl 0 rfl) ?_
    refine lv_iconst (v := 3) hx hb dL_law_100 (by decide) ?_
    refine lv_iadd hx hb dL_law_101 ?_
    refine lc_top (y := nI (5 * t + 3)) (nI_add (5 * t) 3) ?_
    refine va_sld hx hb hX hbl hbA hS (vp_in_nI (show 5 * t + 3 < L by omega) (by omega)) dL_law_102 ?_
    refine lc_top (y := p2) ((congrArg xs (nI_clamp (by omega))).trans hp2) ?_
    refine lv_aload_n hx hb dL_law_103 rfl (lv_at hl 1 rfl) ?_
    refine lv_iload hx hb dL_law_104 (lv_at hl 0 rfl) ?_
    refine lv_iconst (v := 4) hx hb dL_law_106 (by decide) ?_
    refine lv_iadd hx hb dL_law_107 ?_
    refine lc_top (y := nI (5 * t + 4)) (nI_add (5 * t) 4) ?_
    refine va_sld hx hb hX hbl hbA hS (vp_in_nI (show 5 * t + 4 < L by omega) (by omega)) dL_law_108 ?_
    refine lc_top (y := p3) ((congrArg xs (nI_clamp (by omega))).trans hp3) ?_
    refine lv_aload_n hx hb dL_law_109 rfl (lv_at hl 4 rfl) ?_
    refine lc_callB (vx_runSW (hh := [(0, 14, 17, 13), (0, 14, 21, 15)]) (As := [.ref h, .int p0, .int p1, .int p2, .int p3, .ref o]) (rest := []) ⟨hx, hb, hml, hown, hts⟩ (w_insert_bad l D h q cA o cJ hst (nI c0) (nI (lc_cnt g c0)) Lx g p0 p1 p2 p3 hbad) (vx_cwSW 6 hts gL_law_L_insert rfl rfl rfl (by decide +kernel) ⟨Nat.le_of_ble_eq_true rfl, Nat.le_of_ble_eq_true rfl⟩) (lc_TxS (hP.sub (ws' := [(h, .inr (0, [.ref q, .int (nI c0), .int (nI (lc_cnt g c0))])), (q, .inl (cA, Lx, .inl g))]) [0, 1] rfl) (hK.sub (tys' := [(cA, .int)]) [0] rfl) ((hZ.kept hS.2.1).narrow (fun _ h => h.elim))) rfl rfl hl.1 rfl (lv_room (Nat.le_of_ble_eq_true rfl)) dL_law_110 ⟨by show _ ≤ (601024 : Nat); omega, by show _ ≤ (7293034 : Nat); omega⟩) (fun H1 hz hk => ?_)
    have hP := lc_keptP hP hk
    have hS := lc_keptS hS hz hk
    clear hz hk
    generalize H1 = H at hP hS ⊢
    refine lv_istore hx hb dL_law_113 hl (by decide) rfl (fun ls hl => ?_)
    have hl : lv_has ls 7 [(5, .int 1), (4, .int (nI (5 * t))), (0, .ref b), (1, .ref h), (2, .ref hm), (3, .ref o)] := hl
    refine lv_aload_n hx hb dL_law_115 rfl (lv_at hl 4 rfl) ?_
    refine lv_aload_n hx hb dL_law_116 rfl (lv_at hl 2 rfl) ?_
    refine lv_iload hx hb dL_law_117 (lv_at hl 1 rfl) ?_
    refine lv_iconst (v := 1) hx hb dL_law_119 (by decide) ?_
    refine lv_iadd hx hb dL_law_120 ?_
    refine lc_top (y := nI (5 * t + 1)) (nI_add (5 * t) 1) ?_
    refine va_sld hx hb hX hbl hbA hS (vp_in_nI (show 5 * t + 1 < L by omega) (by omega)) dL_law_121 ?_
    refine lc_top (y := p0) ((congrArg xs (nI_clamp (by omega))).trans hp0) ?_
    refine lv_aload_n hx hb dL_law_122 rfl (lv_at hl 2 rfl) ?_
    refine lv_iload hx hb dL_law_123 (lv_at hl 1 rfl) ?_
    refine lv_iconst (v := 2) hx hb dL_law_125 (by decide) ?_
    refine lv_iadd hx hb dL_law_126 ?_
    refine lc_top (y := nI (5 * t + 2)) (nI_add (5 * t) 2) ?_
    refine va_sld hx hb hX hbl hbA hS (vp_in_nI (show 5 * t + 2 < L by omega) (by omega)) dL_law_127 ?_
    refine lc_top (y := p1) ((congrArg xs (nI_clamp (by omega))).trans hp1) ?_
    refine lv_aload_n hx hb dL_law_128 rfl (lv_at hl 2 rfl) ?_
    refine lv_iload hx hb dL_law_129 (lv_at hl 1 rfl) ?_
    refine lv_iconst (v := 3) hx hb dL_law_131 (by decide) ?_
    refine lv_iadd hx hb dL_law_132 ?_
    refine lc_top (y := nI (5 * t + 3)) (nI_add (5 * t) 3) ?_
    refine va_sld hx hb hX hbl hbA hS (vp_in_nI (show 5 * t + 3 < L by omega) (by omega)) dL_law_133 ?_
    refine lc_top (y := p2) ((congrArg xs (nI_clamp (by omega))).trans hp2) ?_
    refine lv_aload_n hx hb dL_law_134 rfl (lv_at hl 2 rfl) ?_
    refine lv_iload hx hb dL_law_135 (lv_at hl 1 rfl) ?_
    refine lv_iconst (v := 4) hx hb dL_law_137 (by decide) ?_
    refine lv_iadd hx hb dL_law_138 ?_
    refine lc_top (y := nI (5 * t + 4)) (nI_add (5 * t) 4) ?_
    refine va_sld hx hb hX hbl hbA hS (vp_in_nI (show 5 * t + 4 < L by omega) (by omega)) dL_law_139 ?_
    refine lc_top (y := p3) ((congrArg xs (nI_clamp (by omega))).trans hp3) ?_
    have hPc := hP.sub (ws' := [(hm, .inr (1, [.ref qm, .int (nI c0), .int th])), (qm, .inl (cM, 20000, .inl r))]) [2, 3] rfl
    have hDc := hD.sub (ws' := [(hm, .inr (1, [.ref qm, .int (nI c0), .int th])), (qm, .inl (cM, 20000, .inl r))]) [2, 3] (by decide) rfl
    have hKc := hK.sub (tys' := [(cM, .int)]) [1] rfl
    have hF := va_free (wc := [(hm, .inr (1, [.ref qm, .int (nI c0), .int th])), (qm, .inl (cM, 20000, .inl r))]) hD hS hA [2, 3] rfl
    refine lc_callW (vx_runVW (hh := [(5, 14, 15, 13), (5, 14, 25, 24)]) (As := [.int p0, .int p1, .int p2, .int p3]) (rest := []) ⟨hx, hb, hml, hown, hts⟩ (m_insert_bad l D hm qm cM H.size hst (nI c0) th r p0 p1 p2 p3 hbad) (vx_cwVW 4 hts gL_law_X1_insert rfl rfl rfl (by decide +kernel) ⟨Nat.le_of_ble_eq_true rfl, Nat.le_of_ble_eq_true rfl⟩) (lc_WTV (q0 := 0) (ci := 1) (q := (RX1, TX1, 3)) hPc hKc hDc ((hZ.kept hS.2.1).narrow (fun q h => hF q h)) rfl rfl) rfl rfl hl.1 rfl (lv_room (Nat.le_of_ble_eq_true rfl)) dL_law_140 ⟨by show _ ≤ (601024 : Nat); omega, by show _ ≤ (7293034 : Nat); omega⟩) hS (fun q h => hF q h) (fun u H locs hp hP1 hK1 hD1 hz hk hS => ?_)
    obtain ⟨hP, hD⟩ := va_join (wr := [(h, .inr (0, [.ref q, .int (nI c0), .int (nI (lc_cnt g c0))])), (q, .inl (cA, Lx, .inl g)), (o, .inl (cJ, 1, .inr (.inl fo)))]) (w1 := [(hm, .inr (1, [.ref qm, .int (nI c0), .int 1])), (qm, .inl (cM, 20000, .inl r))]) hP hD [2, 3] [0, 1, 4] rfl rfl (by decide) (by decide) hk hF hP1 hD1
    have hK := (hK.sub (tys' := [(cA, .int), (cJ, .long)]) [0, 2] rfl).app hK1
    have hP := hP.sub (ws' := [(h, .inr (0, [.ref q, .int (nI c0), .int (nI (lc_cnt g c0))])), (q, .inl (cA, Lx, .inl g)), (hm, .inr (1, [.ref qm, .int (nI c0), .int 1])), (qm, .inl (cM, 20000, .inl r)), (o, .inl (cJ, 1, .inr (.inl fo)))]) [0, 1, 3, 4, 2] rfl
    have hD := hD.sub (ws' := [(h, .inr (0, [.ref q, .int (nI c0), .int (nI (lc_cnt g c0))])), (q, .inl (cA, Lx, .inl g)), (hm, .inr (1, [.ref qm, .int (nI c0), .int 1])), (qm, .inl (cM, 20000, .inl r)), (o, .inl (cJ, 1, .inr (.inl fo)))]) [0, 1, 3, 4, 2] (by decide) rfl
    have hK := hK.sub (tys' := [(cA, .int), (cM, .int), (cJ, .long)]) [0, 2, 1] rfl
    clear hz hk hPc hDc hKc hF hP1 hK1 hD1
    refine W.eq (g2 := F0 m 143 ls [.int 0]) rfl ?_
    refine lv_istore hx hb dL_law_143 hl (by decide) rfl (fun ls hl => ?_)
    have hl : lv_has ls 7 [(6, .int 0), (5, .int 1), (4, .int (nI (5 * t))), (0, .ref b), (1, .ref h), (2, .ref hm), (3, .ref o)] := hl
    refine lv_aload_n hx hb dL_law_145 rfl (lv_at hl 5 rfl) ?_
    refine lc_callR (W.runV (As := []) (rest := []) ⟨hx, hb, hml, hown, hts⟩ (m_thrown l D hm qm cM (nI c0) 1 r) (cwV 0 hts gL_law_X1_thrown rfl rfl rfl (by decide +kernel) ⟨Nat.le_of_ble_eq_true rfl, Nat.le_of_ble_eq_true rfl⟩) (lc_RdV (q0 := 0) (ci := 1) (q := (RX1, TX1, 3)) (hP.sub (ws' := [(hm, .inr (1, [.ref qm, .int (nI c0), .int 1])), (qm, .inl (cM, 20000, .inl r))]) [2, 3] rfl) (hK.sub (tys' := [(cM, .int)]) [1] rfl) rfl rfl) rfl rfl hl.1 rfl (lv_room (Nat.le_of_ble_eq_true rfl)) dL_law_146 ⟨by show _ ≤ (601024 : Nat); omega, by show _ ≤ (7293034 : Nat); omega⟩) ?_
    refine lv_iload hx hb dL_law_149 (lv_at hl 1 rfl) ?_
    refine lv_icmp_eq hx hb dL_law_151 (tgt := 156) rfl (fun _ => ?_) (fun hc => absurd (rfl) hc)
    refine lv_iload hx hb dL_law_156 (lv_at hl 1 rfl) ?_
    refine lv_if_ne hx hb dL_law_158 (tgt := 173) rfl (fun _ => ?_) (fun hc => absurd hc (by decide))
    refine lv_goto hx hb dL_law_173 (tgt := 451) rfl ?_
    have hl : lv_has ls 7 [(4, .int (nI (5 * t))), (0, .ref b), (1, .ref h), (2, .ref hm), (3, .ref o)] := lv_sub hl [2, 3, 4, 5, 6] rfl
    refine W.widen (k := 5 + 2 * (t + 1)) (n := 20519 + 12 * (t + 1) + pt) (by omega) (by omega) ?_
    exact next pt H locs ls ⟨q, cA, Lx, c0, g, qm, cM, 1, r, cJ, fo, hL5, hLx, hc0, heq, hpt, hP, hD, hK, hS⟩ hl
  · obtain ⟨i0, k0, rfl, rfl, hi0, hk0, hk5⟩ := lc_okI hbad (by omega)
    by_cases hfull : 20000 < c0 + k0
    · refine lv_aload_n hx hb dL_law_84 rfl (lv_at hl 2 rfl) ?_
      refine lv_aload_n hx hb dL_law_85 rfl (lv_at hl 1 rfl) ?_
      refine lv_iload hx hb dL_law_86 (lv_at hl 0 rfl) ?_
      refine lv_iconst (v := 1) hx hb dL_law_88 (by decide) ?_
      refine lv_iadd hx hb dL_law_89 ?_
      refine lc_top (y := nI (5 * t + 1)) (nI_add (5 * t) 1) ?_
      refine va_sld hx hb hX hbl hbA hS (vp_in_nI (show 5 * t + 1 < L by omega) (by omega)) dL_law_90 ?_
      refine lc_top (y := nI i0) ((congrArg xs (nI_clamp (by omega))).trans hp0) ?_
      refine lv_aload_n hx hb dL_law_91 rfl (lv_at hl 1 rfl) ?_
      refine lv_iload hx hb dL_law_92 (lv_at hl 0 rfl) ?_
      refine lv_iconst (v := 2) hx hb dL_law_94 (by decide) ?_
      refine lv_iadd hx hb dL_law_95 ?_
      refine lc_top (y := nI (5 * t + 2)) (nI_add (5 * t) 2) ?_
      refine va_sld hx hb hX hbl hbA hS (vp_in_nI (show 5 * t + 2 < L by omega) (by omega)) dL_law_96 ?_
      refine lc_top (y := p1) ((congrArg xs (nI_clamp (by omega))).trans hp1) ?_
      refine lv_aload_n hx hb dL_law_97 rfl (lv_at hl 1 rfl) ?_
      refine lv_iload hx hb dL_law_98 (lv_at hl 0 rfl) ?_
      refine lv_iconst (v := 3) hx hb dL_law_100 (by decide) ?_
      refine lv_iadd hx hb dL_law_101 ?_
      refine lc_top (y := nI (5 * t + 3)) (nI_add (5 * t) 3) ?_
      refine va_sld hx hb hX hbl hbA hS (vp_in_nI (show 5 * t + 3 < L by omega) (by omega)) dL_law_102 ?_
      refine lc_top (y := p2) ((congrArg xs (nI_clamp (by omega))).trans hp2) ?_
      refine lv_aload_n hx hb dL_law_103 rfl (lv_at hl 1 rfl) ?_
      refine lv_iload hx hb dL_law_104 (lv_at hl 0 rfl) ?_
      refine lv_iconst (v := 4) hx hb dL_law_106 (by decide) ?_
      refine lv_iadd hx hb dL_law_107 ?_
      refine lc_top (y := nI (5 * t + 4)) (nI_add (5 * t) 4) ?_
      refine va_sld hx hb hX hbl hbA hS (vp_in_nI (show 5 * t + 4 < L by omega) (by omega)) dL_law_108 ?_
      refine lc_top (y := nI k0) ((congrArg xs (nI_clamp (by omega))).trans hp3) ?_
      refine lv_aload_n hx hb dL_law_109 rfl (lv_at hl 4 rfl) ?_
      refine lc_callB (vx_runSW (hh := [(0, 14, 17, 13), (0, 14, 21, 15)]) (As := [.ref h, .int (nI i0), .int p1, .int p2, .int (nI k0), .ref o]) (rest := []) ⟨hx, hb, hml, hown, hts⟩ (w_insert_full l D h q cA o cJ hst (nI (lc_cnt g c0)) Lx c0 g i0 k0 p1 p2 (by omega) hi0 hk0 hk5 hfull) (vx_cwSW 6 hts gL_law_L_insert rfl rfl rfl (by decide +kernel) ⟨Nat.le_of_ble_eq_true rfl, Nat.le_of_ble_eq_true rfl⟩) (lc_TxS (hP.sub (ws' := [(h, .inr (0, [.ref q, .int (nI c0), .int (nI (lc_cnt g c0))])), (q, .inl (cA, Lx, .inl g))]) [0, 1] rfl) (hK.sub (tys' := [(cA, .int)]) [0] rfl) ((hZ.kept hS.2.1).narrow (fun _ h => h.elim))) rfl rfl hl.1 rfl (lv_room (Nat.le_of_ble_eq_true rfl)) dL_law_110 ⟨by show _ ≤ (601024 : Nat); omega, by show _ ≤ (7293034 : Nat); omega⟩) (fun H1 hz hk => ?_)
      have hP := lc_keptP hP hk
      have hS := lc_keptS hS hz hk
      clear hz hk
      generalize H1 = H at hP hS ⊢
      refine lv_istore hx hb dL_law_113 hl (by decide) rfl (fun ls hl => ?_)
      have hl : lv_has ls 7 [(5, .int 2), (4, .int (nI (5 * t))), (0, .ref b), (1, .ref h), (2, .ref hm), (3, .ref o)] := hl
      refine lv_aload_n hx hb dL_law_115 rfl (lv_at hl 4 rfl) ?_
      refine lv_aload_n hx hb dL_law_116 rfl (lv_at hl 2 rfl) ?_
      refine lv_iload hx hb dL_law_117 (lv_at hl 1 rfl) ?_
      refine lv_iconst (v := 1) hx hb dL_law_119 (by decide) ?_
      refine lv_iadd hx hb dL_law_120 ?_
      refine lc_top (y := nI (5 * t + 1)) (nI_add (5 * t) 1) ?_
      refine va_sld hx hb hX hbl hbA hS (vp_in_nI (show 5 * t + 1 < L by omega) (by omega)) dL_law_121 ?_
      refine lc_top (y := nI i0) ((congrArg xs (nI_clamp (by omega))).trans hp0) ?_
      refine lv_aload_n hx hb dL_law_122 rfl (lv_at hl 2 rfl) ?_
      refine lv_iload hx hb dL_law_123 (lv_at hl 1 rfl) ?_
      refine lv_iconst (v := 2) hx hb dL_law_125 (by decide) ?_
      refine lv_iadd hx hb dL_law_126 ?_
      refine lc_top (y := nI (5 * t + 2)) (nI_add (5 * t) 2) ?_
      refine va_sld hx hb hX hbl hbA hS (vp_in_nI (show 5 * t + 2 < L by omega) (by omega)) dL_law_127 ?_
      refine lc_top (y := p1) ((congrArg xs (nI_clamp (by omega))).trans hp1) ?_
      refine lv_aload_n hx hb dL_law_128 rfl (lv_at hl 2 rfl) ?_
      refine lv_iload hx hb dL_law_129 (lv_at hl 1 rfl) ?_
      refine lv_iconst (v := 3) hx hb dL_law_131 (by decide) ?_
      refine lv_iadd hx hb dL_law_132 ?_
      refine lc_top (y := nI (5 * t + 3)) (nI_add (5 * t) 3) ?_
      refine va_sld hx hb hX hbl hbA hS (vp_in_nI (show 5 * t + 3 < L by omega) (by omega)) dL_law_133 ?_
      refine lc_top (y := p2) ((congrArg xs (nI_clamp (by omega))).trans hp2) ?_
      refine lv_aload_n hx hb dL_law_134 rfl (lv_at hl 2 rfl) ?_
      refine lv_iload hx hb dL_law_135 (lv_at hl 1 rfl) ?_
      refine lv_iconst (v := 4) hx hb dL_law_137 (by decide) ?_
      refine lv_iadd hx hb dL_law_138 ?_
      refine lc_top (y := nI (5 * t + 4)) (nI_add (5 * t) 4) ?_
      refine va_sld hx hb hX hbl hbA hS (vp_in_nI (show 5 * t + 4 < L by omega) (by omega)) dL_law_139 ?_
      refine lc_top (y := nI k0) ((congrArg xs (nI_clamp (by omega))).trans hp3) ?_
      have hPc := hP.sub (ws' := [(hm, .inr (1, [.ref qm, .int (nI c0), .int th])), (qm, .inl (cM, 20000, .inl r))]) [2, 3] rfl
      have hDc := hD.sub (ws' := [(hm, .inr (1, [.ref qm, .int (nI c0), .int th])), (qm, .inl (cM, 20000, .inl r))]) [2, 3] (by decide) rfl
      have hKc := hK.sub (tys' := [(cM, .int)]) [1] rfl
      have hF := va_free (wc := [(hm, .inr (1, [.ref qm, .int (nI c0), .int th])), (qm, .inl (cM, 20000, .inl r))]) hD hS hA [2, 3] rfl
      refine lc_callW (vx_runVW (hh := [(5, 14, 15, 13), (5, 14, 25, 24)]) (As := [.int (nI i0), .int p1, .int p2, .int (nI k0)]) (rest := []) ⟨hx, hb, hml, hown, hts⟩ (m_insert_full l D hm qm cM H.size hst th c0 r i0 k0 p1 p2 (by omega) hi0 hk0 hk5 hfull) (vx_cwVW 4 hts gL_law_X1_insert rfl rfl rfl (by decide +kernel) ⟨Nat.le_of_ble_eq_true rfl, Nat.le_of_ble_eq_true rfl⟩) (lc_WTV (q0 := 0) (ci := 1) (q := (RX1, TX1, 3)) hPc hKc hDc ((hZ.kept hS.2.1).narrow (fun q h => hF q h)) rfl rfl) rfl rfl hl.1 rfl (lv_room (Nat.le_of_ble_eq_true rfl)) dL_law_140 ⟨by show _ ≤ (601024 : Nat); omega, by show _ ≤ (7293034 : Nat); omega⟩) hS (fun q h => hF q h) (fun u H locs hp hP1 hK1 hD1 hz hk hS => ?_)
      obtain ⟨hP, hD⟩ := va_join (wr := [(h, .inr (0, [.ref q, .int (nI c0), .int (nI (lc_cnt g c0))])), (q, .inl (cA, Lx, .inl g)), (o, .inl (cJ, 1, .inr (.inl fo)))]) (w1 := [(hm, .inr (1, [.ref qm, .int (nI c0), .int 2])), (qm, .inl (cM, 20000, .inl r))]) hP hD [2, 3] [0, 1, 4] rfl rfl (by decide) (by decide) hk hF hP1 hD1
      have hK := (hK.sub (tys' := [(cA, .int), (cJ, .long)]) [0, 2] rfl).app hK1
      have hP := hP.sub (ws' := [(h, .inr (0, [.ref q, .int (nI c0), .int (nI (lc_cnt g c0))])), (q, .inl (cA, Lx, .inl g)), (hm, .inr (1, [.ref qm, .int (nI c0), .int 2])), (qm, .inl (cM, 20000, .inl r)), (o, .inl (cJ, 1, .inr (.inl fo)))]) [0, 1, 3, 4, 2] rfl
      have hD := hD.sub (ws' := [(h, .inr (0, [.ref q, .int (nI c0), .int (nI (lc_cnt g c0))])), (q, .inl (cA, Lx, .inl g)), (hm, .inr (1, [.ref qm, .int (nI c0), .int 2])), (qm, .inl (cM, 20000, .inl r)), (o, .inl (cJ, 1, .inr (.inl fo)))]) [0, 1, 3, 4, 2] (by decide) rfl
      have hK := hK.sub (tys' := [(cA, .int), (cM, .int), (cJ, .long)]) [0, 2, 1] rfl
      clear hz hk hPc hDc hKc hF hP1 hK1 hD1
      refine W.eq (g2 := F0 m 143 ls [.int 0]) rfl ?_
      refine lv_istore hx hb dL_law_143 hl (by decide) rfl (fun ls hl => ?_)
      have hl : lv_has ls 7 [(6, .int 0), (5, .int 2), (4, .int (nI (5 * t))), (0, .ref b), (1, .ref h), (2, .ref hm), (3, .ref o)] := hl
      refine lv_aload_n hx hb dL_law_145 rfl (lv_at hl 5 rfl) ?_
      refine lc_callR (W.runV (As := []) (rest := []) ⟨hx, hb, hml, hown, hts⟩ (m_thrown l D hm qm cM (nI c0) 2 r) (cwV 0 hts gL_law_X1_thrown rfl rfl rfl (by decide +kernel) ⟨Nat.le_of_ble_eq_true rfl, Nat.le_of_ble_eq_true rfl⟩) (lc_RdV (q0 := 0) (ci := 1) (q := (RX1, TX1, 3)) (hP.sub (ws' := [(hm, .inr (1, [.ref qm, .int (nI c0), .int 2])), (qm, .inl (cM, 20000, .inl r))]) [2, 3] rfl) (hK.sub (tys' := [(cM, .int)]) [1] rfl) rfl rfl) rfl rfl hl.1 rfl (lv_room (Nat.le_of_ble_eq_true rfl)) dL_law_146 ⟨by show _ ≤ (601024 : Nat); omega, by show _ ≤ (7293034 : Nat); omega⟩) ?_
      refine lv_iload hx hb dL_law_149 (lv_at hl 1 rfl) ?_
      refine lv_icmp_eq hx hb dL_law_151 (tgt := 156) rfl (fun _ => ?_) (fun hc => absurd (rfl) hc)
      refine lv_iload hx hb dL_law_156 (lv_at hl 1 rfl) ?_
      refine lv_if_ne hx hb dL_law_158 (tgt := 173) rfl (fun _ => ?_) (fun hc => absurd hc (by decide))
      refine lv_goto hx hb dL_law_173 (tgt := 451) rfl ?_
      have hl : lv_has ls 7 [(4, .int (nI (5 * t))), (0, .ref b), (1, .ref h), (2, .ref hm), (3, .ref o)] := lv_sub hl [2, 3, 4, 5, 6] rfl
      refine W.widen (k := 5 + 2 * (t + 1)) (n := 20519 + 12 * (t + 1) + pt) (by omega) (by omega) ?_
      exact next pt H locs ls ⟨q, cA, Lx, c0, g, qm, cM, 2, r, cJ, fo, hL5, hLx, hc0, heq, hpt, hP, hD, hK, hS⟩ hl
    · have hfit : c0 + k0 ≤ 20000 := by omega
      obtain ⟨hm1, hm2, hm3⟩ := lc_L_in hL5 hLx hfit (show c0 + k0 ≤ Lx + 500 by omega)
      have hpt1 := lc_pot hLx hfit hpt
      have hgr := lc_pot_le hpt hLx (m := c0 + k0)
      refine lv_aload_n hx hb dL_law_84 rfl (lv_at hl 2 rfl) ?_
      refine lv_aload_n hx hb dL_law_85 rfl (lv_at hl 1 rfl) ?_
      refine lv_iload hx hb dL_law_86 (lv_at hl 0 rfl) ?_
      refine lv_iconst (v := 1) hx hb dL_law_88 (by decide) ?_
      refine lv_iadd hx hb dL_law_89 ?_
      refine lc_top (y := nI (5 * t + 1)) (nI_add (5 * t) 1) ?_
      refine va_sld hx hb hX hbl hbA hS (vp_in_nI (show 5 * t + 1 < L by omega) (by omega)) dL_law_90 ?_
      refine lc_top (y := nI i0) ((congrArg xs (nI_clamp (by omega))).trans hp0) ?_
      refine lv_aload_n hx hb dL_law_91 rfl (lv_at hl 1 rfl) ?_
      refine lv_iload hx hb dL_law_92 (lv_at hl 0 rfl) ?_
      refine lv_iconst (v := 2) hx hb dL_law_94 (by decide) ?_
      refine lv_iadd hx hb dL_law_95 ?_
      refine lc_top (y := nI (5 * t + 2)) (nI_add (5 * t) 2) ?_
      refine va_sld hx hb hX hbl hbA hS (vp_in_nI (show 5 * t + 2 < L by omega) (by omega)) dL_law_96 ?_
      refine lc_top (y := p1) ((congrArg xs (nI_clamp (by omega))).trans hp1) ?_
      refine lv_aload_n hx hb dL_law_97 rfl (lv_at hl 1 rfl) ?_
      refine lv_iload hx hb dL_law_98 (lv_at hl 0 rfl) ?_
      refine lv_iconst (v := 3) hx hb dL_law_100 (by decide) ?_
      refine lv_iadd hx hb dL_law_101 ?_
      refine lc_top (y := nI (5 * t + 3)) (nI_add (5 * t) 3) ?_
      refine va_sld hx hb hX hbl hbA hS (vp_in_nI (show 5 * t + 3 < L by omega) (by omega)) dL_law_102 ?_
      refine lc_top (y := p2) ((congrArg xs (nI_clamp (by omega))).trans hp2) ?_
      refine lv_aload_n hx hb dL_law_103 rfl (lv_at hl 1 rfl) ?_
      refine lv_iload hx hb dL_law_104 (lv_at hl 0 rfl) ?_
      refine lv_iconst (v := 4) hx hb dL_law_106 (by decide) ?_
      refine lv_iadd hx hb dL_law_107 ?_
      refine lc_top (y := nI (5 * t + 4)) (nI_add (5 * t) 4) ?_
      refine va_sld hx hb hX hbl hbA hS (vp_in_nI (show 5 * t + 4 < L by omega) (by omega)) dL_law_108 ?_
      refine lc_top (y := nI k0) ((congrArg xs (nI_clamp (by omega))).trans hp3) ?_
      refine lv_aload_n hx hb dL_law_109 rfl (lv_at hl 4 rfl) ?_
      have hPc := hP.sub (ws' := [(h, .inr (0, [.ref q, .int (nI c0), .int (nI (lc_cnt g c0))])), (q, .inl (cA, Lx, .inl g)), (o, .inl (cJ, 1, .inr (.inl fo)))]) [0, 1, 4] rfl
      have hDc := hD.sub (ws' := [(h, .inr (0, [.ref q, .int (nI c0), .int (nI (lc_cnt g c0))])), (q, .inl (cA, Lx, .inl g)), (o, .inl (cJ, 1, .inr (.inl fo)))]) [0, 1, 4] (by decide) rfl
      have hKc := hK.sub (tys' := [(cA, .int), (cJ, .long)]) [0, 2] rfl
      have hF := va_free (wc := [(h, .inr (0, [.ref q, .int (nI c0), .int (nI (lc_cnt g c0))])), (q, .inl (cA, Lx, .inl g)), (o, .inl (cJ, 1, .inr (.inl fo)))]) hD hS hA [0, 1, 4] rfl
      refine lc_callW (vx_runSW (hh := [(0, 14, 17, 13), (0, 14, 21, 15)]) (As := [.ref h, .int (nI i0), .int p1, .int p2, .int (nI k0), .ref o]) (rest := []) ⟨hx, hb, hml, hown, hts⟩ (w_insert l D h q cA o cJ H.size fo Lx c0 g hL5 hLx hc0 i0 k0 p1 p2 hi0 hk0 hk5 hfit) (vx_cwSW 6 hts gL_law_L_insert rfl rfl rfl (by decide +kernel) ⟨Nat.le_of_ble_eq_true rfl, Nat.le_of_ble_eq_true rfl⟩) (lc_WrS hPc hKc hDc) rfl rfl hl.1 rfl (lv_room (Nat.le_of_ble_eq_true rfl)) dL_law_110 ⟨by show _ ≤ (601024 : Nat); omega, by show _ ≤ (7293034 : Nat); omega⟩) hS (fun q h => hF q h) (fun u H locs hp hP1 hK1 hD1 hz hk hS => ?_)
      obtain ⟨⟨q1, cA1, g1⟩, fo1⟩ := u
      dsimp only at hp hP1 hK1 hD1
      obtain ⟨hpg, hpf⟩ := hp
      obtain ⟨hP, hD⟩ := va_join (wr := [(hm, .inr (1, [.ref qm, .int (nI c0), .int th])), (qm, .inl (cM, 20000, .inl r))]) (w1 := [(h, .inr (0, [.ref q1, .int (nI (c0 + k0)), .int (nI (lc_cnt g1 (c0 + k0)))])), (q1, .inl (cA1, lc_L Lx (c0 + k0), .inl g1)), (o, .inl (cJ, 1, .inr (.inl fo1)))]) hP hD [0, 1, 4] [2, 3] rfl rfl (by decide) (by decide) hk hF hP1 hD1
      have hK := (hK.sub (tys' := [(cM, .int)]) [1] rfl).app hK1
      have hP := hP.sub (ws' := [(h, .inr (0, [.ref q1, .int (nI (c0 + k0)), .int (nI (lc_cnt g1 (c0 + k0)))])), (q1, .inl (cA1, lc_L Lx (c0 + k0), .inl g1)), (hm, .inr (1, [.ref qm, .int (nI c0), .int th])), (qm, .inl (cM, 20000, .inl r)), (o, .inl (cJ, 1, .inr (.inl fo1)))]) [2, 3, 0, 1, 4] rfl
      have hD := hD.sub (ws' := [(h, .inr (0, [.ref q1, .int (nI (c0 + k0)), .int (nI (lc_cnt g1 (c0 + k0)))])), (q1, .inl (cA1, lc_L Lx (c0 + k0), .inl g1)), (hm, .inr (1, [.ref qm, .int (nI c0), .int th])), (qm, .inl (cM, 20000, .inl r)), (o, .inl (cJ, 1, .inr (.inl fo1)))]) [2, 3, 0, 1, 4] (by decide) rfl
      have hK := hK.sub (tys' := [(cA1, .int), (cM, .int), (cJ, .long)]) [1, 0, 2] rfl
      clear hz hk hPc hDc hKc hF hP1 hK1 hD1
      refine W.eq (g2 := F0 m 113 ls [.int 0]) rfl ?_
      refine lv_istore hx hb dL_law_113 hl (by decide) rfl (fun ls hl => ?_)
      have hl : lv_has ls 7 [(5, .int 0), (4, .int (nI (5 * t))), (0, .ref b), (1, .ref h), (2, .ref hm), (3, .ref o)] := hl
      refine lv_aload_n hx hb dL_law_115 rfl (lv_at hl 4 rfl) ?_
      refine lv_aload_n hx hb dL_law_116 rfl (lv_at hl 2 rfl) ?_
      refine lv_iload hx hb dL_law_117 (lv_at hl 1 rfl) ?_
      refine lv_iconst (v := 1) hx hb dL_law_119 (by decide) ?_
      refine lv_iadd hx hb dL_law_120 ?_
      refine lc_top (y := nI (5 * t + 1)) (nI_add (5 * t) 1) ?_
      refine va_sld hx hb hX hbl hbA hS (vp_in_nI (show 5 * t + 1 < L by omega) (by omega)) dL_law_121 ?_
      refine lc_top (y := nI i0) ((congrArg xs (nI_clamp (by omega))).trans hp0) ?_
      refine lv_aload_n hx hb dL_law_122 rfl (lv_at hl 2 rfl) ?_
      refine lv_iload hx hb dL_law_123 (lv_at hl 1 rfl) ?_
      refine lv_iconst (v := 2) hx hb dL_law_125 (by decide) ?_
      refine lv_iadd hx hb dL_law_126 ?_
      refine lc_top (y := nI (5 * t + 2)) (nI_add (5 * t) 2) ?_
      refine va_sld hx hb hX hbl hbA hS (vp_in_nI (show 5 * t + 2 < L by omega) (by omega)) dL_law_127 ?_
      refine lc_top (y := p1) ((congrArg xs (nI_clamp (by omega))).trans hp1) ?_
      refine lv_aload_n hx hb dL_law_128 rfl (lv_at hl 2 rfl) ?_
      refine lv_iload hx hb dL_law_129 (lv_at hl 1 rfl) ?_
      refine lv_iconst (v := 3) hx hb dL_law_131 (by decide) ?_
      refine lv_iadd hx hb dL_law_132 ?_
      refine lc_top (y := nI (5 * t + 3)) (nI_add (5 * t) 3) ?_
      refine va_sld hx hb hX hbl hbA hS (vp_in_nI (show 5 * t + 3 < L by omega) (by omega)) dL_law_133 ?_
      refine lc_top (y := p2) ((congrArg xs (nI_clamp (by omega))).trans hp2) ?_
      refine lv_aload_n hx hb dL_law_134 rfl (lv_at hl 2 rfl) ?_
      refine lv_iload hx hb dL_law_135 (lv_at hl 1 rfl) ?_
      refine lv_iconst (v := 4) hx hb dL_law_137 (by decide) ?_
      refine lv_iadd hx hb dL_law_138 ?_
      refine lc_top (y := nI (5 * t + 4)) (nI_add (5 * t) 4) ?_
      refine va_sld hx hb hX hbl hbA hS (vp_in_nI (show 5 * t + 4 < L by omega) (by omega)) dL_law_139 ?_
      refine lc_top (y := nI k0) ((congrArg xs (nI_clamp (by omega))).trans hp3) ?_
      have hPc := hP.sub (ws' := [(hm, .inr (1, [.ref qm, .int (nI c0), .int th])), (qm, .inl (cM, 20000, .inl r))]) [2, 3] rfl
      have hDc := hD.sub (ws' := [(hm, .inr (1, [.ref qm, .int (nI c0), .int th])), (qm, .inl (cM, 20000, .inl r))]) [2, 3] (by decide) rfl
      have hKc := hK.sub (tys' := [(cM, .int)]) [1] rfl
      have hF := va_free (wc := [(hm, .inr (1, [.ref qm, .int (nI c0), .int th])), (qm, .inl (cM, 20000, .inl r))]) hD hS hA [2, 3] rfl
      refine lc_callW (vx_runVW (hh := [(5, 14, 15, 13), (5, 14, 25, 24)]) (As := [.int (nI i0), .int p1, .int p2, .int (nI k0)]) (rest := []) ⟨hx, hb, hml, hown, hts⟩ (m_insert l D hm qm cM H.size th c0 r i0 k0 p1 p2 hi0 hk0 hk5 hfit) (vx_cwVW 4 hts gL_law_X1_insert rfl rfl rfl (by decide +kernel) ⟨Nat.le_of_ble_eq_true rfl, Nat.le_of_ble_eq_true rfl⟩) (lc_WrV (q0 := 0) (ci := 1) (q := (RX1, TX1, 3)) hPc hKc hDc rfl rfl) rfl rfl hl.1 rfl (lv_room (Nat.le_of_ble_eq_true rfl)) dL_law_140 ⟨by show _ ≤ (601024 : Nat); omega, by show _ ≤ (7293034 : Nat); omega⟩) hS (fun q h => hF q h) (fun u H locs hp hP1 hK1 hD1 hz hk hS => ?_)
      obtain ⟨r1, hr1⟩ : ∃ z : Nat → Int32, z = u := ⟨u, rfl⟩
      rw [← hr1] at hp hP1 hD1
      have hpr := hp
      obtain ⟨hP, hD⟩ := va_join (wr := [(h, .inr (0, [.ref q1, .int (nI (c0 + k0)), .int (nI (lc_cnt g1 (c0 + k0)))])), (q1, .inl (cA1, lc_L Lx (c0 + k0), .inl g1)), (o, .inl (cJ, 1, .inr (.inl fo1)))]) (w1 := [(hm, .inr (1, [.ref qm, .int (nI (c0 + k0)), .int 0])), (qm, .inl (cM, 20000, .inl r1))]) hP hD [2, 3] [0, 1, 4] rfl rfl (by decide) (by decide) hk hF hP1 hD1
      have hK := (hK.sub (tys' := [(cA1, .int), (cJ, .long)]) [0, 2] rfl).app hK1
      have hP := hP.sub (ws' := [(h, .inr (0, [.ref q1, .int (nI (c0 + k0)), .int (nI (lc_cnt g1 (c0 + k0)))])), (q1, .inl (cA1, lc_L Lx (c0 + k0), .inl g1)), (hm, .inr (1, [.ref qm, .int (nI (c0 + k0)), .int 0])), (qm, .inl (cM, 20000, .inl r1)), (o, .inl (cJ, 1, .inr (.inl fo1)))]) [0, 1, 3, 4, 2] rfl
      have hD := hD.sub (ws' := [(h, .inr (0, [.ref q1, .int (nI (c0 + k0)), .int (nI (lc_cnt g1 (c0 + k0)))])), (q1, .inl (cA1, lc_L Lx (c0 + k0), .inl g1)), (hm, .inr (1, [.ref qm, .int (nI (c0 + k0)), .int 0])), (qm, .inl (cM, 20000, .inl r1)), (o, .inl (cJ, 1, .inr (.inl fo1)))]) [0, 1, 3, 4, 2] (by decide) rfl
      have hK := hK.sub (tys' := [(cA1, .int), (cM, .int), (cJ, .long)]) [0, 2, 1] rfl
      clear hz hk hPc hDc hKc hF hP1 hK1 hD1
      refine W.eq (g2 := F0 m 143 ls [.int (nI (c0 + k0))]) rfl ?_
      refine lv_istore hx hb dL_law_143 hl (by decide) rfl (fun ls hl => ?_)
      have hl : lv_has ls 7 [(6, .int (nI (c0 + k0))), (5, .int 0), (4, .int (nI (5 * t))), (0, .ref b), (1, .ref h), (2, .ref hm), (3, .ref o)] := hl
      refine lv_aload_n hx hb dL_law_145 rfl (lv_at hl 5 rfl) ?_
      refine lc_callR (W.runV (As := []) (rest := []) ⟨hx, hb, hml, hown, hts⟩ (m_thrown l D hm qm cM (nI (c0 + k0)) 0 r1) (cwV 0 hts gL_law_X1_thrown rfl rfl rfl (by decide +kernel) ⟨Nat.le_of_ble_eq_true rfl, Nat.le_of_ble_eq_true rfl⟩) (lc_RdV (q0 := 0) (ci := 1) (q := (RX1, TX1, 3)) (hP.sub (ws' := [(hm, .inr (1, [.ref qm, .int (nI (c0 + k0)), .int 0])), (qm, .inl (cM, 20000, .inl r1))]) [2, 3] rfl) (hK.sub (tys' := [(cM, .int)]) [1] rfl) rfl rfl) rfl rfl hl.1 rfl (lv_room (Nat.le_of_ble_eq_true rfl)) dL_law_146 ⟨by show _ ≤ (601024 : Nat); omega, by show _ ≤ (7293034 : Nat); omega⟩) ?_
      refine lv_iload hx hb dL_law_149 (lv_at hl 1 rfl) ?_
      refine lv_icmp_eq hx hb dL_law_151 (tgt := 156) rfl (fun _ => ?_) (fun hc => absurd (rfl) hc)
      refine lv_iload hx hb dL_law_156 (lv_at hl 1 rfl) ?_
      refine lv_if_ne hx hb dL_law_158 (tgt := 173) rfl (fun hc => absurd (rfl) hc) (fun _ => ?_)
      refine lv_aload_n hx hb dL_law_161 rfl (lv_at hl 6 rfl) ?_
      refine lv_iconst (v := 0) hx hb dL_law_162 (by decide) ?_
      refine va_lald (D := D) hx hb hK hP 4 2 rfl rfl (vp_in_nI (n := 0) (N := 1) (by decide) (by decide)) dL_law_163 ?_
      refine lc_topl (y := (nI (c0 + k0)).toInt64) ((congrArg fo1 sb_cl0).trans hpf) ?_
      refine lv_iload hx hb dL_law_164 (lv_at hl 0 rfl) ?_
      refine lv_i2l (v := (nI (c0 + k0)).toInt64) hx hb dL_law_166 rfl ?_
      refine W.lcmp hx hb dL_law_167 ?_
      refine lc_top (y := 0) (lc_cmp _) ?_
      refine lv_if_eq hx hb dL_law_168 (tgt := 173) rfl (fun _ => ?_) (fun hc => absurd (rfl) hc)
      refine lv_goto hx hb dL_law_173 (tgt := 451) rfl ?_
      have hl : lv_has ls 7 [(4, .int (nI (5 * t))), (0, .ref b), (1, .ref h), (2, .ref hm), (3, .ref o)] := lv_sub hl [2, 3, 4, 5, 6] rfl
      refine W.widen (k := 5 + 2 * (t + 1)) (n := 20519 + 12 * (t + 1) + (pt + lc_gr Lx (c0 + k0))) (by omega) (by omega) ?_
      exact next (pt + lc_gr Lx (c0 + k0)) H locs ls ⟨q1, cA1, (lc_L Lx (c0 + k0)), (c0 + k0), g1, qm, cM, 0, r1, cJ, fo1, (by omega), hm3, hm1, (fun j hj => by rw [hpr j hj, hpg j hj]; exact lc_ins_congr heq hi0 j hj), hpt1, hP, hD, hK, hS⟩ hl
end
section
set_option maxHeartbeats 4000000 in
set_option maxRecDepth 100000 in
theorem q_loop {p : Program} {l : Launch} {e : Env} {s : State} {m : MethodId} {below : List Frame} {meth : Method} {c : Code} {b L : Nat} {xs : Nat → Int32} (C0 : lw_At p s m meth c b L xs) (hst : l.stackTraces = false) (hL : L ≤ 2560) {D : va_G} (hZ : lc_TZ (fun q => s.heap.size ≤ q) s s.heap) {h hm o : Nat} : ∀ (k t pt : Nat) (H : Heap) (locs : List Loc) (ls : Array Slot), L < 5 * (t + k) + 5 → 5 * t ≤ L → lc_I D s H locs h hm o pt → lv_has ls 7 [(4, .int (nI (5 * t))), (0, .ref b), (1, .ref h), (2, .ref hm), (3, .ref o)] → W p l e room_1 s m #[Value.ref b] below meth c H locs (5 + 2 * t) (20519 + 12 * t + pt) (lw_Z below #[Value.ref b] s) (F0 m 23 ls []) := by
  intro k
  induction k with
  | zero =>
    intro t pt H locs ls hk ht hI hl
    have C1 := C0
    obtain ⟨hx, hb, hr, hml, hown, hts, hX, hbl, hlocks, hgv⟩ := C1
    have hI1 := hI
    obtain ⟨q, cA, Lx, c0, g, qm, cM, th, r, cJ, fo, hL5, hLx, hc0, heq, hpt, hP, hD, hK, hS⟩ := hI1
    have hA : ∀ q : Nat, s.heap.size ≤ q → (fun q => s.heap.size ≤ q) q := fun q h => h
    have hbA : ¬ (fun q => s.heap.size ≤ q) b := fun h => absurd hbl (Nat.not_lt.mpr h)
    refine lv_iload hx hb dL_law_23 (lv_at hl 0 rfl) ?_
    refine lv_aload_n hx hb dL_law_25 rfl (lv_at hl 1 rfl) ?_
    refine va_slen hx hb hX hbl hbA hS dL_law_26 ?_
    refine lc_top (y := nI L) rfl ?_
    refine lv_iconst (v := 5) hx hb dL_law_27 (by decide) ?_
    refine lv_isub hx hb dL_law_28 ?_
    refine lv_icmp_gt hx hb dL_law_29 (tgt := 457) rfl (fun _ => ?_) (fun hc => absurd (lc_exit (by omega) (by omega) (by omega)) hc)
    refine lv_iconst (v := 1) hx hb dL_law_457 (by decide) ?_
    refine va_forget (fun q hq => hS.2.2 q hq) ?_
    refine W.widen (k := 601024) (n := 7293034) (by omega) (by omega) ?_
    exact lw_ret hx hb hr hlocks dL_law_458
  | succ k ih =>
    intro t pt H locs ls hk ht hI hl
    have C1 := C0
    obtain ⟨hx, hb, hr, hml, hown, hts, hX, hbl, hlocks, hgv⟩ := C1
    have hI1 := hI
    obtain ⟨q, cA, Lx, c0, g, qm, cM, th, r, cJ, fo, hL5, hLx, hc0, heq, hpt, hP, hD, hK, hS⟩ := hI1
    have hA : ∀ q : Nat, s.heap.size ≤ q → (fun q => s.heap.size ≤ q) q := fun q h => h
    have hbA : ¬ (fun q => s.heap.size ≤ q) b := fun h => absurd hbl (Nat.not_lt.mpr h)
    refine lv_iload hx hb dL_law_23 (lv_at hl 0 rfl) ?_
    refine lv_aload_n hx hb dL_law_25 rfl (lv_at hl 1 rfl) ?_
    refine va_slen hx hb hX hbl hbA hS dL_law_26 ?_
    refine lc_top (y := nI L) rfl ?_
    refine lv_iconst (v := 5) hx hb dL_law_27 (by decide) ?_
    refine lv_isub hx hb dL_law_28 ?_
    by_cases hgo : 5 * t + 5 ≤ L
    · refine lv_icmp_gt hx hb dL_law_29 (tgt := 457) rfl (fun hc => absurd hc (lc_noexit hgo (by omega))) (fun _ => ?_)
      refine lv_aload_n hx hb dL_law_32 rfl (lv_at hl 1 rfl) ?_
      refine lv_iload hx hb dL_law_33 (lv_at hl 0 rfl) ?_
      refine va_sld hx hb hX hbl hbA hS (vp_in_nI (show 5 * t < L by omega) (by omega)) dL_law_35 ?_
      refine lc_top (y := xs (5 * t)) (congrArg xs (nI_clamp (by omega))) ?_
      refine lv_bipush (v := 7) hx hb dL_law_36 (by decide) ?_
      refine lv_iand hx hb dL_law_38 ?_
      obtain ⟨a, ha, hae⟩ := pk_andE (xs (5 * t)) (m := 7) 3 (by decide)
      refine lc_top (y := nI a) (hae) ?_
      have next : ∀ (pt : Nat) (H : Heap) (locs : List Loc) (ls : Array Slot), lc_I D s H locs h hm o pt → lv_has ls 7 [(4, .int (nI (5 * t))), (0, .ref b), (1, .ref h), (2, .ref hm), (3, .ref o)] → W p l e room_1 s m #[Value.ref b] below meth c H locs (5 + 2 * (t + 1)) (20519 + 12 * (t + 1) + pt) (lw_Z below #[Value.ref b] s) (F0 m 451 ls []) := by
        intro pt H locs ls hI hl
        refine lv_iinc (k := 0) (v := nI (5 * (t + 1))) hx hb dL_law_451 hl rfl ((nI_add (5 * t) 5).trans (congrArg nI (by omega))) (by decide) rfl (fun ls hl => ?_)
        have hl : lv_has ls 7 [(4, .int (nI (5 * (t + 1)))), (0, .ref b), (1, .ref h), (2, .ref hm), (3, .ref o)] := hl
        refine lv_goto hx hb dL_law_454 (tgt := 23) rfl ?_
        exact ih (t + 1) pt H locs ls (by omega) (by omega) hI hl
      have ha8 : a = 0 ∨ a = 1 ∨ a = 2 ∨ a = 3 ∨ a = 4 ∨ a = 5 ∨ a = 6 ∨ a = 7 := by omega
      rcases ha8 with rfl | rfl | rfl | rfl | rfl | rfl | rfl | rfl
      · refine lv_tableIn hx hb dL_law_39 (off := 45) (tgt := 84) (by decide) (by decide) (by decide) rfl ?_
        exact q_insert C0 hst hL hZ hgo next hI hl
      · refine lv_tableIn hx hb dL_law_39 (off := 137) (tgt := 176) (by decide) (by decide) (by decide) rfl ?_
        exact q_delete C0 hst hL hZ hgo next hI hl
      · refine lv_tableIn hx hb dL_law_39 (off := 205) (tgt := 244) (by decide) (by decide) (by decide) rfl ?_
        exact q_get C0 hst hL hZ hgo next hI hl
      · refine lv_tableIn hx hb dL_law_39 (off := 261) (tgt := 300) (by decide) (by decide) (by decide) rfl ?_
        exact q_length C0 hst hL hZ hgo next hI hl
      · refine lv_tableIn hx hb dL_law_39 (off := 274) (tgt := 313) (by decide) (by decide) (by decide) rfl ?_
        exact q_lines C0 hst hL hZ hgo next hI hl
      · refine lv_tableIn hx hb dL_law_39 (off := 287) (tgt := 326) (by decide) (by decide) (by decide) rfl ?_
        exact q_line C0 hst hL hZ hgo next hI hl
      · refine lv_tableIn hx hb dL_law_39 (off := 343) (tgt := 382) (by decide) (by decide) (by decide) rfl ?_
        exact q_lineOf C0 hst hL hZ hgo next hI hl
      · refine lv_tableIn hx hb dL_law_39 (off := 399) (tgt := 438) (by decide) (by decide) (by decide) rfl ?_
        exact q_digest C0 hst hL hZ hgo next hI hl
    · refine lv_icmp_gt hx hb dL_law_29 (tgt := 457) rfl (fun _ => ?_) (fun hc => absurd (lc_exit (by omega) (by omega) (by omega)) hc)
      refine lv_iconst (v := 1) hx hb dL_law_457 (by decide) ?_
      refine va_forget (fun q hq => hS.2.2 q hq) ?_
      refine W.widen (k := 601024) (n := 7293034) (by omega) (by omega) ?_
      exact lw_ret hx hb hr hlocks dL_law_458
set_option maxHeartbeats 4000000 in
set_option maxRecDepth 100000 in
theorem q_start {p : Program} {l : Launch} {e : Env} {s : State} {m : MethodId} {below : List Frame} {meth : Method} {c : Code} {b L : Nat} {xs : Nat → Int32} (C0 : lw_At p s m meth c b L xs) (hst : l.stackTraces = false) (hL : L ≤ 2560) {D : va_G} (hZ : lc_TZ (fun q => s.heap.size ≤ q) s s.heap) (hK : va_K D vwCl [] s) : W p l e room_1 s m #[Value.ref b] below meth c s.heap [] 0 0 (lw_Z below #[Value.ref b] s) (entryFrame m ([Value.ref b] : List Value).toArray 7) := by
  have C1 := C0
  obtain ⟨hx, hb, hr, hml, hown, hts, hX, hbl, hlocks, hgv⟩ := C1
  have hts : ∀ w ∈ wsL_law, w.before #[Value.ref b] s = true := fun w h => hts w (lc_lawin w h)
  have hA : ∀ q : Nat, s.heap.size ≤ q → (fun q => s.heap.size ≤ q) q := fun q h => h
  have hP : va_P D vwCl [] s.heap := fun k q h => by cases h
  have hD : va_D (fun q => s.heap.size ≤ q) [] := ⟨fun i j p q h => (by cases h), fun k q h => (by cases h)⟩
  have hS : va_S (fun q => s.heap.size ≤ q) s.heap s.heap [] := va_S.rf
  have hl := lv_entry ([.ref b]) (n := 7) (Nat.le_of_ble_eq_true rfl)
  rw [lg_entry_eq]
  generalize (lg_sl ([.ref b]) ++ List.replicate (7 - (lg_sl ([.ref b])).length) Slot.unset).toArray = ls at hl ⊢
  have hl : lv_has ls 7 [(0, .ref b)] := hl
  refine va_new (D := D) (ci := 0) (fs := [.null, .int 0, .int 0]) (C := RX0) (T := TX0) (N := 3) hx hb hts (fun w h => List.mem_cons_of_mem _ (lb_X0 w h)) tyX0 tyX0_ok hown (hts _ (List.mem_cons_of_mem _ lb_27)) (hts _ (List.mem_cons_of_mem _ lb_28)) (hts _ (List.mem_cons_of_mem _ lb_16)) hK hP hD hS hA rfl (fun j hj => by rcases (show j = 0 ∨ j = 1 ∨ j = 2 by omega) with rfl | rfl | rfl <;> rfl) (by show _ ≤ (601024 : Nat); omega) (by show _ ≤ (7293034 : Nat); omega) dL_law_0 (fun h H hP hD hS => ?_)
  have hP : va_P D vwCl [(h, .inr (0, [.null, .int 0, .int 0]))] H := hP
  have hD : va_D (fun q => s.heap.size ≤ q) [(h, .inr (0, [.null, .int 0, .int 0]))] := hD
  refine lv_dup hx hb dL_law_3 rfl ?_
  have hPc := hP.sub (ws' := [(h, .inr (0, [.null, .int 0, .int 0]))]) [0] rfl
  have hDc := hD.sub (ws' := [(h, .inr (0, [.null, .int 0, .int 0]))]) [0] (by decide) rfl
  have hKc := hK.sub (tys' := []) [] rfl
  have hF := va_free (wc := [(h, .inr (0, [.null, .int 0, .int 0]))]) hD hS hA [0] rfl
  refine lc_callW (va_runI (As := []) (rest := [.ref h]) ⟨hx, hb, hml, hown, hts⟩ (k_init l D h H.size) (cwI 0 hts gL_law_X0_init rfl rfl rfl (hts _ (List.mem_cons_of_mem _ lb_16)) (hts _ (List.mem_cons_of_mem _ lb_29)) (hts _ (List.mem_cons_of_mem _ lb_30)) rfl (by decide +kernel) ⟨Nat.le_of_ble_eq_true rfl, Nat.le_of_ble_eq_true rfl⟩) (lc_WrS hPc hKc hDc) rfl rfl hl.1 rfl (lv_room (Nat.le_of_ble_eq_true rfl)) dL_law_4 ⟨by show _ ≤ (601024 : Nat); omega, by show _ ≤ (7293034 : Nat); omega⟩) hS (fun q h => hF q h) (fun u H locs hp hP1 hK1 hD1 hz hk hS => ?_)
  obtain ⟨q, cA⟩ := u
  dsimp only at hP1 hK1 hD1
  obtain ⟨hP, hD⟩ := va_join (wr := []) (w1 := [(h, .inr (0, [.ref q, .int 0, .int 0])), (q, .inl (cA, 512, .inl (fun _ => 0)))]) hP hD [0] [] rfl rfl (by decide) (by decide) hk hF hP1 hD1
  have hK := hK.app hK1
  have hP : va_P D vwCl [(h, .inr (0, [.ref q, .int 0, .int 0])), (q, .inl (cA, 512, .inl (fun _ => 0)))] H := hP
  have hD : va_D (fun q => s.heap.size ≤ q) [(h, .inr (0, [.ref q, .int 0, .int 0])), (q, .inl (cA, 512, .inl (fun _ => 0)))] := hD
  have hK : va_K D vwCl [(cA, .int)] s := hK
  clear hPc hDc hKc hF hz hk hP1 hK1 hD1
  refine W.eq (g2 := F0 m 7 ls [.ref h]) rfl ?_
  refine lv_astore_n hx hb dL_law_7 rfl hl (by decide) rfl (fun ls hl => ?_)
  have hl : lv_has ls 7 [(1, .ref h), (0, .ref b)] := hl
  refine va_new (D := D) (ci := 1) (fs := [.null, .int 0, .int 0]) (C := RX1) (T := TX1) (N := 3) hx hb hts (fun w h => List.mem_cons_of_mem _ (lb_X1 w h)) tyX1 tyX1_ok hown (hts _ (List.mem_cons_of_mem _ lb_230)) (hts _ (List.mem_cons_of_mem _ lb_231)) (hts _ (List.mem_cons_of_mem _ lb_17)) hK hP hD hS hA rfl (fun j hj => by rcases (show j = 0 ∨ j = 1 ∨ j = 2 by omega) with rfl | rfl | rfl <;> rfl) (by show _ ≤ (601024 : Nat); omega) (by show _ ≤ (7293034 : Nat); omega) dL_law_8 (fun hm H hP hD hS => ?_)
  have hP : va_P D vwCl [(h, .inr (0, [.ref q, .int 0, .int 0])), (q, .inl (cA, 512, .inl (fun _ => 0))), (hm, .inr (1, [.null, .int 0, .int 0]))] H := hP
  have hD : va_D (fun q => s.heap.size ≤ q) [(h, .inr (0, [.ref q, .int 0, .int 0])), (q, .inl (cA, 512, .inl (fun _ => 0))), (hm, .inr (1, [.null, .int 0, .int 0]))] := hD
  refine lv_dup hx hb dL_law_11 rfl ?_
  have hPc := hP.sub (ws' := [(hm, .inr (1, [.null, .int 0, .int 0]))]) [2] rfl
  have hDc := hD.sub (ws' := [(hm, .inr (1, [.null, .int 0, .int 0]))]) [2] (by decide) rfl
  have hKc := hK.sub (tys' := []) [] rfl
  have hF := va_free (wc := [(hm, .inr (1, [.null, .int 0, .int 0]))]) hD hS hA [2] rfl
  refine lc_callW (va_runI (As := []) (rest := [.ref hm]) ⟨hx, hb, hml, hown, hts⟩ (m_init l D hm H.size) (cwI 0 hts gL_law_X1_init rfl rfl rfl (hts _ (List.mem_cons_of_mem _ lb_17)) (hts _ (List.mem_cons_of_mem _ lb_232)) (hts _ (List.mem_cons_of_mem _ lb_233)) rfl (by decide +kernel) ⟨Nat.le_of_ble_eq_true rfl, Nat.le_of_ble_eq_true rfl⟩) (lc_WrS hPc hKc hDc) rfl rfl hl.1 rfl (lv_room (Nat.le_of_ble_eq_true rfl)) dL_law_12 ⟨by show _ ≤ (601024 : Nat); omega, by show _ ≤ (7293034 : Nat); omega⟩) hS (fun q h => hF q h) (fun u H locs hp hP1 hK1 hD1 hz hk hS => ?_)
  obtain ⟨qm, cM⟩ := u
  dsimp only at hP1 hK1 hD1
  obtain ⟨hP, hD⟩ := va_join (wr := [(h, .inr (0, [.ref q, .int 0, .int 0])), (q, .inl (cA, 512, .inl (fun _ => 0)))]) (w1 := [(hm, .inr (1, [.ref qm, .int 0, .int 0])), (qm, .inl (cM, 20000, .inl (fun _ => 0)))]) hP hD [2] [0, 1] rfl rfl (by decide) (by decide) hk hF hP1 hD1
  have hK := hK.app hK1
  have hP : va_P D vwCl [(h, .inr (0, [.ref q, .int 0, .int 0])), (q, .inl (cA, 512, .inl (fun _ => 0))), (hm, .inr (1, [.ref qm, .int 0, .int 0])), (qm, .inl (cM, 20000, .inl (fun _ => 0)))] H := hP
  have hD : va_D (fun q => s.heap.size ≤ q) [(h, .inr (0, [.ref q, .int 0, .int 0])), (q, .inl (cA, 512, .inl (fun _ => 0))), (hm, .inr (1, [.ref qm, .int 0, .int 0])), (qm, .inl (cM, 20000, .inl (fun _ => 0)))] := hD
  have hK : va_K D vwCl [(cA, .int), (cM, .int)] s := hK
  clear hPc hDc hKc hF hz hk hP1 hK1 hD1
  refine W.eq (g2 := F0 m 15 ls [.ref hm]) rfl ?_
  refine lv_astore_n hx hb dL_law_15 rfl hl (by decide) rfl (fun ls hl => ?_)
  have hl : lv_has ls 7 [(2, .ref hm), (1, .ref h), (0, .ref b)] := hl
  refine lv_iconst (v := 1) hx hb dL_law_16 (by decide) ?_
  refine va_newa (D := D) (a0 := (1, .inr (.inl (fun _ => 0)))) (N' := 1) hx hb (atype := .long) (hts _ (List.mem_cons_of_mem _ lb_327)) rfl hK hP hD hS hA (fun _ => rfl) (by decide) (by decide) (by decide) (by show _ ≤ (601024 : Nat); omega) (by show _ ≤ (7293034 : Nat); omega) dL_law_17 (fun o cJ H hK hP hD hS => ?_)
  have hP : va_P D vwCl [(h, .inr (0, [.ref q, .int 0, .int 0])), (q, .inl (cA, 512, .inl (fun _ => 0))), (hm, .inr (1, [.ref qm, .int 0, .int 0])), (qm, .inl (cM, 20000, .inl (fun _ => 0))), (o, .inl (cJ, 1, .inr (.inl (fun _ => 0))))] H := hP
  have hD : va_D (fun q => s.heap.size ≤ q) [(h, .inr (0, [.ref q, .int 0, .int 0])), (q, .inl (cA, 512, .inl (fun _ => 0))), (hm, .inr (1, [.ref qm, .int 0, .int 0])), (qm, .inl (cM, 20000, .inl (fun _ => 0))), (o, .inl (cJ, 1, .inr (.inl (fun _ => 0))))] := hD
  have hK : va_K D vwCl [(cA, .int), (cM, .int), (cJ, .long)] s := hK
  refine lv_astore_n hx hb dL_law_19 rfl hl (by decide) rfl (fun ls hl => ?_)
  have hl : lv_has ls 7 [(3, .ref o), (2, .ref hm), (1, .ref h), (0, .ref b)] := hl
  refine lv_iconst (v := 0) hx hb dL_law_20 (by decide) ?_
  refine lv_istore hx hb dL_law_21 hl (by decide) rfl (fun ls hl => ?_)
  have hl : lv_has ls 7 [(4, .int 0), (3, .ref o), (2, .ref hm), (1, .ref h), (0, .ref b)] := hl
  have hl : lv_has ls 7 [(4, .int 0), (0, .ref b), (1, .ref h), (2, .ref hm), (3, .ref o)] := lv_sub hl [0, 4, 3, 2, 1] rfl
  refine W.widen (k := 5 + 2 * 0) (n := 20519 + 12 * 0 + 0) (by omega) (by omega) ?_
  exact q_loop C0 hst hL hZ L 0 0 H _ ls (by omega) (by omega) ⟨q, cA, 512, 0, (fun _ => 0), qm, cM, 0, (fun _ => 0), cJ, (fun _ => 0), by decide, by decide, by decide, fun j h => absurd h (Nat.not_lt_zero j), Or.inr ⟨by decide, by decide⟩, hP, hD, hK, hS⟩ hl
end
section
theorem lc_traces {l : Launch} (hf : l.flags = flags0) : l.stackTraces = false := by
  unfold Launch.stackTraces
  rw [hf]
  decide +kernel
/-- the tables' words and the given ones, at the law's entry -/
theorem q_given {s : State} {b : Nat} (hts : ∀ w ∈ lw_tbl, w.before #[Value.ref b] s = true) (hgv : (Jvm.Cond.and given_1 narrow_1).before #[Value.ref b] s = true) : lc_TZ (fun q => s.heap.size ≤ q) s s.heap := by
  have hs := flat_of_before _ hgv
  have hA : ∀ a : Nat, a < s.heap.size → ¬ (fun q => s.heap.size ≤ q) a := fun a h z => absurd h (Nat.not_lt.mpr z)
  refine ⟨vx_Zqof (hts (.laysStatic "java/lang/Throwable" "UNASSIGNED_STACK" "[Ljava/lang/StackTraceElement;") (List.mem_of_getElem? (i := 94) (by decide +kernel))) (hts (.initialized "java/lang/Throwable") (List.mem_of_getElem? (i := 18) (by decide +kernel))) (hs (.isRef (.static "java/lang/Throwable" "UNASSIGNED_STACK" "[Ljava/lang/StackTraceElement;")) (by decide +kernel)) hA,
    vx_Zqof (hts (.laysStatic "java/lang/Throwable" "SUPPRESSED_SENTINEL" "Ljava/util/List;") (List.mem_of_getElem? (i := 96) (by decide +kernel))) (hts (.initialized "java/lang/Throwable") (List.mem_of_getElem? (i := 18) (by decide +kernel))) (hs (.isRef (.static "java/lang/Throwable" "SUPPRESSED_SENTINEL" "Ljava/util/List;")) (by decide +kernel)) hA,
    va_Nw.of rfl (hts (.castable "java/lang/IllegalArgumentException" "java/lang/IllegalArgumentException") (List.mem_of_getElem? (i := 69) (by decide +kernel))),
    va_Nw.of rfl (hts (.castable "java/lang/IllegalStateException" "java/lang/IllegalStateException") (List.mem_of_getElem? (i := 132) (by decide +kernel))),
    va_Nw.of rfl (hts (.castable "java/util/NoSuchElementException" "java/util/NoSuchElementException") (List.mem_of_getElem? (i := 199) (by decide +kernel))),
    va_Nw.of rfl (hts (.declares ⟨"java/lang/RuntimeException", "<init>", "()V"⟩) (List.mem_of_getElem? (i := 70) (by decide +kernel))),
    va_Nw.of rfl (hts (.declares ⟨"java/lang/Exception", "<init>", "()V"⟩) (List.mem_of_getElem? (i := 72) (by decide +kernel))),
    va_Nw.of rfl (hts (.declares ⟨"java/lang/Throwable", "<init>", "()V"⟩) (List.mem_of_getElem? (i := 74) (by decide +kernel))),
    va_Nc.of (hs (.not (.castable "java/lang/IllegalStateException" "java/lang/IllegalArgumentException")) (by decide +kernel))⟩
theorem q_known {s : State} {b : Nat} (hts : ∀ w ∈ lw_tbl, w.before #[Value.ref b] s = true) : ∃ D : va_G, va_K D vwCl [] s := by
  have hts : ∀ w ∈ wsL_law, w.before #[Value.ref b] s = true := fun w h => hts w (lc_lawin w h)
  obtain ⟨c0, i0, h0⟩ := u_known hts (fun w h => List.mem_cons_of_mem _ (lb_X0 w h)) (hts (.instantiable RX0 3) (List.mem_cons_of_mem _ lb_28))
  obtain ⟨c1, i1, h1⟩ := u_known hts (fun w h => List.mem_cons_of_mem _ (lb_X1 w h)) (hts (.instantiable RX1 3) (List.mem_cons_of_mem _ lb_231))
  refine ⟨(fun k => if k = 0 then c0 else c1, fun k => if k = 0 then i0 else i1), fun k q hq => ?_, fun k q hk => by cases hk⟩
  match k, hq with
  | 0, hq => cases hq; exact h0
  | 1, hq => cases hq; exact h1
  | k + 2, hq => cases hq
theorem whole_start {p : Program} {e : Env} {s : State} {m : MethodId} {below : List Frame} {meth : Method} {c : Code} (l : Launch) (hst : l.stackTraces = false) {b L : Nat} {xs : Nat → Int32} (hL : L ≤ 2560) (C0 : lw_At p s m meth c b L xs) : W p l e room_1 s m #[Value.ref b] below meth c s.heap [] 0 0 (lw_Z below #[Value.ref b] s) (entryFrame m ([Value.ref b] : List Value).toArray 7) := by
  have C1 := C0
  obtain ⟨-, -, -, -, -, hts, -, -, -, hgv⟩ := C1
  obtain ⟨D, hK⟩ := q_known hts
  exact q_start C0 hst hL (q_given hts hgv) hK
set_option maxHeartbeats 4000000 in
theorem lw_walk (l : Launch) (hst : l.stackTraces = false) (b : Addr) (xs : List Int32) : MetFree l x (headSpec (Jvm.Cond.code x code maxLocals ret :: tables_1) room_1) (lw_P b xs) (fun _ _ _ _ _ => True) lw_Q := by
  refine MetFree.of_bodyS (code := code) (maxLocals := maxLocals) (ret := ret) (by decide) ?_ ?_
  · intro args s m h hn
    obtain ⟨meth, c, h1, h2, h3, h4, h5, h6, -, -⟩ := Cond.code_spec hn (atoms_spec (ws := Jvm.Cond.code x code maxLocals ret :: tables_1) h _ List.mem_cons_self)
    exact ⟨meth, c, h1, h2, h3, h4, h5, h6⟩
  · intro p e s m args below meth c s₁ B hml0 hP _
    obtain ⟨rfl, hx, hbd, hgv⟩ := hP
    obtain ⟨scr, harrAt, hlist, hof, hsmall⟩ := hx
    obtain ⟨hcb, hkn, -, -⟩ := State.arrayAt?_spec harrAt
    have hown : s.vm.findClass R_law = some m.cls := findClass_of_methodNamed B.named
    have hts0 : ∀ c ∈ (Jvm.Cond.code x code maxLocals ret :: tables_1), c.before #[Value.ref b] s = true := atoms_spec (ws := Jvm.Cond.code x code maxLocals ret :: tables_1) B.pre
    have hts : ∀ w ∈ lw_tbl, w.before #[Value.ref b] s = true := k2_hts_sels lw_privs (fun w hw => hts0 w (List.mem_cons_of_mem _ hw)) lw_privs_ok
    have hml : c.maxLocals = 7 := B.maxLocals_eq (hts0 _ List.mem_cons_self)
    have X₀ : Stand p l e room_1 s m #[Value.ref b] below meth c s₁ [] 0 0 := Stand.of_body B
    have hh0 : s₁.heap = s.heap := by rw [B.state]; rfl
    have hsz : scr.slots.size = xs.length := by rw [← Array.length_toList, hlist, List.length_map]
    have hval : ∀ j : Nat, j < xs.length → scr.slots[j]? = some (.int (xs.getD j 0)) := fun j hj => by
      rw [← Array.getElem?_toList, hlist]
      simp [hj]
    have hbl : b < s.heap.size := (Array.getElem?_eq_some_iff.mp hcb).1
    have hX : va_X b xs.length (fun j => xs.getD j 0) s s.heap := ⟨scr, hcb, hof, hkn, hsz, hval⟩
    have K : W p l e room_1 s m #[Value.ref b] below meth c s₁.heap [] 0 0 (lw_Z below #[Value.ref b] s) (entryFrame m ([Value.ref b] : List Value).toArray 7) := by
      rw [hh0]
      exact whole_start l hst hbd ⟨B.exec, B.bytes, B.returns, hml, hown, hts, hX, hbl, B.notSynchronized, hgv⟩
    obtain ⟨t, a1, o, b1, b2, b3⟩ := K s₁ rfl X₀
    exact ⟨t, o, a1, b1, b2, b3⟩
theorem lw_pre_spec {args : Array Value} {s : State} (h : (Jvm.Cond.and given_1 narrow_1).before args s = true) (hr : rest_1_c.before args s = true) : ∃ (b : Addr) (xs : List Int32), lw_P b xs args s := by
  have hs := flat_of_before _ h
  have hq := flat_of_before _ hr
  have hc : (Cond.count 1).before args s = true := hs _ (by decide +kernel)
  have harr : (Cond.arrayOf (.arg 0) .int).before args s = true := hs _ (by decide +kernel)
  have hle : (Cond.le (.length (.arg 0)) (.int 2560)).before args s = true := hs _ (by decide +kernel)
  have hlen : (Cond.isInt (.length (.arg 0))).before args s = true := hq _ (by decide +kernel)
  have hall : (Cond.all (.arg 0) (.isInt (.elem (.arg 0) (.index 0)))).before args s = true := hq _ (by decide +kernel)
  obtain ⟨b, xs, hb, hx⟩ := State.ints_of_pre rfl harr hlen hall
  have hsm : xs.length < 2 ^ 31 := hx.choose_spec.2.2.2
  have hev : (Term.length (.arg 0)).eval args s none [] s = some (.int xs.length.toInt32) := hx.length_eval hb
  have hv := Cond.le_ints hev (show (Term.int 2560).eval args s none [] s = some (.int 2560) from rfl)
  have hd : xs.length.toInt32 ≤ 2560 := by
    simpa [Cond.before, Cond.holds, hv] using hle
  have hN : xs.length ≤ 2560 := (Int32.ofNat_le_ofNat hsm (by decide)).mp (show Int32.ofNat xs.length ≤ Int32.ofNat 2560 from hd)
  exact ⟨b, xs, Cond.one_arg hc (show args[0]? = some (.ref b) from hb), hx, hN, h⟩
theorem lw_comes (l : Launch) (hst : l.stackTraces = false) : Comes l x (Jvm.Cond.code x code maxLocals ret :: tables_1) room_1 (fun tb e args s => Calls_1 tb e args s ∧ rest_1 tb e args s ∧ Pre_1 tb e args s)
    (fun _ _ args s o t => lw_Q args s o t) := by
  intro p e ha hc hk s m args below hf hfit hheap happ hpre
  obtain ⟨b, xs, hP⟩ := lw_pre_spec hpre.2.2 hpre.2.1
  obtain ⟨k, o, h1, h2, h3, hQ⟩ := lw_walk l hst b xs p e ha hc hk s m args below hf ((Spec.applies_iff_loose hf).mp happ).1 hP trivial
  exact ⟨k, o, h1, h2, h3, hQ⟩
theorem lw_frame {s t : State} {o : Outcome} {args : Array Value} (h : Framed s o t [] 601024 7293034) :
    Framed s o t (fieldLocs frame_1_writes args s ++ arrayLocs frame_1_arrays args s ++ staticLocs frame_1_statics s) 601024 7293034 := h
theorem lw_limb (L : Cond) (hL : ∀ (args : Array Value) (s t : State), L.after args s (.returned (some (.int 1))) t = true) :
    ArmFor flags0 classFile x code maxLocals ret World_1 tables_1 room_1 Calls_1 rest_1 Pre_1
      (fun tb e a s o t => postC L tb e a s o t ∧ Framed s o t (fieldLocs frame_1_writes a s ++ arrayLocs frame_1_arrays a s ++ staticLocs frame_1_statics s) 601024 7293034) := by
  intro l hfl _ _ p e ha hc hk s m args below hf hfit hheap happ hpre
  obtain ⟨k, o, h1, h2, h3, rfl, hF⟩ := lw_comes l (lc_traces hfl) p e ha hc hk s m args below hf hfit hheap happ hpre
  exact ⟨k, _, h1, h2, h3, hL args s _, lw_frame hF⟩
theorem i_vc : Claimed_1_1 ∧ Claimed_1_2 := ⟨lw_limb limb_1_1 (fun args s t => by simp [limb_1_1, Cond.after, Cond.holds, Cond.value]), lw_limb limb_1_2 (fun args s t => Cond.after_iff.mpr (by
  first | (rw [show limb_1_2 = Cond.eq .result (.int 1) from rfl, Cond.eq_ints (x := 1) (y := 1) rfl rfl]; simp; done) | (simp [limb_1_2, Cond.value, Term.eval]; done)))⟩
end
