section
-- ===== PART A: goes FIRST, ahead of the names: the tables' words, and 'selects' of the private methods out of them =====
/-- a private method of a class that the tables say can be made, by its rows of tables_1 -/
def lw_okq (q : MethodName × Nat) : Prop := (q.1.cls ≠ "java/lang/invoke/MethodHandle" ∧ q.1.cls ≠ "java/lang/invoke/VarHandle") ∧ Cond.instantiable q.1.cls q.2 ∈ tables_1 ∧ Cond.privateMethod q.1 ∈ tables_1 ∧ Cond.instanceMethod q.1 ∈ tables_1
theorem lw_p0 : lw_okq (⟨"Rackrail", "requireShelf", "(I)V"⟩, 4) := ⟨⟨by decide +kernel, by decide +kernel⟩, List.mem_of_getElem? (i := 13) (by decide +kernel), List.mem_of_getElem? (i := 115) (by decide +kernel), List.mem_of_getElem? (i := 116) (by decide +kernel)⟩
theorem lw_p1 : lw_okq (⟨"java/lang/Throwable", "fillInStackTrace", "(I)Ljava/lang/Throwable;"⟩, 6) := ⟨⟨by decide +kernel, by decide +kernel⟩, List.mem_of_getElem? (i := 160) (by decide +kernel), List.mem_of_getElem? (i := 158) (by decide +kernel), List.mem_of_getElem? (i := 159) (by decide +kernel)⟩
theorem lw_p2 : lw_okq (⟨"Rackrail", "requireBox", "(I)V"⟩, 4) := ⟨⟨by decide +kernel, by decide +kernel⟩, List.mem_of_getElem? (i := 13) (by decide +kernel), List.mem_of_getElem? (i := 250) (by decide +kernel), List.mem_of_getElem? (i := 251) (by decide +kernel)⟩
theorem lw_p3 : lw_okq (⟨"Rackrail", "requireOut", "(I)V"⟩, 4) := ⟨⟨by decide +kernel, by decide +kernel⟩, List.mem_of_getElem? (i := 13) (by decide +kernel), List.mem_of_getElem? (i := 259) (by decide +kernel), List.mem_of_getElem? (i := 260) (by decide +kernel)⟩
theorem lw_p4 : lw_okq (⟨"Rackrail$Store", "liesOn", "(II)Z"⟩, 6) := ⟨⟨by decide +kernel, by decide +kernel⟩, List.mem_of_getElem? (i := 21) (by decide +kernel), List.mem_of_getElem? (i := 277) (by decide +kernel), List.mem_of_getElem? (i := 278) (by decide +kernel)⟩
theorem lw_p5 : lw_okq (⟨"Rackrail$Store", "firstFreeSpot", "(I)I"⟩, 6) := ⟨⟨by decide +kernel, by decide +kernel⟩, List.mem_of_getElem? (i := 21) (by decide +kernel), List.mem_of_getElem? (i := 285) (by decide +kernel), List.mem_of_getElem? (i := 286) (by decide +kernel)⟩
theorem lw_p6 : lw_okq (⟨"Rackrail$Store", "countKin", "(II)I"⟩, 6) := ⟨⟨by decide +kernel, by decide +kernel⟩, List.mem_of_getElem? (i := 21) (by decide +kernel), List.mem_of_getElem? (i := 296) (by decide +kernel), List.mem_of_getElem? (i := 297) (by decide +kernel)⟩
theorem lw_p7 : lw_okq (⟨"Rackrail", "requireAisle", "(I)V"⟩, 4) := ⟨⟨by decide +kernel, by decide +kernel⟩, List.mem_of_getElem? (i := 13) (by decide +kernel), List.mem_of_getElem? (i := 322) (by decide +kernel), List.mem_of_getElem? (i := 323) (by decide +kernel)⟩
theorem lw_p8 : lw_okq (⟨"Rackrail", "requirePerson", "(I)V"⟩, 4) := ⟨⟨by decide +kernel, by decide +kernel⟩, List.mem_of_getElem? (i := 13) (by decide +kernel), List.mem_of_getElem? (i := 365) (by decide +kernel), List.mem_of_getElem? (i := 366) (by decide +kernel)⟩
theorem lw_p9 : lw_okq (⟨"Rackrail", "requireInside", "(I)V"⟩, 4) := ⟨⟨by decide +kernel, by decide +kernel⟩, List.mem_of_getElem? (i := 13) (by decide +kernel), List.mem_of_getElem? (i := 389) (by decide +kernel), List.mem_of_getElem? (i := 390) (by decide +kernel)⟩
theorem lw_p10 : lw_okq (⟨"Rackrail$Rail", "moveOne", "()V"⟩, 7) := ⟨⟨by decide +kernel, by decide +kernel⟩, List.mem_of_getElem? (i := 47) (by decide +kernel), List.mem_of_getElem? (i := 442) (by decide +kernel), List.mem_of_getElem? (i := 443) (by decide +kernel)⟩
theorem lw_p11 : lw_okq (⟨"Rackrail", "requireSpot", "(I)V"⟩, 4) := ⟨⟨by decide +kernel, by decide +kernel⟩, List.mem_of_getElem? (i := 13) (by decide +kernel), List.mem_of_getElem? (i := 522) (by decide +kernel), List.mem_of_getElem? (i := 523) (by decide +kernel)⟩
def lw_privs_1 : List (MethodName × Nat) := [(⟨"Rackrail", "requireShelf", "(I)V"⟩, 4), (⟨"java/lang/Throwable", "fillInStackTrace", "(I)Ljava/lang/Throwable;"⟩, 6), (⟨"Rackrail", "requireBox", "(I)V"⟩, 4), (⟨"Rackrail", "requireOut", "(I)V"⟩, 4), (⟨"Rackrail$Store", "liesOn", "(II)Z"⟩, 6), (⟨"Rackrail$Store", "firstFreeSpot", "(I)I"⟩, 6), (⟨"Rackrail$Store", "countKin", "(II)I"⟩, 6), (⟨"Rackrail", "requireAisle", "(I)V"⟩, 4), (⟨"Rackrail", "requirePerson", "(I)V"⟩, 4), (⟨"Rackrail", "requireInside", "(I)V"⟩, 4), (⟨"Rackrail$Rail", "moveOne", "()V"⟩, 7), (⟨"Rackrail", "requireSpot", "(I)V"⟩, 4)]
theorem lw_r1 : ∀ q ∈ lw_privs_1, lw_okq q := List.forall_mem_cons.mpr ⟨lw_p0, List.forall_mem_cons.mpr ⟨lw_p1, List.forall_mem_cons.mpr ⟨lw_p2, List.forall_mem_cons.mpr ⟨lw_p3, List.forall_mem_cons.mpr ⟨lw_p4, List.forall_mem_cons.mpr ⟨lw_p5, List.forall_mem_cons.mpr ⟨lw_p6, List.forall_mem_cons.mpr ⟨lw_p7, List.forall_mem_cons.mpr ⟨lw_p8, List.forall_mem_cons.mpr ⟨lw_p9, List.forall_mem_cons.mpr ⟨lw_p10, List.forall_mem_cons.mpr ⟨lw_p11, fun _ h => absurd h List.not_mem_nil⟩⟩⟩⟩⟩⟩⟩⟩⟩⟩⟩⟩
def lw_privs : List (MethodName × Nat) := lw_privs_1
def lw_tbl : List Cond := k2_sels lw_privs ++ tables_1
theorem lw_privs_ok : ∀ q ∈ lw_privs, lw_okq q := lw_r1
end
section
/-! ===== BEGIN words of one list among another's, by their places ===== -/
theorem goodIn_r {big : List Cond} (ws : List Cond) (ps : List Nat) (hp : ws = ps.filterMap (fun i => big[i]?)) (h : ws.all goodWord = true) : GoodIn big ws := by
  intro w hw
  have h1 := List.all_eq_true.mp h w hw
  rw [hp] at hw
  obtain ⟨i, -, hi⟩ := List.mem_filterMap.mp hw
  have hm : w ∈ big := by first | exact List.mem_of_getElem? hi | exact List.getElem?_mem hi
  exact ⟨hm, good_of_word h1⟩
theorem goodIn_app {big a b : List Cond} (ha : GoodIn big a) (hb : GoodIn big b) : GoodIn big (a ++ b) := fun w h => (List.mem_append.mp h).elim (ha w) (hb w)
theorem goodIn_ca {big a b : List Cond} {c : Cond} (ha : GoodIn big (c :: a)) (hb : GoodIn big b) : GoodIn big (c :: (a ++ b)) := fun w h => (List.mem_cons.mp h).elim (fun e => ha w (List.mem_cons.mpr (Or.inl e))) (fun h => (List.mem_append.mp h).elim (fun h => ha w (List.mem_cons.mpr (Or.inr h))) (hb w))
theorem goodIn_sub {big ws : List Cond} (hm : ∀ w ∈ ws, w ∈ big) (h : ws.all goodWord = true) : GoodIn big ws := fun w hw => ⟨hm w hw, good_of_word (List.all_eq_true.mp h w hw)⟩
/-! ===== END ===== -/

/-! ===== BEGIN exceptions that leave a method, and their catching by the caller (launches without stack traces) ===== -/
section VXA
/-! The laws vx_back, vx_callV, vx_callS, vx_callSW, vx_throw0, vx_throwS follow proofs of the library, with one case more: JvmDerived/Free/Laws.lean (Back.of_free), Shelf42/LK1.lean (callV, callS), Shelf/KitTraced.lean (throwNew0V, throwNewS). -/
/-- where a method has thrown q: the class by its name, the cell, what was written, the world -/
def vx_T (XC : String → State → State → Prop) (st : State) (q : Addr) (t : State) (mc ms : Nat) (free : Addr → Prop) : Prop :=
  ∃ (E : String) (ce : Cell) (L : List Loc), XC E st t ∧ t.heap[q]? = some ce ∧ ce.vm = .none ∧ st.vm.findClass E = some ce.cls ∧ st.WarmedH t.vm ∧ st.sameButNew ({ t with vm := st.vm } : State) L mc ms ∧ ∀ z ∈ L, free z.base
def vx_Q (Qc : Array Value → State → Outcome → State → Prop) (XC : String → State → State → Prop) (mc ms : Nat) (free : Addr → Prop) : Array Value → State → Outcome → State → Prop := fun a st o t =>
  (Qc a st o t ∧ ∃ L, FrameEnd st o t L mc ms ∧ ∀ q ∈ L, free q.base) ∨ ∃ q, o = .threw q ∧ vx_T XC st q t mc ms free
/-- a callee that returns or throws -/
def vx_Met (l : Launch) (y : MethodName) (ws : List Cond) (rm : Room) (Pc : Array Value → State → Prop) (Qc : Array Value → State → Outcome → State → Prop) (XC : String → State → State → Prop) (mc ms : Nat) (free : Addr → Prop) : Prop :=
  MetFree l y (headSpec ws rm) Pc (fun _ _ _ _ _ => True) (vx_Q Qc XC mc ms free)
def vx_Post (XC : String → State → State → Prop) (mc ms : Nat) (free : Addr → Prop) : Pt → Array Value → Addr → Pt → Prop := fun A a q B =>
  ∃ (g : JFrame) (mk : MethodId) (t : State) (L : List Loc) (E : String) (ce : Cell), B.U.heap = t.heap ∧ B.U.vm = t.vm ∧ XC E (A.U.calling g mk a) t ∧ t.heap[q]? = some ce ∧ ce.vm = .none ∧ A.U.vm.findClass E = some ce.cls ∧ B.locs = A.locs ++ L ∧ (∀ z ∈ L, free z.base) ∧ B.cells = A.cells + mc ∧ B.slots = A.slots + ms
def vx_Back (l : Launch) (R : Room) (p : Program) (e : Env) (below : List Frame) (s : State) (sargs : Array Value) (y : MethodName) (len W9 : Nat)
    (Pre : Pt → Array Value → Prop) (Post : Pt → Array Value → Option Value → Pt → Prop) (PostX : Pt → Array Value → Addr → Pt → Prop) : Prop :=
  ∀ (m : MethodId) (meth : Method) (c : Code) (A : Pt) (g : JFrame) (ig : Instr) (mk : MethodId) (a : Array Value),
    Stand p l e R s m sargs below meth c A.U A.locs A.cells A.slots → g.method = m → g.locals.size = c.maxLocals → decode c.code g.pc = .ok (ig, len) →
    2 * g.monitorRoom + (g.stack.map fun v => v.category).sum ≤ W9 → A.U.methodNamed? y = some mk → Pre A a →
    (∃ (v : Option Value) (B : Pt), Stand p l e R s m sargs below meth c B.U B.locs B.cells B.slots ∧ Post A a v B ∧
      Steps p.tables e below (doInvoke e (A.U.setTop g) [] mk a).1 (B.U.setTop { g with pc := g.pc + len, stack := v.toList ++ g.stack })) ∨
    (∃ (q : Addr) (B : Pt), Stand p l e R s m sargs below meth c B.U B.locs B.cells B.slots ∧ PostX A a q B ∧
      Steps p.tables e below (doInvoke e (A.U.setTop g) [] mk a).1 ((B.U.setTop g).pushFrame (.throwing q)))
section Payer
variable {l : Launch} {R : Room} {p : Program} {e : Env} {below : List Frame} {s : State} {sargs : Array Value} {y : MethodName} {len W9 : Nat}
theorem vx_back {ws : List Cond} {rm : Room} {Pc : Array Value → State → Prop} {Qc : Array Value → State → Outcome → State → Prop} {XC : String → State → State → Prop} {mc ms : Nat} {free : Addr → Prop} {bytes : ByteArray} {maxL : Nat} {ret : Option FieldType}
    (hM : vx_Met l y ws rm Pc Qc XC mc ms free) (hblind : FrameBlind Pc) (hrc : rm.cells = mc) (hrs : rm.slots = ms)
    (hframes : rm.frames + 1 ≤ R.frames) (hlocals : W9 + (maxL + 11) + rm.locals ≤ R.locals)
    (hws : ∀ w ∈ ws, ∀ a' U, s.WarmedH U.vm → w.before a' U = true) (hcode : Cond.code y bytes maxL ret ∈ ws) (hinit : ∀ a' U, s.WarmedH U.vm → (Cond.initialized y.cls).before a' U = true) :
    vx_Back l R p e below s sargs y len W9 (PreOf R mc ms Pc) (PostOf Qc mc ms free) (vx_Post XC mc ms free) := by
  intro m meth c A g ig mk a X hg hsize hdg hW hn hp
  have h1 : (headSpec ws rm).pre.before a A.U = true := atoms_intro fun w hw => hws w hw _ _ X.warmed
  have h2 : (Cond.code y bytes maxL ret).before a A.U = true := hws _ hcode _ _ X.warmed
  have h3 : (Cond.initialized y.cls).before a A.U = true := hinit _ _ X.warmed
  have h4 : A.cells + (headSpec ws rm).room.cells ≤ R.cells := by rw [show (headSpec ws rm).room.cells = mc from hrc]; exact hp.1
  have h5 : A.slots + (headSpec ws rm).room.slots ≤ R.slots := by rw [show (headSpec ws rm).room.slots = ms from hrs]; exact hp.2.1
  have hPc : Pc a (A.U.calling g mk a) := hblind _ _ _ _ hp.2.2
  obtain ⟨U, Ls, c0, s0⟩ := A
  dsimp only [Pt.U, Pt.locs, Pt.cells, Pt.slots] at h1 h2 h3 h4 h5 X hn hPc ⊢
  obtain ⟨methY, cY, hmY, hcY, -, hlY, -, -, -, -⟩ := Cond.code_spec hn h2
  obtain ⟨kY, hkY, -⟩ := className_of_methodNamed hn
  have hinitY : kY.init = .initialized := Cond.initialized_spec (findClass_of_methodNamed hn) hkY h3
  have h : At U g.method c below := by rw [hg]; exact X.here
  have hlocals9 : W9 + (maxL + 11) + (headSpec ws rm).room.locals ≤ R.locals := hlocals
  have happ : (headSpec ws rm).appliesLoose y e.platform (U.calling g mk a) = true :=
    Spec.appliesLoose_calling (g := g) h hdg hn hkY hinitY
      (X.room_calling (g := g) (R' := (headSpec ws rm).room) hsize hmY hcY hframes (by rw [hlY]; omega) h4 h5) h1
  obtain ⟨mid, hmid⟩ := h.above
  have hfr : (U.setTop g).frames = (.java g :: mid) ++ below := by rw [State.frames_setTop' g h.top, hmid]; rfl
  obtain ⟨o, s₂, hsteps, -, hend, hq⟩ := Steps.callFree hM p X.admits X.cas X.clock (acts := []) hfr happ hPc trivial
  have hq' : vx_Q Qc XC mc ms free a (U.calling g mk a) o s₂ := hq
  rw [State.frames_setTop' g h.top] at hend
  obtain ⟨g₀, hg0⟩ := Option.isSome_iff_exists.mp h.top
  obtain ⟨r, hr⟩ := State.topJava?_eq_some.mp hg0
  have hr' : (({ U with heap := s₂.heap, slotsUsed := s₂.slotsUsed } : State).setVm s₂.vm).frames = .java g₀ :: r := hr
  rcases hq' with ⟨hqc, L, hfe, hL⟩ | ⟨q, rfl, E, ce, L, hx, hce, hcv, hcl, hW₂, hsm, hL⟩
  · obtain ⟨⟨v, rfl⟩, hW₂, e2, q2, q3, q4, q5, q6⟩ := id hfe
    have e3 : s₂ = ({ (U.calling g mk a).setFrames s₂.frames with heap := s₂.heap, slotsUsed := s₂.slotsUsed } : State).setVm s₂.vm := by
      have : s₂ = ({ s₂ with vm := (U.calling g mk a).vm } : State).setVm s₂.vm := rfl
      rw [e2] at this
      exact this
    obtain ⟨c₂, i₂, len₂, hc₂, hd₂, hf₂⟩ := hend
    have hW' : U.WarmedH s₂.vm := hW₂
    have hcc : c₂ = c := by
      have h1 : s₂.code? g.method = U.code? g.method := by
        rw [State.code?_eq, State.code?_eq, hW'.alike.method?]
      exact Option.some.inj (hc₂.symm.trans (h1.trans h.code))
    subst hcc
    have hlen : len₂ = len := by rw [hdg] at hd₂; cases hd₂; rfl
    subst hlen
    have hs₂ : s₂ = (({ U with heap := s₂.heap, slotsUsed := s₂.slotsUsed } : State).setVm s₂.vm).setTop { g with pc := g.pc + len₂, stack := v.toList ++ g.stack } := by
      refine e3.trans ?_
      rw [hf₂, State.calling_eq h.top, State.setFrames_setFrames, State.setTop_of_frames _ hr', hr]
      rfl
    have hsame : U.sameButNew ({ U with heap := s₂.heap, slotsUsed := s₂.slotsUsed } : State) L mc ms := by
      refine ⟨?_, q2, q3, q4, q5, q6⟩
      obtain ⟨t, ht, -⟩ := State.frames_cons hr
      show ({ U with heap := s₂.heap, slotsUsed := s₂.slotsUsed } : State) = { U.setFrames U.frames with heap := s₂.heap, slotsUsed := s₂.slotsUsed }
      rw [State.setFrames_self ht]
    subst hg
    refine Or.inl ⟨v, ⟨(({ U with heap := s₂.heap, slotsUsed := s₂.slotsUsed } : State).setVm s₂.vm), Ls ++ L, c0 + mc, s0 + ms⟩,
      ⟨X.admits, X.cas, X.clock, X.frames, X.room, X.hears, X.method, X.code, (X.here.setHeapUsed s₂.heap s₂.slotsUsed).setVm hW'.alike, X.tail, State.WarmedH.trans X.warmed hW', X.limits, X.bytes, X.same.trans (hsame.setVm s.vm)⟩,
      ⟨g, mk, s₂, L, rfl, rfl, hqc, rfl, hL, rfl, rfl⟩, ?_⟩
    show Steps p.tables e below _ ((({ U with heap := s₂.heap, slotsUsed := s₂.slotsUsed } : State).setVm s₂.vm).setTop { g with pc := g.pc + len₂, stack := v.toList ++ g.stack })
    rw [← hs₂]
    exact hsteps
  · obtain ⟨e2, q2, q3, q4, q5, q6⟩ := id hsm
    have e3 : s₂ = ({ (U.calling g mk a).setFrames s₂.frames with heap := s₂.heap, slotsUsed := s₂.slotsUsed } : State).setVm s₂.vm := by
      have : s₂ = ({ s₂ with vm := (U.calling g mk a).vm } : State).setVm s₂.vm := rfl
      rw [e2] at this
      exact this
    have hf₂ : s₂.frames = .throwing q :: .java g :: U.frames.tail := hend
    have hW' : U.WarmedH s₂.vm := hW₂
    have hs₂ : s₂ = ((({ U with heap := s₂.heap, slotsUsed := s₂.slotsUsed } : State).setVm s₂.vm).setTop g).pushFrame (.throwing q) := by
      refine e3.trans ?_
      rw [hf₂, State.calling_eq h.top, State.setFrames_setFrames, State.pushFrame, State.frames_setTop _ hr', State.setTop_of_frames _ hr', State.setFrames_setFrames, hr]
      rfl
    have hsame : U.sameButNew ({ U with heap := s₂.heap, slotsUsed := s₂.slotsUsed } : State) L mc ms := by
      refine ⟨?_, q2, q3, q4, q5, q6⟩
      obtain ⟨t, ht, -⟩ := State.frames_cons hr
      show ({ U with heap := s₂.heap, slotsUsed := s₂.slotsUsed } : State) = { U.setFrames U.frames with heap := s₂.heap, slotsUsed := s₂.slotsUsed }
      rw [State.setFrames_self ht]
    subst hg
    refine Or.inr ⟨q, ⟨(({ U with heap := s₂.heap, slotsUsed := s₂.slotsUsed } : State).setVm s₂.vm), Ls ++ L, c0 + mc, s0 + ms⟩,
      ⟨X.admits, X.cas, X.clock, X.frames, X.room, X.hears, X.method, X.code, (X.here.setHeapUsed s₂.heap s₂.slotsUsed).setVm hW'.alike, X.tail, State.WarmedH.trans X.warmed hW', X.limits, X.bytes, X.same.trans (hsame.setVm s.vm)⟩,
      ⟨g, mk, s₂, L, E, ce, rfl, rfl, hx, hce, hcv, hcl, rfl, hL, rfl, rfl⟩, ?_⟩
    show Steps p.tables e below _ (((({ U with heap := s₂.heap, slotsUsed := s₂.slotsUsed } : State).setVm s₂.vm).setTop g).pushFrame (.throwing q))
    rw [← hs₂]
    exact hsteps
end Payer
section Calls
variable {p : Program} {l : Launch} {e : Env} {R : Room} {s : State} {m : MethodId} {args : Array Value} {below : List Frame} {meth : Method} {c : Code} {T : State} {locs : List Loc} {cells slots : Nat}
theorem vx_callV (X : Stand p l e R s m args below meth c T locs cells slots) (hexec : p.tables.exec = Jvm.exec) {own C : String} {index : Nat} {y : MethodName} {bytes : ByteArray} {maxL : Nat} {ret : Option FieldType}
    (hown : s.vm.findClass own = some m.cls) (hlink : (Cond.methodLink own index y).before args s = true) (hinst : (Cond.instanceMethod y).before args s = true) (hsel : (Cond.selects C y y).before args s = true)
    (hcode : (Cond.code y bytes maxL ret).before args s = true) (hy : y.cls ≠ "java/lang/invoke/MethodHandle" ∧ y.cls ≠ "java/lang/invoke/VarHandle")
    {W9 : Nat} {Pre : Pt → Array Value → Prop} {Post : Pt → Array Value → Option Value → Pt → Prop} {PostX : Pt → Array Value → Addr → Pt → Prop} (hK : vx_Back l R p e below s args y 3 W9 Pre Post PostX)
    {b : Addr} {cellB : Cell} (hcell : T.heap[b]? = some cellB) (hobj : cellB.vm.isStatics = false) (hcls : s.vm.findClass C = some cellB.cls)
    {g : JFrame} (hg : g.method = m) (hsize : g.locals.size = c.maxLocals) {argsL rest : List Value} (hlen : ∀ sig, parseMethodDescriptor y.desc = some sig → argsL.length = sig.parameters.length)
    (hstack : g.stack = argsL.reverse ++ .ref b :: rest) (hW : 2 * g.monitorRoom + (rest.map fun v => v.category).sum ≤ W9) (hdg : decode c.code g.pc = .ok (.invokevirtual index, 3))
    (hpre : ∀ vm₁, s.WarmedH vm₁ → Pre ⟨T.setVm vm₁, locs, cells, slots⟩ (Value.ref b :: argsL).toArray) :
    (∃ (v : Option Value) (vm₁ : Vm) (B : Pt), s.WarmedH vm₁ ∧ Stand p l e R s m args below meth c B.U B.locs B.cells B.slots ∧ Post ⟨T.setVm vm₁, locs, cells, slots⟩ (Value.ref b :: argsL).toArray v B ∧
      ∀ target, Steps p.tables e below (B.U.setTop { g with pc := g.pc + 3, stack := v.toList ++ rest }) target → Steps p.tables e below (T.setTop g) target) ∨
    (∃ (q : Addr) (vm₁ : Vm) (B : Pt), s.WarmedH vm₁ ∧ Stand p l e R s m args below meth c B.U B.locs B.cells B.slots ∧ PostX ⟨T.setVm vm₁, locs, cells, slots⟩ (Value.ref b :: argsL).toArray q B ∧
      Steps p.tables e below (T.setTop g) ((B.U.setTop { g with stack := rest }).pushFrame (.throwing q))) := by
  obtain ⟨mk, methM, hnamed, hmethM, hstM, habM⟩ := Cond.instanceMethod_spec hinst
  obtain ⟨methM', cM, hmethM', -, -, -, -, -, -, hsigM⟩ := Cond.code_spec hnamed hcode
  cases hmethM.symm.trans hmethM'
  obtain ⟨c2, r2, m2, q1, q2, q3, q4, kP, hkP, hkPi⟩ := Cond.selects_spec hsel
  cases hcls.symm.trans q1
  cases (State.methodFound?_of_named hnamed hy).symm.trans q2
  cases hnamed.symm.trans q3
  have hselP : selectMethod e.platform s.vm cellB.cls mk = .method mk := by rw [Launch.admits_selectMethod X.admits]; exact q4
  obtain ⟨vm₁, X₁, hstep₁⟩ := X.invokevirtual hexec hown hlink hnamed hmethM hstM hkP hkPi hy (a := b) (cell := cellB) hcell
    (fun z h => by rw [h] at hobj; cases hobj) hselP hmethM habM hkP hkPi (g := g) hg (argsL := argsL) (rest := rest) (hlen _ hsigM) hstack hdg
  rcases hK m meth c ⟨T.setVm vm₁, locs, cells, slots⟩ { g with stack := rest } (.invokevirtual index) mk (Value.ref b :: argsL).toArray X₁ hg hsize hdg hW (X₁.named hnamed) (hpre vm₁ X₁.warmed) with ⟨v, B, X', hpost, hsteps⟩ | ⟨q, B, X', hpost, hsteps⟩
  · exact Or.inl ⟨v, vm₁, B, X₁.warmed, X', hpost, fun target h => hstep₁ _ fun acts => by rw [doInvoke_state]; exact hsteps.trans h⟩
  · exact Or.inr ⟨q, vm₁, B, X₁.warmed, X', hpost, hstep₁ _ fun acts => by rw [doInvoke_state]; exact hsteps⟩
theorem vx_callS (X : Stand p l e R s m args below meth c T locs cells slots) (hexec : p.tables.exec = Jvm.exec) {own : String} {index : Nat} {y : MethodName} {bytes : ByteArray} {maxL : Nat} {ret : Option FieldType}
    (hown : s.vm.findClass own = some m.cls) (hlink : (Cond.methodLink own index y).before args s = true) (hstat : (Cond.static y).before args s = true) (hinit : (Cond.initialized y.cls).before args s = true)
    (hcode : (Cond.code y bytes maxL ret).before args s = true) (hy : y.cls ≠ "java/lang/invoke/MethodHandle" ∧ y.cls ≠ "java/lang/invoke/VarHandle")
    {W9 : Nat} {Pre : Pt → Array Value → Prop} {Post : Pt → Array Value → Option Value → Pt → Prop} {PostX : Pt → Array Value → Addr → Pt → Prop} (hK : vx_Back l R p e below s args y 3 W9 Pre Post PostX)
    {g : JFrame} (hg : g.method = m) (hsize : g.locals.size = c.maxLocals) {argsL rest : List Value} (hlen : ∀ sig, parseMethodDescriptor y.desc = some sig → argsL.length = sig.parameters.length)
    (hstack : g.stack = argsL.reverse ++ rest) (hW : 2 * g.monitorRoom + (rest.map fun v => v.category).sum ≤ W9) (hdg : decode c.code g.pc = .ok (.invokestatic index, 3))
    (hpre : ∀ vm₁, s.WarmedH vm₁ → Pre ⟨T.setVm vm₁, locs, cells, slots⟩ argsL.toArray) :
    (∃ (v : Option Value) (vm₁ : Vm) (B : Pt), s.WarmedH vm₁ ∧ Stand p l e R s m args below meth c B.U B.locs B.cells B.slots ∧ Post ⟨T.setVm vm₁, locs, cells, slots⟩ argsL.toArray v B ∧
      ∀ target, Steps p.tables e below (B.U.setTop { g with pc := g.pc + 3, stack := v.toList ++ rest }) target → Steps p.tables e below (T.setTop g) target) ∨
    (∃ (q : Addr) (vm₁ : Vm) (B : Pt), s.WarmedH vm₁ ∧ Stand p l e R s m args below meth c B.U B.locs B.cells B.slots ∧ PostX ⟨T.setVm vm₁, locs, cells, slots⟩ argsL.toArray q B ∧
      Steps p.tables e below (T.setTop g) ((B.U.setTop { g with stack := rest }).pushFrame (.throwing q))) := by
  obtain ⟨mk, hnamed⟩ := Cond.code_named hcode
  obtain ⟨methM, cM, hmethM, -, -, -, -, -, -, hsigM⟩ := Cond.code_spec hnamed hcode
  have hstatic : methM.isStatic = true := Cond.static_spec hnamed hmethM hstat
  obtain ⟨kP, hkP, -⟩ := className_of_methodNamed hnamed
  have hinitP : kP.init = .initialized := Cond.initialized_spec (findClass_of_methodNamed hnamed) hkP hinit
  obtain ⟨vm₁, X₁, hstep₁⟩ := X.invokestatic hexec hown hlink hnamed hmethM hstatic hkP hinitP hy (g := g) hg (argsL := argsL) (rest := rest) (hlen _ hsigM) hstack hdg
  rcases hK m meth c ⟨T.setVm vm₁, locs, cells, slots⟩ { g with stack := rest } (.invokestatic index) mk argsL.toArray X₁ hg hsize hdg hW (X₁.named hnamed) (hpre vm₁ X₁.warmed) with ⟨v, B, X', hpost, hsteps⟩ | ⟨q, B, X', hpost, hsteps⟩
  · exact Or.inl ⟨v, vm₁, B, X₁.warmed, X', hpost, fun target h => hstep₁ _ fun acts => by rw [doInvoke_state]; exact hsteps.trans h⟩
  · exact Or.inr ⟨q, vm₁, B, X₁.warmed, X', hpost, hstep₁ _ fun acts => by rw [doInvoke_state]; exact hsteps⟩
end Calls
theorem vx_cls {s : State} {T : State} {vm₁ : Vm} {E : String} {k : ClassId} (hW : s.WarmedH vm₁) (h : (T.setVm vm₁).vm.findClass E = some k) : s.vm.findClass E = some k := by
  have h1 : vm₁.findClass E = some k := h
  rw [hW.alike.findClass] at h1
  exact h1
/-- the method's frame g, with q thrown over it -/
def vx_W (p : Program) (l : Launch) (e : Env) (R : Room) (s : State) (m : MethodId) (args : Array Value) (below : List Frame) (meth : Method) (c : Code) (H : Heap) (locs : List Loc) (cells slots : Nat) (Q : State → Prop) (g : JFrame) (q : Addr) : Prop :=
  ∀ T : State, T.heap = H → Stand p l e R s m args below meth c T locs cells slots → ∃ t, Steps p.tables e below ((T.setTop g).pushFrame (.throwing q)) t ∧ Q t
def vx_Run (p : Program) (l : Launch) (e : Env) (R : Room) (s : State) (m : MethodId) (args : Array Value) (below : List Frame) (meth : Method) (c : Code) (H : Heap) (locs : List Loc) (cells slots mc ms : Nat) (g : JFrame) (rest : List Value) (Qa : State → Outcome → State → Prop) (XC : String → State → State → Prop) (free : Addr → Prop) : Prop :=
  ∀ T : State, T.heap = H → Stand p l e R s m args below meth c T locs cells slots →
    (∃ (v : Option Value) (st₀ t T' : State) (L : List Loc), st₀.heap = H ∧ Stand p l e R s m args below meth c T' (locs ++ L) (cells + mc) (slots + ms) ∧ (∀ q ∈ L, free q.base) ∧ T'.heap = t.heap ∧ T'.vm = t.vm ∧ Qa st₀ (.returned v) t ∧
      Goes p e below T g T' { g with pc := g.pc + 3, stack := v.toList ++ rest }) ∨
    (∃ (q : Addr) (st₀ t T' : State) (L : List Loc) (E : String) (ce : Cell), st₀.heap = H ∧ Stand p l e R s m args below meth c T' (locs ++ L) (cells + mc) (slots + ms) ∧ (∀ z ∈ L, free z.base) ∧ T'.heap = t.heap ∧ T'.vm = t.vm ∧ XC E st₀ t ∧ t.heap[q]? = some ce ∧ ce.vm = .none ∧ s.vm.findClass E = some ce.cls ∧
      Steps p.tables e below (T.setTop g) ((T'.setTop { g with stack := rest }).pushFrame (.throwing q)))
def vx_X {S : Type} (px : S → Prop) (B : String → S → State → Prop) (A : Nat → Prop) : String → State → State → Prop := fun E st t => ∃ u : S, px u ∧ B E u t ∧ va_F A st t
section Runs
variable {p : Program} {l : Launch} {e : Env} {R : Room} {s : State} {m : MethodId} {args : Array Value} {below : List Frame} {meth : Method} {c : Code} {H : Heap} {locs : List Loc} {cells slots : Nat}
variable {y : MethodName} {bytes cc : ByteArray} {maxL nL mc ms n index : Nat} {ret : Option FieldType} {ws : List Cond} {rm : Room} {Pc : Array Value → State → Prop} {Qc : Array Value → State → Outcome → State → Prop} {XC : String → State → State → Prop} {free : Addr → Prop} {Ts : List Cond} {own C : String} {b : Addr} {As rest : List Value} {g : JFrame}
theorem vx_callBack (cb : CallB R s args own index y bytes maxL ret ws rm mc ms n) (hM : vx_Met l y ws rm Pc Qc XC mc ms free) (hbl : FrameBlind Pc) : vx_Back l R p e below s args y 3 8 (PreOf R mc ms Pc) (PostOf Qc mc ms free) (vx_Post XC mc ms free) := by
  obtain ⟨hrc, hrs, hfr, hlo, hws, hcw, -, hini, -⟩ := cb
  exact vx_back (bytes := bytes) (maxL := maxL) (ret := ret) hM hbl hrc hrs hfr hlo hws hcw (fun a' U hW => word_at hW (Or.inl (by first | rfl | simp [Cond.onTables, Cond.keeps, Cond.steady])) hini)
theorem vx_runV (S : CallFix p m c cc nL s args Ts own) (hM : vx_Met l y ws rm Pc Qc XC mc ms free) (cw : CallW R s args own C index y bytes maxL ret ws rm mc ms n) (hp : PreV s H C b Pc As)
    (hg : g.method = m) (hn : As.length = n) (hsize : g.locals.size = nL) (hstack : g.stack = As.reverse ++ .ref b :: rest) (hW : 2 * g.monitorRoom + (rest.map fun v => v.category).sum ≤ 8) (hdg : decode cc g.pc = .ok (.invokevirtual index, 3)) (hf : cells + mc ≤ R.cells ∧ slots + ms ≤ R.slots) :
    vx_Run p l e R s m args below meth c H locs cells slots mc ms g rest (Qc (Value.ref b :: As).toArray) XC free := by
  have hK : vx_Back l R p e below s args y 3 8 (PreOf R mc ms Pc) (PostOf Qc mc ms free) (vx_Post XC mc ms free) := vx_callBack cw.1 hM hp.1
  obtain ⟨⟨-, -, -, -, -, -, hcode, -, hy, hlen, hl⟩, hin, hse⟩ := cw
  obtain ⟨hx, hb, hml, ho, -⟩ := S
  obtain ⟨-, ⟨cellB, hcB, hoB, hclB⟩, hPc⟩ := hp
  intro T hT X
  rcases vx_callV X hx (C := C) (bytes := bytes) (maxL := maxL) (ret := ret) ho hl hin hse hcode hy hK (by rw [hT]; exact hcB) hoB hclB hg (hsize.trans hml.symm) (argsL := As) (rest := rest) (fun sig h => hn.trans (hlen sig h)) hstack hW (by rw [hb]; exact hdg)
    (fun vm₁ hW₁ => ⟨hf.1, hf.2, hPc (T.setVm vm₁) hT hW₁⟩) with ⟨v, vm₁, ⟨U', l2, c2, s2⟩, hW₁, X', ⟨g', mk, t, L, e1, e2, hq, h1, hL, h2, h3⟩, st⟩ | ⟨q, vm₁, ⟨U', l2, c2, s2⟩, hW₁, X', ⟨g', mk, t, L, E, ce, e1, e2, hq, hce, hcv, hcl, h1, hL, h2, h3⟩, st⟩
  · dsimp only [Pt.U, Pt.locs, Pt.cells, Pt.slots] at X' e1 e2 h1 h2 h3 st
    subst h1; subst h2; subst h3
    exact Or.inl ⟨v, (T.setVm vm₁).calling g' mk (Value.ref b :: As).toArray, t, U', L, hT, X', hL, e1, e2, hq, st⟩
  · dsimp only [Pt.U, Pt.locs, Pt.cells, Pt.slots] at X' e1 e2 h1 h2 h3 st hcl
    subst h1; subst h2; subst h3
    exact Or.inr ⟨q, (T.setVm vm₁).calling g' mk (Value.ref b :: As).toArray, t, U', L, E, ce, hT, X', hL, e1, e2, hq, hce, hcv, vx_cls hW₁ hcl, st⟩
theorem vx_runS (S : CallFix p m c cc nL s args Ts own) (hM : vx_Met l y ws rm Pc Qc XC mc ms free) (cw : CallB R s args own index y bytes maxL ret ws rm mc ms n ∧ (Cond.static y).before args s = true) (hp : PreS s H Pc As)
    (hg : g.method = m) (hn : As.length = n) (hsize : g.locals.size = nL) (hstack : g.stack = As.reverse ++ rest) (hW : 2 * g.monitorRoom + (rest.map fun v => v.category).sum ≤ 8) (hdg : decode cc g.pc = .ok (.invokestatic index, 3)) (hf : cells + mc ≤ R.cells ∧ slots + ms ≤ R.slots) :
    vx_Run p l e R s m args below meth c H locs cells slots mc ms g rest (Qc As.toArray) XC free := by
  have hK : vx_Back l R p e below s args y 3 8 (PreOf R mc ms Pc) (PostOf Qc mc ms free) (vx_Post XC mc ms free) := vx_callBack cw.1 hM hp.1
  obtain ⟨⟨-, -, -, -, -, -, hcode, hini, hy, hlen, hl⟩, hstt⟩ := cw
  obtain ⟨hx, hb, hml, ho, -⟩ := S
  intro T hT X
  rcases vx_callS X hx (bytes := bytes) (maxL := maxL) (ret := ret) ho hl hstt hini hcode hy hK hg (hsize.trans hml.symm) (argsL := As) (rest := rest) (fun sig h => hn.trans (hlen sig h)) hstack hW (by rw [hb]; exact hdg)
    (fun vm₁ hW₁ => ⟨hf.1, hf.2, hp.2 (T.setVm vm₁) hT hW₁⟩) with ⟨v, vm₁, ⟨U', l2, c2, s2⟩, hW₁, X', ⟨g', mk, t, L, e1, e2, hq, h1, hL, h2, h3⟩, st⟩ | ⟨q, vm₁, ⟨U', l2, c2, s2⟩, hW₁, X', ⟨g', mk, t, L, E, ce, e1, e2, hq, hce, hcv, hcl, h1, hL, h2, h3⟩, st⟩
  · dsimp only [Pt.U, Pt.locs, Pt.cells, Pt.slots] at X' e1 e2 h1 h2 h3 st
    subst h1; subst h2; subst h3
    exact Or.inl ⟨v, (T.setVm vm₁).calling g' mk As.toArray, t, U', L, hT, X', hL, e1, e2, hq, st⟩
  · dsimp only [Pt.U, Pt.locs, Pt.cells, Pt.slots] at X' e1 e2 h1 h2 h3 st hcl
    subst h1; subst h2; subst h3
    exact Or.inr ⟨q, (T.setVm vm₁).calling g' mk As.toArray, t, U', L, E, ce, hT, X', hL, e1, e2, hq, hce, hcv, vx_cls hW₁ hcl, st⟩
end Runs
section Rows
variable {p : Program} {l : Launch} {e : Env} {R : Room} {s : State} {m : MethodId} {args : Array Value} {below : List Frame} {meth : Method} {c : Code} {H : Heap} {locs : List Loc} {cells slots : Nat} {Q : State → Prop}
variable {mc ms : Nat} {free : Addr → Prop} {A0 A1 : Nat → Prop} {H0 : Heap} {a : Array Value} {pc : Nat} {ls : Array Slot} {st0 rest : List Value}
theorem vx_keep {st₀ t T' : State} {L : List Loc} (h0 : st₀.heap = H) (e1 : T'.heap = t.heap) (hS : va_S A0 H0 H locs) (hA : ∀ q, q < H.size → A1 q → A0 q) (hf : ∀ q, free q → A0 q) (hL : ∀ q ∈ L, free q.base) (hF : va_F A1 st₀ t) :
    H.size ≤ T'.heap.size ∧ (∀ q : Nat, q < H.size → ¬ A1 q → T'.heap[q]? = H[q]?) ∧ va_S A0 H0 T'.heap (locs ++ L) := by
  obtain ⟨hz, hk⟩ := hF
  rw [h0] at hz hk
  exact ⟨by rw [e1]; exact hz, fun q h1 h2 => by rw [e1]; exact hk q h1 h2,
    ⟨Nat.le_trans hS.1 (by rw [e1]; exact hz), fun q h1 h2 => by rw [e1, hk q (Nat.lt_of_lt_of_le h1 hS.1) (fun z => h2 (hA q (Nat.lt_of_lt_of_le h1 hS.1) z))]; exact hS.2.1 q h1 h2, fun q hq => by
      rcases List.mem_append.mp hq with h | h
      · exact hS.2.2 q h
      · exact hf _ (hL q h)⟩⟩
theorem vx_calli {S SX : Type} {post : Int32 → S → Prop} {px : SX → Prop} {B : S → State → Prop} {BX : String → SX → State → Prop} {AX : Nat → Prop} (hr : vx_Run p l e R s m args below meth c H locs cells slots mc ms (F0 m pc ls st0) rest (va_Qi post B A1 a) (vx_X px BX AX) free) (hS : va_S A0 H0 H locs) (hA : ∀ q, q < H.size → A1 q → A0 q) (hf : ∀ q, free q → A0 q) (hAX : ∀ q, q < H.size → AX q → A0 q)
    (kx : ∀ (E : String) (ce : Cell) (q9 : Addr) (u : SX) (t : State) (H1 : Heap) (locs1 : List Loc), t.heap = H1 → s.vm.Alike t.vm → px u → BX E u t → H.size ≤ H1.size → (∀ q : Nat, q < H.size → ¬ AX q → H1[q]? = H[q]?) → va_S A0 H0 H1 locs1 → H1[q9]? = some ce → ce.vm = .none → s.vm.findClass E = some ce.cls → vx_W p l e R s m args below meth c H1 locs1 (cells + mc) (slots + ms) Q (F0 m pc ls rest) q9)
    (kk : ∀ (r : Int32) (u : S) (t : State) (H1 : Heap) (locs1 : List Loc), t.heap = H1 → s.vm.Alike t.vm → post r u → B u t → H.size ≤ H1.size → (∀ q : Nat, q < H.size → ¬ A1 q → H1[q]? = H[q]?) → va_S A0 H0 H1 locs1 → W p l e R s m args below meth c H1 locs1 (cells + mc) (slots + ms) Q (F0 m (pc + 3) ls (.int r :: rest))) : W p l e R s m args below meth c H locs cells slots Q (F0 m pc ls st0) := by
  intro T hT X
  rcases hr T hT X with ⟨v, st₀, t, T', L, h0, X', hL, e1, e2, ⟨⟨r, u, hv, hp, hb⟩, hF⟩, st⟩ | ⟨q, st₀, t, T', L, E, ce, h0, X', hL, e1, e2, ⟨u, hp, hb, hF⟩, hce, hcv, hcl, st⟩
  · cases hv
    obtain ⟨k1, k2, k3⟩ := vx_keep h0 e1 hS hA hf hL hF
    obtain ⟨t2, a1, b1⟩ := kk r u t T'.heap (locs ++ L) e1.symm (by rw [← e2]; exact X'.warmed.alike) hp hb k1 k2 k3 T' rfl X'
    exact ⟨t2, st t2 a1, b1⟩
  · obtain ⟨k1, k2, k3⟩ := vx_keep h0 e1 hS hAX hf hL hF
    obtain ⟨t2, a1, b1⟩ := kx E ce q u t T'.heap (locs ++ L) e1.symm (by rw [← e2]; exact X'.warmed.alike) hp hb k1 k2 k3 (by rw [e1]; exact hce) hcv hcl T' rfl X'
    exact ⟨t2, st.trans a1, b1⟩
theorem vx_calll {S SX : Type} {post : Int64 → S → Prop} {px : SX → Prop} {B : S → State → Prop} {BX : String → SX → State → Prop} {AX : Nat → Prop} (hr : vx_Run p l e R s m args below meth c H locs cells slots mc ms (F0 m pc ls st0) rest (va_Ql post B A1 a) (vx_X px BX AX) free) (hS : va_S A0 H0 H locs) (hA : ∀ q, q < H.size → A1 q → A0 q) (hf : ∀ q, free q → A0 q) (hAX : ∀ q, q < H.size → AX q → A0 q)
    (kx : ∀ (E : String) (ce : Cell) (q9 : Addr) (u : SX) (t : State) (H1 : Heap) (locs1 : List Loc), t.heap = H1 → s.vm.Alike t.vm → px u → BX E u t → H.size ≤ H1.size → (∀ q : Nat, q < H.size → ¬ AX q → H1[q]? = H[q]?) → va_S A0 H0 H1 locs1 → H1[q9]? = some ce → ce.vm = .none → s.vm.findClass E = some ce.cls → vx_W p l e R s m args below meth c H1 locs1 (cells + mc) (slots + ms) Q (F0 m pc ls rest) q9)
    (kk : ∀ (r : Int64) (u : S) (t : State) (H1 : Heap) (locs1 : List Loc), t.heap = H1 → s.vm.Alike t.vm → post r u → B u t → H.size ≤ H1.size → (∀ q : Nat, q < H.size → ¬ A1 q → H1[q]? = H[q]?) → va_S A0 H0 H1 locs1 → W p l e R s m args below meth c H1 locs1 (cells + mc) (slots + ms) Q (F0 m (pc + 3) ls (.long r :: rest))) : W p l e R s m args below meth c H locs cells slots Q (F0 m pc ls st0) := by
  intro T hT X
  rcases hr T hT X with ⟨v, st₀, t, T', L, h0, X', hL, e1, e2, ⟨⟨r, u, hv, hp, hb⟩, hF⟩, st⟩ | ⟨q, st₀, t, T', L, E, ce, h0, X', hL, e1, e2, ⟨u, hp, hb, hF⟩, hce, hcv, hcl, st⟩
  · cases hv
    obtain ⟨k1, k2, k3⟩ := vx_keep h0 e1 hS hA hf hL hF
    obtain ⟨t2, a1, b1⟩ := kk r u t T'.heap (locs ++ L) e1.symm (by rw [← e2]; exact X'.warmed.alike) hp hb k1 k2 k3 T' rfl X'
    exact ⟨t2, st t2 a1, b1⟩
  · obtain ⟨k1, k2, k3⟩ := vx_keep h0 e1 hS hAX hf hL hF
    obtain ⟨t2, a1, b1⟩ := kx E ce q u t T'.heap (locs ++ L) e1.symm (by rw [← e2]; exact X'.warmed.alike) hp hb k1 k2 k3 (by rw [e1]; exact hce) hcv hcl T' rfl X'
    exact ⟨t2, st.trans a1, b1⟩
theorem vx_callf {S SX : Type} {post : UInt32 → S → Prop} {px : SX → Prop} {B : S → State → Prop} {BX : String → SX → State → Prop} {AX : Nat → Prop} (hr : vx_Run p l e R s m args below meth c H locs cells slots mc ms (F0 m pc ls st0) rest (va_Qf post B A1 a) (vx_X px BX AX) free) (hS : va_S A0 H0 H locs) (hA : ∀ q, q < H.size → A1 q → A0 q) (hf : ∀ q, free q → A0 q) (hAX : ∀ q, q < H.size → AX q → A0 q)
    (kx : ∀ (E : String) (ce : Cell) (q9 : Addr) (u : SX) (t : State) (H1 : Heap) (locs1 : List Loc), t.heap = H1 → s.vm.Alike t.vm → px u → BX E u t → H.size ≤ H1.size → (∀ q : Nat, q < H.size → ¬ AX q → H1[q]? = H[q]?) → va_S A0 H0 H1 locs1 → H1[q9]? = some ce → ce.vm = .none → s.vm.findClass E = some ce.cls → vx_W p l e R s m args below meth c H1 locs1 (cells + mc) (slots + ms) Q (F0 m pc ls rest) q9)
    (kk : ∀ (r : UInt32) (u : S) (t : State) (H1 : Heap) (locs1 : List Loc), t.heap = H1 → s.vm.Alike t.vm → post r u → B u t → H.size ≤ H1.size → (∀ q : Nat, q < H.size → ¬ A1 q → H1[q]? = H[q]?) → va_S A0 H0 H1 locs1 → W p l e R s m args below meth c H1 locs1 (cells + mc) (slots + ms) Q (F0 m (pc + 3) ls (.float r :: rest))) : W p l e R s m args below meth c H locs cells slots Q (F0 m pc ls st0) := by
  intro T hT X
  rcases hr T hT X with ⟨v, st₀, t, T', L, h0, X', hL, e1, e2, ⟨⟨r, u, hv, hp, hb⟩, hF⟩, st⟩ | ⟨q, st₀, t, T', L, E, ce, h0, X', hL, e1, e2, ⟨u, hp, hb, hF⟩, hce, hcv, hcl, st⟩
  · cases hv
    obtain ⟨k1, k2, k3⟩ := vx_keep h0 e1 hS hA hf hL hF
    obtain ⟨t2, a1, b1⟩ := kk r u t T'.heap (locs ++ L) e1.symm (by rw [← e2]; exact X'.warmed.alike) hp hb k1 k2 k3 T' rfl X'
    exact ⟨t2, st t2 a1, b1⟩
  · obtain ⟨k1, k2, k3⟩ := vx_keep h0 e1 hS hAX hf hL hF
    obtain ⟨t2, a1, b1⟩ := kx E ce q u t T'.heap (locs ++ L) e1.symm (by rw [← e2]; exact X'.warmed.alike) hp hb k1 k2 k3 (by rw [e1]; exact hce) hcv hcl T' rfl X'
    exact ⟨t2, st.trans a1, b1⟩
theorem vx_calld {S SX : Type} {post : UInt64 → S → Prop} {px : SX → Prop} {B : S → State → Prop} {BX : String → SX → State → Prop} {AX : Nat → Prop} (hr : vx_Run p l e R s m args below meth c H locs cells slots mc ms (F0 m pc ls st0) rest (va_Qd post B A1 a) (vx_X px BX AX) free) (hS : va_S A0 H0 H locs) (hA : ∀ q, q < H.size → A1 q → A0 q) (hf : ∀ q, free q → A0 q) (hAX : ∀ q, q < H.size → AX q → A0 q)
    (kx : ∀ (E : String) (ce : Cell) (q9 : Addr) (u : SX) (t : State) (H1 : Heap) (locs1 : List Loc), t.heap = H1 → s.vm.Alike t.vm → px u → BX E u t → H.size ≤ H1.size → (∀ q : Nat, q < H.size → ¬ AX q → H1[q]? = H[q]?) → va_S A0 H0 H1 locs1 → H1[q9]? = some ce → ce.vm = .none → s.vm.findClass E = some ce.cls → vx_W p l e R s m args below meth c H1 locs1 (cells + mc) (slots + ms) Q (F0 m pc ls rest) q9)
    (kk : ∀ (r : UInt64) (u : S) (t : State) (H1 : Heap) (locs1 : List Loc), t.heap = H1 → s.vm.Alike t.vm → post r u → B u t → H.size ≤ H1.size → (∀ q : Nat, q < H.size → ¬ A1 q → H1[q]? = H[q]?) → va_S A0 H0 H1 locs1 → W p l e R s m args below meth c H1 locs1 (cells + mc) (slots + ms) Q (F0 m (pc + 3) ls (.double r :: rest))) : W p l e R s m args below meth c H locs cells slots Q (F0 m pc ls st0) := by
  intro T hT X
  rcases hr T hT X with ⟨v, st₀, t, T', L, h0, X', hL, e1, e2, ⟨⟨r, u, hv, hp, hb⟩, hF⟩, st⟩ | ⟨q, st₀, t, T', L, E, ce, h0, X', hL, e1, e2, ⟨u, hp, hb, hF⟩, hce, hcv, hcl, st⟩
  · cases hv
    obtain ⟨k1, k2, k3⟩ := vx_keep h0 e1 hS hA hf hL hF
    obtain ⟨t2, a1, b1⟩ := kk r u t T'.heap (locs ++ L) e1.symm (by rw [← e2]; exact X'.warmed.alike) hp hb k1 k2 k3 T' rfl X'
    exact ⟨t2, st t2 a1, b1⟩
  · obtain ⟨k1, k2, k3⟩ := vx_keep h0 e1 hS hAX hf hL hF
    obtain ⟨t2, a1, b1⟩ := kx E ce q u t T'.heap (locs ++ L) e1.symm (by rw [← e2]; exact X'.warmed.alike) hp hb k1 k2 k3 (by rw [e1]; exact hce) hcv hcl T' rfl X'
    exact ⟨t2, st.trans a1, b1⟩
theorem vx_callv {S SX : Type} {post : S → Prop} {px : SX → Prop} {B : S → State → Prop} {BX : String → SX → State → Prop} {AX : Nat → Prop} (hr : vx_Run p l e R s m args below meth c H locs cells slots mc ms (F0 m pc ls st0) rest (va_Qv post B A1 a) (vx_X px BX AX) free) (hS : va_S A0 H0 H locs) (hA : ∀ q, q < H.size → A1 q → A0 q) (hf : ∀ q, free q → A0 q) (hAX : ∀ q, q < H.size → AX q → A0 q)
    (kx : ∀ (E : String) (ce : Cell) (q9 : Addr) (u : SX) (t : State) (H1 : Heap) (locs1 : List Loc), t.heap = H1 → s.vm.Alike t.vm → px u → BX E u t → H.size ≤ H1.size → (∀ q : Nat, q < H.size → ¬ AX q → H1[q]? = H[q]?) → va_S A0 H0 H1 locs1 → H1[q9]? = some ce → ce.vm = .none → s.vm.findClass E = some ce.cls → vx_W p l e R s m args below meth c H1 locs1 (cells + mc) (slots + ms) Q (F0 m pc ls rest) q9)
    (kk : ∀ (u : S) (t : State) (H1 : Heap) (locs1 : List Loc), t.heap = H1 → s.vm.Alike t.vm → post u → B u t → H.size ≤ H1.size → (∀ q : Nat, q < H.size → ¬ A1 q → H1[q]? = H[q]?) → va_S A0 H0 H1 locs1 → W p l e R s m args below meth c H1 locs1 (cells + mc) (slots + ms) Q (F0 m (pc + 3) ls (rest))) : W p l e R s m args below meth c H locs cells slots Q (F0 m pc ls st0) := by
  intro T hT X
  rcases hr T hT X with ⟨v, st₀, t, T', L, h0, X', hL, e1, e2, ⟨⟨u, hv, hp, hb⟩, hF⟩, st⟩ | ⟨q, st₀, t, T', L, E, ce, h0, X', hL, e1, e2, ⟨u, hp, hb, hF⟩, hce, hcv, hcl, st⟩
  · cases hv
    obtain ⟨k1, k2, k3⟩ := vx_keep h0 e1 hS hA hf hL hF
    obtain ⟨t2, a1, b1⟩ := kk u t T'.heap (locs ++ L) e1.symm (by rw [← e2]; exact X'.warmed.alike) hp hb k1 k2 k3 T' rfl X'
    exact ⟨t2, st t2 a1, b1⟩
  · obtain ⟨k1, k2, k3⟩ := vx_keep h0 e1 hS hAX hf hL hF
    obtain ⟨t2, a1, b1⟩ := kx E ce q u t T'.heap (locs ++ L) e1.symm (by rw [← e2]; exact X'.warmed.alike) hp hb k1 k2 k3 (by rw [e1]; exact hce) hcv hcl T' rfl X'
    exact ⟨t2, st.trans a1, b1⟩
/-- caught by the row x of this method's table; the rows ahead don't take it -/
theorem vx_catch {own name : String} {E : String} {ce : Cell} {q : Addr} (hown : s.vm.findClass own = some m.cls) (pre : List ExceptionTableEntry) (x : ExceptionTableEntry) (suf : List ExceptionTableEntry) (hsplit : c.exceptionTable.toList = pre ++ x :: suf)
    (hpass : ∀ z ∈ pre, covers z pc = false ∨ (z.catchType ≠ 0 ∧ ∃ nm : String, (Cond.classLink own z.catchType nm).before args s = true ∧ va_Nc E nm s)) (hx : covers x pc = true) (h0 : x.catchType ≠ 0)
    (hlink : (Cond.classLink own x.catchType name).before args s = true) (hcast : (Cond.castable E name).before args s = true) (hcell : H[q]? = some ce) (hv : ce.vm = .none) (hcl : s.vm.findClass E = some ce.cls)
    (kk : W p l e R s m args below meth c H locs cells slots Q (F0 m x.handlerPc ls [.ref q])) : vx_W p l e R s m args below meth c H locs cells slots Q (F0 m pc ls rest) q := by
  intro T hT X
  have hpl : e.platform.magicAccessors = ({} : Platform).magicAccessors := by rw [X.admits.platform]
  obtain ⟨c3, c4, hc3, hc4, hasg⟩ := Cond.castable_spec hcast
  cases Option.some.inj (hc3.symm.trans hcl)
  obtain ⟨c5, hc5, hcl5⟩ := Cond.classLink_spec hown hlink e.platform hpl
  cases Option.some.inj (hc4.symm.trans hc5)
  obtain ⟨vm', X', st⟩ := X.thenCaughtThrough q (g := F0 m pc ls rest) rfl (Steps.refl _) (by rw [hT]; exact hcell) (by rw [hv]; rfl) (by obtain ⟨k9, h9, -⟩ := Vm.findClass_spec hcl; exact ⟨k9, h9⟩) pre x suf hsplit
    (fun z hz => by
      rcases hpass z hz with h | ⟨hz0, nm, hl1, hn1⟩
      · exact Or.inl h
      · obtain ⟨c6, hc6, hcl6⟩ := Cond.classLink_spec hown hl1 e.platform hpl
        obtain ⟨a8, b8, h1, h2, h3⟩ := hn1
        cases Option.some.inj (h1.symm.trans hcl)
        cases Option.some.inj (h2.symm.trans hc6)
        exact Or.inr ⟨hz0, _, hcl6, h3⟩) hx (Or.inr ⟨h0, c4, hcl5, hasg⟩)
  obtain ⟨t, a1, b1⟩ := kk (T.setVm vm') hT X'
  exact ⟨t, st.trans a1, b1⟩
end Rows
section Ends
variable {p : Program} {l : Launch} {e : Env} {R : Room} {s : State} {m : MethodId} {args : Array Value} {below : List Frame} {meth : Method} {c : Code} {H : Heap} {locs : List Loc} {cells slots : Nat} {Q : State → Prop}
variable {mc ms : Nat} {free : Addr → Prop} {A0 A1 : Nat → Prop} {H0 : Heap} {a : Array Value} {ls : Array Slot} {st0 rest : List Value}
variable {Qc : Array Value → State → Outcome → State → Prop} {XC : String → State → State → Prop}
/-- what a body that may throw owes at its end -/
def vx_MQ (below : List Frame) (Qc : Array Value → State → Outcome → State → Prop) (XC : String → State → State → Prop) (a : Array Value) (s : State) (mc ms : Nat) (free : Addr → Prop) : State → Prop := fun t =>
  ∃ o, t.status = .running ∧ Ended t below o ∧ vx_Q Qc XC mc ms free a s o t
theorem vx_ret {g : JFrame} {mc ms : Nat} (k : W p l e R s m args below meth c H locs cells slots (MQ below Qc args s mc ms free) g) : W p l e R s m args below meth c H locs cells slots (vx_MQ below Qc XC args s mc ms free) g := by
  intro T hT X
  obtain ⟨t, a1, o, b1, b2, b3, b4⟩ := k T hT X
  exact ⟨t, a1, o, b1, b2, Or.inl ⟨b3, b4⟩⟩
/-- not caught here: it goes on to the caller -/
theorem vx_widen {g : JFrame} {q : Addr} {k n : Nat} (h1 : cells ≤ k) (h2 : slots ≤ n) (kk : vx_W p l e R s m args below meth c H locs k n Q g q) : vx_W p l e R s m args below meth c H locs cells slots Q g q := fun T hT X => kk T hT (stand_widen X h1 h2)
theorem vx_out {pc : Nat} {E : String} {ce : Cell} {q : Addr} {mc ms : Nat} (hout : ∀ x ∈ c.exceptionTable.toList, covers x pc = false) (hlocks : meth.locks = false) (hcell : H[q]? = some ce) (hv : ce.vm = .none) (hcl : s.vm.findClass E = some ce.cls)
    (hx : ∀ t : State, t.heap = H → s.vm.Alike t.vm → XC E s t) (hf : ∀ z ∈ locs, free z.base) (hc : cells ≤ mc) (hs : slots ≤ ms) :
    vx_W p l e R s m args below meth c H locs cells slots (vx_MQ below Qc XC args s mc ms free) (F0 m pc ls rest) q := by
  intro T hT X
  obtain ⟨st1, hrun, hend, hW, hsm⟩ := X.leaveThrown q (g := F0 m pc ls rest) rfl rfl rfl hout hlocks
  have hcell9 : (T.setFrames (.throwing q :: below)).heap[q]? = some ce := by
    show T.heap[q]? = some ce
    rw [hT]; exact hcell
  exact ⟨_, st1, .threw q, hrun, hend, Or.inr ⟨q, rfl, E, ce, locs, hx _ hT hW.alike, hcell9, hv, hcl, hW, hsm.mono hc hs, hf⟩⟩
theorem vx_frame {U : State} {k n : Nat} (h : s.sameButNew ({ U with vm := s.vm } : State) locs k n) : s.heap.size ≤ U.heap.size ∧ ∀ q : Nat, q < s.heap.size → (∀ z ∈ locs, z.base ≠ q) → U.heap[q]? = s.heap[q]? := by
  obtain ⟨-, h2, -, -, -, h6⟩ := h
  refine ⟨h2, fun q hq hz => ?_⟩
  obtain ⟨c9, e1, e2, e3, e4⟩ := h6 q _ (Array.getElem?_eq_getElem hq)
  have hs : c9.slots = (s.heap[q]).slots := Array.ext_getElem? fun i => e4 i fun hm => hz _ hm rfl
  have h9 : c9 = s.heap[q] := by
    rw [hs] at e2
    exact e2
  have e5 : U.heap[q]? = some c9 := e1
  rw [e5, h9, Array.getElem?_eq_getElem hq]
/-- the words of a throw but the four that speak of the heap -/
def vx_no (w : Cond) : Bool := decide (w ≠ .isRef (.static Bundle.tN "UNASSIGNED_STACK" Bundle.steD)) && decide (w ≠ .isRef (.static Bundle.tN "SUPPRESSED_SENTINEL" Bundle.listD)) && decide (w ≠ .laysStatic Bundle.tN "UNASSIGNED_STACK" Bundle.steD) && decide (w ≠ .laysStatic Bundle.tN "SUPPRESSED_SENTINEL" Bundle.listD)
def vx_at0 (own : String) (ic : Nat) (X : String) (names : List String) : List Cond := (Bundle.ownAtoms0 own ic X names).filter vx_no
def vx_atS (own : String) (ic : Nat) (X : String) (names : List String) : List Cond := (Bundle.ownAtoms own ic X names).filter vx_no
/-- a word that the tables alone decide, or a good one -/
def vx_ot (w : Cond) : Bool := w.onTables || goodWord w
theorem vx_ot_at {args a' : Array Value} {s U : State} {w : Cond} (hW : s.WarmedH U.vm) (hvm : s.vm = U.vm) (hg : vx_ot w = true) (h : w.before args s = true) : w.before a' U = true := by
  simp only [vx_ot, Bool.or_eq_true] at hg
  rcases hg with hg | hg
  · exact va_tabs hg hvm h
  · exact word_at hW (good_of_word hg) h
/-- a list's words: the good ones out of the method's own list, the others by premises of their own -/
theorem vx_hat {args : Array Value} {s : State} {L B : List Cond} (h1 : ∀ w ∈ L.filter goodWord, w.before args s = true) (h2 : ∀ w ∈ L.filter (fun w => !goodWord w), w ∈ B) (h3 : ∀ w ∈ B, w.before args s = true) : ∀ w ∈ L, w.before args s = true := by
  intro w hw
  by_cases g : goodWord w = true
  · exact h1 w (List.mem_filter.mpr ⟨hw, g⟩)
  · refine h3 w (h2 w (List.mem_filter.mpr ⟨hw, ?_⟩))
    show (!goodWord w) = true
    cases hgw : goodWord w
    · rfl
    · exact absurd hgw g
theorem vx_c {args : Array Value} {s : State} {w : Cond} {B : List Cond} (h : w.before args s = true) (t : ∀ w ∈ B, w.before args s = true) : ∀ w' ∈ w :: B, w'.before args s = true := fun w' h' => (List.mem_cons.mp h').elim (fun e => by rw [e]; exact h) (t w')
theorem vx_n {args : Array Value} {s : State} : ∀ w ∈ ([] : List Cond), w.before args s = true := fun _ h => nomatch h
theorem vx_own {args : Array Value} {s : State} {L : List Cond} (h1 : ∀ w ∈ L.filter vx_no, w.before args s = true)
    (hU : (Cond.isRef (.static Bundle.tN "UNASSIGNED_STACK" Bundle.steD)).before args s = true) (hN : (Cond.isRef (.static Bundle.tN "SUPPRESSED_SENTINEL" Bundle.listD)).before args s = true)
    (lU : (Cond.laysStatic Bundle.tN "UNASSIGNED_STACK" Bundle.steD).before args s = true) (lN : (Cond.laysStatic Bundle.tN "SUPPRESSED_SENTINEL" Bundle.listD).before args s = true) : ∀ w ∈ L, w.before args s = true := by
  intro w hw
  by_cases e1 : w = .isRef (.static Bundle.tN "UNASSIGNED_STACK" Bundle.steD)
  · rw [e1]; exact hU
  · by_cases e2 : w = .isRef (.static Bundle.tN "SUPPRESSED_SENTINEL" Bundle.listD)
    · rw [e2]; exact hN
    · by_cases e3 : w = .laysStatic Bundle.tN "UNASSIGNED_STACK" Bundle.steD
      · rw [e3]; exact lU
      · by_cases e4 : w = .laysStatic Bundle.tN "SUPPRESSED_SENTINEL" Bundle.listD
        · rw [e4]; exact lN
        · exact h1 w (List.mem_filter.mpr ⟨hw, by unfold vx_no; rw [decide_eq_true e1, decide_eq_true e2, decide_eq_true e3, decide_eq_true e4]; rfl⟩)
/-- where a static field lies, its class's statics cell in H -/
def vx_L (C n d : String) (A : Nat → Prop) (U : State) (H : Heap) : Prop := ∃ (c : ClassId) (k : Class) (i : Nat) (f : Field) (a : Nat) (cell : Cell), U.vm.findClass C = some c ∧ U.fieldFound? C n d = some (c, k, i, f) ∧ f.isStatic = true ∧ k.statics = some a ∧ H[a]? = some cell ∧ cell.vm.isStatics = true ∧ cell.cls = c ∧ f.slot < cell.slots.size ∧ k.staticTypes[f.slot]? = some f.type ∧ ¬ A a
theorem vx_L.moved {C n d : String} {A : Nat → Prop} {u U : State} {H : Heap} (hvm : u.vm.Alike U.vm) (h : vx_L C n d A u H) : vx_L C n d A U H := by
  obtain ⟨c, k, i, f, a, cell, h1, h2, h3, h4, h5, h6, h7, h8, h9, h10⟩ := h
  obtain ⟨k', hi', he⟩ := State.fieldFound?_setVm hvm h2
  exact ⟨c, k', i, f, a, cell, by rw [hvm.findClass]; exact h1, hi', h3, by rw [he]; exact h4, h5, h6, h7, h8, by rw [he]; exact h9, h10⟩
theorem vx_L.kept {C n d : String} {A : Nat → Prop} {U : State} {H H1 : Heap} (h : vx_L C n d A U H) (hq : ∀ a : Nat, a < H.size → ¬ A a → H1[a]? = H[a]?) : vx_L C n d A U H1 := by
  obtain ⟨c, k, i, f, a, cell, h1, h2, h3, h4, h5, h6, h7, h8, h9, h10⟩ := h
  exact ⟨c, k, i, f, a, cell, h1, h2, h3, h4, by rw [hq a (Array.getElem?_eq_some_iff.mp h5).1 h10]; exact h5, h6, h7, h8, h9, h10⟩
theorem vx_L.narrow {C n d : String} {A B : Nat → Prop} {U : State} {H : Heap} (h : vx_L C n d A U H) (hAB : ∀ q, B q → A q) : vx_L C n d B U H := by
  obtain ⟨c, k, i, f, a, cell, h1, h2, h3, h4, h5, h6, h7, h8, h9, h10⟩ := h
  exact ⟨c, k, i, f, a, cell, h1, h2, h3, h4, h5, h6, h7, h8, h9, fun z => h10 (hAB _ z)⟩
theorem vx_L.word {C n d : String} {A : Nat → Prop} {s : State} {args : Array Value} (h : vx_L C n d A s s.heap) : (Cond.laysStatic C n d).before args s = true := by
  obtain ⟨c, k, i, f, a, cell, h1, h2, h3, h4, h5, h6, h7, h8, h9, -⟩ := h
  show (Cond.laysStatic C n d).holds args s none s [] = true
  exact Cond.laysStatic_of h1 h2 h3 h4 h5 h6 h7 h8 h9
/-- .. and what it holds: null or some reference -/
def vx_Zq (C n d : String) (A : Nat → Prop) (U : State) (H : Heap) : Prop := va_Zq C n d A U H ∧ vx_L C n d A U H
theorem vx_Zq.moved {C n d : String} {A : Nat → Prop} {u U : State} {H : Heap} (hvm : u.vm.Alike U.vm) (h : vx_Zq C n d A u H) : vx_Zq C n d A U H := ⟨va_Zq.moved hvm h.1, vx_L.moved hvm h.2⟩
theorem vx_Zq.kept {C n d : String} {A : Nat → Prop} {U : State} {H H1 : Heap} (h : vx_Zq C n d A U H) (hq : ∀ a : Nat, a < H.size → ¬ A a → H1[a]? = H[a]?) : vx_Zq C n d A U H1 := ⟨va_Zq.kept h.1 hq, vx_L.kept h.2 hq⟩
theorem vx_Zq.narrow {C n d : String} {A B : Nat → Prop} {U : State} {H : Heap} (h : vx_Zq C n d A U H) (hAB : ∀ q, B q → A q) : vx_Zq C n d B U H := ⟨va_Zq.narrow h.1 hAB, vx_L.narrow h.2 hAB⟩
theorem vx_Zqof {args : Array Value} {s : State} {C n d : String} {A : Nat → Prop} (hl : (Cond.laysStatic C n d).before args s = true) (hini : (Cond.initialized C).before args s = true) (h : (Cond.isRef (.static C n d)).before args s = true) (hA : ∀ a : Nat, a < s.heap.size → ¬ A a) : vx_Zq C n d A s s.heap := by
  refine ⟨va_Zqof hl hini h hA, ?_⟩
  obtain ⟨c, k, i, f, a, cell, h1, h2, h3, h4, h5, h6, h7, h8, h9⟩ := Cond.laysStatic_spec hl
  exact ⟨c, k, i, f, a, cell, h1, h2, h3, h4, h5, h6, h7, h8, h9, hA a (Array.getElem?_eq_some_iff.mp h5).1⟩
theorem vx_isRef {C n d : String} {v : Value} {A : Nat → Prop} {s : State} {args : Array Value} (h : va_Z C n d v A s s.heap) (hv : v.isRef = true) : (Cond.isRef (.static C n d)).before args s = true := by
  obtain ⟨cf, kf, fi, f, a, cell, h1, h2, h3, h4, h5, h6, h7, -⟩ := h
  have he : (Term.static C n d).eval args s none [] s = some v := by
    simp [Term.eval, State.fieldNamed?, h1, h2, h4, h5, h6, h7]
  simp only [Cond.before, Cond.holds, Cond.value, he]
  cases v <;> simp_all [Value.isRef]
theorem vx_isRefq {C n d : String} {A : Nat → Prop} {s : State} {args : Array Value} (h : va_Zq C n d A s s.heap) : (Cond.isRef (.static C n d)).before args s = true := by
  rcases h with h | ⟨t, h⟩
  · exact vx_isRef h rfl
  · exact vx_isRef h rfl
/-- the same frame, seen from here: as if the method were called anew in this heap -/
theorem vx_rebase {T : State} (X : Stand p l e R s m args below meth c T locs cells slots) {R' : Room} (hf : R'.frames ≤ R.frames) (hl : R'.locals ≤ R.locals) (hc : cells + R'.cells ≤ R.cells) (hs : slots + R'.slots ≤ R.slots) :
    Stand p l e R' ((T.setVm s.vm).setFrames (.invoking m args :: below)) m args below meth c T [] 0 0 := by
  have htop : (T.setVm s.vm).topJava?.isSome := X.here.top
  have hF : ((T.setVm s.vm).setFrames (.invoking m args :: below)).frames = .invoking m args :: below := State.frames_setFrames _ (State.cur_lt_of_top htop)
  obtain ⟨g₀, hg0⟩ := Option.isSome_iff_exists.mp htop
  obtain ⟨r, hr⟩ := State.topJava?_eq_some.mp hg0
  have hl9 : e.platform.stackLimits (T.setVm s.vm).me = e.platform.stackLimits s.me := X.limits
  have hb9 : (T.setVm s.vm).me.stackBytes = s.me.stackBytes := X.bytes
  refine ⟨X.admits, X.cas, X.clock, hF, ?_, X.hears, X.method, X.code, X.here, X.tail, X.warmed, ?_, ?_, ?_⟩
  · have h := X.room
    have hU : ((T.setVm s.vm).setFrames (.invoking m args :: below)).localsInUse = s.localsInUse := by
      rw [State.localsInUse_invoking hF (meth := meth) (c := c) X.method X.code, State.localsInUse_invoking X.frames X.method X.code]
    simp only [State.hasRoom, Bool.and_eq_true, decide_eq_true_eq] at h ⊢
    obtain ⟨⟨⟨⟨h1, h2, h3, h4, h5, h6⟩, h7⟩, h8⟩, h9⟩ := h
    rw [X.frames, List.length_cons] at h2 h3
    have q1 := X.heapSize
    have q2 := X.used
    simp only [hF, hU, List.length_cons, State.stackLimits_setFrames, State.stackBytes_setFrames, hl9, hb9]
    refine ⟨⟨⟨⟨by omega, by omega, by omega, by omega, by omega, h6⟩, ?_⟩, ?_⟩, X.book⟩
    · show T.heap.size + R'.cells ≤ e.platform.maxCells
      omega
    · show T.slotsUsed + R'.slots ≤ e.platform.maxSlots
      omega
  · rw [State.stackLimits_setFrames]; rfl
  · rw [State.stackBytes_setFrames]; rfl
  · refine ⟨?_, Nat.le_refl _, Nat.le_refl _, ?_, ?_, fun a c9 h9 => ⟨c9, h9, rfl, rfl, fun _ _ => rfl⟩⟩
    · obtain ⟨t, ht, -⟩ := State.frames_cons hr
      show T.setVm s.vm = { ((T.setVm s.vm).setFrames (.invoking m args :: below)).setFrames (T.setVm s.vm).frames with heap := T.heap, slotsUsed := T.slotsUsed }
      rw [State.setFrames_setFrames, State.setFrames_self ht]
      rfl
    · show T.slotsUsed = T.slotsUsed + ((T.heap.toList.drop T.heap.size).map (·.slots.size)).sum
      rw [List.drop_eq_nil_of_le (Nat.le_of_eq Array.length_toList)]
      rfl
    · show ((T.heap.toList.drop T.heap.size).map (·.slots.size)).sum ≤ 0
      rw [List.drop_eq_nil_of_le (Nat.le_of_eq Array.length_toList)]
      exact Nat.le_refl _
/-- 'throw new E()': new; dup; invokespecial; athrow -/
theorem vx_throw0 {cc : ByteArray} {pc : Nat} (hexec : p.tables.exec = Jvm.exec) (hb : c.code = cc) (hl : l.stackTraces = false) {own cls : String} {names : List String} {ik ic mc ms : Nat} {A : Nat → Prop}
    (hown : s.vm.findClass own = some m.cls) (hcls : Bundle.fit cls = true) (hnames : ∀ n ∈ names, Bundle.fit n = true)
    (hk : (Cond.classLink own ik cls).before args s = true) (hini : (Cond.initialized cls).before args s = true) (hat : ∀ w ∈ vx_at0 own ic cls names, w.before args s = true)
    (hgood : ∀ w ∈ Cond.classLink own ik cls :: Cond.initialized cls :: vx_at0 own ic cls names, vx_ot w = true)
    (hU : vx_Zq Bundle.tN "UNASSIGNED_STACK" Bundle.steD A s s.heap) (hN : vx_Zq Bundle.tN "SUPPRESSED_SENTINEL" Bundle.listD A s s.heap) (hS : va_S A s.heap H locs) (hsize : ls.size = c.maxLocals)
    (d0 : decode cc pc = .ok (.new ik, 3)) (d3 : decode cc (pc + 3) = .ok (.dup, 1)) (d4 : decode cc (pc + 4) = .ok (.invokespecial ic, 3)) (d7 : decode cc (pc + 7) = .ok (.athrow, 1))
    (hout : ∀ x ∈ c.exceptionTable.toList, covers x (pc + 7) = false)
    (hRframes : names.length + 3 < R.frames) (hRlocals : (rest.map fun v => v.category).sum + (13 * (names.length + 1) + 42) ≤ R.locals) (hRcells : cells + 1 ≤ R.cells) (hRslots : slots + 6 ≤ R.slots) (hlocks : meth.locks = false)
    (hx : ∀ t : State, s.vm.Alike t.vm → H.size ≤ t.heap.size → (∀ q : Nat, q < H.size → t.heap[q]? = H[q]?) → XC cls s t)
    (hf : ∀ z ∈ locs, free z.base) (hc : cells + 1 ≤ mc) (hs : slots + 6 ≤ ms) :
    W p l e R s m args below meth c H locs cells slots (vx_MQ below Qc XC args s mc ms free) (F0 m pc ls rest) := by
  intro T hT X
  have htr : e.platform.stackTraces = false := (show e.platform.stackTraces = l.stackTraces by rw [X.admits.platform]).trans hl
  have Y := vx_rebase X (R' := { frames := R.frames, locals := R.locals, cells := 1, slots := 6 }) (Nat.le_refl _) (Nat.le_refl _) hRcells hRslots
  obtain ⟨s', hA⟩ : ∃ z, z = (T.setVm s.vm).setFrames (.invoking m args :: below) := ⟨_, rfl⟩
  rw [← hA] at Y
  have hvm : s'.vm = s.vm := by rw [hA]; rfl
  have hhp : s'.heap = H := by rw [hA]; exact hT
  have hW0 : s.WarmedH s'.vm := by rw [hvm]; exact State.WarmedH.refl s
  have hat' : ∀ w ∈ vx_at0 own ic cls names, w.before args s' = true := fun w hw => vx_ot_at hW0 hvm.symm (hgood w (List.mem_cons_of_mem _ (List.mem_cons_of_mem _ hw))) (hat w hw)
  have hk' : (Cond.classLink own ik cls).before args s' = true := vx_ot_at hW0 hvm.symm (hgood _ List.mem_cons_self) hk
  have hini' : (Cond.initialized cls).before args s' = true := vx_ot_at hW0 hvm.symm (hgood _ (List.mem_cons_of_mem _ List.mem_cons_self)) hini
  have hU' : vx_Zq Bundle.tN "UNASSIGNED_STACK" Bundle.steD A s' s'.heap := by rw [hhp]; exact vx_Zq.moved hW0.alike (hU.kept hS.2.1)
  have hN' : vx_Zq Bundle.tN "SUPPRESSED_SENTINEL" Bundle.listD A s' s'.heap := by rw [hhp]; exact vx_Zq.moved hW0.alike (hN.kept hS.2.1)
  have h : ∀ w ∈ Bundle.ownAtoms0 own ic cls names, w.before args s' = true := vx_own hat' (vx_isRefq hU'.1) (vx_isRefq hN'.1) hU'.2.word hN'.2.word
  have hown' : s'.vm.findClass own = some m.cls := by rw [hvm]; exact hown
  have hins : (Cond.instantiable cls 6).before args s' = true := h _ (by simp [Bundle.ownAtoms0])
  obtain ⟨vm₁, cX, kX, hfX, hkX, -, -, X₁, st1⟩ := Y.newCold hexec (own := own) (C := cls) (index := ik) (n := 6) hown' hk' hins hini'
    (g := F0 m pc ls rest) rfl (by rw [hb]; exact d0) (Nat.le_refl _) (Nat.le_refl _)
  generalize hT1 : (T.setVm vm₁).pushCell { cls := cX, slots := kX.instanceTypes.map defaultValue, vm := .none } = T1 at X₁ st1
  have hcat : (Value.ref T.heap.size).category = 1 := rfl
  have hcellA : T1.heap[T.heap.size]? = some (freshCell cX kX) := by rw [← hT1]; exact State.heap_pushCell_size _ _
  have d3' : decode c.code (pc + 3) = .ok (.dup, 1) := by rw [hb]; exact d3
  obtain ⟨U, hsteps, hrun, hend, hW, hsame, ce, hce, hO⟩ := X₁.ctorThrow0 hexec htr (own := own) (cls := cls) (names := names) (ic := ic) hown' hcls hnames h (fun x hx => nomatch hx) hfX hkX hcellA (by rw [hhp, hT]; exact Nat.le_refl _)
    (g := { method := m, pc := pc + 4, locals := ls, stack := .ref T.heap.size :: .ref T.heap.size :: rest, locked := none }) rfl hsize rfl rfl (rest := rest) rfl
    (by rw [hb]; exact d4) (by rw [hb]; exact d7) hout hRframes (by simp only [List.map_cons, List.sum_cons, hcat]; omega) hlocks
  obtain ⟨f1, f2⟩ := vx_frame hsame
  rw [hhp] at f1 f2
  have hWs : s.WarmedH U.vm := State.WarmedH.trans hW0 hW
  have hcl : s.vm.findClass cls = some ce.cls := by
    have h9 := hO.cls
    rw [hvm] at h9
    exact h9
  have hall : s.sameButNew ({ U with vm := s.vm } : State) locs mc ms := by
    subst hA
    obtain ⟨e1, e2⟩ := hsame
    rw [State.setFrames_setFrames] at e1
    have h2 : (T.setVm s.vm).sameButNew ({ U with vm := s.vm } : State) [] (0 + 1) (0 + 6) := ⟨e1, e2⟩
    have h3 := X.same.trans h2
    rw [List.append_nil] at h3
    exact h3.mono hc hs
  refine ⟨U, ?_, .threw T.heap.size, hrun, hend, Or.inr ⟨T.heap.size, rfl, cls, ce, locs, hx U hWs.alike f1 (fun q hq => f2 q hq (fun z hz => nomatch hz)), hce, hO.vm, hcl, hWs, hall, hf⟩⟩
  refine st1 _ ?_
  show Steps p.tables e below (T1.setTop { method := m, pc := pc + 3, locals := ls, stack := .ref T.heap.size :: rest, locked := none }) _
  jvm_step X₁.here [X₁.here.top, hexec, d3', Value.category]
  exact hsteps
/-- 'throw new E("text")': new; dup; ldc; invokespecial; athrow -/
theorem vx_throwS {cc : ByteArray} {pc : Nat} (hexec : p.tables.exec = Jvm.exec) (hb : c.code = cc) (hl : l.stackTraces = false) {own cls text : String} {names : List String} {ik is ic mc ms sa : Nat} {A : Nat → Prop}
    (hown : s.vm.findClass own = some m.cls) (hcls : Bundle.fit cls = true) (hnames : ∀ n ∈ names, Bundle.fit n = true)
    (hk : (Cond.classLink own ik cls).before args s = true) (hini : (Cond.initialized cls).before args s = true) (hstr : vk_R own is text sa s) (hat : ∀ w ∈ vx_atS own ic cls names, w.before args s = true)
    (hgood : ∀ w ∈ Cond.classLink own ik cls :: Cond.initialized cls :: vx_atS own ic cls names, vx_ot w = true)
    (hU : vx_Zq Bundle.tN "UNASSIGNED_STACK" Bundle.steD A s s.heap) (hN : vx_Zq Bundle.tN "SUPPRESSED_SENTINEL" Bundle.listD A s s.heap) (hS : va_S A s.heap H locs) (hsize : ls.size = c.maxLocals)
    (d0 : decode cc pc = .ok (.new ik, 3)) (d3 : decode cc (pc + 3) = .ok (.dup, 1)) (d4 : decode cc (pc + 4) = .ok (.ldc is, 2)) (d6 : decode cc (pc + 6) = .ok (.invokespecial ic, 3)) (d9 : decode cc (pc + 9) = .ok (.athrow, 1))
    (hout : ∀ x ∈ c.exceptionTable.toList, covers x (pc + 9) = false)
    (hRframes : names.length + 3 < R.frames) (hRlocals : (rest.map fun v => v.category).sum + (13 * (names.length + 1) + 43) ≤ R.locals) (hRcells : cells + 1 ≤ R.cells) (hRslots : slots + 6 ≤ R.slots) (hlocks : meth.locks = false)
    (hx : ∀ t : State, s.vm.Alike t.vm → H.size ≤ t.heap.size → (∀ q : Nat, q < H.size → t.heap[q]? = H[q]?) → XC cls s t)
    (hf : ∀ z ∈ locs, free z.base) (hc : cells + 1 ≤ mc) (hs : slots + 6 ≤ ms) :
    W p l e R s m args below meth c H locs cells slots (vx_MQ below Qc XC args s mc ms free) (F0 m pc ls rest) := by
  intro T hT X
  have htr : e.platform.stackTraces = false := (show e.platform.stackTraces = l.stackTraces by rw [X.admits.platform]).trans hl
  have Y := vx_rebase X (R' := { frames := R.frames, locals := R.locals, cells := 1, slots := 6 }) (Nat.le_refl _) (Nat.le_refl _) hRcells hRslots
  obtain ⟨s', hA⟩ : ∃ z, z = (T.setVm s.vm).setFrames (.invoking m args :: below) := ⟨_, rfl⟩
  rw [← hA] at Y
  have hvm : s'.vm = s.vm := by rw [hA]; rfl
  have hhp : s'.heap = H := by rw [hA]; exact hT
  have hW0 : s.WarmedH s'.vm := by rw [hvm]; exact State.WarmedH.refl s
  have hat' : ∀ w ∈ vx_atS own ic cls names, w.before args s' = true := fun w hw => vx_ot_at hW0 hvm.symm (hgood w (List.mem_cons_of_mem _ (List.mem_cons_of_mem _ hw))) (hat w hw)
  have hk' : (Cond.classLink own ik cls).before args s' = true := vx_ot_at hW0 hvm.symm (hgood _ List.mem_cons_self) hk
  have hini' : (Cond.initialized cls).before args s' = true := vx_ot_at hW0 hvm.symm (hgood _ (List.mem_cons_of_mem _ List.mem_cons_self)) hini
  have hU' : vx_Zq Bundle.tN "UNASSIGNED_STACK" Bundle.steD A s' s'.heap := by rw [hhp]; exact vx_Zq.moved hW0.alike (hU.kept hS.2.1)
  have hN' : vx_Zq Bundle.tN "SUPPRESSED_SENTINEL" Bundle.listD A s' s'.heap := by rw [hhp]; exact vx_Zq.moved hW0.alike (hN.kept hS.2.1)
  have h : ∀ w ∈ Bundle.ownAtoms own ic cls names, w.before args s' = true := vx_own hat' (vx_isRefq hU'.1) (vx_isRefq hN'.1) hU'.2.word hN'.2.word
  have hown' : s'.vm.findClass own = some m.cls := by rw [hvm]; exact hown
  have hins : (Cond.instantiable cls 6).before args s' = true := h _ (by simp [Bundle.ownAtoms])
  obtain ⟨vm₁, cX, kX, hfX, hkX, -, -, X₁, st1⟩ := Y.newCold hexec (own := own) (C := cls) (index := ik) (n := 6) hown' hk' hins hini'
    (g := F0 m pc ls rest) rfl (by rw [hb]; exact d0) (Nat.le_refl _) (Nat.le_refl _)
  generalize hT1 : (T.setVm vm₁).pushCell { cls := cX, slots := kX.instanceTypes.map defaultValue, vm := .none } = T1 at X₁ st1
  have hcat : (Value.ref T.heap.size).category = 1 := rfl
  have hcellA : T1.heap[T.heap.size]? = some (freshCell cX kX) := by rw [← hT1]; exact State.heap_pushCell_size _ _
  have d3' : decode c.code (pc + 3) = .ok (.dup, 1) := by rw [hb]; exact d3
  have d4' : decode c.code (pc + 4) = .ok (.ldc is, 2) := by rw [hb]; exact d4
  have hstr' : vk_R own is text sa s' := vk_R.warm hW0 hstr
  obtain ⟨U, hsteps, hrun, hend, hW, hsame, ce, hce, hO⟩ := X₁.ctorThrowS hexec htr (own := own) (cls := cls) (names := names) (ic := ic) hown' hcls hnames h (fun x hx => nomatch hx) hfX hkX hcellA (by rw [hhp, hT]; exact Nat.le_refl _) (msg := .ref sa) rfl
    (g := { method := m, pc := pc + 6, locals := ls, stack := .ref sa :: .ref T.heap.size :: .ref T.heap.size :: rest, locked := none }) rfl hsize rfl rfl (rest := rest) rfl
    (by rw [hb]; exact d6) (by rw [hb]; exact d9) hout hRframes (by simp only [List.map_cons, List.sum_cons, hcat]; omega) hlocks
  obtain ⟨f1, f2⟩ := vx_frame hsame
  rw [hhp] at f1 f2
  have hWs : s.WarmedH U.vm := State.WarmedH.trans hW0 hW
  have hcl : s.vm.findClass cls = some ce.cls := by
    have h9 := hO.cls
    rw [hvm] at h9
    exact h9
  have hall : s.sameButNew ({ U with vm := s.vm } : State) locs mc ms := by
    subst hA
    obtain ⟨e1, e2⟩ := hsame
    rw [State.setFrames_setFrames] at e1
    have h2 : (T.setVm s.vm).sameButNew ({ U with vm := s.vm } : State) [] (0 + 1) (0 + 6) := ⟨e1, e2⟩
    have h3 := X.same.trans h2
    rw [List.append_nil] at h3
    exact h3.mono hc hs
  refine ⟨U, ?_, .threw T.heap.size, hrun, hend, Or.inr ⟨T.heap.size, rfl, cls, ce, locs, hx U hWs.alike f1 (fun q hq => f2 q hq (fun z hz => nomatch hz)), hce, hO.vm, hcl, hWs, hall, hf⟩⟩
  refine st1 _ ?_
  show Steps p.tables e below (T1.setTop { method := m, pc := pc + 3, locals := ls, stack := .ref T.heap.size :: rest, locked := none }) _
  jvm_step X₁.here [X₁.here.top, hexec, d3', Value.category]
  exact X₁.ldcString hexec (own := own) (text := text) (index := is) (a := sa) hown' hstr'.1 hstr'.2
    (g := { method := m, pc := pc + 4, locals := ls, stack := .ref T.heap.size :: .ref T.heap.size :: rest, locked := none }) rfl d4' _ hsteps
/-- 'throw new E("text")', the text by a wide index -/
theorem vx_throwSW {cc : ByteArray} {pc : Nat} (hexec : p.tables.exec = Jvm.exec) (hb : c.code = cc) (hl : l.stackTraces = false) {own cls text : String} {names : List String} {ik is ic mc ms sa : Nat} {A : Nat → Prop}
    (hown : s.vm.findClass own = some m.cls) (hcls : Bundle.fit cls = true) (hnames : ∀ n ∈ names, Bundle.fit n = true)
    (hk : (Cond.classLink own ik cls).before args s = true) (hini : (Cond.initialized cls).before args s = true) (hstr : vk_R own is text sa s) (hat : ∀ w ∈ vx_atS own ic cls names, w.before args s = true)
    (hgood : ∀ w ∈ Cond.classLink own ik cls :: Cond.initialized cls :: vx_atS own ic cls names, vx_ot w = true)
    (hU : vx_Zq Bundle.tN "UNASSIGNED_STACK" Bundle.steD A s s.heap) (hN : vx_Zq Bundle.tN "SUPPRESSED_SENTINEL" Bundle.listD A s s.heap) (hS : va_S A s.heap H locs) (hsize : ls.size = c.maxLocals)
    (d0 : decode cc pc = .ok (.new ik, 3)) (d3 : decode cc (pc + 3) = .ok (.dup, 1)) (d4 : decode cc (pc + 4) = .ok (.ldc_w is, 3)) (d7 : decode cc (pc + 7) = .ok (.invokespecial ic, 3)) (d10 : decode cc (pc + 10) = .ok (.athrow, 1))
    (hout : ∀ x ∈ c.exceptionTable.toList, covers x (pc + 10) = false)
    (hRframes : names.length + 3 < R.frames) (hRlocals : (rest.map fun v => v.category).sum + (13 * (names.length + 1) + 43) ≤ R.locals) (hRcells : cells + 1 ≤ R.cells) (hRslots : slots + 6 ≤ R.slots) (hlocks : meth.locks = false)
    (hx : ∀ t : State, s.vm.Alike t.vm → H.size ≤ t.heap.size → (∀ q : Nat, q < H.size → t.heap[q]? = H[q]?) → XC cls s t)
    (hf : ∀ z ∈ locs, free z.base) (hc : cells + 1 ≤ mc) (hs : slots + 6 ≤ ms) :
    W p l e R s m args below meth c H locs cells slots (vx_MQ below Qc XC args s mc ms free) (F0 m pc ls rest) := by
  intro T hT X
  have htr : e.platform.stackTraces = false := (show e.platform.stackTraces = l.stackTraces by rw [X.admits.platform]).trans hl
  have Y := vx_rebase X (R' := { frames := R.frames, locals := R.locals, cells := 1, slots := 6 }) (Nat.le_refl _) (Nat.le_refl _) hRcells hRslots
  obtain ⟨s', hA⟩ : ∃ z, z = (T.setVm s.vm).setFrames (.invoking m args :: below) := ⟨_, rfl⟩
  rw [← hA] at Y
  have hvm : s'.vm = s.vm := by rw [hA]; rfl
  have hhp : s'.heap = H := by rw [hA]; exact hT
  have hW0 : s.WarmedH s'.vm := by rw [hvm]; exact State.WarmedH.refl s
  have hat' : ∀ w ∈ vx_atS own ic cls names, w.before args s' = true := fun w hw => vx_ot_at hW0 hvm.symm (hgood w (List.mem_cons_of_mem _ (List.mem_cons_of_mem _ hw))) (hat w hw)
  have hk' : (Cond.classLink own ik cls).before args s' = true := vx_ot_at hW0 hvm.symm (hgood _ List.mem_cons_self) hk
  have hini' : (Cond.initialized cls).before args s' = true := vx_ot_at hW0 hvm.symm (hgood _ (List.mem_cons_of_mem _ List.mem_cons_self)) hini
  have hU' : vx_Zq Bundle.tN "UNASSIGNED_STACK" Bundle.steD A s' s'.heap := by rw [hhp]; exact vx_Zq.moved hW0.alike (hU.kept hS.2.1)
  have hN' : vx_Zq Bundle.tN "SUPPRESSED_SENTINEL" Bundle.listD A s' s'.heap := by rw [hhp]; exact vx_Zq.moved hW0.alike (hN.kept hS.2.1)
  have h : ∀ w ∈ Bundle.ownAtoms own ic cls names, w.before args s' = true := vx_own hat' (vx_isRefq hU'.1) (vx_isRefq hN'.1) hU'.2.word hN'.2.word
  have hown' : s'.vm.findClass own = some m.cls := by rw [hvm]; exact hown
  have hins : (Cond.instantiable cls 6).before args s' = true := h _ (by simp [Bundle.ownAtoms])
  obtain ⟨vm₁, cX, kX, hfX, hkX, -, -, X₁, st1⟩ := Y.newCold hexec (own := own) (C := cls) (index := ik) (n := 6) hown' hk' hins hini'
    (g := F0 m pc ls rest) rfl (by rw [hb]; exact d0) (Nat.le_refl _) (Nat.le_refl _)
  generalize hT1 : (T.setVm vm₁).pushCell { cls := cX, slots := kX.instanceTypes.map defaultValue, vm := .none } = T1 at X₁ st1
  have hcat : (Value.ref T.heap.size).category = 1 := rfl
  have hcellA : T1.heap[T.heap.size]? = some (freshCell cX kX) := by rw [← hT1]; exact State.heap_pushCell_size _ _
  have d3' : decode c.code (pc + 3) = .ok (.dup, 1) := by rw [hb]; exact d3
  have d4' : decode c.code (pc + 4) = .ok (.ldc_w is, 3) := by rw [hb]; exact d4
  have hstr' : vk_R own is text sa s' := vk_R.warm hW0 hstr
  obtain ⟨U, hsteps, hrun, hend, hW, hsame, ce, hce, hO⟩ := X₁.ctorThrowS hexec htr (own := own) (cls := cls) (names := names) (ic := ic) hown' hcls hnames h (fun x hx => nomatch hx) hfX hkX hcellA (by rw [hhp, hT]; exact Nat.le_refl _) (msg := .ref sa) rfl
    (g := { method := m, pc := pc + 7, locals := ls, stack := .ref sa :: .ref T.heap.size :: .ref T.heap.size :: rest, locked := none }) rfl hsize rfl rfl (rest := rest) rfl
    (by rw [hb]; exact d7) (by rw [hb]; exact d10) hout hRframes (by simp only [List.map_cons, List.sum_cons, hcat]; omega) hlocks
  obtain ⟨f1, f2⟩ := vx_frame hsame
  rw [hhp] at f1 f2
  have hWs : s.WarmedH U.vm := State.WarmedH.trans hW0 hW
  have hcl : s.vm.findClass cls = some ce.cls := by
    have h9 := hO.cls
    rw [hvm] at h9
    exact h9
  have hall : s.sameButNew ({ U with vm := s.vm } : State) locs mc ms := by
    subst hA
    obtain ⟨e1, e2⟩ := hsame
    rw [State.setFrames_setFrames] at e1
    have h2 : (T.setVm s.vm).sameButNew ({ U with vm := s.vm } : State) [] (0 + 1) (0 + 6) := ⟨e1, e2⟩
    have h3 := X.same.trans h2
    rw [List.append_nil] at h3
    exact h3.mono hc hs
  refine ⟨U, ?_, .threw T.heap.size, hrun, hend, Or.inr ⟨T.heap.size, rfl, cls, ce, locs, hx U hWs.alike f1 (fun q hq => f2 q hq (fun z hz => nomatch hz)), hce, hO.vm, hcl, hWs, hall, hf⟩⟩
  refine st1 _ ?_
  show Steps p.tables e below (T1.setTop { method := m, pc := pc + 3, locals := ls, stack := .ref T.heap.size :: rest, locked := none }) _
  jvm_step X₁.here [X₁.here.top, hexec, d3', Value.category]
  exact X₁.ldcStringW hexec (own := own) (text := text) (index := is) (a := sa) hown' hstr'.1 hstr'.2
    (g := { method := m, pc := pc + 4, locals := ls, stack := .ref T.heap.size :: .ref T.heap.size :: rest, locked := none }) rfl d4' _ hsteps
end Ends
section Bodies
variable {l : Launch}
theorem vx_ofW {y : MethodName} {ws ws' : List Cond} {rm : Room} {Pc : Array Value → State → Prop} {Qc : Array Value → State → Outcome → State → Prop} {XC : String → State → State → Prop} {mc ms : Nat} {free : Addr → Prop} {cc : ByteArray} {maxL : Nat} {ret : Option FieldType}
    (hy : plainName y.cls = true) (hw : ws = Cond.code y cc maxL ret :: ws')
    (body : ∀ p e s m args below meth c s₁, BodyLoose p l y (headSpec ws rm) cc maxL ret e s m args below meth c s₁ → c.maxLocals = maxL → (∀ x ∈ c.exceptionTable.toList, False) → Pc args s →
      W p l e (headSpec ws rm).room s m args below meth c s.heap [] 0 0 (vx_MQ below Qc XC args s mc ms free) (entryFrame m args maxL)) : vx_Met l y ws rm Pc Qc XC mc ms free := by
  refine MetFree.of_bodyS (code := cc) (maxLocals := maxL) (ret := ret) hy ?_ ?_
  · intro args s m h hn
    obtain ⟨meth, c, h1, h2, h3, h4, h5, h6, -, -⟩ := Cond.code_spec hn (atoms_spec (ws := ws) h _ (by rw [hw]; exact List.mem_cons_self))
    exact ⟨meth, c, h1, h2, h3, h4, h5, h6⟩
  · intro p e s m args below meth c s₁ B hml hP _
    have hh0 : s₁.heap = s.heap := by rw [B.state]; rfl
    have ht : ∀ x ∈ c.exceptionTable.toList, False := by
      obtain ⟨meth9, c9, h1, h2, -, -, -, -, h7, -⟩ := Cond.code_spec B.named (atoms_spec (ws := ws) B.pre _ (by rw [hw]; exact List.mem_cons_self))
      cases Option.some.inj (h1.symm.trans B.method)
      cases Option.some.inj (h2.symm.trans (Stand.of_body B).code)
      intro x hx
      rw [Array.isEmpty_iff.mp h7] at hx
      cases hx
    obtain ⟨t, a1, o, b1, b2, b3⟩ := body p e s m args below meth c s₁ B hml ht hP s₁ hh0 (Stand.of_body B)
    exact ⟨t, o, a1, b1, b2, b3⟩
/-- the table of a body with handlers -/
theorem vx_table {p : Program} {x y : MethodName} {S : Spec} {cc bytes : ByteArray} {maxL maxL' : Nat} {ret ret' : Option FieldType} {e : Env} {s s₁ : State} {m : MethodId} {args : Array Value} {below : List Frame} {meth : Method} {c : Code} {hh : List (Nat × Nat × Nat × Nat)}
    (B : BodyLoose p l y S cc maxL ret e s m args below meth c s₁) (h : (Cond.codeWith y bytes maxL' ret' hh).before args s = true) : c.exceptionTable.toList = tableOf hh := by
  obtain ⟨m9, meth9, c9, hn9, h1, h2, -, -, h6, -⟩ := Cond.codeWith_spec h
  cases Option.some.inj (hn9.symm.trans B.named)
  cases Option.some.inj (h1.symm.trans B.method)
  cases Option.some.inj (h2.symm.trans (Stand.of_body B).code)
  rw [← h6, table_eq]
end Bodies
end VXA
/-! ===== END ===== -/
/-! ===== BEGIN a static call of a method with an exception table ===== -/
section VXS
variable {p : Program} {l : Launch} {e : Env} {R : Room} {s : State} {m : MethodId} {args : Array Value} {below : List Frame} {meth : Method} {c : Code} {T : State} {H : Heap} {locs : List Loc} {cells slots : Nat}
abbrev vx_CSW (R : Room) (s : State) (args : Array Value) (own : String) (index : Nat) (y : MethodName) (bytes : ByteArray) (maxL : Nat) (ret : Option FieldType) (hh : List (Nat × Nat × Nat × Nat)) (ws : List Cond) (rm : Room) (mc ms n : Nat) : Prop :=
  (rm.cells = mc ∧ rm.slots = ms ∧ rm.frames + 1 ≤ R.frames ∧ 8 + (maxL + 11) + rm.locals ≤ R.locals ∧ (∀ w ∈ ws, ∀ (a' : Array Value) (U : State), s.WarmedH U.vm → w.before a' U = true) ∧ Cond.codeWith y bytes maxL ret hh ∈ ws) ∧
  (Cond.codeWith y bytes maxL ret hh).before args s = true ∧ (Cond.initialized y.cls).before args s = true ∧ (y.cls ≠ "java/lang/invoke/MethodHandle" ∧ y.cls ≠ "java/lang/invoke/VarHandle") ∧
  (∀ sig, parseMethodDescriptor y.desc = some sig → n = sig.parameters.length) ∧ (Cond.methodLink own index y).before args s = true ∧ (Cond.static y).before args s = true
theorem vx_cwSW {own : String} {index maxL mc ms : Nat} {y : MethodName} {bytes : ByteArray} {ret : Option FieldType} {hh : List (Nat × Nat × Nat × Nat)} {Ts ws ws' : List Cond} {rm : Room} (n : Nat) (ht : ∀ w ∈ Ts, w.before args s = true) (hT : GoodIn Ts (va_wsS own index y ws)) (hw : ws = Cond.codeWith y bytes maxL ret hh :: ws') (hrc : rm.cells = mc) (hrs : rm.slots = ms)
    (hd : y.cls ≠ "java/lang/invoke/MethodHandle" ∧ y.cls ≠ "java/lang/invoke/VarHandle" ∧ (parseMethodDescriptor y.desc).map (fun d => d.parameters.length) = some n) (hR : rm.frames + 1 ≤ R.frames ∧ 8 + (maxL + 11) + rm.locals ≤ R.locals) :
    vx_CSW R s args own index y bytes maxL ret hh ws rm mc ms n := by
  have ok : ∀ w ∈ va_wsS own index y ws, w.before args s = true := fun w h => ht w (hT w h).1
  have hG : GoodIn Ts ws := fun w h => hT w (by unfold va_wsS; exact List.mem_append_right _ h)
  have hc : Cond.codeWith y bytes maxL ret hh ∈ ws := by rw [hw]; exact List.mem_cons_self
  refine ⟨⟨hrc, hrs, hR.1, hR.2, pay_in ht hG, hc⟩, ht _ (hG _ hc).1, ok _ (by simp [va_wsS]), ⟨hd.1, hd.2.1⟩, fun sig h => ?_, ok _ (by simp [va_wsS]), ok _ (by simp [va_wsS])⟩
  have h2 := hd.2.2
  rw [h] at h2
  exact (Option.some.inj h2).symm
theorem vx_callSW (X : Stand p l e R s m args below meth c T locs cells slots) (hexec : p.tables.exec = Jvm.exec) {own : String} {index : Nat} {y : MethodName} {bytes : ByteArray} {maxL : Nat} {ret : Option FieldType} {hh : List (Nat × Nat × Nat × Nat)}
    (hown : s.vm.findClass own = some m.cls) (hlink : (Cond.methodLink own index y).before args s = true) (hstat : (Cond.static y).before args s = true) (hinit : (Cond.initialized y.cls).before args s = true)
    (hcode : (Cond.codeWith y bytes maxL ret hh).before args s = true) (hy : y.cls ≠ "java/lang/invoke/MethodHandle" ∧ y.cls ≠ "java/lang/invoke/VarHandle")
    {W9 : Nat} {Pre : Pt → Array Value → Prop} {Post : Pt → Array Value → Option Value → Pt → Prop} (hK : Back l R p e below s args y 3 W9 Pre Post)
    {g : JFrame} (hg : g.method = m) (hsize : g.locals.size = c.maxLocals) {argsL rest : List Value} (hlen : ∀ sig, parseMethodDescriptor y.desc = some sig → argsL.length = sig.parameters.length)
    (hstack : g.stack = argsL.reverse ++ rest) (hW : 2 * g.monitorRoom + (rest.map fun v => v.category).sum ≤ W9) (hdg : decode c.code g.pc = .ok (.invokestatic index, 3))
    (hpre : ∀ vm₁, s.WarmedH vm₁ → Pre ⟨T.setVm vm₁, locs, cells, slots⟩ argsL.toArray) :
    ∃ (v : Option Value) (vm₁ : Vm) (B : Pt), s.WarmedH vm₁ ∧ Stand p l e R s m args below meth c B.U B.locs B.cells B.slots ∧ Post ⟨T.setVm vm₁, locs, cells, slots⟩ argsL.toArray v B ∧
      ∀ target, Steps p.tables e below (B.U.setTop { g with pc := g.pc + 3, stack := v.toList ++ rest }) target → Steps p.tables e below (T.setTop g) target := by
  obtain ⟨mk, methM, cM, hnamed, hmethM, -, -, -, -, -, -, hsigM⟩ := Cond.codeWith_spec hcode
  have hstatic : methM.isStatic = true := Cond.static_spec hnamed hmethM hstat
  obtain ⟨kP, hkP, -⟩ := className_of_methodNamed hnamed
  have hinitP : kP.init = .initialized := Cond.initialized_spec (findClass_of_methodNamed hnamed) hkP hinit
  obtain ⟨vm₁, X₁, hstep₁⟩ := X.invokestatic hexec hown hlink hnamed hmethM hstatic hkP hinitP hy (g := g) hg (argsL := argsL) (rest := rest) (hlen _ hsigM) hstack hdg
  obtain ⟨v, B, X', hpost, hsteps⟩ := hK m meth c ⟨T.setVm vm₁, locs, cells, slots⟩ { g with stack := rest } (.invokestatic index) mk argsL.toArray X₁ hg hsize hdg hW (X₁.named hnamed) (hpre vm₁ X₁.warmed)
  exact ⟨v, vm₁, B, X₁.warmed, X', hpost, fun target h => hstep₁ _ fun acts => by rw [doInvoke_state]; exact hsteps.trans h⟩
theorem vx_runSW {y : MethodName} {bytes cc : ByteArray} {maxL nL mc ms n index : Nat} {ret : Option FieldType} {hh : List (Nat × Nat × Nat × Nat)} {ws : List Cond} {rm : Room} {Pc : Array Value → State → Prop} {Qc : Array Value → State → Outcome → State → Prop} {free : Addr → Prop} {Ts : List Cond} {own : String} {As rest : List Value} {g : JFrame}
    (S : CallFix p m c cc nL s args Ts own) (hM : Met l y ws rm Pc Qc mc ms free) (cw : vx_CSW R s args own index y bytes maxL ret hh ws rm mc ms n) (hp : PreS s H Pc As)
    (hg : g.method = m) (hn : As.length = n) (hsize : g.locals.size = nL) (hstack : g.stack = As.reverse ++ rest) (hW : 2 * g.monitorRoom + (rest.map fun v => v.category).sum ≤ 8) (hdg : decode cc g.pc = .ok (.invokestatic index, 3)) (hf : cells + mc ≤ R.cells ∧ slots + ms ≤ R.slots) :
    va_Run p l e R s m args below meth c H locs cells slots mc ms g rest (Qc As.toArray) (free) := by
  obtain ⟨⟨hrc, hrs, hfr, hlo, hws, hcw⟩, hcode, hini, hy, hlen, hl, hstt⟩ := cw
  have hK : Back l R p e below s args y 3 8 (PreOf R mc ms Pc) (PostOf Qc mc ms free) := va_backW (hh := hh) (bytes := bytes) (maxL := maxL) (ret := ret) hM hp.1 hrc hrs hfr hlo hws hcw (fun a' U hW => word_at hW (Or.inl (by first | rfl | simp [Cond.onTables, Cond.keeps, Cond.steady])) hini)
  obtain ⟨hx, hb, hml, ho, -⟩ := S
  intro T hT X
  obtain ⟨v, vm₁, ⟨U', l2, c2, s2⟩, hW₁, X', ⟨g', mk, t, L, e1, e2, hq, h1, hL, h2, h3⟩, st⟩ := vx_callSW X hx (hh := hh) (bytes := bytes) (maxL := maxL) (ret := ret) ho hl hstt hini hcode hy hK hg (hsize.trans hml.symm) (argsL := As) (rest := rest) (fun sig h => hn.trans (hlen sig h)) hstack hW (by rw [hb]; exact hdg)
    (fun vm₁ hW₁ => ⟨hf.1, hf.2, hp.2 (T.setVm vm₁) hT hW₁⟩)
  dsimp only [Pt.U, Pt.locs, Pt.cells, Pt.slots] at X' e1 e2 h1 h2 h3 st
  subst h1; subst h2; subst h3
  exact ⟨v, (T.setVm vm₁).calling g' mk As.toArray, t, U', L, hT, X', hL, e1, e2, hq, st⟩
/-- not caught here, past rows that name other classes: it goes on to the caller -/
theorem vx_outP {p : Program} {l : Launch} {e : Env} {R : Room} {s : State} {m : MethodId} {args : Array Value} {below : List Frame} {meth : Method} {c : Code} {H : Heap} {locs : List Loc} {cells slots : Nat} {free : Addr → Prop} {ls : Array Slot} {rest : List Value} {Qc : Array Value → State → Outcome → State → Prop} {XC : String → State → State → Prop}
    {pc : Nat} {own E : String} {ce : Cell} {q : Addr} {mc ms : Nat} (hown : s.vm.findClass own = some m.cls) (hlocks : meth.locks = false)
    (hpass : ∀ z ∈ c.exceptionTable.toList, covers z pc = false ∨ (z.catchType ≠ 0 ∧ ∃ nm : String, (Cond.classLink own z.catchType nm).before args s = true ∧ va_Nc E nm s)) (hcell : H[q]? = some ce) (hv : ce.vm = .none) (hcl : s.vm.findClass E = some ce.cls)
    (hx : ∀ t : State, t.heap = H → s.vm.Alike t.vm → XC E s t) (hf : ∀ z ∈ locs, free z.base) (hc : cells ≤ mc) (hs : slots ≤ ms) :
    vx_W p l e R s m args below meth c H locs cells slots (vx_MQ below Qc XC args s mc ms free) (F0 m pc ls rest) q := by
  intro T hT X
  have hpl : e.platform.magicAccessors = ({} : Platform).magicAccessors := by rw [X.admits.platform]
  obtain ⟨vm', hW', X', st⟩ := X.outThrough hlocks q (g := F0 m pc ls rest) rfl rfl rfl (cell := ce) (by rw [hT]; exact hcell) (by rw [hv]; rfl)
    (by obtain ⟨k9, h9, -⟩ := Vm.findClass_spec hcl; exact ⟨k9, h9⟩) (fun z hz => by
      rcases hpass z hz with h | ⟨hz0, nm, hl1, hn1⟩
      · exact Or.inl h
      · obtain ⟨c6, hc6, hcl6⟩ := Cond.classLink_spec hown hl1 e.platform hpl
        obtain ⟨a8, b8, h1, h2, h3⟩ := hn1
        cases Option.some.inj (h1.symm.trans hcl)
        cases Option.some.inj (h2.symm.trans hc6)
        exact Or.inr ⟨hz0, _, hcl6, h3⟩)
  obtain ⟨g₀, hfr⟩ := X'.frames_eq
  have hcell9 : ((T.setVm vm').setFrames (.throwing q :: below)).heap[q]? = some ce := by
    show T.heap[q]? = some ce
    rw [hT]; exact hcell
  have hend : Ended ((T.setVm vm').setFrames (.throwing q :: below)) below (.threw q) := State.frames_setFrames _ (State.cur_lt_of_frames hfr)
  refine ⟨(T.setVm vm').setFrames (.throwing q :: below), ?_, .threw q, X'.here.running, hend, Or.inr ⟨q, rfl, E, ce, locs, hx _ hT (X'.ends _).1.alike, hcell9, hv, hcl, (X'.ends _).1, (X'.ends _).2.mono hc hs, hf⟩⟩
  rw [X.pushThrowing_eq]
  exact st
/-- a thing of a world lies in the heap -/
theorem vx_lt {D : va_G} {cl : List vw_C} {ws : va_W} {H1 : Heap} (h : va_P D cl ws H1) {k : Nat} {q : Nat × va_E} (hk : ws[k]? = some q) : q.1 < H1.size := (h k q hk).lt
end VXS
/-! ===== END ===== -/
/-! ===== BEGIN methods with a table of their own: called by a name, returning or throwing ===== -/
section VXH
/-! vx_backW, vx_callVX, vx_callSX, vx_callVW, vx_runVW, vx_runVX, vx_runSX, vx_ofWH follow the same proofs as their sisters above (Free/Laws.lean, Shelf42/LK1.lean); vx_outP calls Shelf42/NT130.lean (outThrough). -/
section
variable {l : Launch} {R : Room} {p : Program} {e : Env} {below : List Frame} {s : State} {sargs : Array Value} {y : MethodName} {len W9 : Nat}
theorem vx_backW {ws : List Cond} {rm : Room} {Pc : Array Value → State → Prop} {Qc : Array Value → State → Outcome → State → Prop} {XC : String → State → State → Prop} {mc ms : Nat} {free : Addr → Prop} {bytes : ByteArray} {maxL : Nat} {ret : Option FieldType} {hh : List (Nat × Nat × Nat × Nat)}
    (hM : vx_Met l y ws rm Pc Qc XC mc ms free) (hblind : FrameBlind Pc) (hrc : rm.cells = mc) (hrs : rm.slots = ms)
    (hframes : rm.frames + 1 ≤ R.frames) (hlocals : W9 + (maxL + 11) + rm.locals ≤ R.locals)
    (hws : ∀ w ∈ ws, ∀ a' U, s.WarmedH U.vm → w.before a' U = true) (hcode : Cond.codeWith y bytes maxL ret hh ∈ ws) (hinit : ∀ a' U, s.WarmedH U.vm → (Cond.initialized y.cls).before a' U = true) :
    vx_Back l R p e below s sargs y len W9 (PreOf R mc ms Pc) (PostOf Qc mc ms free) (vx_Post XC mc ms free) := by
  intro m meth c A g ig mk a X hg hsize hdg hW hn hp
  have h1 : (headSpec ws rm).pre.before a A.U = true := atoms_intro fun w hw => hws w hw _ _ X.warmed
  have h2 : (Cond.codeWith y bytes maxL ret hh).before a A.U = true := hws _ hcode _ _ X.warmed
  have h3 : (Cond.initialized y.cls).before a A.U = true := hinit _ _ X.warmed
  have h4 : A.cells + (headSpec ws rm).room.cells ≤ R.cells := by rw [show (headSpec ws rm).room.cells = mc from hrc]; exact hp.1
  have h5 : A.slots + (headSpec ws rm).room.slots ≤ R.slots := by rw [show (headSpec ws rm).room.slots = ms from hrs]; exact hp.2.1
  have hPc : Pc a (A.U.calling g mk a) := hblind _ _ _ _ hp.2.2
  obtain ⟨U, Ls, c0, s0⟩ := A
  dsimp only [Pt.U, Pt.locs, Pt.cells, Pt.slots] at h1 h2 h3 h4 h5 X hn hPc ⊢
  obtain ⟨m9, methY, cY, hn9, hmY, hcY, -, hlY, -⟩ := Cond.codeWith_spec h2
  cases Option.some.inj (hn9.symm.trans hn)
  obtain ⟨kY, hkY, -⟩ := className_of_methodNamed hn
  have hinitY : kY.init = .initialized := Cond.initialized_spec (findClass_of_methodNamed hn) hkY h3
  have h : At U g.method c below := by rw [hg]; exact X.here
  have hlocals9 : W9 + (maxL + 11) + (headSpec ws rm).room.locals ≤ R.locals := hlocals
  have happ : (headSpec ws rm).appliesLoose y e.platform (U.calling g mk a) = true :=
    Spec.appliesLoose_calling (g := g) h hdg hn hkY hinitY
      (X.room_calling (g := g) (R' := (headSpec ws rm).room) hsize hmY hcY hframes (by rw [hlY]; omega) h4 h5) h1
  obtain ⟨mid, hmid⟩ := h.above
  have hfr : (U.setTop g).frames = (.java g :: mid) ++ below := by rw [State.frames_setTop' g h.top, hmid]; rfl
  obtain ⟨o, s₂, hsteps, -, hend, hq⟩ := Steps.callFree hM p X.admits X.cas X.clock (acts := []) hfr happ hPc trivial
  have hq' : vx_Q Qc XC mc ms free a (U.calling g mk a) o s₂ := hq
  rw [State.frames_setTop' g h.top] at hend
  obtain ⟨g₀, hg0⟩ := Option.isSome_iff_exists.mp h.top
  obtain ⟨r, hr⟩ := State.topJava?_eq_some.mp hg0
  have hr' : (({ U with heap := s₂.heap, slotsUsed := s₂.slotsUsed } : State).setVm s₂.vm).frames = .java g₀ :: r := hr
  rcases hq' with ⟨hqc, L, hfe, hL⟩ | ⟨q, rfl, E, ce, L, hx, hce, hcv, hcl, hW₂, hsm, hL⟩
  · obtain ⟨⟨v, rfl⟩, hW₂, e2, q2, q3, q4, q5, q6⟩ := id hfe
    have e3 : s₂ = ({ (U.calling g mk a).setFrames s₂.frames with heap := s₂.heap, slotsUsed := s₂.slotsUsed } : State).setVm s₂.vm := by
      have : s₂ = ({ s₂ with vm := (U.calling g mk a).vm } : State).setVm s₂.vm := rfl
      rw [e2] at this
      exact this
    obtain ⟨c₂, i₂, len₂, hc₂, hd₂, hf₂⟩ := hend
    have hW' : U.WarmedH s₂.vm := hW₂
    have hcc : c₂ = c := by
      have h1 : s₂.code? g.method = U.code? g.method := by
        rw [State.code?_eq, State.code?_eq, hW'.alike.method?]
      exact Option.some.inj (hc₂.symm.trans (h1.trans h.code))
    subst hcc
    have hlen : len₂ = len := by rw [hdg] at hd₂; cases hd₂; rfl
    subst hlen
    have hs₂ : s₂ = (({ U with heap := s₂.heap, slotsUsed := s₂.slotsUsed } : State).setVm s₂.vm).setTop { g with pc := g.pc + len₂, stack := v.toList ++ g.stack } := by
      refine e3.trans ?_
      rw [hf₂, State.calling_eq h.top, State.setFrames_setFrames, State.setTop_of_frames _ hr', hr]
      rfl
    have hsame : U.sameButNew ({ U with heap := s₂.heap, slotsUsed := s₂.slotsUsed } : State) L mc ms := by
      refine ⟨?_, q2, q3, q4, q5, q6⟩
      obtain ⟨t, ht, -⟩ := State.frames_cons hr
      show ({ U with heap := s₂.heap, slotsUsed := s₂.slotsUsed } : State) = { U.setFrames U.frames with heap := s₂.heap, slotsUsed := s₂.slotsUsed }
      rw [State.setFrames_self ht]
    subst hg
    refine Or.inl ⟨v, ⟨(({ U with heap := s₂.heap, slotsUsed := s₂.slotsUsed } : State).setVm s₂.vm), Ls ++ L, c0 + mc, s0 + ms⟩,
      ⟨X.admits, X.cas, X.clock, X.frames, X.room, X.hears, X.method, X.code, (X.here.setHeapUsed s₂.heap s₂.slotsUsed).setVm hW'.alike, X.tail, State.WarmedH.trans X.warmed hW', X.limits, X.bytes, X.same.trans (hsame.setVm s.vm)⟩,
      ⟨g, mk, s₂, L, rfl, rfl, hqc, rfl, hL, rfl, rfl⟩, ?_⟩
    show Steps p.tables e below _ ((({ U with heap := s₂.heap, slotsUsed := s₂.slotsUsed } : State).setVm s₂.vm).setTop { g with pc := g.pc + len₂, stack := v.toList ++ g.stack })
    rw [← hs₂]
    exact hsteps
  · obtain ⟨e2, q2, q3, q4, q5, q6⟩ := id hsm
    have e3 : s₂ = ({ (U.calling g mk a).setFrames s₂.frames with heap := s₂.heap, slotsUsed := s₂.slotsUsed } : State).setVm s₂.vm := by
      have : s₂ = ({ s₂ with vm := (U.calling g mk a).vm } : State).setVm s₂.vm := rfl
      rw [e2] at this
      exact this
    have hf₂ : s₂.frames = .throwing q :: .java g :: U.frames.tail := hend
    have hW' : U.WarmedH s₂.vm := hW₂
    have hs₂ : s₂ = ((({ U with heap := s₂.heap, slotsUsed := s₂.slotsUsed } : State).setVm s₂.vm).setTop g).pushFrame (.throwing q) := by
      refine e3.trans ?_
      rw [hf₂, State.calling_eq h.top, State.setFrames_setFrames, State.pushFrame, State.frames_setTop _ hr', State.setTop_of_frames _ hr', State.setFrames_setFrames, hr]
      rfl
    have hsame : U.sameButNew ({ U with heap := s₂.heap, slotsUsed := s₂.slotsUsed } : State) L mc ms := by
      refine ⟨?_, q2, q3, q4, q5, q6⟩
      obtain ⟨t, ht, -⟩ := State.frames_cons hr
      show ({ U with heap := s₂.heap, slotsUsed := s₂.slotsUsed } : State) = { U.setFrames U.frames with heap := s₂.heap, slotsUsed := s₂.slotsUsed }
      rw [State.setFrames_self ht]
    subst hg
    refine Or.inr ⟨q, ⟨(({ U with heap := s₂.heap, slotsUsed := s₂.slotsUsed } : State).setVm s₂.vm), Ls ++ L, c0 + mc, s0 + ms⟩,
      ⟨X.admits, X.cas, X.clock, X.frames, X.room, X.hears, X.method, X.code, (X.here.setHeapUsed s₂.heap s₂.slotsUsed).setVm hW'.alike, X.tail, State.WarmedH.trans X.warmed hW', X.limits, X.bytes, X.same.trans (hsame.setVm s.vm)⟩,
      ⟨g, mk, s₂, L, E, ce, rfl, rfl, hx, hce, hcv, hcl, rfl, hL, rfl, rfl⟩, ?_⟩
    show Steps p.tables e below _ (((({ U with heap := s₂.heap, slotsUsed := s₂.slotsUsed } : State).setVm s₂.vm).setTop g).pushFrame (.throwing q))
    rw [← hs₂]
    exact hsteps
end
variable {p : Program} {l : Launch} {e : Env} {R : Room} {s : State} {m : MethodId} {args : Array Value} {below : List Frame} {meth : Method} {c : Code} {T : State} {H : Heap} {locs : List Loc} {cells slots : Nat}
theorem vx_callVX (X : Stand p l e R s m args below meth c T locs cells slots) (hexec : p.tables.exec = Jvm.exec) {own C : String} {index : Nat} {y : MethodName} {bytes : ByteArray} {maxL : Nat} {ret : Option FieldType} {hh : List (Nat × Nat × Nat × Nat)}
    (hown : s.vm.findClass own = some m.cls) (hlink : (Cond.methodLink own index y).before args s = true) (hinst : (Cond.instanceMethod y).before args s = true) (hsel : (Cond.selects C y y).before args s = true)
    (hcode : (Cond.codeWith y bytes maxL ret hh).before args s = true) (hy : y.cls ≠ "java/lang/invoke/MethodHandle" ∧ y.cls ≠ "java/lang/invoke/VarHandle")
    {W9 : Nat} {Pre : Pt → Array Value → Prop} {Post : Pt → Array Value → Option Value → Pt → Prop} {PostX : Pt → Array Value → Addr → Pt → Prop} (hK : vx_Back l R p e below s args y 3 W9 Pre Post PostX)
    {b : Addr} {cellB : Cell} (hcell : T.heap[b]? = some cellB) (hobj : cellB.vm.isStatics = false) (hcls : s.vm.findClass C = some cellB.cls)
    {g : JFrame} (hg : g.method = m) (hsize : g.locals.size = c.maxLocals) {argsL rest : List Value} (hlen : ∀ sig, parseMethodDescriptor y.desc = some sig → argsL.length = sig.parameters.length)
    (hstack : g.stack = argsL.reverse ++ .ref b :: rest) (hW : 2 * g.monitorRoom + (rest.map fun v => v.category).sum ≤ W9) (hdg : decode c.code g.pc = .ok (.invokevirtual index, 3))
    (hpre : ∀ vm₁, s.WarmedH vm₁ → Pre ⟨T.setVm vm₁, locs, cells, slots⟩ (Value.ref b :: argsL).toArray) :
    (∃ (v : Option Value) (vm₁ : Vm) (B : Pt), s.WarmedH vm₁ ∧ Stand p l e R s m args below meth c B.U B.locs B.cells B.slots ∧ Post ⟨T.setVm vm₁, locs, cells, slots⟩ (Value.ref b :: argsL).toArray v B ∧
      ∀ target, Steps p.tables e below (B.U.setTop { g with pc := g.pc + 3, stack := v.toList ++ rest }) target → Steps p.tables e below (T.setTop g) target) ∨
    (∃ (q : Addr) (vm₁ : Vm) (B : Pt), s.WarmedH vm₁ ∧ Stand p l e R s m args below meth c B.U B.locs B.cells B.slots ∧ PostX ⟨T.setVm vm₁, locs, cells, slots⟩ (Value.ref b :: argsL).toArray q B ∧
      Steps p.tables e below (T.setTop g) ((B.U.setTop { g with stack := rest }).pushFrame (.throwing q))) := by
  obtain ⟨mk, methM, hnamed, hmethM, hstM, habM⟩ := Cond.instanceMethod_spec hinst
  obtain ⟨m8, methM', cM, hn8, hmethM', -, -, -, -, -, -, hsigM⟩ := Cond.codeWith_spec hcode
  cases Option.some.inj (hn8.symm.trans hnamed)
  cases hmethM.symm.trans hmethM'
  obtain ⟨c2, r2, m2, q1, q2, q3, q4, kP, hkP, hkPi⟩ := Cond.selects_spec hsel
  cases hcls.symm.trans q1
  cases (State.methodFound?_of_named hnamed hy).symm.trans q2
  cases hnamed.symm.trans q3
  have hselP : selectMethod e.platform s.vm cellB.cls mk = .method mk := by rw [Launch.admits_selectMethod X.admits]; exact q4
  obtain ⟨vm₁, X₁, hstep₁⟩ := X.invokevirtual hexec hown hlink hnamed hmethM hstM hkP hkPi hy (a := b) (cell := cellB) hcell
    (fun z h => by rw [h] at hobj; cases hobj) hselP hmethM habM hkP hkPi (g := g) hg (argsL := argsL) (rest := rest) (hlen _ hsigM) hstack hdg
  rcases hK m meth c ⟨T.setVm vm₁, locs, cells, slots⟩ { g with stack := rest } (.invokevirtual index) mk (Value.ref b :: argsL).toArray X₁ hg hsize hdg hW (X₁.named hnamed) (hpre vm₁ X₁.warmed) with ⟨v, B, X', hpost, hsteps⟩ | ⟨q, B, X', hpost, hsteps⟩
  · exact Or.inl ⟨v, vm₁, B, X₁.warmed, X', hpost, fun target h => hstep₁ _ fun acts => by rw [doInvoke_state]; exact hsteps.trans h⟩
  · exact Or.inr ⟨q, vm₁, B, X₁.warmed, X', hpost, hstep₁ _ fun acts => by rw [doInvoke_state]; exact hsteps⟩
theorem vx_callSX (X : Stand p l e R s m args below meth c T locs cells slots) (hexec : p.tables.exec = Jvm.exec) {own : String} {index : Nat} {y : MethodName} {bytes : ByteArray} {maxL : Nat} {ret : Option FieldType} {hh : List (Nat × Nat × Nat × Nat)}
    (hown : s.vm.findClass own = some m.cls) (hlink : (Cond.methodLink own index y).before args s = true) (hstat : (Cond.static y).before args s = true) (hinit : (Cond.initialized y.cls).before args s = true)
    (hcode : (Cond.codeWith y bytes maxL ret hh).before args s = true) (hy : y.cls ≠ "java/lang/invoke/MethodHandle" ∧ y.cls ≠ "java/lang/invoke/VarHandle")
    {W9 : Nat} {Pre : Pt → Array Value → Prop} {Post : Pt → Array Value → Option Value → Pt → Prop} {PostX : Pt → Array Value → Addr → Pt → Prop} (hK : vx_Back l R p e below s args y 3 W9 Pre Post PostX)
    {g : JFrame} (hg : g.method = m) (hsize : g.locals.size = c.maxLocals) {argsL rest : List Value} (hlen : ∀ sig, parseMethodDescriptor y.desc = some sig → argsL.length = sig.parameters.length)
    (hstack : g.stack = argsL.reverse ++ rest) (hW : 2 * g.monitorRoom + (rest.map fun v => v.category).sum ≤ W9) (hdg : decode c.code g.pc = .ok (.invokestatic index, 3))
    (hpre : ∀ vm₁, s.WarmedH vm₁ → Pre ⟨T.setVm vm₁, locs, cells, slots⟩ argsL.toArray) :
    (∃ (v : Option Value) (vm₁ : Vm) (B : Pt), s.WarmedH vm₁ ∧ Stand p l e R s m args below meth c B.U B.locs B.cells B.slots ∧ Post ⟨T.setVm vm₁, locs, cells, slots⟩ argsL.toArray v B ∧
      ∀ target, Steps p.tables e below (B.U.setTop { g with pc := g.pc + 3, stack := v.toList ++ rest }) target → Steps p.tables e below (T.setTop g) target) ∨
    (∃ (q : Addr) (vm₁ : Vm) (B : Pt), s.WarmedH vm₁ ∧ Stand p l e R s m args below meth c B.U B.locs B.cells B.slots ∧ PostX ⟨T.setVm vm₁, locs, cells, slots⟩ argsL.toArray q B ∧
      Steps p.tables e below (T.setTop g) ((B.U.setTop { g with stack := rest }).pushFrame (.throwing q))) := by
  obtain ⟨mk, methM, cM, hnamed, hmethM, -, -, -, -, -, -, hsigM⟩ := Cond.codeWith_spec hcode
  have hstatic : methM.isStatic = true := Cond.static_spec hnamed hmethM hstat
  obtain ⟨kP, hkP, -⟩ := className_of_methodNamed hnamed
  have hinitP : kP.init = .initialized := Cond.initialized_spec (findClass_of_methodNamed hnamed) hkP hinit
  obtain ⟨vm₁, X₁, hstep₁⟩ := X.invokestatic hexec hown hlink hnamed hmethM hstatic hkP hinitP hy (g := g) hg (argsL := argsL) (rest := rest) (hlen _ hsigM) hstack hdg
  rcases hK m meth c ⟨T.setVm vm₁, locs, cells, slots⟩ { g with stack := rest } (.invokestatic index) mk argsL.toArray X₁ hg hsize hdg hW (X₁.named hnamed) (hpre vm₁ X₁.warmed) with ⟨v, B, X', hpost, hsteps⟩ | ⟨q, B, X', hpost, hsteps⟩
  · exact Or.inl ⟨v, vm₁, B, X₁.warmed, X', hpost, fun target h => hstep₁ _ fun acts => by rw [doInvoke_state]; exact hsteps.trans h⟩
  · exact Or.inr ⟨q, vm₁, B, X₁.warmed, X', hpost, hstep₁ _ fun acts => by rw [doInvoke_state]; exact hsteps⟩
theorem vx_callVW (X : Stand p l e R s m args below meth c T locs cells slots) (hexec : p.tables.exec = Jvm.exec) {own C : String} {index : Nat} {y : MethodName} {bytes : ByteArray} {maxL : Nat} {ret : Option FieldType} {hh : List (Nat × Nat × Nat × Nat)}
    (hown : s.vm.findClass own = some m.cls) (hlink : (Cond.methodLink own index y).before args s = true) (hinst : (Cond.instanceMethod y).before args s = true) (hsel : (Cond.selects C y y).before args s = true)
    (hcode : (Cond.codeWith y bytes maxL ret hh).before args s = true) (hy : y.cls ≠ "java/lang/invoke/MethodHandle" ∧ y.cls ≠ "java/lang/invoke/VarHandle")
    {W9 : Nat} {Pre : Pt → Array Value → Prop} {Post : Pt → Array Value → Option Value → Pt → Prop} (hK : Back l R p e below s args y 3 W9 Pre Post)
    {b : Addr} {cellB : Cell} (hcell : T.heap[b]? = some cellB) (hobj : cellB.vm.isStatics = false) (hcls : s.vm.findClass C = some cellB.cls)
    {g : JFrame} (hg : g.method = m) (hsize : g.locals.size = c.maxLocals) {argsL rest : List Value} (hlen : ∀ sig, parseMethodDescriptor y.desc = some sig → argsL.length = sig.parameters.length)
    (hstack : g.stack = argsL.reverse ++ .ref b :: rest) (hW : 2 * g.monitorRoom + (rest.map fun v => v.category).sum ≤ W9) (hdg : decode c.code g.pc = .ok (.invokevirtual index, 3))
    (hpre : ∀ vm₁, s.WarmedH vm₁ → Pre ⟨T.setVm vm₁, locs, cells, slots⟩ (Value.ref b :: argsL).toArray) :
    ∃ (v : Option Value) (vm₁ : Vm) (B : Pt), s.WarmedH vm₁ ∧ Stand p l e R s m args below meth c B.U B.locs B.cells B.slots ∧ Post ⟨T.setVm vm₁, locs, cells, slots⟩ (Value.ref b :: argsL).toArray v B ∧
      ∀ target, Steps p.tables e below (B.U.setTop { g with pc := g.pc + 3, stack := v.toList ++ rest }) target → Steps p.tables e below (T.setTop g) target := by
  obtain ⟨mk, methM, hnamed, hmethM, hstM, habM⟩ := Cond.instanceMethod_spec hinst
  obtain ⟨m8, methM', cM, hn8, hmethM', -, -, -, -, -, -, hsigM⟩ := Cond.codeWith_spec hcode
  cases Option.some.inj (hn8.symm.trans hnamed)
  cases hmethM.symm.trans hmethM'
  obtain ⟨c2, r2, m2, q1, q2, q3, q4, kP, hkP, hkPi⟩ := Cond.selects_spec hsel
  cases hcls.symm.trans q1
  cases (State.methodFound?_of_named hnamed hy).symm.trans q2
  cases hnamed.symm.trans q3
  have hselP : selectMethod e.platform s.vm cellB.cls mk = .method mk := by rw [Launch.admits_selectMethod X.admits]; exact q4
  obtain ⟨vm₁, X₁, hstep₁⟩ := X.invokevirtual hexec hown hlink hnamed hmethM hstM hkP hkPi hy (a := b) (cell := cellB) hcell
    (fun z h => by rw [h] at hobj; cases hobj) hselP hmethM habM hkP hkPi (g := g) hg (argsL := argsL) (rest := rest) (hlen _ hsigM) hstack hdg
  obtain ⟨v, B, X', hpost, hsteps⟩ := hK m meth c ⟨T.setVm vm₁, locs, cells, slots⟩ { g with stack := rest } (.invokevirtual index) mk (Value.ref b :: argsL).toArray X₁ hg hsize hdg hW (X₁.named hnamed) (hpre vm₁ X₁.warmed)
  exact ⟨v, vm₁, B, X₁.warmed, X', hpost, fun target h => hstep₁ _ fun acts => by rw [doInvoke_state]; exact hsteps.trans h⟩
abbrev vx_CVW (R : Room) (s : State) (args : Array Value) (own C : String) (index : Nat) (y : MethodName) (bytes : ByteArray) (maxL : Nat) (ret : Option FieldType) (hh : List (Nat × Nat × Nat × Nat)) (ws : List Cond) (rm : Room) (mc ms n : Nat) : Prop :=
  (rm.cells = mc ∧ rm.slots = ms ∧ rm.frames + 1 ≤ R.frames ∧ 8 + (maxL + 11) + rm.locals ≤ R.locals ∧ (∀ w ∈ ws, ∀ (a' : Array Value) (U : State), s.WarmedH U.vm → w.before a' U = true) ∧ Cond.codeWith y bytes maxL ret hh ∈ ws) ∧
  (Cond.codeWith y bytes maxL ret hh).before args s = true ∧ (Cond.initialized y.cls).before args s = true ∧ (y.cls ≠ "java/lang/invoke/MethodHandle" ∧ y.cls ≠ "java/lang/invoke/VarHandle") ∧
  (∀ sig, parseMethodDescriptor y.desc = some sig → n = sig.parameters.length) ∧ (Cond.methodLink own index y).before args s = true ∧ (Cond.instanceMethod y).before args s = true ∧ (Cond.selects C y y).before args s = true
theorem vx_cwVW {own C : String} {index maxL mc ms : Nat} {y : MethodName} {bytes : ByteArray} {ret : Option FieldType} {hh : List (Nat × Nat × Nat × Nat)} {Ts ws ws' : List Cond} {rm : Room} (n : Nat) (ht : ∀ w ∈ Ts, w.before args s = true) (hT : GoodIn Ts (wsV own index C y ws)) (hw : ws = Cond.codeWith y bytes maxL ret hh :: ws') (hrc : rm.cells = mc) (hrs : rm.slots = ms)
    (hd : y.cls = C ∧ y.cls ≠ "java/lang/invoke/MethodHandle" ∧ y.cls ≠ "java/lang/invoke/VarHandle" ∧ (parseMethodDescriptor y.desc).map (fun d => d.parameters.length) = some n) (hR : rm.frames + 1 ≤ R.frames ∧ 8 + (maxL + 11) + rm.locals ≤ R.locals) :
    vx_CVW R s args own C index y bytes maxL ret hh ws rm mc ms n := by
  obtain ⟨hC, hd⟩ := hd
  subst hC
  have ok : ∀ w ∈ wsV own index y.cls y ws, w.before args s = true := fun w h => ht w (hT w h).1
  have hG : GoodIn Ts ws := fun w h => hT w (by unfold wsV; exact List.mem_append_right _ h)
  have hc : Cond.codeWith y bytes maxL ret hh ∈ ws := by rw [hw]; exact List.mem_cons_self
  refine ⟨⟨hrc, hrs, hR.1, hR.2, pay_in ht hG, hc⟩, ht _ (hG _ hc).1, ok _ (by simp [wsV]), ⟨hd.1, hd.2.1⟩, fun sig h => ?_, ok _ (by simp [wsV]), ok _ (by simp [wsV]), ok _ (by simp [wsV])⟩
  have h2 := hd.2.2
  rw [h] at h2
  exact (Option.some.inj h2).symm
theorem vx_runVW {y : MethodName} {bytes cc : ByteArray} {maxL nL mc ms n index : Nat} {ret : Option FieldType} {hh : List (Nat × Nat × Nat × Nat)} {ws : List Cond} {rm : Room} {Pc : Array Value → State → Prop} {Qc : Array Value → State → Outcome → State → Prop} {free : Addr → Prop} {Ts : List Cond} {own C : String} {b : Addr} {As rest : List Value} {g : JFrame}
    (S : CallFix p m c cc nL s args Ts own) (hM : Met l y ws rm Pc Qc mc ms free) (cw : vx_CVW R s args own C index y bytes maxL ret hh ws rm mc ms n) (hp : PreV s H C b Pc As)
    (hg : g.method = m) (hn : As.length = n) (hsize : g.locals.size = nL) (hstack : g.stack = As.reverse ++ .ref b :: rest) (hW : 2 * g.monitorRoom + (rest.map fun v => v.category).sum ≤ 8) (hdg : decode cc g.pc = .ok (.invokevirtual index, 3)) (hf : cells + mc ≤ R.cells ∧ slots + ms ≤ R.slots) :
    va_Run p l e R s m args below meth c H locs cells slots mc ms g rest (Qc (Value.ref b :: As).toArray) free := by
  obtain ⟨⟨hrc, hrs, hfr, hlo, hws, hcw⟩, hcode, hini, hy, hlen, hl, hin, hse⟩ := cw
  have hK : Back l R p e below s args y 3 8 (PreOf R mc ms Pc) (PostOf Qc mc ms free) := va_backW (hh := hh) (bytes := bytes) (maxL := maxL) (ret := ret) hM hp.1 hrc hrs hfr hlo hws hcw (fun a' U hW => word_at hW (Or.inl (by first | rfl | simp [Cond.onTables, Cond.keeps, Cond.steady])) hini)
  obtain ⟨hx, hb, hml, ho, -⟩ := S
  obtain ⟨-, ⟨cellB, hcB, hoB, hclB⟩, hPc⟩ := hp
  intro T hT X
  obtain ⟨v, vm₁, ⟨U', l2, c2, s2⟩, hW₁, X', ⟨g', mk, t, L, e1, e2, hq, h1, hL, h2, h3⟩, st⟩ := vx_callVW X hx (C := C) (hh := hh) (bytes := bytes) (maxL := maxL) (ret := ret) ho hl hin hse hcode hy hK (by rw [hT]; exact hcB) hoB hclB hg (hsize.trans hml.symm) (argsL := As) (rest := rest) (fun sig h => hn.trans (hlen sig h)) hstack hW (by rw [hb]; exact hdg)
    (fun vm₁ hW₁ => ⟨hf.1, hf.2, hPc (T.setVm vm₁) hT hW₁⟩)
  dsimp only [Pt.U, Pt.locs, Pt.cells, Pt.slots] at X' e1 e2 h1 h2 h3 st
  subst h1; subst h2; subst h3
  exact ⟨v, (T.setVm vm₁).calling g' mk (Value.ref b :: As).toArray, t, U', L, hT, X', hL, e1, e2, hq, st⟩
section
variable {y : MethodName} {bytes cc : ByteArray} {maxL nL mc ms n index : Nat} {ret : Option FieldType} {ws : List Cond} {rm : Room} {Pc : Array Value → State → Prop} {Qc : Array Value → State → Outcome → State → Prop} {XC : String → State → State → Prop} {free : Addr → Prop} {Ts : List Cond} {own C : String} {b : Addr} {As rest : List Value} {g : JFrame}
theorem vx_runVX {hh : List (Nat × Nat × Nat × Nat)} (S : CallFix p m c cc nL s args Ts own) (hM : vx_Met l y ws rm Pc Qc XC mc ms free) (cw : vx_CVW R s args own C index y bytes maxL ret hh ws rm mc ms n) (hp : PreV s H C b Pc As)
    (hg : g.method = m) (hn : As.length = n) (hsize : g.locals.size = nL) (hstack : g.stack = As.reverse ++ .ref b :: rest) (hW : 2 * g.monitorRoom + (rest.map fun v => v.category).sum ≤ 8) (hdg : decode cc g.pc = .ok (.invokevirtual index, 3)) (hf : cells + mc ≤ R.cells ∧ slots + ms ≤ R.slots) :
    vx_Run p l e R s m args below meth c H locs cells slots mc ms g rest (Qc (Value.ref b :: As).toArray) XC free := by
  obtain ⟨⟨hrc, hrs, hfr, hlo, hws, hcw⟩, hcode, hini, hy, hlen, hl, hin, hse⟩ := cw
  have hK : vx_Back l R p e below s args y 3 8 (PreOf R mc ms Pc) (PostOf Qc mc ms free) (vx_Post XC mc ms free) := vx_backW (hh := hh) (bytes := bytes) (maxL := maxL) (ret := ret) hM hp.1 hrc hrs hfr hlo hws hcw (fun a' U hW => word_at hW (Or.inl (by first | rfl | simp [Cond.onTables, Cond.keeps, Cond.steady])) hini)
  obtain ⟨hx, hb, hml, ho, -⟩ := S
  obtain ⟨-, ⟨cellB, hcB, hoB, hclB⟩, hPc⟩ := hp
  intro T hT X
  rcases vx_callVX X hx (C := C) (hh := hh) (bytes := bytes) (maxL := maxL) (ret := ret) ho hl hin hse hcode hy hK (by rw [hT]; exact hcB) hoB hclB hg (hsize.trans hml.symm) (argsL := As) (rest := rest) (fun sig h => hn.trans (hlen sig h)) hstack hW (by rw [hb]; exact hdg)
    (fun vm₁ hW₁ => ⟨hf.1, hf.2, hPc (T.setVm vm₁) hT hW₁⟩) with ⟨v, vm₁, ⟨U', l2, c2, s2⟩, hW₁, X', ⟨g', mk, t, L, e1, e2, hq, h1, hL, h2, h3⟩, st⟩ | ⟨q, vm₁, ⟨U', l2, c2, s2⟩, hW₁, X', ⟨g', mk, t, L, E, ce, e1, e2, hq, hce, hcv, hcl, h1, hL, h2, h3⟩, st⟩
  · dsimp only [Pt.U, Pt.locs, Pt.cells, Pt.slots] at X' e1 e2 h1 h2 h3 st
    subst h1; subst h2; subst h3
    exact Or.inl ⟨v, (T.setVm vm₁).calling g' mk (Value.ref b :: As).toArray, t, U', L, hT, X', hL, e1, e2, hq, st⟩
  · dsimp only [Pt.U, Pt.locs, Pt.cells, Pt.slots] at X' e1 e2 h1 h2 h3 st hcl
    subst h1; subst h2; subst h3
    exact Or.inr ⟨q, (T.setVm vm₁).calling g' mk (Value.ref b :: As).toArray, t, U', L, E, ce, hT, X', hL, e1, e2, hq, hce, hcv, vx_cls hW₁ hcl, st⟩
theorem vx_runSX {hh : List (Nat × Nat × Nat × Nat)} (S : CallFix p m c cc nL s args Ts own) (hM : vx_Met l y ws rm Pc Qc XC mc ms free) (cw : vx_CSW R s args own index y bytes maxL ret hh ws rm mc ms n) (hp : PreS s H Pc As)
    (hg : g.method = m) (hn : As.length = n) (hsize : g.locals.size = nL) (hstack : g.stack = As.reverse ++ rest) (hW : 2 * g.monitorRoom + (rest.map fun v => v.category).sum ≤ 8) (hdg : decode cc g.pc = .ok (.invokestatic index, 3)) (hf : cells + mc ≤ R.cells ∧ slots + ms ≤ R.slots) :
    vx_Run p l e R s m args below meth c H locs cells slots mc ms g rest (Qc As.toArray) XC free := by
  obtain ⟨⟨hrc, hrs, hfr, hlo, hws, hcw⟩, hcode, hini, hy, hlen, hl, hstt⟩ := cw
  have hK : vx_Back l R p e below s args y 3 8 (PreOf R mc ms Pc) (PostOf Qc mc ms free) (vx_Post XC mc ms free) := vx_backW (hh := hh) (bytes := bytes) (maxL := maxL) (ret := ret) hM hp.1 hrc hrs hfr hlo hws hcw (fun a' U hW => word_at hW (Or.inl (by first | rfl | simp [Cond.onTables, Cond.keeps, Cond.steady])) hini)
  obtain ⟨hx, hb, hml, ho, -⟩ := S
  intro T hT X
  rcases vx_callSX X hx (hh := hh) (bytes := bytes) (maxL := maxL) (ret := ret) ho hl hstt hini hcode hy hK hg (hsize.trans hml.symm) (argsL := As) (rest := rest) (fun sig h => hn.trans (hlen sig h)) hstack hW (by rw [hb]; exact hdg)
    (fun vm₁ hW₁ => ⟨hf.1, hf.2, hp.2 (T.setVm vm₁) hT hW₁⟩) with ⟨v, vm₁, ⟨U', l2, c2, s2⟩, hW₁, X', ⟨g', mk, t, L, e1, e2, hq, h1, hL, h2, h3⟩, st⟩ | ⟨q, vm₁, ⟨U', l2, c2, s2⟩, hW₁, X', ⟨g', mk, t, L, E, ce, e1, e2, hq, hce, hcv, hcl, h1, hL, h2, h3⟩, st⟩
  · dsimp only [Pt.U, Pt.locs, Pt.cells, Pt.slots] at X' e1 e2 h1 h2 h3 st
    subst h1; subst h2; subst h3
    exact Or.inl ⟨v, (T.setVm vm₁).calling g' mk As.toArray, t, U', L, hT, X', hL, e1, e2, hq, st⟩
  · dsimp only [Pt.U, Pt.locs, Pt.cells, Pt.slots] at X' e1 e2 h1 h2 h3 st hcl
    subst h1; subst h2; subst h3
    exact Or.inr ⟨q, (T.setVm vm₁).calling g' mk As.toArray, t, U', L, E, ce, hT, X', hL, e1, e2, hq, hce, hcv, vx_cls hW₁ hcl, st⟩
end
end VXH
theorem vx_ofWH {l : Launch} {y : MethodName} {ws ws' : List Cond} {rm : Room} {Pc : Array Value → State → Prop} {Qc : Array Value → State → Outcome → State → Prop} {XC : String → State → State → Prop} {mc ms : Nat} {free : Addr → Prop} {cc : ByteArray} {maxL : Nat} {ret : Option FieldType} {hh : List (Nat × Nat × Nat × Nat)}
    (hy : plainName y.cls = true) (hw : ws = Cond.codeWith y cc maxL ret hh :: ws')
    (body : ∀ p e s m args below meth c s₁, BodyLoose p l y (headSpec ws rm) cc maxL ret e s m args below meth c s₁ → c.maxLocals = maxL → Pc args s →
      W p l e (headSpec ws rm).room s m args below meth c s.heap [] 0 0 (vx_MQ below Qc XC args s mc ms free) (entryFrame m args maxL)) : vx_Met l y ws rm Pc Qc XC mc ms free := by
  refine MetFree.of_bodyS (code := cc) (maxLocals := maxL) (ret := ret) hy ?_ ?_
  · intro args s m h hn
    obtain ⟨m9, meth, c, hn9, h1, h2, h3, h4, -, h5, h6, -⟩ := Cond.codeWith_spec (atoms_spec (ws := ws) h _ (by rw [hw]; exact List.mem_cons_self))
    cases hn.symm.trans hn9
    exact ⟨meth, c, h1, h2, h3, h4, h5, h6⟩
  · intro p e s m args below meth c s₁ B hml hP _
    have hh0 : s₁.heap = s.heap := by rw [B.state]; rfl
    obtain ⟨t, a1, o, b1, b2, b3⟩ := body p e s m args below meth c s₁ B hml hP s₁ hh0 (Stand.of_body B)
    exact ⟨t, o, a1, b1, b2, b3⟩
/-! ===== END ===== -/
end
section
/-! ===== BEGIN printed: names, fields, word lists, decode rows ===== -/
def RX0 : String := "Rackrail$Orders"
def TX0 : u_T := fun k => match k with
  | 0 => ("Rackrail$Orders", "boxes", "[I", true)
  | 1 => ("Rackrail$Orders", "deadlines", "[I", true)
  | 2 => ("Rackrail$Orders", "done", "[Z", true)
  | 3 => ("Rackrail$Orders", "count", "I", false)
  | _ => ("Rackrail$Orders", "lateCount", "I", false)
def tyX0 : Nat → FieldType := fun k => match k with
  | 0 => .array .int
  | 1 => .array .int
  | 2 => .array .boolean
  | 3 => .int
  | _ => .int
abbrev wsX00 : List Cond := u_ws RX0 TX0 5
theorem nmX0 : ∀ a, a < 5 → ∀ b, b < 5 → a ≠ b → (TX0 a).2.1 ≠ (TX0 b).2.1 := by decide +kernel
theorem tyX0_ok : ∀ k, k < 5 → parseFieldDescriptor (TX0 k).2.2.1 = some (tyX0 k) := by decide +kernel
abbrev cX0_init : ByteArray := prog_2_method_1_code
def yX0_init : MethodName := ⟨RX0, "<init>", "()V"⟩
abbrev cX0_isFull : ByteArray := prog_2_method_2_code
def yX0_isFull : MethodName := ⟨RX0, "isFull", "()Z"⟩
abbrev cX0_enter : ByteArray := prog_2_method_3_code
def yX0_enter : MethodName := ⟨RX0, "enter", "(II)I"⟩
abbrev cX0_boxOf : ByteArray := prog_2_method_4_code
def yX0_boxOf : MethodName := ⟨RX0, "boxOf", "(I)I"⟩
abbrev cX0_isOpenFor : ByteArray := prog_2_method_5_code
def yX0_isOpenFor : MethodName := ⟨RX0, "isOpenFor", "(I)Z"⟩
abbrev cX0_earliest : ByteArray := prog_2_method_6_code
def yX0_earliest : MethodName := ⟨RX0, "earliest", "(LRackrail$Store;I)I"⟩
abbrev cX0_finish : ByteArray := prog_2_method_7_code
def yX0_finish : MethodName := ⟨RX0, "finish", "(II)V"⟩
abbrev cX0_countOpen : ByteArray := prog_2_method_8_code
def yX0_countOpen : MethodName := ⟨RX0, "countOpen", "()I"⟩
abbrev cX0_countLate : ByteArray := prog_2_method_9_code
def yX0_countLate : MethodName := ⟨RX0, "countLate", "()I"⟩
def RX1 : String := "Rackrail$Rail"
def TX1 : u_T := fun k => match k with
  | 0 => ("Rackrail$Rail", "doubts", "[Z", true)
  | 1 => ("Rackrail$Rail", "inside", "[Z", true)
  | 2 => ("Rackrail$Rail", "moves", "[I", true)
  | 3 => ("Rackrail$Rail", "gap", "I", false)
  | 4 => ("Rackrail$Rail", "target", "I", false)
  | 5 => ("Rackrail$Rail", "stalled", "Z", false)
  | _ => ("Rackrail$Rail", "smoky", "Z", false)
def tyX1 : Nat → FieldType := fun k => match k with
  | 0 => .array .boolean
  | 1 => .array .boolean
  | 2 => .array .int
  | 3 => .int
  | 4 => .int
  | 5 => .boolean
  | _ => .boolean
abbrev wsX10 : List Cond := u_ws RX1 TX1 7
theorem nmX1 : ∀ a, a < 7 → ∀ b, b < 7 → a ≠ b → (TX1 a).2.1 ≠ (TX1 b).2.1 := by decide +kernel
theorem tyX1_ok : ∀ k, k < 7 → parseFieldDescriptor (TX1 k).2.2.1 = some (tyX1 k) := by decide +kernel
abbrev cX1_init : ByteArray := prog_3_method_1_code
def yX1_init : MethodName := ⟨RX1, "<init>", "()V"⟩
abbrev cX1_openAisle : ByteArray := prog_3_method_2_code
def yX1_openAisle : MethodName := ⟨RX1, "openAisle", "()I"⟩
abbrev cX1_openAisleByMoves : ByteArray := prog_3_method_3_code
def yX1_openAisleByMoves : MethodName := ⟨RX1, "openAisleByMoves", "()I"⟩
abbrev cX1_mayOpen : ByteArray := prog_3_method_4_code
def yX1_mayOpen : MethodName := ⟨RX1, "mayOpen", "()Z"⟩
abbrev cX1_mayGoIn : ByteArray := prog_3_method_5_code
def yX1_mayGoIn : MethodName := ⟨RX1, "mayGoIn", "()Z"⟩
abbrev cX1_aimAt : ByteArray := prog_3_method_6_code
def yX1_aimAt : MethodName := ⟨RX1, "aimAt", "(I)V"⟩
abbrev cX1_movesToCome : ByteArray := prog_3_method_7_code
def yX1_movesToCome : MethodName := ⟨RX1, "movesToCome", "()I"⟩
abbrev cX1_moveFor : ByteArray := prog_3_method_8_code
def yX1_moveFor : MethodName := ⟨RX1, "moveFor", "(I)V"⟩
abbrev cX1_moveOne : ByteArray := prog_3_method_9_code
def yX1_moveOne : MethodName := ⟨RX1, "moveOne", "()V"⟩
abbrev cX1_hasDoubt : ByteArray := prog_3_method_10_code
def yX1_hasDoubt : MethodName := ⟨RX1, "hasDoubt", "(I)Z"⟩
abbrev cX1_setDoubt : ByteArray := prog_3_method_11_code
def yX1_setDoubt : MethodName := ⟨RX1, "setDoubt", "(IZ)V"⟩
abbrev cX1_changeStall : ByteArray := prog_3_method_12_code
def yX1_changeStall : MethodName := ⟨RX1, "changeStall", "(Z)Z"⟩
abbrev cX1_changeSmoke : ByteArray := prog_3_method_13_code
def yX1_changeSmoke : MethodName := ⟨RX1, "changeSmoke", "(Z)V"⟩
abbrev cX1_isInside : ByteArray := prog_3_method_14_code
def yX1_isInside : MethodName := ⟨RX1, "isInside", "(I)Z"⟩
abbrev cX1_setInside : ByteArray := prog_3_method_15_code
def yX1_setInside : MethodName := ⟨RX1, "setInside", "(IZ)V"⟩
abbrev cX1_countInside : ByteArray := prog_3_method_16_code
def yX1_countInside : MethodName := ⟨RX1, "countInside", "()I"⟩
abbrev cX1_sendAllOut : ByteArray := prog_3_method_17_code
def yX1_sendAllOut : MethodName := ⟨RX1, "sendAllOut", "()I"⟩
def RX2 : String := "Rackrail$Store"
def TX2 : u_T := fun k => match k with
  | 0 => ("Rackrail$Store", "shelfClimates", "[I", true)
  | 1 => ("Rackrail$Store", "climates", "[I", true)
  | 2 => ("Rackrail$Store", "weights", "[I", true)
  | 3 => ("Rackrail$Store", "kins", "[I", true)
  | 4 => ("Rackrail$Store", "spots", "[I", true)
  | _ => ("Rackrail$Store", "count", "I", false)
def tyX2 : Nat → FieldType := fun k => match k with
  | 0 => .array .int
  | 1 => .array .int
  | 2 => .array .int
  | 3 => .array .int
  | 4 => .array .int
  | _ => .int
abbrev wsX20 : List Cond := u_ws RX2 TX2 6
theorem nmX2 : ∀ a, a < 6 → ∀ b, b < 6 → a ≠ b → (TX2 a).2.1 ≠ (TX2 b).2.1 := by decide +kernel
theorem tyX2_ok : ∀ k, k < 6 → parseFieldDescriptor (TX2 k).2.2.1 = some (tyX2 k) := by decide +kernel
abbrev cX2_init : ByteArray := prog_4_method_1_code
def yX2_init : MethodName := ⟨RX2, "<init>", "()V"⟩
abbrev cX2_climateOf : ByteArray := prog_4_method_2_code
def yX2_climateOf : MethodName := ⟨RX2, "climateOf", "(I)I"⟩
abbrev cX2_changeClimate : ByteArray := prog_4_method_3_code
def yX2_changeClimate : MethodName := ⟨RX2, "changeClimate", "(II)V"⟩
abbrev cX2_isFull : ByteArray := prog_4_method_4_code
def yX2_isFull : MethodName := ⟨RX2, "isFull", "()Z"⟩
abbrev cX2_has : ByteArray := prog_4_method_5_code
def yX2_has : MethodName := ⟨RX2, "has", "(I)Z"⟩
abbrev cX2_enter : ByteArray := prog_4_method_6_code
def yX2_enter : MethodName := ⟨RX2, "enter", "(III)I"⟩
abbrev cX2_whereIs : ByteArray := prog_4_method_7_code
def yX2_whereIs : MethodName := ⟨RX2, "whereIs", "(I)I"⟩
abbrev cX2_put : ByteArray := prog_4_method_8_code
def yX2_put : MethodName := ⟨RX2, "put", "(II)V"⟩
abbrev cX2_boxIn : ByteArray := prog_4_method_9_code
def yX2_boxIn : MethodName := ⟨RX2, "boxIn", "(I)I"⟩
abbrev cX2_aisleOfBox : ByteArray := prog_4_method_10_code
def yX2_aisleOfBox : MethodName := ⟨RX2, "aisleOfBox", "(I)I"⟩
abbrev cX2_liesOn : ByteArray := prog_4_method_11_code
def yX2_liesOn : MethodName := ⟨RX2, "liesOn", "(II)Z"⟩
abbrev cX2_weightOn : ByteArray := prog_4_method_12_code
def yX2_weightOn : MethodName := ⟨RX2, "weightOn", "(I)I"⟩
abbrev cX2_countKin : ByteArray := prog_4_method_13_code
def yX2_countKin : MethodName := ⟨RX2, "countKin", "(II)I"⟩
abbrev cX2_isWrong : ByteArray := prog_4_method_14_code
def yX2_isWrong : MethodName := ⟨RX2, "isWrong", "(I)Z"⟩
abbrev cX2_countWrong : ByteArray := prog_4_method_15_code
def yX2_countWrong : MethodName := ⟨RX2, "countWrong", "()I"⟩
abbrev cX2_firstFreeSpot : ByteArray := prog_4_method_16_code
def yX2_firstFreeSpot : MethodName := ⟨RX2, "firstFreeSpot", "(I)I"⟩
abbrev cX2_bestSpotFor : ByteArray := prog_4_method_17_code
def yX2_bestSpotFor : MethodName := ⟨RX2, "bestSpotFor", "(I)I"⟩
def RX3 : String := "Rackrail"
def TX3 : u_T := fun k => match k with
  | 0 => ("Rackrail", "store", "LRackrail$Store;", true)
  | 1 => ("Rackrail", "rail", "LRackrail$Rail;", true)
  | 2 => ("Rackrail", "orders", "LRackrail$Orders;", true)
  | _ => ("Rackrail", "clock", "I", false)
def tyX3 : Nat → FieldType := fun k => match k with
  | 0 => .object "Rackrail$Store"
  | 1 => .object "Rackrail$Rail"
  | 2 => .object "Rackrail$Orders"
  | _ => .int
abbrev wsX30 : List Cond := u_ws RX3 TX3 4
theorem nmX3 : ∀ a, a < 4 → ∀ b, b < 4 → a ≠ b → (TX3 a).2.1 ≠ (TX3 b).2.1 := by decide +kernel
theorem tyX3_ok : ∀ k, k < 4 → parseFieldDescriptor (TX3 k).2.2.1 = some (tyX3 k) := by decide +kernel
abbrev cX3_init : ByteArray := prog_1_method_1_code
def yX3_init : MethodName := ⟨RX3, "<init>", "()V"⟩
abbrev cX3_setClimate : ByteArray := prog_1_method_2_code
def yX3_setClimate : MethodName := ⟨RX3, "setClimate", "(II)I"⟩
abbrev cX3_addBox : ByteArray := prog_1_method_3_code
def yX3_addBox : MethodName := ⟨RX3, "addBox", "(III)I"⟩
abbrev cX3_bestSpot : ByteArray := prog_1_method_4_code
def yX3_bestSpot : MethodName := ⟨RX3, "bestSpot", "(I)I"⟩
abbrev cX3_lay : ByteArray := prog_1_method_5_code
def yX3_lay : MethodName := ⟨RX3, "lay", "(I)I"⟩
abbrev cX3_spotOf : ByteArray := prog_1_method_6_code
def yX3_spotOf : MethodName := ⟨RX3, "spotOf", "(I)I"⟩
abbrev cX3_boxAt : ByteArray := prog_1_method_7_code
def yX3_boxAt : MethodName := ⟨RX3, "boxAt", "(I)I"⟩
abbrev cX3_weight : ByteArray := prog_1_method_8_code
def yX3_weight : MethodName := ⟨RX3, "weight", "(I)I"⟩
abbrev cX3_wrong : ByteArray := prog_1_method_9_code
def yX3_wrong : MethodName := ⟨RX3, "wrong", "()I"⟩
abbrev cX3_open : ByteArray := prog_1_method_10_code
def yX3_open : MethodName := ⟨RX3, "open", "(I)I"⟩
abbrev cX3_opened : ByteArray := prog_1_method_11_code
def yX3_opened : MethodName := ⟨RX3, "opened", "()I"⟩
abbrev cX3_openedByMoves : ByteArray := prog_1_method_12_code
def yX3_openedByMoves : MethodName := ⟨RX3, "openedByMoves", "()I"⟩
abbrev cX3_goIn : ByteArray := prog_1_method_13_code
def yX3_goIn : MethodName := ⟨RX3, "goIn", "(I)I"⟩
abbrev cX3_goOut : ByteArray := prog_1_method_14_code
def yX3_goOut : MethodName := ⟨RX3, "goOut", "(I)I"⟩
abbrev cX3_doubt : ByteArray := prog_1_method_15_code
def yX3_doubt : MethodName := ⟨RX3, "doubt", "(I)Z"⟩
abbrev cX3_look : ByteArray := prog_1_method_16_code
def yX3_look : MethodName := ⟨RX3, "look", "()Z"⟩
abbrev cX3_stall : ByteArray := prog_1_method_17_code
def yX3_stall : MethodName := ⟨RX3, "stall", "(Z)Z"⟩
abbrev cX3_smoke : ByteArray := prog_1_method_18_code
def yX3_smoke : MethodName := ⟨RX3, "smoke", "(Z)I"⟩
abbrev cX3_pass : ByteArray := prog_1_method_19_code
def yX3_pass : MethodName := ⟨RX3, "pass", "(I)I"⟩
abbrev cX3_order : ByteArray := prog_1_method_20_code
def yX3_order : MethodName := ⟨RX3, "order", "(II)I"⟩
abbrev cX3_nextAisle : ByteArray := prog_1_method_21_code
def yX3_nextAisle : MethodName := ⟨RX3, "nextAisle", "()I"⟩
abbrev cX3_fetch : ByteArray := prog_1_method_22_code
def yX3_fetch : MethodName := ⟨RX3, "fetch", "(I)I"⟩
abbrev cX3_waiting : ByteArray := prog_1_method_24_code
def yX3_waiting : MethodName := ⟨RX3, "waiting", "()I"⟩
abbrev cX3_late : ByteArray := prog_1_method_25_code
def yX3_late : MethodName := ⟨RX3, "late", "()I"⟩
abbrev cX3_requireShelf : ByteArray := prog_1_method_26_code
def yX3_requireShelf : MethodName := ⟨RX3, "requireShelf", "(I)V"⟩
abbrev cX3_requireAisle : ByteArray := prog_1_method_27_code
def yX3_requireAisle : MethodName := ⟨RX3, "requireAisle", "(I)V"⟩
abbrev cX3_requireSpot : ByteArray := prog_1_method_28_code
def yX3_requireSpot : MethodName := ⟨RX3, "requireSpot", "(I)V"⟩
abbrev cX3_requirePerson : ByteArray := prog_1_method_29_code
def yX3_requirePerson : MethodName := ⟨RX3, "requirePerson", "(I)V"⟩
abbrev cX3_requireBox : ByteArray := prog_1_method_30_code
def yX3_requireBox : MethodName := ⟨RX3, "requireBox", "(I)V"⟩
abbrev cX3_requireOut : ByteArray := prog_1_method_31_code
def yX3_requireOut : MethodName := ⟨RX3, "requireOut", "(I)V"⟩
abbrev cX3_requireInside : ByteArray := prog_1_method_32_code
def yX3_requireInside : MethodName := ⟨RX3, "requireInside", "(I)V"⟩
abbrev cX3_isBelow : ByteArray := prog_1_method_33_code
def yX3_isBelow : MethodName := ⟨RX3, "isBelow", "(II)Z"⟩
abbrev cX3_spotAt : ByteArray := prog_1_method_34_code
def yX3_spotAt : MethodName := ⟨RX3, "spotAt", "(III)I"⟩
abbrev cX3_shelfAt : ByteArray := prog_1_method_35_code
def yX3_shelfAt : MethodName := ⟨RX3, "shelfAt", "(I)I"⟩
abbrev cX3_sideAt : ByteArray := prog_1_method_36_code
def yX3_sideAt : MethodName := ⟨RX3, "sideAt", "(I)I"⟩
abbrev cX3_placeAt : ByteArray := prog_1_method_37_code
def yX3_placeAt : MethodName := ⟨RX3, "placeAt", "(I)I"⟩
abbrev cX3_isSpot : ByteArray := prog_1_method_38_code
def yX3_isSpot : MethodName := ⟨RX3, "isSpot", "(I)Z"⟩
abbrev cX3_aisleAt : ByteArray := prog_1_method_39_code
def yX3_aisleAt : MethodName := ⟨RX3, "aisleAt", "(I)I"⟩
def RX4 : String := "RackrailModel"
def TX4 : u_T := fun k => match k with
  | _ => ("", "", "", false)
def tyX4 : Nat → FieldType := fun k => match k with
  | _ => .int
abbrev wsX40 : List Cond := u_ws RX4 TX4 0
theorem nmX4 : ∀ a, a < 0 → ∀ b, b < 0 → a ≠ b → (TX4 a).2.1 ≠ (TX4 b).2.1 := by decide +kernel
theorem tyX4_ok : ∀ k, k < 0 → parseFieldDescriptor (TX4 k).2.2.1 = some (tyX4 k) := by decide +kernel
def RJ9 : String := "java/lang/Math"
def TJ9 : u_T := fun k => match k with
  | _ => ("", "", "", false)
def tyJ9 : Nat → FieldType := fun k => match k with
  | _ => .int
abbrev wsJ90 : List Cond := u_ws RJ9 TJ9 0
theorem nmJ9 : ∀ a, a < 0 → ∀ b, b < 0 → a ≠ b → (TJ9 a).2.1 ≠ (TJ9 b).2.1 := by decide +kernel
theorem tyJ9_ok : ∀ k, k < 0 → parseFieldDescriptor (TJ9 k).2.2.1 = some (tyJ9 k) := by decide +kernel
abbrev cJ9_abs_0f7a4 : ByteArray := prog_11_method_59_code
def yJ9_abs_0f7a4 : MethodName := ⟨RJ9, "abs", "(I)I"⟩
abbrev cJ9_min_7cf53 : ByteArray := prog_11_method_69_code
def yJ9_min_7cf53 : MethodName := ⟨RJ9, "min", "(II)I"⟩
def RJ0 : String := "java/lang/String"
def TJ0 : u_T := fun k => match k with
  | _ => ("", "", "", false)
def tyJ0 : Nat → FieldType := fun k => match k with
  | _ => .int
abbrev wsJ00 : List Cond := u_ws RJ0 TJ0 0
theorem nmJ0 : ∀ a, a < 0 → ∀ b, b < 0 → a ≠ b → (TJ0 a).2.1 ≠ (TJ0 b).2.1 := by decide +kernel
theorem tyJ0_ok : ∀ k, k < 0 → parseFieldDescriptor (TJ0 k).2.2.1 = some (tyJ0 k) := by decide +kernel
def RL : String := "RackrailLaw"
abbrev cL_cell : ByteArray := method_2_code
def yL_cell : MethodName := ⟨RL, "cell", "([II)I"⟩
abbrev cL_low : ByteArray := method_3_code
def yL_low : MethodName := ⟨RL, "low", "(II)I"⟩
abbrev cL_areBoxes : ByteArray := method_4_code
def yL_areBoxes : MethodName := ⟨RL, "areBoxes", "(LRackrail;[I[I[II)Z"⟩
abbrev cL_isOpen : ByteArray := method_5_code
def yL_isOpen : MethodName := ⟨RL, "isOpen", "(LRackrail;I)Z"⟩
abbrev cL_law : ByteArray := code
def yL_law : MethodName := ⟨RL, "law", "([I)Z"⟩
def wsX0_init : List Cond := .code yX0_init cX0_init 1 none :: ([.methodLink RX0 3 objectInit, .instanceMethod objectInit, .code objectInit ⟨#[0xb1]⟩ 1 none, .arrayClass .int, .fieldLink RX0 9 "Rackrail$Orders" "boxes" "[I", .fieldLink RX0 15 "Rackrail$Orders" "deadlines" "[I", .arrayClass .boolean, .fieldLink RX0 18 "Rackrail$Orders" "done" "[Z", .fieldLink RX0 22 "Rackrail$Orders" "count" "I", .fieldLink RX0 26 "Rackrail$Orders" "lateCount" "I"] ++ wsX00)
def wsX0_isFull : List Cond := .code yX0_isFull cX0_isFull 1 (some .boolean) :: ([.fieldLink RX0 22 "Rackrail$Orders" "count" "I"] ++ wsX00)
def wsX0_enter : List Cond := .code yX0_enter cX0_enter 4 (some .int) :: ([.fieldLink RX0 22 "Rackrail$Orders" "count" "I", .fieldLink RX0 9 "Rackrail$Orders" "boxes" "[I", .fieldLink RX0 15 "Rackrail$Orders" "deadlines" "[I", .methodLink RX0 29 yX0_isFull, .instanceMethod yX0_isFull, .selects RX0 yX0_isFull yX0_isFull, .initialized RX0, .code yX0_isFull cX0_isFull 1 (some .boolean)] ++ wsX00)
def wsX3_isBelow : List Cond := .code yX3_isBelow cX3_isBelow 2 (some .boolean) :: ([])
def wsX0_boxOf : List Cond := .code yX0_boxOf cX0_boxOf 2 (some .int) :: ([.fieldLink RX0 22 "Rackrail$Orders" "count" "I", .fieldLink RX0 9 "Rackrail$Orders" "boxes" "[I", .static yX3_isBelow, .initialized RX3, .code yX3_isBelow cX3_isBelow 2 (some .boolean)] ++ wsX00)
def wsX0_isOpenFor : List Cond := .code yX0_isOpenFor cX0_isOpenFor 3 (some .boolean) :: ([.fieldLink RX0 22 "Rackrail$Orders" "count" "I", .fieldLink RX0 18 "Rackrail$Orders" "done" "[Z", .fieldLink RX0 9 "Rackrail$Orders" "boxes" "[I"] ++ wsX00)
def wsX2_has : List Cond := .code yX2_has cX2_has 2 (some .boolean) :: ([.fieldLink RX2 27 "Rackrail$Store" "count" "I", .static yX3_isBelow, .initialized RX3, .code yX3_isBelow cX3_isBelow 2 (some .boolean)] ++ wsX20)
def wsX2_whereIs : List Cond := .code yX2_whereIs cX2_whereIs 2 (some .int) :: ([.fieldLink RX2 24 "Rackrail$Store" "spots" "[I", .methodLink RX2 39 yX2_has, .instanceMethod yX2_has, .selects RX2 yX2_has yX2_has, .initialized RX2, .code yX2_has cX2_has 2 (some .boolean), .fieldLink RX2 27 "Rackrail$Store" "count" "I", .static yX3_isBelow, .initialized RX3, .code yX3_isBelow cX3_isBelow 2 (some .boolean)] ++ wsX20)
def wsX3_shelfAt : List Cond := .code yX3_shelfAt cX3_shelfAt 1 (some .int) :: ([])
def wsX3_sideAt : List Cond := .code yX3_sideAt cX3_sideAt 1 (some .int) :: ([])
def wsX3_aisleAt : List Cond := .code yX3_aisleAt cX3_aisleAt 1 (some .int) :: ([.methodLink RX3 241 yX3_shelfAt, .static yX3_shelfAt, .initialized RX3, .code yX3_shelfAt cX3_shelfAt 1 (some .int), .methodLink RX3 244 yX3_sideAt, .static yX3_sideAt, .code yX3_sideAt cX3_sideAt 1 (some .int)])
def wsX2_aisleOfBox : List Cond := .code yX2_aisleOfBox cX2_aisleOfBox 3 (some .int) :: ([.methodLink RX2 43 yX2_whereIs, .instanceMethod yX2_whereIs, .selects RX2 yX2_whereIs yX2_whereIs, .initialized RX2, .code yX2_whereIs cX2_whereIs 2 (some .int), .fieldLink RX2 24 "Rackrail$Store" "spots" "[I", .methodLink RX2 39 yX2_has, .instanceMethod yX2_has, .selects RX2 yX2_has yX2_has, .code yX2_has cX2_has 2 (some .boolean), .fieldLink RX2 27 "Rackrail$Store" "count" "I", .static yX3_isBelow, .initialized RX3, .code yX3_isBelow cX3_isBelow 2 (some .boolean), .static yX3_aisleAt, .code yX3_aisleAt cX3_aisleAt 1 (some .int), .methodLink RX3 241 yX3_shelfAt, .static yX3_shelfAt, .code yX3_shelfAt cX3_shelfAt 1 (some .int), .methodLink RX3 244 yX3_sideAt, .static yX3_sideAt, .code yX3_sideAt cX3_sideAt 1 (some .int)] ++ wsX20)
def wsX0_earliest_r1 : List Cond := [Cond.fieldLink RX0 22 "Rackrail$Orders" "count" "I", Cond.fieldLink RX0 9 "Rackrail$Orders" "boxes" "[I", Cond.fieldLink RX0 18 "Rackrail$Orders" "done" "[Z", Cond.fieldLink RX0 15 "Rackrail$Orders" "deadlines" "[I", Cond.methodLink RX0 37 yX2_aisleOfBox, Cond.instanceMethod yX2_aisleOfBox, Cond.selects RX2 yX2_aisleOfBox yX2_aisleOfBox, Cond.initialized RX2, Cond.code yX2_aisleOfBox cX2_aisleOfBox 3 (some .int), Cond.methodLink RX2 43 yX2_whereIs, Cond.instanceMethod yX2_whereIs, Cond.selects RX2 yX2_whereIs yX2_whereIs, Cond.code yX2_whereIs cX2_whereIs 2 (some .int), Cond.fieldLink RX2 24 "Rackrail$Store" "spots" "[I", Cond.methodLink RX2 39 yX2_has, Cond.instanceMethod yX2_has, Cond.selects RX2 yX2_has yX2_has, Cond.code yX2_has cX2_has 2 (some .boolean), Cond.fieldLink RX2 27 "Rackrail$Store" "count" "I", Cond.static yX3_isBelow, Cond.initialized RX3, Cond.code yX3_isBelow cX3_isBelow 2 (some .boolean), Cond.static yX3_aisleAt, Cond.code yX3_aisleAt cX3_aisleAt 1 (some .int)]
def wsX0_earliest_r2 : List Cond := [Cond.methodLink RX3 241 yX3_shelfAt, Cond.static yX3_shelfAt, Cond.code yX3_shelfAt cX3_shelfAt 1 (some .int), Cond.methodLink RX3 244 yX3_sideAt, Cond.static yX3_sideAt, Cond.code yX3_sideAt cX3_sideAt 1 (some .int)]
def wsX0_earliest : List Cond := .code yX0_earliest cX0_earliest 8 (some .int) :: ((wsX0_earliest_r1 ++ wsX0_earliest_r2) ++ wsX00 ++ wsX20)
def wsX0_finish : List Cond := .code yX0_finish cX0_finish 3 none :: ([.fieldLink RX0 22 "Rackrail$Orders" "count" "I", .fieldLink RX0 18 "Rackrail$Orders" "done" "[Z", .fieldLink RX0 15 "Rackrail$Orders" "deadlines" "[I", .fieldLink RX0 26 "Rackrail$Orders" "lateCount" "I", .static yX3_isBelow, .initialized RX3, .code yX3_isBelow cX3_isBelow 2 (some .boolean)] ++ wsX00)
def wsX0_countOpen : List Cond := .code yX0_countOpen cX0_countOpen 3 (some .int) :: ([.fieldLink RX0 22 "Rackrail$Orders" "count" "I", .fieldLink RX0 18 "Rackrail$Orders" "done" "[Z"] ++ wsX00)
def wsX0_countLate : List Cond := .code yX0_countLate cX0_countLate 1 (some .int) :: ([.fieldLink RX0 26 "Rackrail$Orders" "lateCount" "I"] ++ wsX00)
def wsX1_init : List Cond := .code yX1_init cX1_init 1 none :: ([.methodLink RX1 3 objectInit, .instanceMethod objectInit, .code objectInit ⟨#[0xb1]⟩ 1 none, .arrayClass .boolean, .fieldLink RX1 9 "Rackrail$Rail" "doubts" "[Z", .fieldLink RX1 15 "Rackrail$Rail" "inside" "[Z", .arrayClass .int, .fieldLink RX1 18 "Rackrail$Rail" "moves" "[I", .fieldLink RX1 22 "Rackrail$Rail" "gap" "I", .fieldLink RX1 26 "Rackrail$Rail" "target" "I", .fieldLink RX1 29 "Rackrail$Rail" "stalled" "Z", .fieldLink RX1 33 "Rackrail$Rail" "smoky" "Z"] ++ wsX10)
def wsX1_openAisle : List Cond := .code yX1_openAisle cX1_openAisle 1 (some .int) :: ([.fieldLink RX1 22 "Rackrail$Rail" "gap" "I", .fieldLink RX1 26 "Rackrail$Rail" "target" "I"] ++ wsX10)
def wsX1_openAisleByMoves : List Cond := .code yX1_openAisleByMoves cX1_openAisleByMoves 3 (some .int) :: ([.fieldLink RX1 18 "Rackrail$Rail" "moves" "[I", .fieldLink RX1 26 "Rackrail$Rail" "target" "I"] ++ wsX10)
def wsX1_countInside : List Cond := .code yX1_countInside cX1_countInside 3 (some .int) :: ([.fieldLink RX1 15 "Rackrail$Rail" "inside" "[Z"] ++ wsX10)
def wsX1_hasDoubt : List Cond := .code yX1_hasDoubt cX1_hasDoubt 2 (some .boolean) :: ([.fieldLink RX1 9 "Rackrail$Rail" "doubts" "[Z", .static yX3_isBelow, .initialized RX3, .code yX3_isBelow cX3_isBelow 2 (some .boolean)] ++ wsX10)
def wsX1_mayOpen : List Cond := .code yX1_mayOpen cX1_mayOpen 2 (some .boolean) :: ([.fieldLink RX1 29 "Rackrail$Rail" "stalled" "Z", .fieldLink RX1 33 "Rackrail$Rail" "smoky" "Z", .methodLink RX1 36 yX1_openAisle, .instanceMethod yX1_openAisle, .selects RX1 yX1_openAisle yX1_openAisle, .initialized RX1, .code yX1_openAisle cX1_openAisle 1 (some .int), .fieldLink RX1 22 "Rackrail$Rail" "gap" "I", .fieldLink RX1 26 "Rackrail$Rail" "target" "I", .methodLink RX1 40 yX1_countInside, .instanceMethod yX1_countInside, .selects RX1 yX1_countInside yX1_countInside, .code yX1_countInside cX1_countInside 3 (some .int), .fieldLink RX1 15 "Rackrail$Rail" "inside" "[Z", .methodLink RX1 43 yX1_hasDoubt, .instanceMethod yX1_hasDoubt, .selects RX1 yX1_hasDoubt yX1_hasDoubt, .code yX1_hasDoubt cX1_hasDoubt 2 (some .boolean), .fieldLink RX1 9 "Rackrail$Rail" "doubts" "[Z", .static yX3_isBelow, .initialized RX3, .code yX3_isBelow cX3_isBelow 2 (some .boolean)] ++ wsX10)
def wsX1_mayGoIn : List Cond := .code yX1_mayGoIn cX1_mayGoIn 1 (some .boolean) :: ([.fieldLink RX1 33 "Rackrail$Rail" "smoky" "Z", .methodLink RX1 36 yX1_openAisle, .instanceMethod yX1_openAisle, .selects RX1 yX1_openAisle yX1_openAisle, .initialized RX1, .code yX1_openAisle cX1_openAisle 1 (some .int), .fieldLink RX1 22 "Rackrail$Rail" "gap" "I", .fieldLink RX1 26 "Rackrail$Rail" "target" "I"] ++ wsX10)
def wsX1_aimAt : List Cond := .code yX1_aimAt cX1_aimAt 2 none :: ([.fieldLink RX1 26 "Rackrail$Rail" "target" "I"] ++ wsX10)
def wsX1_movesToCome : List Cond := .code yX1_movesToCome cX1_movesToCome 1 (some .int) :: ([.fieldLink RX1 26 "Rackrail$Rail" "target" "I", .fieldLink RX1 22 "Rackrail$Rail" "gap" "I", .methodLink RX1 47 Lib.Math.abs.name, .static Lib.Math.abs.name, .initialized "java/lang/Math", .code Lib.Math.abs.name Lib.Math.abs.code 1 (some .int)] ++ wsX10)
def wsX1_moveOne : List Cond := .code yX1_moveOne cX1_moveOne 3 none :: ([.fieldLink RX1 22 "Rackrail$Rail" "gap" "I", .fieldLink RX1 26 "Rackrail$Rail" "target" "I", .fieldLink RX1 18 "Rackrail$Rail" "moves" "[I", .static yX3_isBelow, .initialized RX3, .code yX3_isBelow cX3_isBelow 2 (some .boolean)] ++ wsX10)
def wsX1_moveFor : List Cond := .code yX1_moveFor cX1_moveFor 4 none :: ([.fieldLink RX1 29 "Rackrail$Rail" "stalled" "Z", .fieldLink RX1 33 "Rackrail$Rail" "smoky" "Z", .methodLink RX1 56 Lib.Math.min.name, .static Lib.Math.min.name, .initialized "java/lang/Math", .code Lib.Math.min.name Lib.Math.min.code 2 (some .int), .methodLink RX1 53 yX1_movesToCome, .instanceMethod yX1_movesToCome, .selects RX1 yX1_movesToCome yX1_movesToCome, .initialized RX1, .code yX1_movesToCome cX1_movesToCome 1 (some .int), .fieldLink RX1 26 "Rackrail$Rail" "target" "I", .fieldLink RX1 22 "Rackrail$Rail" "gap" "I", .methodLink RX1 47 Lib.Math.abs.name, .static Lib.Math.abs.name, .code Lib.Math.abs.name Lib.Math.abs.code 1 (some .int), .methodLink RX1 60 yX1_moveOne, .instanceMethod yX1_moveOne, .selects RX1 yX1_moveOne yX1_moveOne, .code yX1_moveOne cX1_moveOne 3 none, .fieldLink RX1 18 "Rackrail$Rail" "moves" "[I", .static yX3_isBelow, .initialized RX3, .code yX3_isBelow cX3_isBelow 2 (some .boolean)] ++ wsX10)
def wsX1_setDoubt : List Cond := .code yX1_setDoubt cX1_setDoubt 3 none :: ([.fieldLink RX1 9 "Rackrail$Rail" "doubts" "[Z", .static yX3_isBelow, .initialized RX3, .code yX3_isBelow cX3_isBelow 2 (some .boolean)] ++ wsX10)
def wsX1_changeStall : List Cond := .code yX1_changeStall cX1_changeStall 3 (some .boolean) :: ([.fieldLink RX1 29 "Rackrail$Rail" "stalled" "Z"] ++ wsX10)
def wsX1_changeSmoke : List Cond := .code yX1_changeSmoke cX1_changeSmoke 2 none :: ([.fieldLink RX1 33 "Rackrail$Rail" "smoky" "Z"] ++ wsX10)
def wsX1_isInside : List Cond := .code yX1_isInside cX1_isInside 2 (some .boolean) :: ([.fieldLink RX1 15 "Rackrail$Rail" "inside" "[Z", .static yX3_isBelow, .initialized RX3, .code yX3_isBelow cX3_isBelow 2 (some .boolean)] ++ wsX10)
def wsX1_setInside : List Cond := .code yX1_setInside cX1_setInside 3 none :: ([.fieldLink RX1 15 "Rackrail$Rail" "inside" "[Z", .static yX3_isBelow, .initialized RX3, .code yX3_isBelow cX3_isBelow 2 (some .boolean)] ++ wsX10)
def wsX1_sendAllOut : List Cond := .code yX1_sendAllOut cX1_sendAllOut 3 (some .int) :: ([.fieldLink RX1 15 "Rackrail$Rail" "inside" "[Z", .methodLink RX1 40 yX1_countInside, .instanceMethod yX1_countInside, .selects RX1 yX1_countInside yX1_countInside, .initialized RX1, .code yX1_countInside cX1_countInside 3 (some .int)] ++ wsX10)
def wsX2_init : List Cond := .code yX2_init cX2_init 1 none :: ([.methodLink RX2 3 objectInit, .instanceMethod objectInit, .code objectInit ⟨#[0xb1]⟩ 1 none, .arrayClass .int, .fieldLink RX2 9 "Rackrail$Store" "shelfClimates" "[I", .fieldLink RX2 15 "Rackrail$Store" "climates" "[I", .fieldLink RX2 18 "Rackrail$Store" "weights" "[I", .fieldLink RX2 21 "Rackrail$Store" "kins" "[I", .fieldLink RX2 24 "Rackrail$Store" "spots" "[I", .fieldLink RX2 27 "Rackrail$Store" "count" "I"] ++ wsX20)
def wsX2_climateOf : List Cond := .code yX2_climateOf cX2_climateOf 2 (some .int) :: ([.fieldLink RX2 9 "Rackrail$Store" "shelfClimates" "[I", .static yX3_isBelow, .initialized RX3, .code yX3_isBelow cX3_isBelow 2 (some .boolean)] ++ wsX20)
def wsX2_changeClimate : List Cond := .code yX2_changeClimate cX2_changeClimate 3 none :: ([.fieldLink RX2 9 "Rackrail$Store" "shelfClimates" "[I", .static yX3_isBelow, .initialized RX3, .code yX3_isBelow cX3_isBelow 2 (some .boolean)] ++ wsX20)
def wsX2_isFull : List Cond := .code yX2_isFull cX2_isFull 1 (some .boolean) :: ([.fieldLink RX2 27 "Rackrail$Store" "count" "I"] ++ wsX20)
def wsX2_enter : List Cond := .code yX2_enter cX2_enter 5 (some .int) :: ([.fieldLink RX2 27 "Rackrail$Store" "count" "I", .fieldLink RX2 15 "Rackrail$Store" "climates" "[I", .fieldLink RX2 18 "Rackrail$Store" "weights" "[I", .fieldLink RX2 21 "Rackrail$Store" "kins" "[I", .fieldLink RX2 24 "Rackrail$Store" "spots" "[I", .methodLink RX2 35 yX2_isFull, .instanceMethod yX2_isFull, .selects RX2 yX2_isFull yX2_isFull, .initialized RX2, .code yX2_isFull cX2_isFull 1 (some .boolean)] ++ wsX20)
def wsX2_put : List Cond := .code yX2_put cX2_put 3 none :: ([.fieldLink RX2 24 "Rackrail$Store" "spots" "[I", .methodLink RX2 39 yX2_has, .instanceMethod yX2_has, .selects RX2 yX2_has yX2_has, .initialized RX2, .code yX2_has cX2_has 2 (some .boolean), .fieldLink RX2 27 "Rackrail$Store" "count" "I", .static yX3_isBelow, .initialized RX3, .code yX3_isBelow cX3_isBelow 2 (some .boolean)] ++ wsX20)
def wsX2_boxIn : List Cond := .code yX2_boxIn cX2_boxIn 3 (some .int) :: ([.fieldLink RX2 27 "Rackrail$Store" "count" "I", .fieldLink RX2 24 "Rackrail$Store" "spots" "[I"] ++ wsX20)
def wsX2_liesOn : List Cond := .code yX2_liesOn cX2_liesOn 4 (some .boolean) :: ([.methodLink RX2 43 yX2_whereIs, .instanceMethod yX2_whereIs, .selects RX2 yX2_whereIs yX2_whereIs, .initialized RX2, .code yX2_whereIs cX2_whereIs 2 (some .int), .fieldLink RX2 24 "Rackrail$Store" "spots" "[I", .methodLink RX2 39 yX2_has, .instanceMethod yX2_has, .selects RX2 yX2_has yX2_has, .code yX2_has cX2_has 2 (some .boolean), .fieldLink RX2 27 "Rackrail$Store" "count" "I", .static yX3_isBelow, .initialized RX3, .code yX3_isBelow cX3_isBelow 2 (some .boolean), .static yX3_shelfAt, .code yX3_shelfAt cX3_shelfAt 1 (some .int)] ++ wsX20)
def wsX2_weightOn : List Cond := .code yX2_weightOn cX2_weightOn 4 (some .int) :: ([.fieldLink RX2 27 "Rackrail$Store" "count" "I", .fieldLink RX2 18 "Rackrail$Store" "weights" "[I", .methodLink RX2 53 yX2_liesOn, .instanceMethod yX2_liesOn, .selects RX2 yX2_liesOn yX2_liesOn, .initialized RX2, .code yX2_liesOn cX2_liesOn 4 (some .boolean), .methodLink RX2 43 yX2_whereIs, .instanceMethod yX2_whereIs, .selects RX2 yX2_whereIs yX2_whereIs, .code yX2_whereIs cX2_whereIs 2 (some .int), .fieldLink RX2 24 "Rackrail$Store" "spots" "[I", .methodLink RX2 39 yX2_has, .instanceMethod yX2_has, .selects RX2 yX2_has yX2_has, .code yX2_has cX2_has 2 (some .boolean), .static yX3_isBelow, .initialized RX3, .code yX3_isBelow cX3_isBelow 2 (some .boolean), .static yX3_shelfAt, .code yX3_shelfAt cX3_shelfAt 1 (some .int)] ++ wsX20)
def wsX2_countKin : List Cond := .code yX2_countKin cX2_countKin 5 (some .int) :: ([.fieldLink RX2 27 "Rackrail$Store" "count" "I", .fieldLink RX2 21 "Rackrail$Store" "kins" "[I", .methodLink RX2 53 yX2_liesOn, .instanceMethod yX2_liesOn, .selects RX2 yX2_liesOn yX2_liesOn, .initialized RX2, .code yX2_liesOn cX2_liesOn 4 (some .boolean), .methodLink RX2 43 yX2_whereIs, .instanceMethod yX2_whereIs, .selects RX2 yX2_whereIs yX2_whereIs, .code yX2_whereIs cX2_whereIs 2 (some .int), .fieldLink RX2 24 "Rackrail$Store" "spots" "[I", .methodLink RX2 39 yX2_has, .instanceMethod yX2_has, .selects RX2 yX2_has yX2_has, .code yX2_has cX2_has 2 (some .boolean), .static yX3_isBelow, .initialized RX3, .code yX3_isBelow cX3_isBelow 2 (some .boolean), .static yX3_shelfAt, .code yX3_shelfAt cX3_shelfAt 1 (some .int)] ++ wsX20)
def wsX2_isWrong : List Cond := .code yX2_isWrong cX2_isWrong 3 (some .boolean) :: ([.fieldLink RX2 15 "Rackrail$Store" "climates" "[I", .methodLink RX2 43 yX2_whereIs, .instanceMethod yX2_whereIs, .selects RX2 yX2_whereIs yX2_whereIs, .initialized RX2, .code yX2_whereIs cX2_whereIs 2 (some .int), .fieldLink RX2 24 "Rackrail$Store" "spots" "[I", .methodLink RX2 39 yX2_has, .instanceMethod yX2_has, .selects RX2 yX2_has yX2_has, .code yX2_has cX2_has 2 (some .boolean), .fieldLink RX2 27 "Rackrail$Store" "count" "I", .static yX3_isBelow, .initialized RX3, .code yX3_isBelow cX3_isBelow 2 (some .boolean), .static yX3_shelfAt, .code yX3_shelfAt cX3_shelfAt 1 (some .int), .methodLink RX2 56 yX2_climateOf, .instanceMethod yX2_climateOf, .selects RX2 yX2_climateOf yX2_climateOf, .code yX2_climateOf cX2_climateOf 2 (some .int), .fieldLink RX2 9 "Rackrail$Store" "shelfClimates" "[I"] ++ wsX20)
def wsX2_countWrong_r1 : List Cond := [Cond.fieldLink RX2 27 "Rackrail$Store" "count" "I", Cond.methodLink RX2 59 yX2_isWrong, Cond.instanceMethod yX2_isWrong, Cond.selects RX2 yX2_isWrong yX2_isWrong, Cond.initialized RX2, Cond.code yX2_isWrong cX2_isWrong 3 (some .boolean), Cond.fieldLink RX2 15 "Rackrail$Store" "climates" "[I", Cond.methodLink RX2 43 yX2_whereIs, Cond.instanceMethod yX2_whereIs, Cond.selects RX2 yX2_whereIs yX2_whereIs, Cond.code yX2_whereIs cX2_whereIs 2 (some .int), Cond.fieldLink RX2 24 "Rackrail$Store" "spots" "[I", Cond.methodLink RX2 39 yX2_has, Cond.instanceMethod yX2_has, Cond.selects RX2 yX2_has yX2_has, Cond.code yX2_has cX2_has 2 (some .boolean), Cond.static yX3_isBelow, Cond.initialized RX3, Cond.code yX3_isBelow cX3_isBelow 2 (some .boolean), Cond.static yX3_shelfAt, Cond.code yX3_shelfAt cX3_shelfAt 1 (some .int), Cond.methodLink RX2 56 yX2_climateOf, Cond.instanceMethod yX2_climateOf, Cond.selects RX2 yX2_climateOf yX2_climateOf]
def wsX2_countWrong_r2 : List Cond := [Cond.code yX2_climateOf cX2_climateOf 2 (some .int), Cond.fieldLink RX2 9 "Rackrail$Store" "shelfClimates" "[I"]
def wsX2_countWrong : List Cond := .code yX2_countWrong cX2_countWrong 3 (some .int) :: ((wsX2_countWrong_r1 ++ wsX2_countWrong_r2) ++ wsX20)
def wsX3_spotAt : List Cond := .code yX3_spotAt cX3_spotAt 3 (some .int) :: ([])
def wsX2_firstFreeSpot : List Cond := .code yX2_firstFreeSpot cX2_firstFreeSpot 5 (some .int) :: ([.static yX3_spotAt, .initialized RX3, .code yX3_spotAt cX3_spotAt 3 (some .int), .methodLink RX2 66 yX2_boxIn, .instanceMethod yX2_boxIn, .selects RX2 yX2_boxIn yX2_boxIn, .initialized RX2, .code yX2_boxIn cX2_boxIn 3 (some .int), .fieldLink RX2 27 "Rackrail$Store" "count" "I", .fieldLink RX2 24 "Rackrail$Store" "spots" "[I"] ++ wsX20)
def wsX2_bestSpotFor_r1 : List Cond := [Cond.fieldLink RX2 9 "Rackrail$Store" "shelfClimates" "[I", Cond.fieldLink RX2 15 "Rackrail$Store" "climates" "[I", Cond.fieldLink RX2 18 "Rackrail$Store" "weights" "[I", Cond.fieldLink RX2 21 "Rackrail$Store" "kins" "[I", Cond.methodLink RX2 39 yX2_has, Cond.instanceMethod yX2_has, Cond.selects RX2 yX2_has yX2_has, Cond.initialized RX2, Cond.code yX2_has cX2_has 2 (some .boolean), Cond.fieldLink RX2 27 "Rackrail$Store" "count" "I", Cond.static yX3_isBelow, Cond.initialized RX3, Cond.code yX3_isBelow cX3_isBelow 2 (some .boolean), Cond.methodLink RX2 69 yX2_weightOn, Cond.instanceMethod yX2_weightOn, Cond.selects RX2 yX2_weightOn yX2_weightOn, Cond.code yX2_weightOn cX2_weightOn 4 (some .int), Cond.methodLink RX2 53 yX2_liesOn, Cond.instanceMethod yX2_liesOn, Cond.selects RX2 yX2_liesOn yX2_liesOn, Cond.code yX2_liesOn cX2_liesOn 4 (some .boolean), Cond.methodLink RX2 43 yX2_whereIs, Cond.instanceMethod yX2_whereIs, Cond.selects RX2 yX2_whereIs yX2_whereIs]
def wsX2_bestSpotFor_r2 : List Cond := [Cond.code yX2_whereIs cX2_whereIs 2 (some .int), Cond.fieldLink RX2 24 "Rackrail$Store" "spots" "[I", Cond.static yX3_shelfAt, Cond.code yX3_shelfAt cX3_shelfAt 1 (some .int), Cond.methodLink RX2 72 yX2_firstFreeSpot, Cond.instanceMethod yX2_firstFreeSpot, Cond.selects RX2 yX2_firstFreeSpot yX2_firstFreeSpot, Cond.code yX2_firstFreeSpot cX2_firstFreeSpot 5 (some .int), Cond.static yX3_spotAt, Cond.code yX3_spotAt cX3_spotAt 3 (some .int), Cond.methodLink RX2 66 yX2_boxIn, Cond.instanceMethod yX2_boxIn, Cond.selects RX2 yX2_boxIn yX2_boxIn, Cond.code yX2_boxIn cX2_boxIn 3 (some .int), Cond.methodLink RX2 75 yX2_countKin, Cond.instanceMethod yX2_countKin, Cond.selects RX2 yX2_countKin yX2_countKin, Cond.code yX2_countKin cX2_countKin 5 (some .int)]
def wsX2_bestSpotFor : List Cond := .code yX2_bestSpotFor cX2_bestSpotFor 8 (some .int) :: ((wsX2_bestSpotFor_r1 ++ wsX2_bestSpotFor_r2) ++ wsX20)
def wsX3_init_r1 : List Cond := [Cond.methodLink RX3 3 objectInit, Cond.instanceMethod objectInit, Cond.code objectInit ⟨#[0xb1]⟩ 1 none, Cond.classLink RX3 9 RX2, Cond.instantiable RX2 6, Cond.initialized RX2, Cond.fieldLink RX3 12 "Rackrail" "store" "LRackrail$Store;", Cond.classLink RX3 16 RX1, Cond.instantiable RX1 7, Cond.initialized RX1, Cond.fieldLink RX3 19 "Rackrail" "rail" "LRackrail$Rail;", Cond.classLink RX3 23 RX0, Cond.instantiable RX0 5, Cond.initialized RX0, Cond.fieldLink RX3 26 "Rackrail" "orders" "LRackrail$Orders;", Cond.fieldLink RX3 30 "Rackrail" "clock" "I", Cond.instanceMethod yX2_init, Cond.code yX2_init cX2_init 1 none, Cond.methodLink RX2 3 objectInit, Cond.arrayClass .int, Cond.fieldLink RX2 9 "Rackrail$Store" "shelfClimates" "[I", Cond.fieldLink RX2 15 "Rackrail$Store" "climates" "[I", Cond.fieldLink RX2 18 "Rackrail$Store" "weights" "[I", Cond.fieldLink RX2 21 "Rackrail$Store" "kins" "[I"]
def wsX3_init_r2 : List Cond := [Cond.fieldLink RX2 24 "Rackrail$Store" "spots" "[I", Cond.fieldLink RX2 27 "Rackrail$Store" "count" "I", Cond.instanceMethod yX1_init, Cond.code yX1_init cX1_init 1 none, Cond.methodLink RX1 3 objectInit, Cond.arrayClass .boolean, Cond.fieldLink RX1 9 "Rackrail$Rail" "doubts" "[Z", Cond.fieldLink RX1 15 "Rackrail$Rail" "inside" "[Z", Cond.fieldLink RX1 18 "Rackrail$Rail" "moves" "[I", Cond.fieldLink RX1 22 "Rackrail$Rail" "gap" "I", Cond.fieldLink RX1 26 "Rackrail$Rail" "target" "I", Cond.fieldLink RX1 29 "Rackrail$Rail" "stalled" "Z", Cond.fieldLink RX1 33 "Rackrail$Rail" "smoky" "Z", Cond.instanceMethod yX0_init, Cond.code yX0_init cX0_init 1 none, Cond.methodLink RX0 3 objectInit, Cond.fieldLink RX0 9 "Rackrail$Orders" "boxes" "[I", Cond.fieldLink RX0 15 "Rackrail$Orders" "deadlines" "[I", Cond.fieldLink RX0 18 "Rackrail$Orders" "done" "[Z", Cond.fieldLink RX0 22 "Rackrail$Orders" "count" "I", Cond.fieldLink RX0 26 "Rackrail$Orders" "lateCount" "I"]
def wsX3_init : List Cond := .code yX3_init cX3_init 1 none :: ((wsX3_init_r1 ++ wsX3_init_r2) ++ wsX20 ++ wsX30 ++ wsX10 ++ wsX00)
def wsX3_requireShelf : List Cond := .code yX3_requireShelf cX3_requireShelf 2 none :: ([.classLink RX3 218 "java/lang/IndexOutOfBoundsException", .initialized "java/lang/IndexOutOfBoundsException", .methodLink RX3 38 yX3_isBelow, .static yX3_isBelow, .initialized RX3, .code yX3_isBelow cX3_isBelow 2 (some .boolean)] ++ (vx_atS RX3 222 "java/lang/IndexOutOfBoundsException" ["java/lang/RuntimeException", "java/lang/Exception"]).filter goodWord)
def wsX3_setClimate : List Cond := .code yX3_setClimate cX3_setClimate 4 (some .int) :: ([.classLink RX3 42 "java/lang/IllegalArgumentException", .initialized "java/lang/IllegalArgumentException", .fieldLink RX3 12 "Rackrail" "store" "LRackrail$Store;", .methodLink RX3 34 yX3_requireShelf, .instanceMethod yX3_requireShelf, .selects RX3 yX3_requireShelf yX3_requireShelf, .initialized RX3, .code yX3_requireShelf cX3_requireShelf 2 none, .classLink RX3 218 "java/lang/IndexOutOfBoundsException", .initialized "java/lang/IndexOutOfBoundsException", .methodLink RX3 38 yX3_isBelow, .static yX3_isBelow, .code yX3_isBelow cX3_isBelow 2 (some .boolean), .methodLink RX3 49 yX2_climateOf, .instanceMethod yX2_climateOf, .selects RX2 yX2_climateOf yX2_climateOf, .initialized RX2, .code yX2_climateOf cX2_climateOf 2 (some .int), .fieldLink RX2 9 "Rackrail$Store" "shelfClimates" "[I", .methodLink RX3 53 yX2_changeClimate, .instanceMethod yX2_changeClimate, .selects RX2 yX2_changeClimate yX2_changeClimate, .code yX2_changeClimate cX2_changeClimate 3 none] ++ wsX30 ++ wsX20 ++ (vx_atS RX3 46 "java/lang/IllegalArgumentException" ["java/lang/RuntimeException", "java/lang/Exception"]).filter goodWord ++ (vx_atS RX3 222 "java/lang/IndexOutOfBoundsException" ["java/lang/RuntimeException", "java/lang/Exception"]).filter goodWord)
def wsX3_addBox : List Cond := .code yX3_addBox cX3_addBox 4 (some .int) :: ([.classLink RX3 42 "java/lang/IllegalArgumentException", .initialized "java/lang/IllegalArgumentException", .classLink RX3 65 "java/lang/IllegalStateException", .initialized "java/lang/IllegalStateException", .fieldLink RX3 12 "Rackrail" "store" "LRackrail$Store;", .methodLink RX3 38 yX3_isBelow, .static yX3_isBelow, .initialized RX3, .code yX3_isBelow cX3_isBelow 2 (some .boolean), .methodLink RX3 61 yX2_isFull, .instanceMethod yX2_isFull, .selects RX2 yX2_isFull yX2_isFull, .initialized RX2, .code yX2_isFull cX2_isFull 1 (some .boolean), .fieldLink RX2 27 "Rackrail$Store" "count" "I", .methodLink RX3 70 yX2_enter, .instanceMethod yX2_enter, .selects RX2 yX2_enter yX2_enter, .code yX2_enter cX2_enter 5 (some .int), .fieldLink RX2 15 "Rackrail$Store" "climates" "[I", .fieldLink RX2 18 "Rackrail$Store" "weights" "[I", .fieldLink RX2 21 "Rackrail$Store" "kins" "[I", .fieldLink RX2 24 "Rackrail$Store" "spots" "[I", .methodLink RX2 35 yX2_isFull] ++ wsX30 ++ wsX20 ++ (vx_atS RX3 46 "java/lang/IllegalArgumentException" ["java/lang/RuntimeException", "java/lang/Exception"]).filter goodWord ++ (vx_atS RX3 69 "java/lang/IllegalStateException" ["java/lang/RuntimeException", "java/lang/Exception"]).filter goodWord)
def wsX3_requireBox : List Cond := .code yX3_requireBox cX3_requireBox 2 none :: ([.classLink RX3 218 "java/lang/IndexOutOfBoundsException", .initialized "java/lang/IndexOutOfBoundsException", .fieldLink RX3 12 "Rackrail" "store" "LRackrail$Store;", .methodLink RX3 232 yX2_has, .instanceMethod yX2_has, .selects RX2 yX2_has yX2_has, .initialized RX2, .code yX2_has cX2_has 2 (some .boolean), .fieldLink RX2 27 "Rackrail$Store" "count" "I", .static yX3_isBelow, .initialized RX3, .code yX3_isBelow cX3_isBelow 2 (some .boolean)] ++ wsX30 ++ wsX20 ++ (vx_atS RX3 222 "java/lang/IndexOutOfBoundsException" ["java/lang/RuntimeException", "java/lang/Exception"]).filter goodWord)
def wsX3_requireOut : List Cond := .code yX3_requireOut cX3_requireOut 2 none :: ([.classLink RX3 65 "java/lang/IllegalStateException", .initialized "java/lang/IllegalStateException", .fieldLink RX3 12 "Rackrail" "store" "LRackrail$Store;", .methodLink RX3 88 yX2_whereIs, .instanceMethod yX2_whereIs, .selects RX2 yX2_whereIs yX2_whereIs, .initialized RX2, .code yX2_whereIs cX2_whereIs 2 (some .int), .fieldLink RX2 24 "Rackrail$Store" "spots" "[I", .methodLink RX2 39 yX2_has, .instanceMethod yX2_has, .selects RX2 yX2_has yX2_has, .code yX2_has cX2_has 2 (some .boolean), .fieldLink RX2 27 "Rackrail$Store" "count" "I", .static yX3_isBelow, .initialized RX3, .code yX3_isBelow cX3_isBelow 2 (some .boolean)] ++ wsX30 ++ wsX20 ++ (vx_atS RX3 69 "java/lang/IllegalStateException" ["java/lang/RuntimeException", "java/lang/Exception"]).filter goodWord)
def wsX3_bestSpot_r1 : List Cond := [Cond.fieldLink RX3 12 "Rackrail" "store" "LRackrail$Store;", Cond.methodLink RX3 74 yX3_requireBox, Cond.instanceMethod yX3_requireBox, Cond.selects RX3 yX3_requireBox yX3_requireBox, Cond.initialized RX3, Cond.code yX3_requireBox cX3_requireBox 2 none, Cond.classLink RX3 218 "java/lang/IndexOutOfBoundsException", Cond.initialized "java/lang/IndexOutOfBoundsException", Cond.methodLink RX3 232 yX2_has, Cond.instanceMethod yX2_has, Cond.selects RX2 yX2_has yX2_has, Cond.initialized RX2, Cond.code yX2_has cX2_has 2 (some .boolean), Cond.fieldLink RX2 27 "Rackrail$Store" "count" "I", Cond.static yX3_isBelow, Cond.code yX3_isBelow cX3_isBelow 2 (some .boolean), Cond.methodLink RX3 77 yX3_requireOut, Cond.instanceMethod yX3_requireOut, Cond.selects RX3 yX3_requireOut yX3_requireOut, Cond.code yX3_requireOut cX3_requireOut 2 none, Cond.classLink RX3 65 "java/lang/IllegalStateException", Cond.initialized "java/lang/IllegalStateException", Cond.methodLink RX3 88 yX2_whereIs, Cond.instanceMethod yX2_whereIs]
def wsX3_bestSpot_r2 : List Cond := [Cond.selects RX2 yX2_whereIs yX2_whereIs, Cond.code yX2_whereIs cX2_whereIs 2 (some .int), Cond.fieldLink RX2 24 "Rackrail$Store" "spots" "[I", Cond.methodLink RX2 39 yX2_has, Cond.methodLink RX3 80 yX2_bestSpotFor, Cond.instanceMethod yX2_bestSpotFor, Cond.selects RX2 yX2_bestSpotFor yX2_bestSpotFor, Cond.code yX2_bestSpotFor cX2_bestSpotFor 8 (some .int), Cond.fieldLink RX2 9 "Rackrail$Store" "shelfClimates" "[I", Cond.fieldLink RX2 15 "Rackrail$Store" "climates" "[I", Cond.fieldLink RX2 18 "Rackrail$Store" "weights" "[I", Cond.fieldLink RX2 21 "Rackrail$Store" "kins" "[I", Cond.methodLink RX2 69 yX2_weightOn, Cond.instanceMethod yX2_weightOn, Cond.selects RX2 yX2_weightOn yX2_weightOn, Cond.code yX2_weightOn cX2_weightOn 4 (some .int), Cond.methodLink RX2 53 yX2_liesOn, Cond.instanceMethod yX2_liesOn, Cond.selects RX2 yX2_liesOn yX2_liesOn, Cond.code yX2_liesOn cX2_liesOn 4 (some .boolean), Cond.methodLink RX2 43 yX2_whereIs, Cond.static yX3_shelfAt, Cond.code yX3_shelfAt cX3_shelfAt 1 (some .int), Cond.methodLink RX2 72 yX2_firstFreeSpot]
def wsX3_bestSpot_r3 : List Cond := [Cond.instanceMethod yX2_firstFreeSpot, Cond.selects RX2 yX2_firstFreeSpot yX2_firstFreeSpot, Cond.code yX2_firstFreeSpot cX2_firstFreeSpot 5 (some .int), Cond.static yX3_spotAt, Cond.code yX3_spotAt cX3_spotAt 3 (some .int), Cond.methodLink RX2 66 yX2_boxIn, Cond.instanceMethod yX2_boxIn, Cond.selects RX2 yX2_boxIn yX2_boxIn, Cond.code yX2_boxIn cX2_boxIn 3 (some .int), Cond.methodLink RX2 75 yX2_countKin, Cond.instanceMethod yX2_countKin, Cond.selects RX2 yX2_countKin yX2_countKin, Cond.code yX2_countKin cX2_countKin 5 (some .int)]
def wsX3_bestSpot : List Cond := .code yX3_bestSpot cX3_bestSpot 2 (some .int) :: ((wsX3_bestSpot_r1 ++ (wsX3_bestSpot_r2 ++ wsX3_bestSpot_r3)) ++ wsX30 ++ wsX20 ++ (vx_atS RX3 222 "java/lang/IndexOutOfBoundsException" ["java/lang/RuntimeException", "java/lang/Exception"]).filter goodWord ++ (vx_atS RX3 69 "java/lang/IllegalStateException" ["java/lang/RuntimeException", "java/lang/Exception"]).filter goodWord)
def wsX3_lay_r1 : List Cond := [Cond.classLink RX3 65 "java/lang/IllegalStateException", Cond.initialized "java/lang/IllegalStateException", Cond.fieldLink RX3 12 "Rackrail" "store" "LRackrail$Store;", Cond.methodLink RX3 74 yX3_requireBox, Cond.instanceMethod yX3_requireBox, Cond.selects RX3 yX3_requireBox yX3_requireBox, Cond.initialized RX3, Cond.code yX3_requireBox cX3_requireBox 2 none, Cond.classLink RX3 218 "java/lang/IndexOutOfBoundsException", Cond.initialized "java/lang/IndexOutOfBoundsException", Cond.methodLink RX3 232 yX2_has, Cond.instanceMethod yX2_has, Cond.selects RX2 yX2_has yX2_has, Cond.initialized RX2, Cond.code yX2_has cX2_has 2 (some .boolean), Cond.fieldLink RX2 27 "Rackrail$Store" "count" "I", Cond.static yX3_isBelow, Cond.code yX3_isBelow cX3_isBelow 2 (some .boolean), Cond.methodLink RX3 77 yX3_requireOut, Cond.instanceMethod yX3_requireOut, Cond.selects RX3 yX3_requireOut yX3_requireOut, Cond.code yX3_requireOut cX3_requireOut 2 none, Cond.methodLink RX3 88 yX2_whereIs, Cond.instanceMethod yX2_whereIs]
def wsX3_lay_r2 : List Cond := [Cond.selects RX2 yX2_whereIs yX2_whereIs, Cond.code yX2_whereIs cX2_whereIs 2 (some .int), Cond.fieldLink RX2 24 "Rackrail$Store" "spots" "[I", Cond.methodLink RX2 39 yX2_has, Cond.methodLink RX3 80 yX2_bestSpotFor, Cond.instanceMethod yX2_bestSpotFor, Cond.selects RX2 yX2_bestSpotFor yX2_bestSpotFor, Cond.code yX2_bestSpotFor cX2_bestSpotFor 8 (some .int), Cond.fieldLink RX2 9 "Rackrail$Store" "shelfClimates" "[I", Cond.fieldLink RX2 15 "Rackrail$Store" "climates" "[I", Cond.fieldLink RX2 18 "Rackrail$Store" "weights" "[I", Cond.fieldLink RX2 21 "Rackrail$Store" "kins" "[I", Cond.methodLink RX2 69 yX2_weightOn, Cond.instanceMethod yX2_weightOn, Cond.selects RX2 yX2_weightOn yX2_weightOn, Cond.code yX2_weightOn cX2_weightOn 4 (some .int), Cond.methodLink RX2 53 yX2_liesOn, Cond.instanceMethod yX2_liesOn, Cond.selects RX2 yX2_liesOn yX2_liesOn, Cond.code yX2_liesOn cX2_liesOn 4 (some .boolean), Cond.methodLink RX2 43 yX2_whereIs, Cond.static yX3_shelfAt, Cond.code yX3_shelfAt cX3_shelfAt 1 (some .int), Cond.methodLink RX2 72 yX2_firstFreeSpot]
def wsX3_lay_r3 : List Cond := [Cond.instanceMethod yX2_firstFreeSpot, Cond.selects RX2 yX2_firstFreeSpot yX2_firstFreeSpot, Cond.code yX2_firstFreeSpot cX2_firstFreeSpot 5 (some .int), Cond.static yX3_spotAt, Cond.code yX3_spotAt cX3_spotAt 3 (some .int), Cond.methodLink RX2 66 yX2_boxIn, Cond.instanceMethod yX2_boxIn, Cond.selects RX2 yX2_boxIn yX2_boxIn, Cond.code yX2_boxIn cX2_boxIn 3 (some .int), Cond.methodLink RX2 75 yX2_countKin, Cond.instanceMethod yX2_countKin, Cond.selects RX2 yX2_countKin yX2_countKin, Cond.code yX2_countKin cX2_countKin 5 (some .int), Cond.methodLink RX3 85 yX2_put, Cond.instanceMethod yX2_put, Cond.selects RX2 yX2_put yX2_put, Cond.code yX2_put cX2_put 3 none]
def wsX3_lay : List Cond := .code yX3_lay cX3_lay 3 (some .int) :: ((wsX3_lay_r1 ++ (wsX3_lay_r2 ++ wsX3_lay_r3)) ++ wsX30 ++ wsX20 ++ (vx_atS RX3 69 "java/lang/IllegalStateException" ["java/lang/RuntimeException", "java/lang/Exception"]).filter goodWord ++ (vx_atS RX3 222 "java/lang/IndexOutOfBoundsException" ["java/lang/RuntimeException", "java/lang/Exception"]).filter goodWord)
def wsX3_spotOf : List Cond := .code yX3_spotOf cX3_spotOf 2 (some .int) :: ([.fieldLink RX3 12 "Rackrail" "store" "LRackrail$Store;", .methodLink RX3 74 yX3_requireBox, .instanceMethod yX3_requireBox, .selects RX3 yX3_requireBox yX3_requireBox, .initialized RX3, .code yX3_requireBox cX3_requireBox 2 none, .classLink RX3 218 "java/lang/IndexOutOfBoundsException", .initialized "java/lang/IndexOutOfBoundsException", .methodLink RX3 232 yX2_has, .instanceMethod yX2_has, .selects RX2 yX2_has yX2_has, .initialized RX2, .code yX2_has cX2_has 2 (some .boolean), .fieldLink RX2 27 "Rackrail$Store" "count" "I", .static yX3_isBelow, .code yX3_isBelow cX3_isBelow 2 (some .boolean), .methodLink RX3 88 yX2_whereIs, .instanceMethod yX2_whereIs, .selects RX2 yX2_whereIs yX2_whereIs, .code yX2_whereIs cX2_whereIs 2 (some .int), .fieldLink RX2 24 "Rackrail$Store" "spots" "[I", .methodLink RX2 39 yX2_has] ++ wsX30 ++ wsX20 ++ (vx_atS RX3 222 "java/lang/IndexOutOfBoundsException" ["java/lang/RuntimeException", "java/lang/Exception"]).filter goodWord)
def wsX3_placeAt : List Cond := .code yX3_placeAt cX3_placeAt 1 (some .int) :: ([])
def wsX3_isSpot : List Cond := .code yX3_isSpot cX3_isSpot 1 (some .boolean) :: ([.methodLink RX3 241 yX3_shelfAt, .static yX3_shelfAt, .initialized RX3, .code yX3_shelfAt cX3_shelfAt 1 (some .int), .methodLink RX3 244 yX3_sideAt, .static yX3_sideAt, .code yX3_sideAt cX3_sideAt 1 (some .int), .methodLink RX3 247 yX3_placeAt, .static yX3_placeAt, .code yX3_placeAt cX3_placeAt 1 (some .int)])
def wsX3_requireSpot : List Cond := .code yX3_requireSpot cX3_requireSpot 2 none :: ([.classLink RX3 218 "java/lang/IndexOutOfBoundsException", .initialized "java/lang/IndexOutOfBoundsException", .methodLink RX3 225 yX3_isSpot, .static yX3_isSpot, .initialized RX3, .code yX3_isSpot cX3_isSpot 1 (some .boolean), .methodLink RX3 241 yX3_shelfAt, .static yX3_shelfAt, .code yX3_shelfAt cX3_shelfAt 1 (some .int), .methodLink RX3 244 yX3_sideAt, .static yX3_sideAt, .code yX3_sideAt cX3_sideAt 1 (some .int), .methodLink RX3 247 yX3_placeAt, .static yX3_placeAt, .code yX3_placeAt cX3_placeAt 1 (some .int)] ++ (vx_atS RX3 222 "java/lang/IndexOutOfBoundsException" ["java/lang/RuntimeException", "java/lang/Exception"]).filter goodWord)
def wsX3_boxAt_r1 : List Cond := [Cond.fieldLink RX3 12 "Rackrail" "store" "LRackrail$Store;", Cond.methodLink RX3 91 yX3_requireSpot, Cond.instanceMethod yX3_requireSpot, Cond.selects RX3 yX3_requireSpot yX3_requireSpot, Cond.initialized RX3, Cond.code yX3_requireSpot cX3_requireSpot 2 none, Cond.classLink RX3 218 "java/lang/IndexOutOfBoundsException", Cond.initialized "java/lang/IndexOutOfBoundsException", Cond.methodLink RX3 225 yX3_isSpot, Cond.static yX3_isSpot, Cond.code yX3_isSpot cX3_isSpot 1 (some .boolean), Cond.methodLink RX3 241 yX3_shelfAt, Cond.static yX3_shelfAt, Cond.code yX3_shelfAt cX3_shelfAt 1 (some .int), Cond.methodLink RX3 244 yX3_sideAt, Cond.static yX3_sideAt, Cond.code yX3_sideAt cX3_sideAt 1 (some .int), Cond.methodLink RX3 247 yX3_placeAt, Cond.static yX3_placeAt, Cond.code yX3_placeAt cX3_placeAt 1 (some .int), Cond.methodLink RX3 94 yX2_boxIn, Cond.instanceMethod yX2_boxIn, Cond.selects RX2 yX2_boxIn yX2_boxIn, Cond.initialized RX2]
def wsX3_boxAt_r2 : List Cond := [Cond.code yX2_boxIn cX2_boxIn 3 (some .int), Cond.fieldLink RX2 27 "Rackrail$Store" "count" "I", Cond.fieldLink RX2 24 "Rackrail$Store" "spots" "[I"]
def wsX3_boxAt : List Cond := .code yX3_boxAt cX3_boxAt 2 (some .int) :: ((wsX3_boxAt_r1 ++ wsX3_boxAt_r2) ++ wsX30 ++ wsX20 ++ (vx_atS RX3 222 "java/lang/IndexOutOfBoundsException" ["java/lang/RuntimeException", "java/lang/Exception"]).filter goodWord)
def wsX3_weight_r1 : List Cond := [Cond.fieldLink RX3 12 "Rackrail" "store" "LRackrail$Store;", Cond.methodLink RX3 34 yX3_requireShelf, Cond.instanceMethod yX3_requireShelf, Cond.selects RX3 yX3_requireShelf yX3_requireShelf, Cond.initialized RX3, Cond.code yX3_requireShelf cX3_requireShelf 2 none, Cond.classLink RX3 218 "java/lang/IndexOutOfBoundsException", Cond.initialized "java/lang/IndexOutOfBoundsException", Cond.methodLink RX3 38 yX3_isBelow, Cond.static yX3_isBelow, Cond.code yX3_isBelow cX3_isBelow 2 (some .boolean), Cond.methodLink RX3 97 yX2_weightOn, Cond.instanceMethod yX2_weightOn, Cond.selects RX2 yX2_weightOn yX2_weightOn, Cond.initialized RX2, Cond.code yX2_weightOn cX2_weightOn 4 (some .int), Cond.fieldLink RX2 27 "Rackrail$Store" "count" "I", Cond.fieldLink RX2 18 "Rackrail$Store" "weights" "[I", Cond.methodLink RX2 53 yX2_liesOn, Cond.instanceMethod yX2_liesOn, Cond.selects RX2 yX2_liesOn yX2_liesOn, Cond.code yX2_liesOn cX2_liesOn 4 (some .boolean), Cond.methodLink RX2 43 yX2_whereIs, Cond.instanceMethod yX2_whereIs]
def wsX3_weight_r2 : List Cond := [Cond.selects RX2 yX2_whereIs yX2_whereIs, Cond.code yX2_whereIs cX2_whereIs 2 (some .int), Cond.fieldLink RX2 24 "Rackrail$Store" "spots" "[I", Cond.methodLink RX2 39 yX2_has, Cond.instanceMethod yX2_has, Cond.selects RX2 yX2_has yX2_has, Cond.code yX2_has cX2_has 2 (some .boolean), Cond.static yX3_shelfAt, Cond.code yX3_shelfAt cX3_shelfAt 1 (some .int)]
def wsX3_weight : List Cond := .code yX3_weight cX3_weight 2 (some .int) :: ((wsX3_weight_r1 ++ wsX3_weight_r2) ++ wsX30 ++ wsX20 ++ (vx_atS RX3 222 "java/lang/IndexOutOfBoundsException" ["java/lang/RuntimeException", "java/lang/Exception"]).filter goodWord)
def wsX3_wrong_r1 : List Cond := [Cond.fieldLink RX3 12 "Rackrail" "store" "LRackrail$Store;", Cond.methodLink RX3 100 yX2_countWrong, Cond.instanceMethod yX2_countWrong, Cond.selects RX2 yX2_countWrong yX2_countWrong, Cond.initialized RX2, Cond.code yX2_countWrong cX2_countWrong 3 (some .int), Cond.fieldLink RX2 27 "Rackrail$Store" "count" "I", Cond.methodLink RX2 59 yX2_isWrong, Cond.instanceMethod yX2_isWrong, Cond.selects RX2 yX2_isWrong yX2_isWrong, Cond.code yX2_isWrong cX2_isWrong 3 (some .boolean), Cond.fieldLink RX2 15 "Rackrail$Store" "climates" "[I", Cond.methodLink RX2 43 yX2_whereIs, Cond.instanceMethod yX2_whereIs, Cond.selects RX2 yX2_whereIs yX2_whereIs, Cond.code yX2_whereIs cX2_whereIs 2 (some .int), Cond.fieldLink RX2 24 "Rackrail$Store" "spots" "[I", Cond.methodLink RX2 39 yX2_has, Cond.instanceMethod yX2_has, Cond.selects RX2 yX2_has yX2_has, Cond.code yX2_has cX2_has 2 (some .boolean), Cond.static yX3_isBelow, Cond.initialized RX3, Cond.code yX3_isBelow cX3_isBelow 2 (some .boolean)]
def wsX3_wrong_r2 : List Cond := [Cond.static yX3_shelfAt, Cond.code yX3_shelfAt cX3_shelfAt 1 (some .int), Cond.methodLink RX2 56 yX2_climateOf, Cond.instanceMethod yX2_climateOf, Cond.selects RX2 yX2_climateOf yX2_climateOf, Cond.code yX2_climateOf cX2_climateOf 2 (some .int), Cond.fieldLink RX2 9 "Rackrail$Store" "shelfClimates" "[I"]
def wsX3_wrong : List Cond := .code yX3_wrong cX3_wrong 1 (some .int) :: ((wsX3_wrong_r1 ++ wsX3_wrong_r2) ++ wsX30 ++ wsX20)
def wsX3_requireAisle : List Cond := .code yX3_requireAisle cX3_requireAisle 2 none :: ([.classLink RX3 218 "java/lang/IndexOutOfBoundsException", .initialized "java/lang/IndexOutOfBoundsException", .methodLink RX3 38 yX3_isBelow, .static yX3_isBelow, .initialized RX3, .code yX3_isBelow cX3_isBelow 2 (some .boolean)] ++ (vx_atS RX3 222 "java/lang/IndexOutOfBoundsException" ["java/lang/RuntimeException", "java/lang/Exception"]).filter goodWord)
def wsX3_open_r1 : List Cond := [Cond.classLink RX3 65 "java/lang/IllegalStateException", Cond.initialized "java/lang/IllegalStateException", Cond.fieldLink RX3 19 "Rackrail" "rail" "LRackrail$Rail;", Cond.methodLink RX3 104 yX3_requireAisle, Cond.instanceMethod yX3_requireAisle, Cond.selects RX3 yX3_requireAisle yX3_requireAisle, Cond.initialized RX3, Cond.code yX3_requireAisle cX3_requireAisle 2 none, Cond.classLink RX3 218 "java/lang/IndexOutOfBoundsException", Cond.initialized "java/lang/IndexOutOfBoundsException", Cond.methodLink RX3 38 yX3_isBelow, Cond.static yX3_isBelow, Cond.code yX3_isBelow cX3_isBelow 2 (some .boolean), Cond.methodLink RX3 107 yX1_mayOpen, Cond.instanceMethod yX1_mayOpen, Cond.selects RX1 yX1_mayOpen yX1_mayOpen, Cond.initialized RX1, Cond.code yX1_mayOpen cX1_mayOpen 2 (some .boolean), Cond.fieldLink RX1 29 "Rackrail$Rail" "stalled" "Z", Cond.fieldLink RX1 33 "Rackrail$Rail" "smoky" "Z", Cond.methodLink RX1 36 yX1_openAisle, Cond.instanceMethod yX1_openAisle, Cond.selects RX1 yX1_openAisle yX1_openAisle, Cond.code yX1_openAisle cX1_openAisle 1 (some .int)]
def wsX3_open_r2 : List Cond := [Cond.fieldLink RX1 22 "Rackrail$Rail" "gap" "I", Cond.fieldLink RX1 26 "Rackrail$Rail" "target" "I", Cond.methodLink RX1 40 yX1_countInside, Cond.instanceMethod yX1_countInside, Cond.selects RX1 yX1_countInside yX1_countInside, Cond.code yX1_countInside cX1_countInside 3 (some .int), Cond.fieldLink RX1 15 "Rackrail$Rail" "inside" "[Z", Cond.methodLink RX1 43 yX1_hasDoubt, Cond.instanceMethod yX1_hasDoubt, Cond.selects RX1 yX1_hasDoubt yX1_hasDoubt, Cond.code yX1_hasDoubt cX1_hasDoubt 2 (some .boolean), Cond.fieldLink RX1 9 "Rackrail$Rail" "doubts" "[Z", Cond.methodLink RX3 112 yX1_aimAt, Cond.instanceMethod yX1_aimAt, Cond.selects RX1 yX1_aimAt yX1_aimAt, Cond.code yX1_aimAt cX1_aimAt 2 none, Cond.methodLink RX3 115 yX1_movesToCome, Cond.instanceMethod yX1_movesToCome, Cond.selects RX1 yX1_movesToCome yX1_movesToCome, Cond.code yX1_movesToCome cX1_movesToCome 1 (some .int), Cond.methodLink RX1 47 Lib.Math.abs.name, Cond.static Lib.Math.abs.name, Cond.initialized "java/lang/Math", Cond.code Lib.Math.abs.name Lib.Math.abs.code 1 (some .int)]
def wsX3_open : List Cond := .code yX3_open cX3_open 2 (some .int) :: ((wsX3_open_r1 ++ wsX3_open_r2) ++ wsX30 ++ wsX10 ++ (vx_atS RX3 69 "java/lang/IllegalStateException" ["java/lang/RuntimeException", "java/lang/Exception"]).filter goodWord ++ (vx_atS RX3 222 "java/lang/IndexOutOfBoundsException" ["java/lang/RuntimeException", "java/lang/Exception"]).filter goodWord)
def wsX3_opened : List Cond := .code yX3_opened cX3_opened 1 (some .int) :: ([.fieldLink RX3 19 "Rackrail" "rail" "LRackrail$Rail;", .methodLink RX3 118 yX1_openAisle, .instanceMethod yX1_openAisle, .selects RX1 yX1_openAisle yX1_openAisle, .initialized RX1, .code yX1_openAisle cX1_openAisle 1 (some .int), .fieldLink RX1 22 "Rackrail$Rail" "gap" "I", .fieldLink RX1 26 "Rackrail$Rail" "target" "I"] ++ wsX30 ++ wsX10)
def wsX3_openedByMoves : List Cond := .code yX3_openedByMoves cX3_openedByMoves 1 (some .int) :: ([.fieldLink RX3 19 "Rackrail" "rail" "LRackrail$Rail;", .methodLink RX3 121 yX1_openAisleByMoves, .instanceMethod yX1_openAisleByMoves, .selects RX1 yX1_openAisleByMoves yX1_openAisleByMoves, .initialized RX1, .code yX1_openAisleByMoves cX1_openAisleByMoves 3 (some .int), .fieldLink RX1 18 "Rackrail$Rail" "moves" "[I", .fieldLink RX1 26 "Rackrail$Rail" "target" "I"] ++ wsX30 ++ wsX10)
def wsX3_requirePerson : List Cond := .code yX3_requirePerson cX3_requirePerson 2 none :: ([.classLink RX3 218 "java/lang/IndexOutOfBoundsException", .initialized "java/lang/IndexOutOfBoundsException", .methodLink RX3 38 yX3_isBelow, .static yX3_isBelow, .initialized RX3, .code yX3_isBelow cX3_isBelow 2 (some .boolean)] ++ (vx_atS RX3 222 "java/lang/IndexOutOfBoundsException" ["java/lang/RuntimeException", "java/lang/Exception"]).filter goodWord)
def wsX3_goIn_r1 : List Cond := [Cond.classLink RX3 65 "java/lang/IllegalStateException", Cond.initialized "java/lang/IllegalStateException", Cond.fieldLink RX3 19 "Rackrail" "rail" "LRackrail$Rail;", Cond.methodLink RX3 124 yX3_requirePerson, Cond.instanceMethod yX3_requirePerson, Cond.selects RX3 yX3_requirePerson yX3_requirePerson, Cond.initialized RX3, Cond.code yX3_requirePerson cX3_requirePerson 2 none, Cond.classLink RX3 218 "java/lang/IndexOutOfBoundsException", Cond.initialized "java/lang/IndexOutOfBoundsException", Cond.methodLink RX3 38 yX3_isBelow, Cond.static yX3_isBelow, Cond.code yX3_isBelow cX3_isBelow 2 (some .boolean), Cond.methodLink RX3 127 yX1_isInside, Cond.instanceMethod yX1_isInside, Cond.selects RX1 yX1_isInside yX1_isInside, Cond.initialized RX1, Cond.code yX1_isInside cX1_isInside 2 (some .boolean), Cond.fieldLink RX1 15 "Rackrail$Rail" "inside" "[Z", Cond.methodLink RX3 133 yX1_mayGoIn, Cond.instanceMethod yX1_mayGoIn, Cond.selects RX1 yX1_mayGoIn yX1_mayGoIn, Cond.code yX1_mayGoIn cX1_mayGoIn 1 (some .boolean), Cond.fieldLink RX1 33 "Rackrail$Rail" "smoky" "Z"]
def wsX3_goIn_r2 : List Cond := [Cond.methodLink RX1 36 yX1_openAisle, Cond.instanceMethod yX1_openAisle, Cond.selects RX1 yX1_openAisle yX1_openAisle, Cond.code yX1_openAisle cX1_openAisle 1 (some .int), Cond.fieldLink RX1 22 "Rackrail$Rail" "gap" "I", Cond.fieldLink RX1 26 "Rackrail$Rail" "target" "I", Cond.methodLink RX3 138 yX1_setInside, Cond.instanceMethod yX1_setInside, Cond.selects RX1 yX1_setInside yX1_setInside, Cond.code yX1_setInside cX1_setInside 3 none, Cond.methodLink RX3 142 yX1_countInside, Cond.instanceMethod yX1_countInside, Cond.selects RX1 yX1_countInside yX1_countInside, Cond.code yX1_countInside cX1_countInside 3 (some .int)]
def wsX3_goIn : List Cond := .code yX3_goIn cX3_goIn 2 (some .int) :: ((wsX3_goIn_r1 ++ wsX3_goIn_r2) ++ wsX30 ++ wsX10 ++ (vx_atS RX3 69 "java/lang/IllegalStateException" ["java/lang/RuntimeException", "java/lang/Exception"]).filter goodWord ++ (vx_atS RX3 222 "java/lang/IndexOutOfBoundsException" ["java/lang/RuntimeException", "java/lang/Exception"]).filter goodWord)
def wsX3_requireInside : List Cond := .code yX3_requireInside cX3_requireInside 2 none :: ([.classLink RX3 65 "java/lang/IllegalStateException", .initialized "java/lang/IllegalStateException", .fieldLink RX3 19 "Rackrail" "rail" "LRackrail$Rail;", .methodLink RX3 127 yX1_isInside, .instanceMethod yX1_isInside, .selects RX1 yX1_isInside yX1_isInside, .initialized RX1, .code yX1_isInside cX1_isInside 2 (some .boolean), .fieldLink RX1 15 "Rackrail$Rail" "inside" "[Z", .static yX3_isBelow, .initialized RX3, .code yX3_isBelow cX3_isBelow 2 (some .boolean)] ++ wsX30 ++ wsX10 ++ (vx_atS RX3 69 "java/lang/IllegalStateException" ["java/lang/RuntimeException", "java/lang/Exception"]).filter goodWord)
def wsX3_goOut_r1 : List Cond := [Cond.fieldLink RX3 19 "Rackrail" "rail" "LRackrail$Rail;", Cond.methodLink RX3 124 yX3_requirePerson, Cond.instanceMethod yX3_requirePerson, Cond.selects RX3 yX3_requirePerson yX3_requirePerson, Cond.initialized RX3, Cond.code yX3_requirePerson cX3_requirePerson 2 none, Cond.classLink RX3 218 "java/lang/IndexOutOfBoundsException", Cond.initialized "java/lang/IndexOutOfBoundsException", Cond.methodLink RX3 38 yX3_isBelow, Cond.static yX3_isBelow, Cond.code yX3_isBelow cX3_isBelow 2 (some .boolean), Cond.methodLink RX3 145 yX3_requireInside, Cond.instanceMethod yX3_requireInside, Cond.selects RX3 yX3_requireInside yX3_requireInside, Cond.code yX3_requireInside cX3_requireInside 2 none, Cond.classLink RX3 65 "java/lang/IllegalStateException", Cond.initialized "java/lang/IllegalStateException", Cond.methodLink RX3 127 yX1_isInside, Cond.instanceMethod yX1_isInside, Cond.selects RX1 yX1_isInside yX1_isInside, Cond.initialized RX1, Cond.code yX1_isInside cX1_isInside 2 (some .boolean), Cond.fieldLink RX1 15 "Rackrail$Rail" "inside" "[Z", Cond.methodLink RX3 138 yX1_setInside]
def wsX3_goOut_r2 : List Cond := [Cond.instanceMethod yX1_setInside, Cond.selects RX1 yX1_setInside yX1_setInside, Cond.code yX1_setInside cX1_setInside 3 none, Cond.methodLink RX3 142 yX1_countInside, Cond.instanceMethod yX1_countInside, Cond.selects RX1 yX1_countInside yX1_countInside, Cond.code yX1_countInside cX1_countInside 3 (some .int)]
def wsX3_goOut : List Cond := .code yX3_goOut cX3_goOut 2 (some .int) :: ((wsX3_goOut_r1 ++ wsX3_goOut_r2) ++ wsX30 ++ wsX10 ++ (vx_atS RX3 222 "java/lang/IndexOutOfBoundsException" ["java/lang/RuntimeException", "java/lang/Exception"]).filter goodWord ++ (vx_atS RX3 69 "java/lang/IllegalStateException" ["java/lang/RuntimeException", "java/lang/Exception"]).filter goodWord)
def wsX3_doubt : List Cond := .code yX3_doubt cX3_doubt 3 (some .boolean) :: ([.fieldLink RX3 19 "Rackrail" "rail" "LRackrail$Rail;", .methodLink RX3 104 yX3_requireAisle, .instanceMethod yX3_requireAisle, .selects RX3 yX3_requireAisle yX3_requireAisle, .initialized RX3, .code yX3_requireAisle cX3_requireAisle 2 none, .classLink RX3 218 "java/lang/IndexOutOfBoundsException", .initialized "java/lang/IndexOutOfBoundsException", .methodLink RX3 38 yX3_isBelow, .static yX3_isBelow, .code yX3_isBelow cX3_isBelow 2 (some .boolean), .methodLink RX3 148 yX1_hasDoubt, .instanceMethod yX1_hasDoubt, .selects RX1 yX1_hasDoubt yX1_hasDoubt, .initialized RX1, .code yX1_hasDoubt cX1_hasDoubt 2 (some .boolean), .fieldLink RX1 9 "Rackrail$Rail" "doubts" "[Z", .methodLink RX3 151 yX1_setDoubt, .instanceMethod yX1_setDoubt, .selects RX1 yX1_setDoubt yX1_setDoubt, .code yX1_setDoubt cX1_setDoubt 3 none] ++ wsX30 ++ wsX10 ++ (vx_atS RX3 222 "java/lang/IndexOutOfBoundsException" ["java/lang/RuntimeException", "java/lang/Exception"]).filter goodWord)
def wsX3_look : List Cond := .code yX3_look cX3_look 3 (some .boolean) :: ([.classLink RX3 65 "java/lang/IllegalStateException", .initialized "java/lang/IllegalStateException", .fieldLink RX3 19 "Rackrail" "rail" "LRackrail$Rail;", .methodLink RX3 118 yX1_openAisle, .instanceMethod yX1_openAisle, .selects RX1 yX1_openAisle yX1_openAisle, .initialized RX1, .code yX1_openAisle cX1_openAisle 1 (some .int), .fieldLink RX1 22 "Rackrail$Rail" "gap" "I", .fieldLink RX1 26 "Rackrail$Rail" "target" "I", .methodLink RX3 148 yX1_hasDoubt, .instanceMethod yX1_hasDoubt, .selects RX1 yX1_hasDoubt yX1_hasDoubt, .code yX1_hasDoubt cX1_hasDoubt 2 (some .boolean), .fieldLink RX1 9 "Rackrail$Rail" "doubts" "[Z", .static yX3_isBelow, .initialized RX3, .code yX3_isBelow cX3_isBelow 2 (some .boolean), .methodLink RX3 151 yX1_setDoubt, .instanceMethod yX1_setDoubt, .selects RX1 yX1_setDoubt yX1_setDoubt, .code yX1_setDoubt cX1_setDoubt 3 none] ++ wsX30 ++ wsX10 ++ (vx_atS RX3 69 "java/lang/IllegalStateException" ["java/lang/RuntimeException", "java/lang/Exception"]).filter goodWord)
def wsX3_stall : List Cond := .code yX3_stall cX3_stall 2 (some .boolean) :: ([.fieldLink RX3 19 "Rackrail" "rail" "LRackrail$Rail;", .methodLink RX3 156 yX1_changeStall, .instanceMethod yX1_changeStall, .selects RX1 yX1_changeStall yX1_changeStall, .initialized RX1, .code yX1_changeStall cX1_changeStall 3 (some .boolean), .fieldLink RX1 29 "Rackrail$Rail" "stalled" "Z"] ++ wsX30 ++ wsX10)
def wsX3_smoke : List Cond := .code yX3_smoke cX3_smoke 2 (some .int) :: ([.fieldLink RX3 19 "Rackrail" "rail" "LRackrail$Rail;", .methodLink RX3 160 yX1_changeSmoke, .instanceMethod yX1_changeSmoke, .selects RX1 yX1_changeSmoke yX1_changeSmoke, .initialized RX1, .code yX1_changeSmoke cX1_changeSmoke 2 none, .fieldLink RX1 33 "Rackrail$Rail" "smoky" "Z", .methodLink RX3 164 yX1_sendAllOut, .instanceMethod yX1_sendAllOut, .selects RX1 yX1_sendAllOut yX1_sendAllOut, .code yX1_sendAllOut cX1_sendAllOut 3 (some .int), .fieldLink RX1 15 "Rackrail$Rail" "inside" "[Z", .methodLink RX1 40 yX1_countInside, .instanceMethod yX1_countInside, .selects RX1 yX1_countInside yX1_countInside, .code yX1_countInside cX1_countInside 3 (some .int)] ++ wsX30 ++ wsX10)
def wsX3_pass_r1 : List Cond := [Cond.classLink RX3 42 "java/lang/IllegalArgumentException", Cond.initialized "java/lang/IllegalArgumentException", Cond.classLink RX3 65 "java/lang/IllegalStateException", Cond.initialized "java/lang/IllegalStateException", Cond.fieldLink RX3 30 "Rackrail" "clock" "I", Cond.fieldLink RX3 19 "Rackrail" "rail" "LRackrail$Rail;", Cond.methodLink RX3 171 yX1_moveFor, Cond.instanceMethod yX1_moveFor, Cond.selects RX1 yX1_moveFor yX1_moveFor, Cond.initialized RX1, Cond.code yX1_moveFor cX1_moveFor 4 none, Cond.fieldLink RX1 29 "Rackrail$Rail" "stalled" "Z", Cond.fieldLink RX1 33 "Rackrail$Rail" "smoky" "Z", Cond.methodLink RX1 56 Lib.Math.min.name, Cond.static Lib.Math.min.name, Cond.initialized "java/lang/Math", Cond.code Lib.Math.min.name Lib.Math.min.code 2 (some .int), Cond.methodLink RX1 53 yX1_movesToCome, Cond.instanceMethod yX1_movesToCome, Cond.selects RX1 yX1_movesToCome yX1_movesToCome, Cond.code yX1_movesToCome cX1_movesToCome 1 (some .int), Cond.fieldLink RX1 26 "Rackrail$Rail" "target" "I", Cond.fieldLink RX1 22 "Rackrail$Rail" "gap" "I", Cond.methodLink RX1 47 Lib.Math.abs.name]
def wsX3_pass_r2 : List Cond := [Cond.static Lib.Math.abs.name, Cond.code Lib.Math.abs.name Lib.Math.abs.code 1 (some .int), Cond.methodLink RX1 60 yX1_moveOne, Cond.instanceMethod yX1_moveOne, Cond.selects RX1 yX1_moveOne yX1_moveOne, Cond.code yX1_moveOne cX1_moveOne 3 none, Cond.fieldLink RX1 18 "Rackrail$Rail" "moves" "[I", Cond.static yX3_isBelow, Cond.initialized RX3, Cond.code yX3_isBelow cX3_isBelow 2 (some .boolean)]
def wsX3_pass : List Cond := .code yX3_pass cX3_pass 2 (some .int) :: ((wsX3_pass_r1 ++ wsX3_pass_r2) ++ wsX30 ++ wsX10 ++ (vx_atS RX3 46 "java/lang/IllegalArgumentException" ["java/lang/RuntimeException", "java/lang/Exception"]).filter goodWord ++ (vx_atS RX3 69 "java/lang/IllegalStateException" ["java/lang/RuntimeException", "java/lang/Exception"]).filter goodWord)
def wsX3_order_r1 : List Cond := [Cond.classLink RX3 42 "java/lang/IllegalArgumentException", Cond.initialized "java/lang/IllegalArgumentException", Cond.classLink RX3 65 "java/lang/IllegalStateException", Cond.initialized "java/lang/IllegalStateException", Cond.fieldLink RX3 26 "Rackrail" "orders" "LRackrail$Orders;", Cond.methodLink RX3 74 yX3_requireBox, Cond.instanceMethod yX3_requireBox, Cond.selects RX3 yX3_requireBox yX3_requireBox, Cond.initialized RX3, Cond.code yX3_requireBox cX3_requireBox 2 none, Cond.classLink RX3 218 "java/lang/IndexOutOfBoundsException", Cond.initialized "java/lang/IndexOutOfBoundsException", Cond.fieldLink RX3 12 "Rackrail" "store" "LRackrail$Store;", Cond.methodLink RX3 232 yX2_has, Cond.instanceMethod yX2_has, Cond.selects RX2 yX2_has yX2_has, Cond.initialized RX2, Cond.code yX2_has cX2_has 2 (some .boolean), Cond.fieldLink RX2 27 "Rackrail$Store" "count" "I", Cond.static yX3_isBelow, Cond.code yX3_isBelow cX3_isBelow 2 (some .boolean), Cond.methodLink RX3 176 yX0_isOpenFor, Cond.instanceMethod yX0_isOpenFor, Cond.selects RX0 yX0_isOpenFor yX0_isOpenFor]
def wsX3_order_r2 : List Cond := [Cond.initialized RX0, Cond.code yX0_isOpenFor cX0_isOpenFor 3 (some .boolean), Cond.fieldLink RX0 22 "Rackrail$Orders" "count" "I", Cond.fieldLink RX0 18 "Rackrail$Orders" "done" "[Z", Cond.fieldLink RX0 9 "Rackrail$Orders" "boxes" "[I", Cond.methodLink RX3 181 yX0_isFull, Cond.instanceMethod yX0_isFull, Cond.selects RX0 yX0_isFull yX0_isFull, Cond.code yX0_isFull cX0_isFull 1 (some .boolean), Cond.methodLink RX3 184 yX0_enter, Cond.instanceMethod yX0_enter, Cond.selects RX0 yX0_enter yX0_enter, Cond.code yX0_enter cX0_enter 4 (some .int), Cond.fieldLink RX0 15 "Rackrail$Orders" "deadlines" "[I", Cond.methodLink RX0 29 yX0_isFull]
def wsX3_order : List Cond := .code yX3_order cX3_order 3 (some .int) :: ((wsX3_order_r1 ++ wsX3_order_r2) ++ wsX30 ++ wsX20 ++ wsX00 ++ (vx_atS RX3 46 "java/lang/IllegalArgumentException" ["java/lang/RuntimeException", "java/lang/Exception"]).filter goodWord ++ (vx_atS RX3 69 "java/lang/IllegalStateException" ["java/lang/RuntimeException", "java/lang/Exception"]).filter goodWord ++ (vx_atS RX3 222 "java/lang/IndexOutOfBoundsException" ["java/lang/RuntimeException", "java/lang/Exception"]).filter goodWord)
def wsX3_nextAisle_r1 : List Cond := [Cond.fieldLink RX3 26 "Rackrail" "orders" "LRackrail$Orders;", Cond.fieldLink RX3 12 "Rackrail" "store" "LRackrail$Store;", Cond.methodLink RX3 187 yX0_earliest, Cond.instanceMethod yX0_earliest, Cond.selects RX0 yX0_earliest yX0_earliest, Cond.initialized RX0, Cond.code yX0_earliest cX0_earliest 8 (some .int), Cond.fieldLink RX0 22 "Rackrail$Orders" "count" "I", Cond.fieldLink RX0 9 "Rackrail$Orders" "boxes" "[I", Cond.fieldLink RX0 18 "Rackrail$Orders" "done" "[Z", Cond.fieldLink RX0 15 "Rackrail$Orders" "deadlines" "[I", Cond.methodLink RX0 37 yX2_aisleOfBox, Cond.instanceMethod yX2_aisleOfBox, Cond.selects RX2 yX2_aisleOfBox yX2_aisleOfBox, Cond.initialized RX2, Cond.code yX2_aisleOfBox cX2_aisleOfBox 3 (some .int), Cond.methodLink RX2 43 yX2_whereIs, Cond.instanceMethod yX2_whereIs, Cond.selects RX2 yX2_whereIs yX2_whereIs, Cond.code yX2_whereIs cX2_whereIs 2 (some .int), Cond.fieldLink RX2 24 "Rackrail$Store" "spots" "[I", Cond.methodLink RX2 39 yX2_has, Cond.instanceMethod yX2_has, Cond.selects RX2 yX2_has yX2_has]
def wsX3_nextAisle_r2 : List Cond := [Cond.code yX2_has cX2_has 2 (some .boolean), Cond.fieldLink RX2 27 "Rackrail$Store" "count" "I", Cond.static yX3_isBelow, Cond.initialized RX3, Cond.code yX3_isBelow cX3_isBelow 2 (some .boolean), Cond.static yX3_aisleAt, Cond.code yX3_aisleAt cX3_aisleAt 1 (some .int), Cond.methodLink RX3 241 yX3_shelfAt, Cond.static yX3_shelfAt, Cond.code yX3_shelfAt cX3_shelfAt 1 (some .int), Cond.methodLink RX3 244 yX3_sideAt, Cond.static yX3_sideAt, Cond.code yX3_sideAt cX3_sideAt 1 (some .int), Cond.methodLink RX3 191 yX0_boxOf, Cond.instanceMethod yX0_boxOf, Cond.selects RX0 yX0_boxOf yX0_boxOf, Cond.code yX0_boxOf cX0_boxOf 2 (some .int), Cond.methodLink RX3 194 yX2_aisleOfBox]
def wsX3_nextAisle : List Cond := .code yX3_nextAisle cX3_nextAisle 2 (some .int) :: ((wsX3_nextAisle_r1 ++ wsX3_nextAisle_r2) ++ wsX30 ++ wsX00 ++ wsX20)
def wsX3_fetch_r1 : List Cond := [Cond.classLink RX3 65 "java/lang/IllegalStateException", Cond.initialized "java/lang/IllegalStateException", Cond.fieldLink RX3 26 "Rackrail" "orders" "LRackrail$Orders;", Cond.fieldLink RX3 12 "Rackrail" "store" "LRackrail$Store;", Cond.fieldLink RX3 19 "Rackrail" "rail" "LRackrail$Rail;", Cond.fieldLink RX3 30 "Rackrail" "clock" "I", Cond.methodLink RX3 124 yX3_requirePerson, Cond.instanceMethod yX3_requirePerson, Cond.selects RX3 yX3_requirePerson yX3_requirePerson, Cond.initialized RX3, Cond.code yX3_requirePerson cX3_requirePerson 2 none, Cond.classLink RX3 218 "java/lang/IndexOutOfBoundsException", Cond.initialized "java/lang/IndexOutOfBoundsException", Cond.methodLink RX3 38 yX3_isBelow, Cond.static yX3_isBelow, Cond.code yX3_isBelow cX3_isBelow 2 (some .boolean), Cond.methodLink RX3 145 yX3_requireInside, Cond.instanceMethod yX3_requireInside, Cond.selects RX3 yX3_requireInside yX3_requireInside, Cond.code yX3_requireInside cX3_requireInside 2 none, Cond.methodLink RX3 127 yX1_isInside, Cond.instanceMethod yX1_isInside, Cond.selects RX1 yX1_isInside yX1_isInside, Cond.initialized RX1]
def wsX3_fetch_r2 : List Cond := [Cond.code yX1_isInside cX1_isInside 2 (some .boolean), Cond.fieldLink RX1 15 "Rackrail$Rail" "inside" "[Z", Cond.methodLink RX3 118 yX1_openAisle, Cond.instanceMethod yX1_openAisle, Cond.selects RX1 yX1_openAisle yX1_openAisle, Cond.code yX1_openAisle cX1_openAisle 1 (some .int), Cond.fieldLink RX1 22 "Rackrail$Rail" "gap" "I", Cond.fieldLink RX1 26 "Rackrail$Rail" "target" "I", Cond.methodLink RX3 187 yX0_earliest, Cond.instanceMethod yX0_earliest, Cond.selects RX0 yX0_earliest yX0_earliest, Cond.initialized RX0, Cond.code yX0_earliest cX0_earliest 8 (some .int), Cond.fieldLink RX0 22 "Rackrail$Orders" "count" "I", Cond.fieldLink RX0 9 "Rackrail$Orders" "boxes" "[I", Cond.fieldLink RX0 18 "Rackrail$Orders" "done" "[Z", Cond.fieldLink RX0 15 "Rackrail$Orders" "deadlines" "[I", Cond.methodLink RX0 37 yX2_aisleOfBox, Cond.instanceMethod yX2_aisleOfBox, Cond.selects RX2 yX2_aisleOfBox yX2_aisleOfBox, Cond.initialized RX2, Cond.code yX2_aisleOfBox cX2_aisleOfBox 3 (some .int), Cond.methodLink RX2 43 yX2_whereIs, Cond.instanceMethod yX2_whereIs]
def wsX3_fetch_r3 : List Cond := [Cond.selects RX2 yX2_whereIs yX2_whereIs, Cond.code yX2_whereIs cX2_whereIs 2 (some .int), Cond.fieldLink RX2 24 "Rackrail$Store" "spots" "[I", Cond.methodLink RX2 39 yX2_has, Cond.instanceMethod yX2_has, Cond.selects RX2 yX2_has yX2_has, Cond.code yX2_has cX2_has 2 (some .boolean), Cond.fieldLink RX2 27 "Rackrail$Store" "count" "I", Cond.static yX3_aisleAt, Cond.code yX3_aisleAt cX3_aisleAt 1 (some .int), Cond.methodLink RX3 241 yX3_shelfAt, Cond.static yX3_shelfAt, Cond.code yX3_shelfAt cX3_shelfAt 1 (some .int), Cond.methodLink RX3 244 yX3_sideAt, Cond.static yX3_sideAt, Cond.code yX3_sideAt cX3_sideAt 1 (some .int), Cond.methodLink RX3 199 yX0_finish, Cond.instanceMethod yX0_finish, Cond.selects RX0 yX0_finish yX0_finish, Cond.code yX0_finish cX0_finish 3 none, Cond.fieldLink RX0 26 "Rackrail$Orders" "lateCount" "I", Cond.methodLink RX3 191 yX0_boxOf, Cond.instanceMethod yX0_boxOf, Cond.selects RX0 yX0_boxOf yX0_boxOf]
def wsX3_fetch_r4 : List Cond := [Cond.code yX0_boxOf cX0_boxOf 2 (some .int), Cond.methodLink RX3 85 yX2_put, Cond.instanceMethod yX2_put, Cond.selects RX2 yX2_put yX2_put, Cond.code yX2_put cX2_put 3 none]
def wsX3_fetch : List Cond := .code yX3_fetch cX3_fetch 3 (some .int) :: ((wsX3_fetch_r1 ++ (wsX3_fetch_r2 ++ (wsX3_fetch_r3 ++ wsX3_fetch_r4))) ++ wsX30 ++ wsX10 ++ wsX00 ++ wsX20 ++ (vx_atS RX3 69 "java/lang/IllegalStateException" ["java/lang/RuntimeException", "java/lang/Exception"]).filter goodWord ++ (vx_atS RX3 222 "java/lang/IndexOutOfBoundsException" ["java/lang/RuntimeException", "java/lang/Exception"]).filter goodWord)
def wsX3_waiting : List Cond := .code yX3_waiting cX3_waiting 1 (some .int) :: ([.fieldLink RX3 26 "Rackrail" "orders" "LRackrail$Orders;", .methodLink RX3 212 yX0_countOpen, .instanceMethod yX0_countOpen, .selects RX0 yX0_countOpen yX0_countOpen, .initialized RX0, .code yX0_countOpen cX0_countOpen 3 (some .int), .fieldLink RX0 22 "Rackrail$Orders" "count" "I", .fieldLink RX0 18 "Rackrail$Orders" "done" "[Z"] ++ wsX30 ++ wsX00)
def wsX3_late : List Cond := .code yX3_late cX3_late 1 (some .int) :: ([.fieldLink RX3 26 "Rackrail" "orders" "LRackrail$Orders;", .methodLink RX3 215 yX0_countLate, .instanceMethod yX0_countLate, .selects RX0 yX0_countLate yX0_countLate, .initialized RX0, .code yX0_countLate cX0_countLate 1 (some .int), .fieldLink RX0 26 "Rackrail$Orders" "lateCount" "I"] ++ wsX30 ++ wsX00)
def wsJ9_abs_0f7a4 : List Cond := .code yJ9_abs_0f7a4 cJ9_abs_0f7a4 1 (some .int) :: ([])
def wsJ9_min_7cf53 : List Cond := .code yJ9_min_7cf53 cJ9_min_7cf53 2 (some .int) :: ([])
def wsL_cell : List Cond := .code yL_cell cL_cell 2 (some .int) :: ([])
def wsL_low : List Cond := .code yL_low cL_low 2 (some .int) :: ([.constant RL 7 (2147483647)])
def wsL_areBoxes_r1 : List Cond := [Cond.methodLink RL 8 yX3_boxAt, Cond.instanceMethod yX3_boxAt, Cond.selects RX3 yX3_boxAt yX3_boxAt, Cond.initialized RX3, Cond.code yX3_boxAt cX3_boxAt 2 (some .int), Cond.fieldLink RX3 12 "Rackrail" "store" "LRackrail$Store;", Cond.methodLink RX3 91 yX3_requireSpot, Cond.instanceMethod yX3_requireSpot, Cond.selects RX3 yX3_requireSpot yX3_requireSpot, Cond.code yX3_requireSpot cX3_requireSpot 2 none, Cond.classLink RX3 218 "java/lang/IndexOutOfBoundsException", Cond.initialized "java/lang/IndexOutOfBoundsException", Cond.methodLink RX3 225 yX3_isSpot, Cond.static yX3_isSpot, Cond.code yX3_isSpot cX3_isSpot 1 (some .boolean), Cond.methodLink RX3 241 yX3_shelfAt, Cond.static yX3_shelfAt, Cond.code yX3_shelfAt cX3_shelfAt 1 (some .int), Cond.methodLink RX3 244 yX3_sideAt, Cond.static yX3_sideAt, Cond.code yX3_sideAt cX3_sideAt 1 (some .int), Cond.methodLink RX3 247 yX3_placeAt, Cond.static yX3_placeAt, Cond.code yX3_placeAt cX3_placeAt 1 (some .int)]
def wsL_areBoxes_r2 : List Cond := [Cond.methodLink RX3 94 yX2_boxIn, Cond.instanceMethod yX2_boxIn, Cond.selects RX2 yX2_boxIn yX2_boxIn, Cond.initialized RX2, Cond.code yX2_boxIn cX2_boxIn 3 (some .int), Cond.fieldLink RX2 27 "Rackrail$Store" "count" "I", Cond.fieldLink RX2 24 "Rackrail$Store" "spots" "[I", Cond.methodLink RL 14 yX3_spotOf, Cond.instanceMethod yX3_spotOf, Cond.selects RX3 yX3_spotOf yX3_spotOf, Cond.code yX3_spotOf cX3_spotOf 2 (some .int), Cond.methodLink RX3 74 yX3_requireBox, Cond.instanceMethod yX3_requireBox, Cond.selects RX3 yX3_requireBox yX3_requireBox, Cond.code yX3_requireBox cX3_requireBox 2 none, Cond.methodLink RX3 232 yX2_has, Cond.instanceMethod yX2_has, Cond.selects RX2 yX2_has yX2_has, Cond.code yX2_has cX2_has 2 (some .boolean), Cond.static yX3_isBelow, Cond.code yX3_isBelow cX3_isBelow 2 (some .boolean), Cond.methodLink RX3 88 yX2_whereIs, Cond.instanceMethod yX2_whereIs, Cond.selects RX2 yX2_whereIs yX2_whereIs]
def wsL_areBoxes_r3 : List Cond := [Cond.code yX2_whereIs cX2_whereIs 2 (some .int), Cond.methodLink RX2 39 yX2_has, Cond.methodLink RL 17 yX3_weight, Cond.instanceMethod yX3_weight, Cond.selects RX3 yX3_weight yX3_weight, Cond.code yX3_weight cX3_weight 2 (some .int), Cond.methodLink RX3 34 yX3_requireShelf, Cond.instanceMethod yX3_requireShelf, Cond.selects RX3 yX3_requireShelf yX3_requireShelf, Cond.code yX3_requireShelf cX3_requireShelf 2 none, Cond.methodLink RX3 38 yX3_isBelow, Cond.methodLink RX3 97 yX2_weightOn, Cond.instanceMethod yX2_weightOn, Cond.selects RX2 yX2_weightOn yX2_weightOn, Cond.code yX2_weightOn cX2_weightOn 4 (some .int), Cond.fieldLink RX2 18 "Rackrail$Store" "weights" "[I", Cond.methodLink RX2 53 yX2_liesOn, Cond.instanceMethod yX2_liesOn, Cond.selects RX2 yX2_liesOn yX2_liesOn, Cond.code yX2_liesOn cX2_liesOn 4 (some .boolean), Cond.methodLink RX2 43 yX2_whereIs, Cond.methodLink RL 20 yX3_wrong, Cond.instanceMethod yX3_wrong, Cond.selects RX3 yX3_wrong yX3_wrong]
def wsL_areBoxes_r4 : List Cond := [Cond.code yX3_wrong cX3_wrong 1 (some .int), Cond.methodLink RX3 100 yX2_countWrong, Cond.instanceMethod yX2_countWrong, Cond.selects RX2 yX2_countWrong yX2_countWrong, Cond.code yX2_countWrong cX2_countWrong 3 (some .int), Cond.methodLink RX2 59 yX2_isWrong, Cond.instanceMethod yX2_isWrong, Cond.selects RX2 yX2_isWrong yX2_isWrong, Cond.code yX2_isWrong cX2_isWrong 3 (some .boolean), Cond.fieldLink RX2 15 "Rackrail$Store" "climates" "[I", Cond.methodLink RX2 56 yX2_climateOf, Cond.instanceMethod yX2_climateOf, Cond.selects RX2 yX2_climateOf yX2_climateOf, Cond.code yX2_climateOf cX2_climateOf 2 (some .int), Cond.fieldLink RX2 9 "Rackrail$Store" "shelfClimates" "[I"]
def wsL_areBoxes : List Cond := .code yL_areBoxes cL_areBoxes 13 (some .boolean) :: ((wsL_areBoxes_r1 ++ (wsL_areBoxes_r2 ++ (wsL_areBoxes_r3 ++ wsL_areBoxes_r4))) ++ wsX30 ++ wsX20 ++ (vx_atS RX3 222 "java/lang/IndexOutOfBoundsException" ["java/lang/RuntimeException", "java/lang/Exception"]).filter goodWord)
def wsL_isOpen_r1 : List Cond := [Cond.methodLink RL 24 yX3_nextAisle, Cond.instanceMethod yX3_nextAisle, Cond.selects RX3 yX3_nextAisle yX3_nextAisle, Cond.initialized RX3, Cond.code yX3_nextAisle cX3_nextAisle 2 (some .int), Cond.fieldLink RX3 26 "Rackrail" "orders" "LRackrail$Orders;", Cond.fieldLink RX3 12 "Rackrail" "store" "LRackrail$Store;", Cond.methodLink RX3 187 yX0_earliest, Cond.instanceMethod yX0_earliest, Cond.selects RX0 yX0_earliest yX0_earliest, Cond.initialized RX0, Cond.code yX0_earliest cX0_earliest 8 (some .int), Cond.fieldLink RX0 22 "Rackrail$Orders" "count" "I", Cond.fieldLink RX0 9 "Rackrail$Orders" "boxes" "[I", Cond.fieldLink RX0 18 "Rackrail$Orders" "done" "[Z", Cond.fieldLink RX0 15 "Rackrail$Orders" "deadlines" "[I", Cond.methodLink RX0 37 yX2_aisleOfBox, Cond.instanceMethod yX2_aisleOfBox, Cond.selects RX2 yX2_aisleOfBox yX2_aisleOfBox, Cond.initialized RX2, Cond.code yX2_aisleOfBox cX2_aisleOfBox 3 (some .int), Cond.methodLink RX2 43 yX2_whereIs, Cond.instanceMethod yX2_whereIs, Cond.selects RX2 yX2_whereIs yX2_whereIs]
def wsL_isOpen_r2 : List Cond := [Cond.code yX2_whereIs cX2_whereIs 2 (some .int), Cond.fieldLink RX2 24 "Rackrail$Store" "spots" "[I", Cond.methodLink RX2 39 yX2_has, Cond.instanceMethod yX2_has, Cond.selects RX2 yX2_has yX2_has, Cond.code yX2_has cX2_has 2 (some .boolean), Cond.fieldLink RX2 27 "Rackrail$Store" "count" "I", Cond.static yX3_isBelow, Cond.code yX3_isBelow cX3_isBelow 2 (some .boolean), Cond.static yX3_aisleAt, Cond.code yX3_aisleAt cX3_aisleAt 1 (some .int), Cond.methodLink RX3 241 yX3_shelfAt, Cond.static yX3_shelfAt, Cond.code yX3_shelfAt cX3_shelfAt 1 (some .int), Cond.methodLink RX3 244 yX3_sideAt, Cond.static yX3_sideAt, Cond.code yX3_sideAt cX3_sideAt 1 (some .int), Cond.methodLink RX3 191 yX0_boxOf, Cond.instanceMethod yX0_boxOf, Cond.selects RX0 yX0_boxOf yX0_boxOf, Cond.code yX0_boxOf cX0_boxOf 2 (some .int), Cond.methodLink RX3 194 yX2_aisleOfBox, Cond.methodLink RL 27 yX3_opened, Cond.instanceMethod yX3_opened]
def wsL_isOpen_r3 : List Cond := [Cond.selects RX3 yX3_opened yX3_opened, Cond.code yX3_opened cX3_opened 1 (some .int), Cond.fieldLink RX3 19 "Rackrail" "rail" "LRackrail$Rail;", Cond.methodLink RX3 118 yX1_openAisle, Cond.instanceMethod yX1_openAisle, Cond.selects RX1 yX1_openAisle yX1_openAisle, Cond.initialized RX1, Cond.code yX1_openAisle cX1_openAisle 1 (some .int), Cond.fieldLink RX1 22 "Rackrail$Rail" "gap" "I", Cond.fieldLink RX1 26 "Rackrail$Rail" "target" "I", Cond.methodLink RL 30 yX3_openedByMoves, Cond.instanceMethod yX3_openedByMoves, Cond.selects RX3 yX3_openedByMoves yX3_openedByMoves, Cond.code yX3_openedByMoves cX3_openedByMoves 1 (some .int), Cond.methodLink RX3 121 yX1_openAisleByMoves, Cond.instanceMethod yX1_openAisleByMoves, Cond.selects RX1 yX1_openAisleByMoves yX1_openAisleByMoves, Cond.code yX1_openAisleByMoves cX1_openAisleByMoves 3 (some .int), Cond.fieldLink RX1 18 "Rackrail$Rail" "moves" "[I", Cond.methodLink RL 33 yX3_waiting, Cond.instanceMethod yX3_waiting, Cond.selects RX3 yX3_waiting yX3_waiting, Cond.code yX3_waiting cX3_waiting 1 (some .int), Cond.methodLink RX3 212 yX0_countOpen]
def wsL_isOpen_r4 : List Cond := [Cond.instanceMethod yX0_countOpen, Cond.selects RX0 yX0_countOpen yX0_countOpen, Cond.code yX0_countOpen cX0_countOpen 3 (some .int)]
def wsL_isOpen : List Cond := .code yL_isOpen cL_isOpen 3 (some .boolean) :: ((wsL_isOpen_r1 ++ (wsL_isOpen_r2 ++ (wsL_isOpen_r3 ++ wsL_isOpen_r4))) ++ wsX30 ++ wsX00 ++ wsX20 ++ wsX10)
def wsL_law0_r1 : List Cond := [Cond.classLink RL 9 RX3, Cond.instantiable RX3 4, Cond.initialized RX3, Cond.arrayClass .int, Cond.methodLink RL 36 yX3_init, Cond.instanceMethod yX3_init, Cond.code yX3_init cX3_init 1 none, Cond.methodLink RX3 3 objectInit, Cond.instanceMethod objectInit, Cond.code objectInit ⟨#[0xb1]⟩ 1 none, Cond.classLink RX3 9 RX2, Cond.instantiable RX2 6, Cond.initialized RX2, Cond.fieldLink RX3 12 "Rackrail" "store" "LRackrail$Store;", Cond.classLink RX3 16 RX1, Cond.instantiable RX1 7, Cond.initialized RX1, Cond.fieldLink RX3 19 "Rackrail" "rail" "LRackrail$Rail;", Cond.classLink RX3 23 RX0, Cond.instantiable RX0 5, Cond.initialized RX0, Cond.fieldLink RX3 26 "Rackrail" "orders" "LRackrail$Orders;", Cond.fieldLink RX3 30 "Rackrail" "clock" "I", Cond.instanceMethod yX2_init]
def wsL_law0_r2 : List Cond := [Cond.code yX2_init cX2_init 1 none, Cond.methodLink RX2 3 objectInit, Cond.fieldLink RX2 9 "Rackrail$Store" "shelfClimates" "[I", Cond.fieldLink RX2 15 "Rackrail$Store" "climates" "[I", Cond.fieldLink RX2 18 "Rackrail$Store" "weights" "[I", Cond.fieldLink RX2 21 "Rackrail$Store" "kins" "[I", Cond.fieldLink RX2 24 "Rackrail$Store" "spots" "[I", Cond.fieldLink RX2 27 "Rackrail$Store" "count" "I", Cond.instanceMethod yX1_init, Cond.code yX1_init cX1_init 1 none, Cond.methodLink RX1 3 objectInit, Cond.arrayClass .boolean, Cond.fieldLink RX1 9 "Rackrail$Rail" "doubts" "[Z", Cond.fieldLink RX1 15 "Rackrail$Rail" "inside" "[Z", Cond.fieldLink RX1 18 "Rackrail$Rail" "moves" "[I", Cond.fieldLink RX1 22 "Rackrail$Rail" "gap" "I", Cond.fieldLink RX1 26 "Rackrail$Rail" "target" "I", Cond.fieldLink RX1 29 "Rackrail$Rail" "stalled" "Z", Cond.fieldLink RX1 33 "Rackrail$Rail" "smoky" "Z", Cond.instanceMethod yX0_init, Cond.code yX0_init cX0_init 1 none, Cond.methodLink RX0 3 objectInit, Cond.fieldLink RX0 9 "Rackrail$Orders" "boxes" "[I", Cond.fieldLink RX0 15 "Rackrail$Orders" "deadlines" "[I"]
def wsL_law0_r3 : List Cond := [Cond.fieldLink RX0 18 "Rackrail$Orders" "done" "[Z", Cond.fieldLink RX0 22 "Rackrail$Orders" "count" "I", Cond.fieldLink RX0 26 "Rackrail$Orders" "lateCount" "I", Cond.methodLink RL 37 yL_cell, Cond.static yL_cell, Cond.initialized RL, Cond.code yL_cell cL_cell 2 (some .int), Cond.methodLink RL 43 yL_low, Cond.static yL_low, Cond.code yL_low cL_low 2 (some .int), Cond.constant RL 7 (2147483647), Cond.methodLink RL 47 yX3_addBox, Cond.instanceMethod yX3_addBox, Cond.selects RX3 yX3_addBox yX3_addBox, Cond.code yX3_addBox cX3_addBox 4 (some .int), Cond.classLink RX3 42 "java/lang/IllegalArgumentException", Cond.initialized "java/lang/IllegalArgumentException", Cond.classLink RX3 65 "java/lang/IllegalStateException", Cond.initialized "java/lang/IllegalStateException", Cond.methodLink RX3 38 yX3_isBelow, Cond.static yX3_isBelow, Cond.code yX3_isBelow cX3_isBelow 2 (some .boolean), Cond.methodLink RX3 61 yX2_isFull, Cond.instanceMethod yX2_isFull]
def wsL_law0_r4 : List Cond := [Cond.selects RX2 yX2_isFull yX2_isFull, Cond.code yX2_isFull cX2_isFull 1 (some .boolean), Cond.methodLink RX3 70 yX2_enter, Cond.instanceMethod yX2_enter, Cond.selects RX2 yX2_enter yX2_enter, Cond.code yX2_enter cX2_enter 5 (some .int), Cond.methodLink RX2 35 yX2_isFull, Cond.methodLink RL 14 yX3_spotOf, Cond.instanceMethod yX3_spotOf, Cond.selects RX3 yX3_spotOf yX3_spotOf, Cond.code yX3_spotOf cX3_spotOf 2 (some .int), Cond.methodLink RX3 74 yX3_requireBox, Cond.instanceMethod yX3_requireBox, Cond.selects RX3 yX3_requireBox yX3_requireBox, Cond.code yX3_requireBox cX3_requireBox 2 none, Cond.classLink RX3 218 "java/lang/IndexOutOfBoundsException", Cond.initialized "java/lang/IndexOutOfBoundsException", Cond.methodLink RX3 232 yX2_has, Cond.instanceMethod yX2_has, Cond.selects RX2 yX2_has yX2_has, Cond.code yX2_has cX2_has 2 (some .boolean), Cond.methodLink RX3 88 yX2_whereIs, Cond.instanceMethod yX2_whereIs, Cond.selects RX2 yX2_whereIs yX2_whereIs]
def wsL_law0_r5 : List Cond := [Cond.code yX2_whereIs cX2_whereIs 2 (some .int), Cond.methodLink RX2 39 yX2_has, Cond.methodLink RL 51 yX3_bestSpot, Cond.instanceMethod yX3_bestSpot, Cond.selects RX3 yX3_bestSpot yX3_bestSpot, Cond.code yX3_bestSpot cX3_bestSpot 2 (some .int), Cond.methodLink RX3 77 yX3_requireOut, Cond.instanceMethod yX3_requireOut, Cond.selects RX3 yX3_requireOut yX3_requireOut, Cond.code yX3_requireOut cX3_requireOut 2 none, Cond.methodLink RX3 80 yX2_bestSpotFor, Cond.instanceMethod yX2_bestSpotFor, Cond.selects RX2 yX2_bestSpotFor yX2_bestSpotFor, Cond.code yX2_bestSpotFor cX2_bestSpotFor 8 (some .int), Cond.methodLink RX2 69 yX2_weightOn, Cond.instanceMethod yX2_weightOn, Cond.selects RX2 yX2_weightOn yX2_weightOn, Cond.code yX2_weightOn cX2_weightOn 4 (some .int), Cond.methodLink RX2 53 yX2_liesOn, Cond.instanceMethod yX2_liesOn, Cond.selects RX2 yX2_liesOn yX2_liesOn, Cond.code yX2_liesOn cX2_liesOn 4 (some .boolean), Cond.methodLink RX2 43 yX2_whereIs, Cond.static yX3_shelfAt]
def wsL_law0_r6 : List Cond := [Cond.code yX3_shelfAt cX3_shelfAt 1 (some .int), Cond.methodLink RX2 72 yX2_firstFreeSpot, Cond.instanceMethod yX2_firstFreeSpot, Cond.selects RX2 yX2_firstFreeSpot yX2_firstFreeSpot, Cond.code yX2_firstFreeSpot cX2_firstFreeSpot 5 (some .int), Cond.static yX3_spotAt, Cond.code yX3_spotAt cX3_spotAt 3 (some .int), Cond.methodLink RX2 66 yX2_boxIn, Cond.instanceMethod yX2_boxIn, Cond.selects RX2 yX2_boxIn yX2_boxIn, Cond.code yX2_boxIn cX2_boxIn 3 (some .int), Cond.methodLink RX2 75 yX2_countKin, Cond.instanceMethod yX2_countKin, Cond.selects RX2 yX2_countKin yX2_countKin, Cond.code yX2_countKin cX2_countKin 5 (some .int), Cond.methodLink RL 17 yX3_weight, Cond.instanceMethod yX3_weight, Cond.selects RX3 yX3_weight yX3_weight, Cond.code yX3_weight cX3_weight 2 (some .int), Cond.methodLink RX3 34 yX3_requireShelf, Cond.instanceMethod yX3_requireShelf, Cond.selects RX3 yX3_requireShelf yX3_requireShelf, Cond.code yX3_requireShelf cX3_requireShelf 2 none, Cond.methodLink RX3 97 yX2_weightOn]
def wsL_law0_r7 : List Cond := [Cond.methodLink RL 54 yX3_lay, Cond.instanceMethod yX3_lay, Cond.selects RX3 yX3_lay yX3_lay, Cond.code yX3_lay cX3_lay 3 (some .int), Cond.methodLink RX3 85 yX2_put, Cond.instanceMethod yX2_put, Cond.selects RX2 yX2_put yX2_put, Cond.code yX2_put cX2_put 3 none, Cond.methodLink RL 57 yX3_setClimate, Cond.instanceMethod yX3_setClimate, Cond.selects RX3 yX3_setClimate yX3_setClimate, Cond.code yX3_setClimate cX3_setClimate 4 (some .int), Cond.methodLink RX3 49 yX2_climateOf, Cond.instanceMethod yX2_climateOf, Cond.selects RX2 yX2_climateOf yX2_climateOf, Cond.code yX2_climateOf cX2_climateOf 2 (some .int), Cond.methodLink RX3 53 yX2_changeClimate, Cond.instanceMethod yX2_changeClimate, Cond.selects RX2 yX2_changeClimate yX2_changeClimate, Cond.code yX2_changeClimate cX2_changeClimate 3 none, Cond.methodLink RL 60 yX3_order, Cond.instanceMethod yX3_order, Cond.selects RX3 yX3_order yX3_order, Cond.code yX3_order cX3_order 3 (some .int)]
def wsL_law0_r8 : List Cond := [Cond.methodLink RX3 176 yX0_isOpenFor, Cond.instanceMethod yX0_isOpenFor, Cond.selects RX0 yX0_isOpenFor yX0_isOpenFor, Cond.code yX0_isOpenFor cX0_isOpenFor 3 (some .boolean), Cond.methodLink RX3 181 yX0_isFull, Cond.instanceMethod yX0_isFull, Cond.selects RX0 yX0_isFull yX0_isFull, Cond.code yX0_isFull cX0_isFull 1 (some .boolean), Cond.methodLink RX3 184 yX0_enter, Cond.instanceMethod yX0_enter, Cond.selects RX0 yX0_enter yX0_enter, Cond.code yX0_enter cX0_enter 4 (some .int), Cond.methodLink RX0 29 yX0_isFull, Cond.methodLink RL 24 yX3_nextAisle, Cond.instanceMethod yX3_nextAisle, Cond.selects RX3 yX3_nextAisle yX3_nextAisle, Cond.code yX3_nextAisle cX3_nextAisle 2 (some .int), Cond.methodLink RX3 187 yX0_earliest, Cond.instanceMethod yX0_earliest, Cond.selects RX0 yX0_earliest yX0_earliest, Cond.code yX0_earliest cX0_earliest 8 (some .int), Cond.methodLink RX0 37 yX2_aisleOfBox, Cond.instanceMethod yX2_aisleOfBox, Cond.selects RX2 yX2_aisleOfBox yX2_aisleOfBox]
def wsL_law0_r9 : List Cond := [Cond.code yX2_aisleOfBox cX2_aisleOfBox 3 (some .int), Cond.static yX3_aisleAt, Cond.code yX3_aisleAt cX3_aisleAt 1 (some .int), Cond.methodLink RX3 241 yX3_shelfAt, Cond.methodLink RX3 244 yX3_sideAt, Cond.static yX3_sideAt, Cond.code yX3_sideAt cX3_sideAt 1 (some .int), Cond.methodLink RX3 191 yX0_boxOf, Cond.instanceMethod yX0_boxOf, Cond.selects RX0 yX0_boxOf yX0_boxOf, Cond.code yX0_boxOf cX0_boxOf 2 (some .int), Cond.methodLink RX3 194 yX2_aisleOfBox, Cond.methodLink RL 27 yX3_opened, Cond.instanceMethod yX3_opened, Cond.selects RX3 yX3_opened yX3_opened, Cond.code yX3_opened cX3_opened 1 (some .int), Cond.methodLink RX3 118 yX1_openAisle, Cond.instanceMethod yX1_openAisle, Cond.selects RX1 yX1_openAisle yX1_openAisle, Cond.code yX1_openAisle cX1_openAisle 1 (some .int), Cond.methodLink RL 63 yX3_look, Cond.instanceMethod yX3_look, Cond.selects RX3 yX3_look yX3_look, Cond.code yX3_look cX3_look 3 (some .boolean)]
def wsL_law0_r10 : List Cond := [Cond.methodLink RX3 148 yX1_hasDoubt, Cond.instanceMethod yX1_hasDoubt, Cond.selects RX1 yX1_hasDoubt yX1_hasDoubt, Cond.code yX1_hasDoubt cX1_hasDoubt 2 (some .boolean), Cond.methodLink RX3 151 yX1_setDoubt, Cond.instanceMethod yX1_setDoubt, Cond.selects RX1 yX1_setDoubt yX1_setDoubt, Cond.code yX1_setDoubt cX1_setDoubt 3 none, Cond.methodLink RL 67 yX3_open, Cond.instanceMethod yX3_open, Cond.selects RX3 yX3_open yX3_open, Cond.code yX3_open cX3_open 2 (some .int), Cond.methodLink RX3 104 yX3_requireAisle, Cond.instanceMethod yX3_requireAisle, Cond.selects RX3 yX3_requireAisle yX3_requireAisle, Cond.code yX3_requireAisle cX3_requireAisle 2 none, Cond.methodLink RX3 107 yX1_mayOpen, Cond.instanceMethod yX1_mayOpen, Cond.selects RX1 yX1_mayOpen yX1_mayOpen, Cond.code yX1_mayOpen cX1_mayOpen 2 (some .boolean), Cond.methodLink RX1 36 yX1_openAisle, Cond.methodLink RX1 40 yX1_countInside, Cond.instanceMethod yX1_countInside, Cond.selects RX1 yX1_countInside yX1_countInside]
def wsL_law0_r11 : List Cond := [Cond.code yX1_countInside cX1_countInside 3 (some .int), Cond.methodLink RX1 43 yX1_hasDoubt, Cond.methodLink RX3 112 yX1_aimAt, Cond.instanceMethod yX1_aimAt, Cond.selects RX1 yX1_aimAt yX1_aimAt, Cond.code yX1_aimAt cX1_aimAt 2 none, Cond.methodLink RX3 115 yX1_movesToCome, Cond.instanceMethod yX1_movesToCome, Cond.selects RX1 yX1_movesToCome yX1_movesToCome, Cond.code yX1_movesToCome cX1_movesToCome 1 (some .int), Cond.methodLink RX1 47 Lib.Math.abs.name, Cond.static Lib.Math.abs.name, Cond.initialized "java/lang/Math", Cond.code Lib.Math.abs.name Lib.Math.abs.code 1 (some .int), Cond.methodLink RL 70 yX3_pass, Cond.instanceMethod yX3_pass, Cond.selects RX3 yX3_pass yX3_pass, Cond.code yX3_pass cX3_pass 2 (some .int), Cond.methodLink RX3 171 yX1_moveFor, Cond.instanceMethod yX1_moveFor, Cond.selects RX1 yX1_moveFor yX1_moveFor, Cond.code yX1_moveFor cX1_moveFor 4 none, Cond.methodLink RX1 56 Lib.Math.min.name, Cond.static Lib.Math.min.name]
def wsL_law0_r12 : List Cond := [Cond.code Lib.Math.min.name Lib.Math.min.code 2 (some .int), Cond.methodLink RX1 53 yX1_movesToCome, Cond.methodLink RX1 60 yX1_moveOne, Cond.instanceMethod yX1_moveOne, Cond.selects RX1 yX1_moveOne yX1_moveOne, Cond.code yX1_moveOne cX1_moveOne 3 none, Cond.methodLink RL 73 yX3_goIn, Cond.instanceMethod yX3_goIn, Cond.selects RX3 yX3_goIn yX3_goIn, Cond.code yX3_goIn cX3_goIn 2 (some .int), Cond.methodLink RX3 124 yX3_requirePerson, Cond.instanceMethod yX3_requirePerson, Cond.selects RX3 yX3_requirePerson yX3_requirePerson, Cond.code yX3_requirePerson cX3_requirePerson 2 none, Cond.methodLink RX3 127 yX1_isInside, Cond.instanceMethod yX1_isInside, Cond.selects RX1 yX1_isInside yX1_isInside, Cond.code yX1_isInside cX1_isInside 2 (some .boolean), Cond.methodLink RX3 133 yX1_mayGoIn, Cond.instanceMethod yX1_mayGoIn, Cond.selects RX1 yX1_mayGoIn yX1_mayGoIn, Cond.code yX1_mayGoIn cX1_mayGoIn 1 (some .boolean), Cond.methodLink RX3 138 yX1_setInside, Cond.instanceMethod yX1_setInside]
def wsL_law0_r13 : List Cond := [Cond.selects RX1 yX1_setInside yX1_setInside, Cond.code yX1_setInside cX1_setInside 3 none, Cond.methodLink RX3 142 yX1_countInside, Cond.methodLink RL 76 yX3_late, Cond.instanceMethod yX3_late, Cond.selects RX3 yX3_late yX3_late, Cond.code yX3_late cX3_late 1 (some .int), Cond.methodLink RX3 215 yX0_countLate, Cond.instanceMethod yX0_countLate, Cond.selects RX0 yX0_countLate yX0_countLate, Cond.code yX0_countLate cX0_countLate 1 (some .int), Cond.methodLink RL 79 yX3_fetch, Cond.instanceMethod yX3_fetch, Cond.selects RX3 yX3_fetch yX3_fetch, Cond.code yX3_fetch cX3_fetch 3 (some .int), Cond.methodLink RX3 145 yX3_requireInside, Cond.instanceMethod yX3_requireInside, Cond.selects RX3 yX3_requireInside yX3_requireInside, Cond.code yX3_requireInside cX3_requireInside 2 none, Cond.methodLink RX3 199 yX0_finish, Cond.instanceMethod yX0_finish, Cond.selects RX0 yX0_finish yX0_finish, Cond.code yX0_finish cX0_finish 3 none, Cond.methodLink RL 82 yX3_goOut]
def wsL_law0_r14 : List Cond := [Cond.instanceMethod yX3_goOut, Cond.selects RX3 yX3_goOut yX3_goOut, Cond.code yX3_goOut cX3_goOut 2 (some .int), Cond.methodLink RL 85 yX3_doubt, Cond.instanceMethod yX3_doubt, Cond.selects RX3 yX3_doubt yX3_doubt, Cond.code yX3_doubt cX3_doubt 3 (some .boolean), Cond.methodLink RL 89 yX3_stall, Cond.instanceMethod yX3_stall, Cond.selects RX3 yX3_stall yX3_stall, Cond.code yX3_stall cX3_stall 2 (some .boolean), Cond.methodLink RX3 156 yX1_changeStall, Cond.instanceMethod yX1_changeStall, Cond.selects RX1 yX1_changeStall yX1_changeStall, Cond.code yX1_changeStall cX1_changeStall 3 (some .boolean), Cond.methodLink RL 93 yX3_smoke, Cond.instanceMethod yX3_smoke, Cond.selects RX3 yX3_smoke yX3_smoke, Cond.code yX3_smoke cX3_smoke 2 (some .int), Cond.methodLink RX3 160 yX1_changeSmoke, Cond.instanceMethod yX1_changeSmoke, Cond.selects RX1 yX1_changeSmoke yX1_changeSmoke, Cond.code yX1_changeSmoke cX1_changeSmoke 2 none, Cond.methodLink RX3 164 yX1_sendAllOut]
def wsL_law0_r15 : List Cond := [Cond.instanceMethod yX1_sendAllOut, Cond.selects RX1 yX1_sendAllOut yX1_sendAllOut, Cond.code yX1_sendAllOut cX1_sendAllOut 3 (some .int), Cond.methodLink RL 97 yL_areBoxes, Cond.static yL_areBoxes, Cond.code yL_areBoxes cL_areBoxes 13 (some .boolean), Cond.methodLink RL 8 yX3_boxAt, Cond.instanceMethod yX3_boxAt, Cond.selects RX3 yX3_boxAt yX3_boxAt, Cond.code yX3_boxAt cX3_boxAt 2 (some .int), Cond.methodLink RX3 91 yX3_requireSpot, Cond.instanceMethod yX3_requireSpot, Cond.selects RX3 yX3_requireSpot yX3_requireSpot, Cond.code yX3_requireSpot cX3_requireSpot 2 none, Cond.methodLink RX3 225 yX3_isSpot, Cond.static yX3_isSpot, Cond.code yX3_isSpot cX3_isSpot 1 (some .boolean), Cond.methodLink RX3 247 yX3_placeAt, Cond.static yX3_placeAt, Cond.code yX3_placeAt cX3_placeAt 1 (some .int), Cond.methodLink RX3 94 yX2_boxIn, Cond.methodLink RL 20 yX3_wrong, Cond.instanceMethod yX3_wrong, Cond.selects RX3 yX3_wrong yX3_wrong]
def wsL_law0_r16 : List Cond := [Cond.code yX3_wrong cX3_wrong 1 (some .int), Cond.methodLink RX3 100 yX2_countWrong, Cond.instanceMethod yX2_countWrong, Cond.selects RX2 yX2_countWrong yX2_countWrong, Cond.code yX2_countWrong cX2_countWrong 3 (some .int), Cond.methodLink RX2 59 yX2_isWrong, Cond.instanceMethod yX2_isWrong, Cond.selects RX2 yX2_isWrong yX2_isWrong, Cond.code yX2_isWrong cX2_isWrong 3 (some .boolean), Cond.methodLink RX2 56 yX2_climateOf, Cond.methodLink RL 101 yL_isOpen, Cond.static yL_isOpen, Cond.code yL_isOpen cL_isOpen 3 (some .boolean), Cond.methodLink RL 30 yX3_openedByMoves, Cond.instanceMethod yX3_openedByMoves, Cond.selects RX3 yX3_openedByMoves yX3_openedByMoves, Cond.code yX3_openedByMoves cX3_openedByMoves 1 (some .int), Cond.methodLink RX3 121 yX1_openAisleByMoves, Cond.instanceMethod yX1_openAisleByMoves, Cond.selects RX1 yX1_openAisleByMoves yX1_openAisleByMoves, Cond.code yX1_openAisleByMoves cX1_openAisleByMoves 3 (some .int), Cond.methodLink RL 33 yX3_waiting, Cond.instanceMethod yX3_waiting, Cond.selects RX3 yX3_waiting yX3_waiting]
def wsL_law0_r17 : List Cond := [Cond.code yX3_waiting cX3_waiting 1 (some .int), Cond.methodLink RX3 212 yX0_countOpen, Cond.instanceMethod yX0_countOpen, Cond.selects RX0 yX0_countOpen yX0_countOpen, Cond.code yX0_countOpen cX0_countOpen 3 (some .int)]
def wsL_law0 : List Cond := (wsL_law0_r1 ++ (wsL_law0_r2 ++ (wsL_law0_r3 ++ (wsL_law0_r4 ++ (wsL_law0_r5 ++ (wsL_law0_r6 ++ (wsL_law0_r7 ++ (wsL_law0_r8 ++ (wsL_law0_r9 ++ (wsL_law0_r10 ++ (wsL_law0_r11 ++ (wsL_law0_r12 ++ (wsL_law0_r13 ++ (wsL_law0_r14 ++ (wsL_law0_r15 ++ (wsL_law0_r16 ++ wsL_law0_r17)))))))))))))))) ++ wsX30 ++ wsX20 ++ wsX10 ++ wsX00 ++ ([] : List Cond)
def wsL_law : List Cond := wsL_law0 ++ (vx_atS RX3 46 "java/lang/IllegalArgumentException" ["java/lang/RuntimeException", "java/lang/Exception"]).filter goodWord ++ (vx_atS RX3 69 "java/lang/IllegalStateException" ["java/lang/RuntimeException", "java/lang/Exception"]).filter goodWord ++ (vx_atS RX3 222 "java/lang/IndexOutOfBoundsException" ["java/lang/RuntimeException", "java/lang/Exception"]).filter goodWord
end
section
set_option maxRecDepth 20000 in
theorem wsL_law0_r1_in : ∀ w ∈ wsL_law0_r1, w ∈ lw_tbl := fun w h => (goodIn_p wsL_law0_r1 [28, 31] (by decide +kernel) (by decide +kernel) w h).1
set_option maxRecDepth 20000 in
theorem wsL_law0_r2_in : ∀ w ∈ wsL_law0_r2, w ∈ lw_tbl := fun w h => (goodIn_p wsL_law0_r2 [36, 62, 91] (by decide +kernel) (by decide +kernel) w h).1
set_option maxRecDepth 20000 in
theorem wsL_law0_r3_in : ∀ w ∈ wsL_law0_r3, w ∈ lw_tbl := fun w h => (goodIn_p wsL_law0_r3 [521, 524, 229, 132] (by decide +kernel) (by decide +kernel) w h).1
set_option maxRecDepth 20000 in
theorem wsL_law0_r4_in : ∀ w ∈ wsL_law0_r4, w ∈ lw_tbl := fun w h => (goodIn_p wsL_law0_r4 [235, 255, 323, 264, 268] (by decide +kernel) (by decide +kernel) w h).1
set_option maxRecDepth 20000 in
theorem wsL_law0_r5_in : ∀ w ∈ wsL_law0_r5, w ∈ lw_tbl := fun w h => (goodIn_p wsL_law0_r5 [277, 260, 273, 283, 287, 291] (by decide +kernel) (by decide +kernel) w h).1
set_option maxRecDepth 20000 in
theorem wsL_law0_r6_in : ∀ w ∈ wsL_law0_r6, w ∈ lw_tbl := fun w h => (goodIn_p wsL_law0_r6 [295, 299, 302, 306, 310, 327, 129] (by decide +kernel) (by decide +kernel) w h).1
set_option maxRecDepth 20000 in
theorem wsL_law0_r7_in : ∀ w ∈ wsL_law0_r7, w ∈ lw_tbl := fun w h => (goodIn_p wsL_law0_r7 [314, 319, 125, 220, 225, 460] (by decide +kernel) (by decide +kernel) w h).1
set_option maxRecDepth 20000 in
theorem wsL_law0_r8_in : ∀ w ∈ wsL_law0_r8, w ∈ lw_tbl := fun w h => (goodIn_p wsL_law0_r8 [465, 470, 475, 480, 484] (by decide +kernel) (by decide +kernel) w h).1
set_option maxRecDepth 20000 in
theorem wsL_law0_r9_in : ∀ w ∈ wsL_law0_r9, w ∈ lw_tbl := fun w h => (goodIn_p wsL_law0_r9 [488, 491, 495, 499, 370, 345, 417] (by decide +kernel) (by decide +kernel) w h).1
set_option maxRecDepth 20000 in
theorem wsL_law0_r10_in : ∀ w ∈ wsL_law0_r10, w ∈ lw_tbl := fun w h => (goodIn_p wsL_law0_r10 [353, 413, 332, 336, 341] (by decide +kernel) (by decide +kernel) w h).1
set_option maxRecDepth 20000 in
theorem wsL_law0_r11_in : ∀ w ∈ wsL_law0_r11, w ∈ lw_tbl := fun w h => (goodIn_p wsL_law0_r11 [349, 359, 363, 366, 442, 448] (by decide +kernel) (by decide +kernel) w h).1
set_option maxRecDepth 20000 in
theorem wsL_law0_r12_in : ∀ w ∈ wsL_law0_r12, w ∈ lw_tbl := fun w h => (goodIn_p wsL_law0_r12 [452, 456, 375, 379, 384, 389] (by decide +kernel) (by decide +kernel) w h).1
set_option maxRecDepth 20000 in
theorem wsL_law0_r13_in : ∀ w ∈ wsL_law0_r13, w ∈ lw_tbl := fun w h => (goodIn_p wsL_law0_r13 [394, 514, 518, 505, 403, 510] (by decide +kernel) (by decide +kernel) w h).1
set_option maxRecDepth 20000 in
theorem wsL_law0_r14_in : ∀ w ∈ wsL_law0_r14, w ∈ lw_tbl := fun w h => (goodIn_p wsL_law0_r14 [399, 408, 422, 426, 430, 434] (by decide +kernel) (by decide +kernel) w h).1
set_option maxRecDepth 20000 in
theorem wsL_law0_r15_in : ∀ w ∈ wsL_law0_r15, w ∈ lw_tbl := fun w h => (goodIn_p wsL_law0_r15 [438, 528, 532, 536, 539, 542] (by decide +kernel) (by decide +kernel) w h).1
set_option maxRecDepth 20000 in
theorem wsL_law0_r16_in : ∀ w ∈ wsL_law0_r16, w ∈ lw_tbl := fun w h => (goodIn_p wsL_law0_r16 [548, 552, 556, 560, 564, 568] (by decide +kernel) (by decide +kernel) w h).1
set_option maxRecDepth 20000 in
theorem wsL_law0_r17_in : ∀ w ∈ wsL_law0_r17, w ∈ lw_tbl := fun w h => (goodIn_p wsL_law0_r17 [572, 576] (by decide +kernel) (by decide +kernel) w h).1
theorem wsX30_inT : ∀ w ∈ wsX30, w ∈ lw_tbl := by decide +kernel
theorem wsX20_inT : ∀ w ∈ wsX20, w ∈ lw_tbl := by decide +kernel
theorem wsX10_inT : ∀ w ∈ wsX10, w ∈ lw_tbl := by decide +kernel
theorem wsX00_inT : ∀ w ∈ wsX00, w ∈ lw_tbl := by decide +kernel
theorem wsL_law_in0 : ∀ w ∈ wsL_law0, w ∈ lw_tbl := fun w h => (List.mem_append.mp h).elim (fun h => (List.mem_append.mp h).elim (fun h => (List.mem_append.mp h).elim (fun h => (List.mem_append.mp h).elim (fun h => (List.mem_append.mp h).elim (fun h => (List.mem_append.mp h).elim (fun h => wsL_law0_r1_in w h) (fun h => (List.mem_append.mp h).elim (fun h => wsL_law0_r2_in w h) (fun h => (List.mem_append.mp h).elim (fun h => wsL_law0_r3_in w h) (fun h => (List.mem_append.mp h).elim (fun h => wsL_law0_r4_in w h) (fun h => (List.mem_append.mp h).elim (fun h => wsL_law0_r5_in w h) (fun h => (List.mem_append.mp h).elim (fun h => wsL_law0_r6_in w h) (fun h => (List.mem_append.mp h).elim (fun h => wsL_law0_r7_in w h) (fun h => (List.mem_append.mp h).elim (fun h => wsL_law0_r8_in w h) (fun h => (List.mem_append.mp h).elim (fun h => wsL_law0_r9_in w h) (fun h => (List.mem_append.mp h).elim (fun h => wsL_law0_r10_in w h) (fun h => (List.mem_append.mp h).elim (fun h => wsL_law0_r11_in w h) (fun h => (List.mem_append.mp h).elim (fun h => wsL_law0_r12_in w h) (fun h => (List.mem_append.mp h).elim (fun h => wsL_law0_r13_in w h) (fun h => (List.mem_append.mp h).elim (fun h => wsL_law0_r14_in w h) (fun h => (List.mem_append.mp h).elim (fun h => wsL_law0_r15_in w h) (fun h => (List.mem_append.mp h).elim (fun h => wsL_law0_r16_in w h) (fun h => wsL_law0_r17_in w h))))))))))))))))) (fun h => wsX30_inT w h)) (fun h => wsX20_inT w h)) (fun h => wsX10_inT w h)) (fun h => wsX00_inT w h)) (fun h => nomatch h)
theorem wsL_law_x0 : ∀ w ∈ (vx_atS RX3 46 "java/lang/IllegalArgumentException" ["java/lang/RuntimeException", "java/lang/Exception"]).filter goodWord, w ∈ lw_tbl := by decide +kernel
theorem wsL_law_x1 : ∀ w ∈ (vx_atS RX3 69 "java/lang/IllegalStateException" ["java/lang/RuntimeException", "java/lang/Exception"]).filter goodWord, w ∈ lw_tbl := by decide +kernel
theorem wsL_law_x2 : ∀ w ∈ (vx_atS RX3 222 "java/lang/IndexOutOfBoundsException" ["java/lang/RuntimeException", "java/lang/Exception"]).filter goodWord, w ∈ lw_tbl := by decide +kernel
theorem wsL_law_in : ∀ w ∈ wsL_law, w ∈ lw_tbl := fun w h => (List.mem_append.mp h).elim (fun h => (List.mem_append.mp h).elim (fun h => (List.mem_append.mp h).elim (fun h => wsL_law_in0 w h) (fun h => wsL_law_x0 w h)) (fun h => wsL_law_x1 w h)) (fun h => wsL_law_x2 w h)
theorem inlX0 : ∀ w ∈ wsX00, w ∈ wsL_law := fun _ h => List.mem_append_left _ (List.mem_append_left _ (List.mem_append_left _ (List.mem_append_left _ (List.mem_append_right _ h))))
theorem inX0 : ∀ w ∈ wsX00, w ∈ lw_tbl := fun w h => wsL_law_in w (inlX0 w h)
theorem inlX1 : ∀ w ∈ wsX10, w ∈ wsL_law := fun _ h => List.mem_append_left _ (List.mem_append_left _ (List.mem_append_left _ (List.mem_append_left _ (List.mem_append_left _ (List.mem_append_right _ h)))))
theorem inX1 : ∀ w ∈ wsX10, w ∈ lw_tbl := fun w h => wsL_law_in w (inlX1 w h)
theorem inlX2 : ∀ w ∈ wsX20, w ∈ wsL_law := fun _ h => List.mem_append_left _ (List.mem_append_left _ (List.mem_append_left _ (List.mem_append_left _ (List.mem_append_left _ (List.mem_append_left _ (List.mem_append_right _ h))))))
theorem inX2 : ∀ w ∈ wsX20, w ∈ lw_tbl := fun w h => wsL_law_in w (inlX2 w h)
theorem inlX3 : ∀ w ∈ wsX30, w ∈ wsL_law := fun _ h => List.mem_append_left _ (List.mem_append_left _ (List.mem_append_left _ (List.mem_append_left _ (List.mem_append_left _ (List.mem_append_left _ (List.mem_append_left _ (List.mem_append_right _ h)))))))
theorem inX3 : ∀ w ∈ wsX30, w ∈ lw_tbl := fun w h => wsL_law_in w (inlX3 w h)
theorem inX4 : ∀ w ∈ wsX40, w ∈ lw_tbl := by decide +kernel
theorem inJ9 : ∀ w ∈ wsJ90, w ∈ lw_tbl := by decide +kernel
theorem inJ0 : ∀ w ∈ wsJ00, w ∈ lw_tbl := by decide +kernel
end
section
abbrev vwCl : List vw_C := [(RX0, TX0, 5), (RX1, TX1, 7), (RX2, TX2, 6), (RX3, TX3, 4)]
theorem dX0_init_0 : decode cX0_init 0 = .ok (.aload_n 0, 1) := by decide +kernel
theorem dX0_init_1 : decode cX0_init 1 = .ok (.invokespecial 3, 3) := by decide +kernel
theorem dX0_init_4 : decode cX0_init 4 = .ok (.aload_n 0, 1) := by decide +kernel
theorem dX0_init_5 : decode cX0_init 5 = .ok (.bipush 30, 2) := by decide +kernel
theorem dX0_init_7 : decode cX0_init 7 = .ok (.newarray .int, 2) := by decide +kernel
theorem dX0_init_9 : decode cX0_init 9 = .ok (.putfield 9, 3) := by decide +kernel
theorem dX0_init_12 : decode cX0_init 12 = .ok (.aload_n 0, 1) := by decide +kernel
theorem dX0_init_13 : decode cX0_init 13 = .ok (.bipush 30, 2) := by decide +kernel
theorem dX0_init_15 : decode cX0_init 15 = .ok (.newarray .int, 2) := by decide +kernel
theorem dX0_init_17 : decode cX0_init 17 = .ok (.putfield 15, 3) := by decide +kernel
theorem dX0_init_20 : decode cX0_init 20 = .ok (.aload_n 0, 1) := by decide +kernel
theorem dX0_init_21 : decode cX0_init 21 = .ok (.bipush 30, 2) := by decide +kernel
theorem dX0_init_23 : decode cX0_init 23 = .ok (.newarray .boolean, 2) := by decide +kernel
theorem dX0_init_25 : decode cX0_init 25 = .ok (.putfield 18, 3) := by decide +kernel
theorem dX0_init_28 : decode cX0_init 28 = .ok (.aload_n 0, 1) := by decide +kernel
theorem dX0_init_29 : decode cX0_init 29 = .ok (.iconst 0, 1) := by decide +kernel
theorem dX0_init_30 : decode cX0_init 30 = .ok (.putfield 22, 3) := by decide +kernel
theorem dX0_init_33 : decode cX0_init 33 = .ok (.aload_n 0, 1) := by decide +kernel
theorem dX0_init_34 : decode cX0_init 34 = .ok (.iconst 0, 1) := by decide +kernel
theorem dX0_init_35 : decode cX0_init 35 = .ok (.putfield 26, 3) := by decide +kernel
theorem dX0_init_38 : decode cX0_init 38 = .ok (.return_, 1) := by decide +kernel
theorem dX0_isFull_0 : decode cX0_isFull 0 = .ok (.aload_n 0, 1) := by decide +kernel
theorem dX0_isFull_1 : decode cX0_isFull 1 = .ok (.getfield 22, 3) := by decide +kernel
theorem dX0_isFull_4 : decode cX0_isFull 4 = .ok (.bipush 30, 2) := by decide +kernel
theorem dX0_isFull_6 : decode cX0_isFull 6 = .ok (.if_icmp .lt 7, 3) := by decide +kernel
theorem dX0_isFull_9 : decode cX0_isFull 9 = .ok (.iconst 1, 1) := by decide +kernel
theorem dX0_isFull_10 : decode cX0_isFull 10 = .ok (.goto 4, 3) := by decide +kernel
theorem dX0_isFull_13 : decode cX0_isFull 13 = .ok (.iconst 0, 1) := by decide +kernel
theorem dX0_isFull_14 : decode cX0_isFull 14 = .ok (.ireturn, 1) := by decide +kernel
set_option maxRecDepth 20000 in
theorem ggX0_enter_X0_isFull : GoodIn wsX0_enter wsX0_isFull := goodIn_r _ [8, 1, 9, 10, 11, 12, 13] (by decide +kernel) (by decide +kernel)
set_option maxRecDepth 20000 in
theorem gX0_enter_X0_isFull : GoodIn wsX0_enter (wsV RX0 29 RX0 yX0_isFull wsX0_isFull) := goodIn_app (goodIn_of _ (by decide +kernel)) ggX0_enter_X0_isFull
theorem dX0_enter_0 : decode cX0_enter 0 = .ok (.aload_n 0, 1) := by decide +kernel
theorem dX0_enter_1 : decode cX0_enter 1 = .ok (.invokevirtual 29, 3) := by decide +kernel
theorem dX0_enter_4 : decode cX0_enter 4 = .ok (.ifCond .eq 5, 3) := by decide +kernel
theorem dX0_enter_7 : decode cX0_enter 7 = .ok (.iconst (-1), 1) := by decide +kernel
theorem dX0_enter_8 : decode cX0_enter 8 = .ok (.ireturn, 1) := by decide +kernel
theorem dX0_enter_9 : decode cX0_enter 9 = .ok (.aload_n 0, 1) := by decide +kernel
theorem dX0_enter_10 : decode cX0_enter 10 = .ok (.getfield 22, 3) := by decide +kernel
theorem dX0_enter_13 : decode cX0_enter 13 = .ok (.istore_n 3, 1) := by decide +kernel
theorem dX0_enter_14 : decode cX0_enter 14 = .ok (.aload_n 0, 1) := by decide +kernel
theorem dX0_enter_15 : decode cX0_enter 15 = .ok (.getfield 9, 3) := by decide +kernel
theorem dX0_enter_18 : decode cX0_enter 18 = .ok (.iload_n 3, 1) := by decide +kernel
theorem dX0_enter_19 : decode cX0_enter 19 = .ok (.iload_n 1, 1) := by decide +kernel
theorem dX0_enter_20 : decode cX0_enter 20 = .ok (.iastore, 1) := by decide +kernel
theorem dX0_enter_21 : decode cX0_enter 21 = .ok (.aload_n 0, 1) := by decide +kernel
theorem dX0_enter_22 : decode cX0_enter 22 = .ok (.getfield 15, 3) := by decide +kernel
theorem dX0_enter_25 : decode cX0_enter 25 = .ok (.iload_n 3, 1) := by decide +kernel
theorem dX0_enter_26 : decode cX0_enter 26 = .ok (.iload_n 2, 1) := by decide +kernel
theorem dX0_enter_27 : decode cX0_enter 27 = .ok (.iastore, 1) := by decide +kernel
theorem dX0_enter_28 : decode cX0_enter 28 = .ok (.aload_n 0, 1) := by decide +kernel
theorem dX0_enter_29 : decode cX0_enter 29 = .ok (.dup, 1) := by decide +kernel
theorem dX0_enter_30 : decode cX0_enter 30 = .ok (.getfield 22, 3) := by decide +kernel
theorem dX0_enter_33 : decode cX0_enter 33 = .ok (.iconst 1, 1) := by decide +kernel
theorem dX0_enter_34 : decode cX0_enter 34 = .ok (.iadd, 1) := by decide +kernel
theorem dX0_enter_35 : decode cX0_enter 35 = .ok (.putfield 22, 3) := by decide +kernel
theorem dX0_enter_38 : decode cX0_enter 38 = .ok (.iload_n 3, 1) := by decide +kernel
theorem dX0_enter_39 : decode cX0_enter 39 = .ok (.ireturn, 1) := by decide +kernel
set_option maxRecDepth 20000 in
theorem ggX0_boxOf_X3_isBelow : GoodIn wsX0_boxOf wsX3_isBelow := goodIn_r _ [5] (by decide +kernel) (by decide +kernel)
set_option maxRecDepth 20000 in
theorem gX0_boxOf_X3_isBelow_n33 : GoodIn wsX0_boxOf (wsX3_isBelow) := ggX0_boxOf_X3_isBelow
theorem dX0_boxOf_0 : decode cX0_boxOf 0 = .ok (.iload_n 1, 1) := by decide +kernel
theorem dX0_boxOf_1 : decode cX0_boxOf 1 = .ok (.aload_n 0, 1) := by decide +kernel
theorem dX0_boxOf_2 : decode cX0_boxOf 2 = .ok (.getfield 22, 3) := by decide +kernel
theorem dX0_boxOf_5 : decode cX0_boxOf 5 = .ok (.invokestatic 33, 3) := by decide +kernel
theorem dX0_boxOf_8 : decode cX0_boxOf 8 = .ok (.ifCond .eq 12, 3) := by decide +kernel
theorem dX0_boxOf_11 : decode cX0_boxOf 11 = .ok (.aload_n 0, 1) := by decide +kernel
theorem dX0_boxOf_12 : decode cX0_boxOf 12 = .ok (.getfield 9, 3) := by decide +kernel
theorem dX0_boxOf_15 : decode cX0_boxOf 15 = .ok (.iload_n 1, 1) := by decide +kernel
theorem dX0_boxOf_16 : decode cX0_boxOf 16 = .ok (.iaload, 1) := by decide +kernel
theorem dX0_boxOf_17 : decode cX0_boxOf 17 = .ok (.goto 4, 3) := by decide +kernel
theorem dX0_boxOf_20 : decode cX0_boxOf 20 = .ok (.iconst (-1), 1) := by decide +kernel
theorem dX0_boxOf_21 : decode cX0_boxOf 21 = .ok (.ireturn, 1) := by decide +kernel
theorem dX0_isOpenFor_0 : decode cX0_isOpenFor 0 = .ok (.iconst 0, 1) := by decide +kernel
theorem dX0_isOpenFor_1 : decode cX0_isOpenFor 1 = .ok (.istore_n 2, 1) := by decide +kernel
theorem dX0_isOpenFor_2 : decode cX0_isOpenFor 2 = .ok (.iload_n 2, 1) := by decide +kernel
theorem dX0_isOpenFor_3 : decode cX0_isOpenFor 3 = .ok (.aload_n 0, 1) := by decide +kernel
theorem dX0_isOpenFor_4 : decode cX0_isOpenFor 4 = .ok (.getfield 22, 3) := by decide +kernel
theorem dX0_isOpenFor_7 : decode cX0_isOpenFor 7 = .ok (.if_icmp .ge 30, 3) := by decide +kernel
theorem dX0_isOpenFor_10 : decode cX0_isOpenFor 10 = .ok (.aload_n 0, 1) := by decide +kernel
theorem dX0_isOpenFor_11 : decode cX0_isOpenFor 11 = .ok (.getfield 18, 3) := by decide +kernel
theorem dX0_isOpenFor_14 : decode cX0_isOpenFor 14 = .ok (.iload_n 2, 1) := by decide +kernel
theorem dX0_isOpenFor_15 : decode cX0_isOpenFor 15 = .ok (.baload, 1) := by decide +kernel
theorem dX0_isOpenFor_16 : decode cX0_isOpenFor 16 = .ok (.ifCond .ne 15, 3) := by decide +kernel
theorem dX0_isOpenFor_19 : decode cX0_isOpenFor 19 = .ok (.aload_n 0, 1) := by decide +kernel
theorem dX0_isOpenFor_20 : decode cX0_isOpenFor 20 = .ok (.getfield 9, 3) := by decide +kernel
theorem dX0_isOpenFor_23 : decode cX0_isOpenFor 23 = .ok (.iload_n 2, 1) := by decide +kernel
theorem dX0_isOpenFor_24 : decode cX0_isOpenFor 24 = .ok (.iaload, 1) := by decide +kernel
theorem dX0_isOpenFor_25 : decode cX0_isOpenFor 25 = .ok (.iload_n 1, 1) := by decide +kernel
theorem dX0_isOpenFor_26 : decode cX0_isOpenFor 26 = .ok (.if_icmp .ne 5, 3) := by decide +kernel
theorem dX0_isOpenFor_29 : decode cX0_isOpenFor 29 = .ok (.iconst 1, 1) := by decide +kernel
theorem dX0_isOpenFor_30 : decode cX0_isOpenFor 30 = .ok (.ireturn, 1) := by decide +kernel
theorem dX0_isOpenFor_31 : decode cX0_isOpenFor 31 = .ok (.iinc 2 1, 3) := by decide +kernel
theorem dX0_isOpenFor_34 : decode cX0_isOpenFor 34 = .ok (.goto (-32), 3) := by decide +kernel
theorem dX0_isOpenFor_37 : decode cX0_isOpenFor 37 = .ok (.iconst 0, 1) := by decide +kernel
theorem dX0_isOpenFor_38 : decode cX0_isOpenFor 38 = .ok (.ireturn, 1) := by decide +kernel
set_option maxRecDepth 20000 in
theorem ggX0_earliest_X2_aisleOfBox : GoodIn wsX0_earliest wsX2_aisleOfBox := goodIn_r _ [9, 10, 11, 12, 8, 13, 14, 15, 16, 17, 18, 19, 20, 21, 22, 23, 24, 25, 26, 27, 28, 29, 30, 36, 37, 38, 39, 40, 41] (by decide +kernel) (by decide +kernel)
set_option maxRecDepth 20000 in
theorem gX0_earliest_X2_aisleOfBox : GoodIn wsX0_earliest (wsV RX0 37 RX2 yX2_aisleOfBox wsX2_aisleOfBox) := goodIn_app (goodIn_of _ (by decide +kernel)) ggX0_earliest_X2_aisleOfBox
theorem dX0_earliest_0 : decode cX0_earliest 0 = .ok (.iconst (-1), 1) := by decide +kernel
theorem dX0_earliest_1 : decode cX0_earliest 1 = .ok (.istore_n 3, 1) := by decide +kernel
theorem dX0_earliest_2 : decode cX0_earliest 2 = .ok (.sipush 10001, 3) := by decide +kernel
theorem dX0_earliest_5 : decode cX0_earliest 5 = .ok (.istore 4, 2) := by decide +kernel
theorem dX0_earliest_7 : decode cX0_earliest 7 = .ok (.iconst 0, 1) := by decide +kernel
theorem dX0_earliest_8 : decode cX0_earliest 8 = .ok (.istore 5, 2) := by decide +kernel
theorem dX0_earliest_10 : decode cX0_earliest 10 = .ok (.iload 5, 2) := by decide +kernel
theorem dX0_earliest_12 : decode cX0_earliest 12 = .ok (.aload_n 0, 1) := by decide +kernel
theorem dX0_earliest_13 : decode cX0_earliest 13 = .ok (.getfield 22, 3) := by decide +kernel
theorem dX0_earliest_16 : decode cX0_earliest 16 = .ok (.if_icmp .ge 86, 3) := by decide +kernel
theorem dX0_earliest_19 : decode cX0_earliest 19 = .ok (.aload_n 1, 1) := by decide +kernel
theorem dX0_earliest_20 : decode cX0_earliest 20 = .ok (.aload_n 0, 1) := by decide +kernel
theorem dX0_earliest_21 : decode cX0_earliest 21 = .ok (.getfield 9, 3) := by decide +kernel
theorem dX0_earliest_24 : decode cX0_earliest 24 = .ok (.iload 5, 2) := by decide +kernel
theorem dX0_earliest_26 : decode cX0_earliest 26 = .ok (.iaload, 1) := by decide +kernel
theorem dX0_earliest_27 : decode cX0_earliest 27 = .ok (.invokevirtual 37, 3) := by decide +kernel
theorem dX0_earliest_30 : decode cX0_earliest 30 = .ok (.istore 6, 2) := by decide +kernel
theorem dX0_earliest_32 : decode cX0_earliest 32 = .ok (.iload 6, 2) := by decide +kernel
theorem dX0_earliest_34 : decode cX0_earliest 34 = .ok (.iconst (-1), 1) := by decide +kernel
theorem dX0_earliest_35 : decode cX0_earliest 35 = .ok (.if_icmp .eq 19, 3) := by decide +kernel
theorem dX0_earliest_38 : decode cX0_earliest 38 = .ok (.iload_n 2, 1) := by decide +kernel
theorem dX0_earliest_39 : decode cX0_earliest 39 = .ok (.bipush (-2), 2) := by decide +kernel
theorem dX0_earliest_41 : decode cX0_earliest 41 = .ok (.if_icmp .eq 9, 3) := by decide +kernel
theorem dX0_earliest_44 : decode cX0_earliest 44 = .ok (.iload 6, 2) := by decide +kernel
theorem dX0_earliest_46 : decode cX0_earliest 46 = .ok (.iload_n 2, 1) := by decide +kernel
theorem dX0_earliest_47 : decode cX0_earliest 47 = .ok (.if_icmp .ne 7, 3) := by decide +kernel
theorem dX0_earliest_50 : decode cX0_earliest 50 = .ok (.iconst 1, 1) := by decide +kernel
theorem dX0_earliest_51 : decode cX0_earliest 51 = .ok (.goto 4, 3) := by decide +kernel
theorem dX0_earliest_54 : decode cX0_earliest 54 = .ok (.iconst 0, 1) := by decide +kernel
theorem dX0_earliest_55 : decode cX0_earliest 55 = .ok (.istore 7, 2) := by decide +kernel
theorem dX0_earliest_57 : decode cX0_earliest 57 = .ok (.aload_n 0, 1) := by decide +kernel
theorem dX0_earliest_58 : decode cX0_earliest 58 = .ok (.getfield 18, 3) := by decide +kernel
theorem dX0_earliest_61 : decode cX0_earliest 61 = .ok (.iload 5, 2) := by decide +kernel
theorem dX0_earliest_63 : decode cX0_earliest 63 = .ok (.baload, 1) := by decide +kernel
theorem dX0_earliest_64 : decode cX0_earliest 64 = .ok (.ifCond .ne 32, 3) := by decide +kernel
theorem dX0_earliest_67 : decode cX0_earliest 67 = .ok (.iload 7, 2) := by decide +kernel
theorem dX0_earliest_69 : decode cX0_earliest 69 = .ok (.ifCond .eq 27, 3) := by decide +kernel
theorem dX0_earliest_72 : decode cX0_earliest 72 = .ok (.aload_n 0, 1) := by decide +kernel
theorem dX0_earliest_73 : decode cX0_earliest 73 = .ok (.getfield 15, 3) := by decide +kernel
theorem dX0_earliest_76 : decode cX0_earliest 76 = .ok (.iload 5, 2) := by decide +kernel
theorem dX0_earliest_78 : decode cX0_earliest 78 = .ok (.iaload, 1) := by decide +kernel
theorem dX0_earliest_79 : decode cX0_earliest 79 = .ok (.iload 4, 2) := by decide +kernel
theorem dX0_earliest_81 : decode cX0_earliest 81 = .ok (.if_icmp .ge 15, 3) := by decide +kernel
theorem dX0_earliest_84 : decode cX0_earliest 84 = .ok (.iload 5, 2) := by decide +kernel
theorem dX0_earliest_86 : decode cX0_earliest 86 = .ok (.istore_n 3, 1) := by decide +kernel
theorem dX0_earliest_87 : decode cX0_earliest 87 = .ok (.aload_n 0, 1) := by decide +kernel
theorem dX0_earliest_88 : decode cX0_earliest 88 = .ok (.getfield 15, 3) := by decide +kernel
theorem dX0_earliest_91 : decode cX0_earliest 91 = .ok (.iload 5, 2) := by decide +kernel
theorem dX0_earliest_93 : decode cX0_earliest 93 = .ok (.iaload, 1) := by decide +kernel
theorem dX0_earliest_94 : decode cX0_earliest 94 = .ok (.istore 4, 2) := by decide +kernel
theorem dX0_earliest_96 : decode cX0_earliest 96 = .ok (.iinc 5 1, 3) := by decide +kernel
theorem dX0_earliest_99 : decode cX0_earliest 99 = .ok (.goto (-89), 3) := by decide +kernel
theorem dX0_earliest_102 : decode cX0_earliest 102 = .ok (.iload_n 3, 1) := by decide +kernel
theorem dX0_earliest_103 : decode cX0_earliest 103 = .ok (.ireturn, 1) := by decide +kernel
set_option maxRecDepth 20000 in
theorem ggX0_finish_X3_isBelow : GoodIn wsX0_finish wsX3_isBelow := goodIn_r _ [7] (by decide +kernel) (by decide +kernel)
set_option maxRecDepth 20000 in
theorem gX0_finish_X3_isBelow_n33 : GoodIn wsX0_finish (wsX3_isBelow) := ggX0_finish_X3_isBelow
theorem dX0_finish_0 : decode cX0_finish 0 = .ok (.iload_n 1, 1) := by decide +kernel
theorem dX0_finish_1 : decode cX0_finish 1 = .ok (.aload_n 0, 1) := by decide +kernel
theorem dX0_finish_2 : decode cX0_finish 2 = .ok (.getfield 22, 3) := by decide +kernel
theorem dX0_finish_5 : decode cX0_finish 5 = .ok (.invokestatic 33, 3) := by decide +kernel
theorem dX0_finish_8 : decode cX0_finish 8 = .ok (.ifCond .eq 30, 3) := by decide +kernel
theorem dX0_finish_11 : decode cX0_finish 11 = .ok (.aload_n 0, 1) := by decide +kernel
theorem dX0_finish_12 : decode cX0_finish 12 = .ok (.getfield 18, 3) := by decide +kernel
theorem dX0_finish_15 : decode cX0_finish 15 = .ok (.iload_n 1, 1) := by decide +kernel
theorem dX0_finish_16 : decode cX0_finish 16 = .ok (.iconst 1, 1) := by decide +kernel
theorem dX0_finish_17 : decode cX0_finish 17 = .ok (.bastore, 1) := by decide +kernel
theorem dX0_finish_18 : decode cX0_finish 18 = .ok (.iload_n 2, 1) := by decide +kernel
theorem dX0_finish_19 : decode cX0_finish 19 = .ok (.aload_n 0, 1) := by decide +kernel
theorem dX0_finish_20 : decode cX0_finish 20 = .ok (.getfield 15, 3) := by decide +kernel
theorem dX0_finish_23 : decode cX0_finish 23 = .ok (.iload_n 1, 1) := by decide +kernel
theorem dX0_finish_24 : decode cX0_finish 24 = .ok (.iaload, 1) := by decide +kernel
theorem dX0_finish_25 : decode cX0_finish 25 = .ok (.if_icmp .le 13, 3) := by decide +kernel
theorem dX0_finish_28 : decode cX0_finish 28 = .ok (.aload_n 0, 1) := by decide +kernel
theorem dX0_finish_29 : decode cX0_finish 29 = .ok (.dup, 1) := by decide +kernel
theorem dX0_finish_30 : decode cX0_finish 30 = .ok (.getfield 26, 3) := by decide +kernel
theorem dX0_finish_33 : decode cX0_finish 33 = .ok (.iconst 1, 1) := by decide +kernel
theorem dX0_finish_34 : decode cX0_finish 34 = .ok (.iadd, 1) := by decide +kernel
theorem dX0_finish_35 : decode cX0_finish 35 = .ok (.putfield 26, 3) := by decide +kernel
theorem dX0_finish_38 : decode cX0_finish 38 = .ok (.return_, 1) := by decide +kernel
theorem dX0_countOpen_0 : decode cX0_countOpen 0 = .ok (.iconst 0, 1) := by decide +kernel
theorem dX0_countOpen_1 : decode cX0_countOpen 1 = .ok (.istore_n 1, 1) := by decide +kernel
theorem dX0_countOpen_2 : decode cX0_countOpen 2 = .ok (.iconst 0, 1) := by decide +kernel
theorem dX0_countOpen_3 : decode cX0_countOpen 3 = .ok (.istore_n 2, 1) := by decide +kernel
theorem dX0_countOpen_4 : decode cX0_countOpen 4 = .ok (.iload_n 2, 1) := by decide +kernel
theorem dX0_countOpen_5 : decode cX0_countOpen 5 = .ok (.aload_n 0, 1) := by decide +kernel
theorem dX0_countOpen_6 : decode cX0_countOpen 6 = .ok (.getfield 22, 3) := by decide +kernel
theorem dX0_countOpen_9 : decode cX0_countOpen 9 = .ok (.if_icmp .ge 21, 3) := by decide +kernel
theorem dX0_countOpen_12 : decode cX0_countOpen 12 = .ok (.aload_n 0, 1) := by decide +kernel
theorem dX0_countOpen_13 : decode cX0_countOpen 13 = .ok (.getfield 18, 3) := by decide +kernel
theorem dX0_countOpen_16 : decode cX0_countOpen 16 = .ok (.iload_n 2, 1) := by decide +kernel
theorem dX0_countOpen_17 : decode cX0_countOpen 17 = .ok (.baload, 1) := by decide +kernel
theorem dX0_countOpen_18 : decode cX0_countOpen 18 = .ok (.ifCond .ne 6, 3) := by decide +kernel
theorem dX0_countOpen_21 : decode cX0_countOpen 21 = .ok (.iinc 1 1, 3) := by decide +kernel
theorem dX0_countOpen_24 : decode cX0_countOpen 24 = .ok (.iinc 2 1, 3) := by decide +kernel
theorem dX0_countOpen_27 : decode cX0_countOpen 27 = .ok (.goto (-23), 3) := by decide +kernel
theorem dX0_countOpen_30 : decode cX0_countOpen 30 = .ok (.iload_n 1, 1) := by decide +kernel
theorem dX0_countOpen_31 : decode cX0_countOpen 31 = .ok (.ireturn, 1) := by decide +kernel
theorem dX0_countLate_0 : decode cX0_countLate 0 = .ok (.aload_n 0, 1) := by decide +kernel
theorem dX0_countLate_1 : decode cX0_countLate 1 = .ok (.getfield 26, 3) := by decide +kernel
theorem dX0_countLate_4 : decode cX0_countLate 4 = .ok (.ireturn, 1) := by decide +kernel
theorem dX1_init_0 : decode cX1_init 0 = .ok (.aload_n 0, 1) := by decide +kernel
theorem dX1_init_1 : decode cX1_init 1 = .ok (.invokespecial 3, 3) := by decide +kernel
theorem dX1_init_4 : decode cX1_init 4 = .ok (.aload_n 0, 1) := by decide +kernel
theorem dX1_init_5 : decode cX1_init 5 = .ok (.bipush 7, 2) := by decide +kernel
theorem dX1_init_7 : decode cX1_init 7 = .ok (.newarray .boolean, 2) := by decide +kernel
theorem dX1_init_9 : decode cX1_init 9 = .ok (.putfield 9, 3) := by decide +kernel
theorem dX1_init_12 : decode cX1_init 12 = .ok (.aload_n 0, 1) := by decide +kernel
theorem dX1_init_13 : decode cX1_init 13 = .ok (.iconst 4, 1) := by decide +kernel
theorem dX1_init_14 : decode cX1_init 14 = .ok (.newarray .boolean, 2) := by decide +kernel
theorem dX1_init_16 : decode cX1_init 16 = .ok (.putfield 15, 3) := by decide +kernel
theorem dX1_init_19 : decode cX1_init 19 = .ok (.aload_n 0, 1) := by decide +kernel
theorem dX1_init_20 : decode cX1_init 20 = .ok (.bipush 6, 2) := by decide +kernel
theorem dX1_init_22 : decode cX1_init 22 = .ok (.newarray .int, 2) := by decide +kernel
theorem dX1_init_24 : decode cX1_init 24 = .ok (.putfield 18, 3) := by decide +kernel
theorem dX1_init_27 : decode cX1_init 27 = .ok (.aload_n 0, 1) := by decide +kernel
theorem dX1_init_28 : decode cX1_init 28 = .ok (.iconst 0, 1) := by decide +kernel
theorem dX1_init_29 : decode cX1_init 29 = .ok (.putfield 22, 3) := by decide +kernel
theorem dX1_init_32 : decode cX1_init 32 = .ok (.aload_n 0, 1) := by decide +kernel
theorem dX1_init_33 : decode cX1_init 33 = .ok (.iconst 0, 1) := by decide +kernel
theorem dX1_init_34 : decode cX1_init 34 = .ok (.putfield 26, 3) := by decide +kernel
theorem dX1_init_37 : decode cX1_init 37 = .ok (.aload_n 0, 1) := by decide +kernel
theorem dX1_init_38 : decode cX1_init 38 = .ok (.iconst 0, 1) := by decide +kernel
theorem dX1_init_39 : decode cX1_init 39 = .ok (.putfield 29, 3) := by decide +kernel
theorem dX1_init_42 : decode cX1_init 42 = .ok (.aload_n 0, 1) := by decide +kernel
theorem dX1_init_43 : decode cX1_init 43 = .ok (.iconst 0, 1) := by decide +kernel
theorem dX1_init_44 : decode cX1_init 44 = .ok (.putfield 33, 3) := by decide +kernel
theorem dX1_init_47 : decode cX1_init 47 = .ok (.return_, 1) := by decide +kernel
theorem dX1_openAisle_0 : decode cX1_openAisle 0 = .ok (.aload_n 0, 1) := by decide +kernel
theorem dX1_openAisle_1 : decode cX1_openAisle 1 = .ok (.getfield 22, 3) := by decide +kernel
theorem dX1_openAisle_4 : decode cX1_openAisle 4 = .ok (.aload_n 0, 1) := by decide +kernel
theorem dX1_openAisle_5 : decode cX1_openAisle 5 = .ok (.getfield 26, 3) := by decide +kernel
theorem dX1_openAisle_8 : decode cX1_openAisle 8 = .ok (.if_icmp .ne 10, 3) := by decide +kernel
theorem dX1_openAisle_11 : decode cX1_openAisle 11 = .ok (.aload_n 0, 1) := by decide +kernel
theorem dX1_openAisle_12 : decode cX1_openAisle 12 = .ok (.getfield 22, 3) := by decide +kernel
theorem dX1_openAisle_15 : decode cX1_openAisle 15 = .ok (.goto 4, 3) := by decide +kernel
theorem dX1_openAisle_18 : decode cX1_openAisle 18 = .ok (.iconst (-1), 1) := by decide +kernel
theorem dX1_openAisle_19 : decode cX1_openAisle 19 = .ok (.ireturn, 1) := by decide +kernel
theorem dX1_openAisleByMoves_0 : decode cX1_openAisleByMoves 0 = .ok (.iconst 0, 1) := by decide +kernel
theorem dX1_openAisleByMoves_1 : decode cX1_openAisleByMoves 1 = .ok (.istore_n 1, 1) := by decide +kernel
theorem dX1_openAisleByMoves_2 : decode cX1_openAisleByMoves 2 = .ok (.iconst 0, 1) := by decide +kernel
theorem dX1_openAisleByMoves_3 : decode cX1_openAisleByMoves 3 = .ok (.istore_n 2, 1) := by decide +kernel
theorem dX1_openAisleByMoves_4 : decode cX1_openAisleByMoves 4 = .ok (.iload_n 2, 1) := by decide +kernel
theorem dX1_openAisleByMoves_5 : decode cX1_openAisleByMoves 5 = .ok (.bipush 6, 2) := by decide +kernel
theorem dX1_openAisleByMoves_7 : decode cX1_openAisleByMoves 7 = .ok (.if_icmp .ge 24, 3) := by decide +kernel
theorem dX1_openAisleByMoves_10 : decode cX1_openAisleByMoves 10 = .ok (.aload_n 0, 1) := by decide +kernel
theorem dX1_openAisleByMoves_11 : decode cX1_openAisleByMoves 11 = .ok (.getfield 18, 3) := by decide +kernel
theorem dX1_openAisleByMoves_14 : decode cX1_openAisleByMoves 14 = .ok (.iload_n 2, 1) := by decide +kernel
theorem dX1_openAisleByMoves_15 : decode cX1_openAisleByMoves 15 = .ok (.iaload, 1) := by decide +kernel
theorem dX1_openAisleByMoves_16 : decode cX1_openAisleByMoves 16 = .ok (.iconst 2, 1) := by decide +kernel
theorem dX1_openAisleByMoves_17 : decode cX1_openAisleByMoves 17 = .ok (.irem, 1) := by decide +kernel
theorem dX1_openAisleByMoves_18 : decode cX1_openAisleByMoves 18 = .ok (.iconst 1, 1) := by decide +kernel
theorem dX1_openAisleByMoves_19 : decode cX1_openAisleByMoves 19 = .ok (.if_icmp .ne 6, 3) := by decide +kernel
theorem dX1_openAisleByMoves_22 : decode cX1_openAisleByMoves 22 = .ok (.iinc 1 1, 3) := by decide +kernel
theorem dX1_openAisleByMoves_25 : decode cX1_openAisleByMoves 25 = .ok (.iinc 2 1, 3) := by decide +kernel
theorem dX1_openAisleByMoves_28 : decode cX1_openAisleByMoves 28 = .ok (.goto (-24), 3) := by decide +kernel
theorem dX1_openAisleByMoves_31 : decode cX1_openAisleByMoves 31 = .ok (.iload_n 1, 1) := by decide +kernel
theorem dX1_openAisleByMoves_32 : decode cX1_openAisleByMoves 32 = .ok (.aload_n 0, 1) := by decide +kernel
theorem dX1_openAisleByMoves_33 : decode cX1_openAisleByMoves 33 = .ok (.getfield 26, 3) := by decide +kernel
theorem dX1_openAisleByMoves_36 : decode cX1_openAisleByMoves 36 = .ok (.if_icmp .ne 7, 3) := by decide +kernel
theorem dX1_openAisleByMoves_39 : decode cX1_openAisleByMoves 39 = .ok (.iload_n 1, 1) := by decide +kernel
theorem dX1_openAisleByMoves_40 : decode cX1_openAisleByMoves 40 = .ok (.goto 4, 3) := by decide +kernel
theorem dX1_openAisleByMoves_43 : decode cX1_openAisleByMoves 43 = .ok (.iconst (-1), 1) := by decide +kernel
theorem dX1_openAisleByMoves_44 : decode cX1_openAisleByMoves 44 = .ok (.ireturn, 1) := by decide +kernel
set_option maxRecDepth 20000 in
theorem ggX1_mayOpen_X1_openAisle : GoodIn wsX1_mayOpen wsX1_openAisle := goodIn_r _ [7, 8, 9, 23, 24, 25, 26, 27, 28, 29] (by decide +kernel) (by decide +kernel)
set_option maxRecDepth 20000 in
theorem gX1_mayOpen_X1_openAisle : GoodIn wsX1_mayOpen (wsV RX1 36 RX1 yX1_openAisle wsX1_openAisle) := goodIn_app (goodIn_of _ (by decide +kernel)) ggX1_mayOpen_X1_openAisle
set_option maxRecDepth 20000 in
theorem ggX1_mayOpen_X1_countInside : GoodIn wsX1_mayOpen wsX1_countInside := goodIn_r _ [13, 14, 23, 24, 25, 26, 27, 28, 29] (by decide +kernel) (by decide +kernel)
set_option maxRecDepth 20000 in
theorem gX1_mayOpen_X1_countInside : GoodIn wsX1_mayOpen (wsV RX1 40 RX1 yX1_countInside wsX1_countInside) := goodIn_app (goodIn_of _ (by decide +kernel)) ggX1_mayOpen_X1_countInside
set_option maxRecDepth 20000 in
theorem ggX1_mayOpen_X1_hasDoubt : GoodIn wsX1_mayOpen wsX1_hasDoubt := goodIn_r _ [18, 19, 20, 21, 22, 23, 24, 25, 26, 27, 28, 29] (by decide +kernel) (by decide +kernel)
set_option maxRecDepth 20000 in
theorem gX1_mayOpen_X1_hasDoubt : GoodIn wsX1_mayOpen (wsV RX1 43 RX1 yX1_hasDoubt wsX1_hasDoubt) := goodIn_app (goodIn_of _ (by decide +kernel)) ggX1_mayOpen_X1_hasDoubt
theorem dX1_mayOpen_0 : decode cX1_mayOpen 0 = .ok (.aload_n 0, 1) := by decide +kernel
theorem dX1_mayOpen_1 : decode cX1_mayOpen 1 = .ok (.invokevirtual 36, 3) := by decide +kernel
theorem dX1_mayOpen_4 : decode cX1_mayOpen 4 = .ok (.istore_n 1, 1) := by decide +kernel
theorem dX1_mayOpen_5 : decode cX1_mayOpen 5 = .ok (.iload_n 1, 1) := by decide +kernel
theorem dX1_mayOpen_6 : decode cX1_mayOpen 6 = .ok (.iconst (-1), 1) := by decide +kernel
theorem dX1_mayOpen_7 : decode cX1_mayOpen 7 = .ok (.if_icmp .eq 36, 3) := by decide +kernel
theorem dX1_mayOpen_10 : decode cX1_mayOpen 10 = .ok (.aload_n 0, 1) := by decide +kernel
theorem dX1_mayOpen_11 : decode cX1_mayOpen 11 = .ok (.invokevirtual 40, 3) := by decide +kernel
theorem dX1_mayOpen_14 : decode cX1_mayOpen 14 = .ok (.ifCond .ne 29, 3) := by decide +kernel
theorem dX1_mayOpen_17 : decode cX1_mayOpen 17 = .ok (.aload_n 0, 1) := by decide +kernel
theorem dX1_mayOpen_18 : decode cX1_mayOpen 18 = .ok (.iload_n 1, 1) := by decide +kernel
theorem dX1_mayOpen_19 : decode cX1_mayOpen 19 = .ok (.invokevirtual 43, 3) := by decide +kernel
theorem dX1_mayOpen_22 : decode cX1_mayOpen 22 = .ok (.ifCond .ne 21, 3) := by decide +kernel
theorem dX1_mayOpen_25 : decode cX1_mayOpen 25 = .ok (.aload_n 0, 1) := by decide +kernel
theorem dX1_mayOpen_26 : decode cX1_mayOpen 26 = .ok (.getfield 29, 3) := by decide +kernel
theorem dX1_mayOpen_29 : decode cX1_mayOpen 29 = .ok (.ifCond .ne 14, 3) := by decide +kernel
theorem dX1_mayOpen_32 : decode cX1_mayOpen 32 = .ok (.aload_n 0, 1) := by decide +kernel
theorem dX1_mayOpen_33 : decode cX1_mayOpen 33 = .ok (.getfield 33, 3) := by decide +kernel
theorem dX1_mayOpen_36 : decode cX1_mayOpen 36 = .ok (.ifCond .ne 7, 3) := by decide +kernel
theorem dX1_mayOpen_39 : decode cX1_mayOpen 39 = .ok (.iconst 1, 1) := by decide +kernel
theorem dX1_mayOpen_40 : decode cX1_mayOpen 40 = .ok (.goto 4, 3) := by decide +kernel
theorem dX1_mayOpen_43 : decode cX1_mayOpen 43 = .ok (.iconst 0, 1) := by decide +kernel
theorem dX1_mayOpen_44 : decode cX1_mayOpen 44 = .ok (.ireturn, 1) := by decide +kernel
set_option maxRecDepth 20000 in
theorem ggX1_mayGoIn_X1_openAisle : GoodIn wsX1_mayGoIn wsX1_openAisle := goodIn_r _ [6, 7, 8, 9, 10, 11, 12, 13, 14, 15] (by decide +kernel) (by decide +kernel)
set_option maxRecDepth 20000 in
theorem gX1_mayGoIn_X1_openAisle : GoodIn wsX1_mayGoIn (wsV RX1 36 RX1 yX1_openAisle wsX1_openAisle) := goodIn_app (goodIn_of _ (by decide +kernel)) ggX1_mayGoIn_X1_openAisle
theorem dX1_mayGoIn_0 : decode cX1_mayGoIn 0 = .ok (.aload_n 0, 1) := by decide +kernel
theorem dX1_mayGoIn_1 : decode cX1_mayGoIn 1 = .ok (.invokevirtual 36, 3) := by decide +kernel
theorem dX1_mayGoIn_4 : decode cX1_mayGoIn 4 = .ok (.iconst (-1), 1) := by decide +kernel
theorem dX1_mayGoIn_5 : decode cX1_mayGoIn 5 = .ok (.if_icmp .eq 14, 3) := by decide +kernel
theorem dX1_mayGoIn_8 : decode cX1_mayGoIn 8 = .ok (.aload_n 0, 1) := by decide +kernel
theorem dX1_mayGoIn_9 : decode cX1_mayGoIn 9 = .ok (.getfield 33, 3) := by decide +kernel
theorem dX1_mayGoIn_12 : decode cX1_mayGoIn 12 = .ok (.ifCond .ne 7, 3) := by decide +kernel
theorem dX1_mayGoIn_15 : decode cX1_mayGoIn 15 = .ok (.iconst 1, 1) := by decide +kernel
theorem dX1_mayGoIn_16 : decode cX1_mayGoIn 16 = .ok (.goto 4, 3) := by decide +kernel
theorem dX1_mayGoIn_19 : decode cX1_mayGoIn 19 = .ok (.iconst 0, 1) := by decide +kernel
theorem dX1_mayGoIn_20 : decode cX1_mayGoIn 20 = .ok (.ireturn, 1) := by decide +kernel
theorem dX1_aimAt_0 : decode cX1_aimAt 0 = .ok (.aload_n 0, 1) := by decide +kernel
theorem dX1_aimAt_1 : decode cX1_aimAt 1 = .ok (.iload_n 1, 1) := by decide +kernel
theorem dX1_aimAt_2 : decode cX1_aimAt 2 = .ok (.putfield 26, 3) := by decide +kernel
theorem dX1_aimAt_5 : decode cX1_aimAt 5 = .ok (.return_, 1) := by decide +kernel
theorem dX1_movesToCome_0 : decode cX1_movesToCome 0 = .ok (.aload_n 0, 1) := by decide +kernel
theorem dX1_movesToCome_1 : decode cX1_movesToCome 1 = .ok (.getfield 26, 3) := by decide +kernel
theorem dX1_movesToCome_4 : decode cX1_movesToCome 4 = .ok (.aload_n 0, 1) := by decide +kernel
theorem dX1_movesToCome_5 : decode cX1_movesToCome 5 = .ok (.getfield 22, 3) := by decide +kernel
theorem dX1_movesToCome_8 : decode cX1_movesToCome 8 = .ok (.isub, 1) := by decide +kernel
theorem dX1_movesToCome_9 : decode cX1_movesToCome 9 = .ok (.invokestatic 47, 3) := by decide +kernel
theorem dX1_movesToCome_12 : decode cX1_movesToCome 12 = .ok (.ireturn, 1) := by decide +kernel
set_option maxRecDepth 20000 in
theorem ggX1_moveFor_X1_movesToCome : GoodIn wsX1_moveFor wsX1_movesToCome := goodIn_r _ [11, 12, 13, 14, 15, 5, 16, 25, 26, 27, 28, 29, 30, 31] (by decide +kernel) (by decide +kernel)
set_option maxRecDepth 20000 in
theorem gX1_moveFor_X1_movesToCome : GoodIn wsX1_moveFor (wsV RX1 53 RX1 yX1_movesToCome wsX1_movesToCome) := goodIn_app (goodIn_of _ (by decide +kernel)) ggX1_moveFor_X1_movesToCome
set_option maxRecDepth 20000 in
theorem ggX1_moveFor_X1_moveOne : GoodIn wsX1_moveFor wsX1_moveOne := goodIn_r _ [20, 13, 12, 21, 22, 23, 24, 25, 26, 27, 28, 29, 30, 31] (by decide +kernel) (by decide +kernel)
set_option maxRecDepth 20000 in
theorem gX1_moveFor_X1_moveOne : GoodIn wsX1_moveFor (wsV RX1 60 RX1 yX1_moveOne wsX1_moveOne) := goodIn_app (goodIn_of _ (by decide +kernel)) ggX1_moveFor_X1_moveOne
theorem dX1_moveFor_0 : decode cX1_moveFor 0 = .ok (.aload_n 0, 1) := by decide +kernel
theorem dX1_moveFor_1 : decode cX1_moveFor 1 = .ok (.getfield 29, 3) := by decide +kernel
theorem dX1_moveFor_4 : decode cX1_moveFor 4 = .ok (.ifCond .ne 10, 3) := by decide +kernel
theorem dX1_moveFor_7 : decode cX1_moveFor 7 = .ok (.aload_n 0, 1) := by decide +kernel
theorem dX1_moveFor_8 : decode cX1_moveFor 8 = .ok (.getfield 33, 3) := by decide +kernel
theorem dX1_moveFor_11 : decode cX1_moveFor 11 = .ok (.ifCond .eq 4, 3) := by decide +kernel
theorem dX1_moveFor_14 : decode cX1_moveFor 14 = .ok (.return_, 1) := by decide +kernel
theorem dX1_moveFor_15 : decode cX1_moveFor 15 = .ok (.iload_n 1, 1) := by decide +kernel
theorem dX1_moveFor_16 : decode cX1_moveFor 16 = .ok (.aload_n 0, 1) := by decide +kernel
theorem dX1_moveFor_17 : decode cX1_moveFor 17 = .ok (.invokevirtual 53, 3) := by decide +kernel
theorem dX1_moveFor_20 : decode cX1_moveFor 20 = .ok (.invokestatic 56, 3) := by decide +kernel
theorem dX1_moveFor_23 : decode cX1_moveFor 23 = .ok (.istore_n 2, 1) := by decide +kernel
theorem dX1_moveFor_24 : decode cX1_moveFor 24 = .ok (.iconst 0, 1) := by decide +kernel
theorem dX1_moveFor_25 : decode cX1_moveFor 25 = .ok (.istore_n 3, 1) := by decide +kernel
theorem dX1_moveFor_26 : decode cX1_moveFor 26 = .ok (.iload_n 3, 1) := by decide +kernel
theorem dX1_moveFor_27 : decode cX1_moveFor 27 = .ok (.iload_n 2, 1) := by decide +kernel
theorem dX1_moveFor_28 : decode cX1_moveFor 28 = .ok (.if_icmp .ge 13, 3) := by decide +kernel
theorem dX1_moveFor_31 : decode cX1_moveFor 31 = .ok (.aload_n 0, 1) := by decide +kernel
theorem dX1_moveFor_32 : decode cX1_moveFor 32 = .ok (.invokevirtual 60, 3) := by decide +kernel
theorem dX1_moveFor_35 : decode cX1_moveFor 35 = .ok (.iinc 3 1, 3) := by decide +kernel
theorem dX1_moveFor_38 : decode cX1_moveFor 38 = .ok (.goto (-12), 3) := by decide +kernel
theorem dX1_moveFor_41 : decode cX1_moveFor 41 = .ok (.return_, 1) := by decide +kernel
set_option maxRecDepth 20000 in
theorem ggX1_moveOne_X3_isBelow : GoodIn wsX1_moveOne wsX3_isBelow := goodIn_r _ [6] (by decide +kernel) (by decide +kernel)
set_option maxRecDepth 20000 in
theorem gX1_moveOne_X3_isBelow_n63 : GoodIn wsX1_moveOne (wsX3_isBelow) := ggX1_moveOne_X3_isBelow
theorem dX1_moveOne_0 : decode cX1_moveOne 0 = .ok (.aload_n 0, 1) := by decide +kernel
theorem dX1_moveOne_1 : decode cX1_moveOne 1 = .ok (.getfield 22, 3) := by decide +kernel
theorem dX1_moveOne_4 : decode cX1_moveOne 4 = .ok (.aload_n 0, 1) := by decide +kernel
theorem dX1_moveOne_5 : decode cX1_moveOne 5 = .ok (.getfield 26, 3) := by decide +kernel
theorem dX1_moveOne_8 : decode cX1_moveOne 8 = .ok (.if_icmp .ge 7, 3) := by decide +kernel
theorem dX1_moveOne_11 : decode cX1_moveOne 11 = .ok (.iconst 1, 1) := by decide +kernel
theorem dX1_moveOne_12 : decode cX1_moveOne 12 = .ok (.goto 4, 3) := by decide +kernel
theorem dX1_moveOne_15 : decode cX1_moveOne 15 = .ok (.iconst 0, 1) := by decide +kernel
theorem dX1_moveOne_16 : decode cX1_moveOne 16 = .ok (.istore_n 1, 1) := by decide +kernel
theorem dX1_moveOne_17 : decode cX1_moveOne 17 = .ok (.iload_n 1, 1) := by decide +kernel
theorem dX1_moveOne_18 : decode cX1_moveOne 18 = .ok (.ifCond .eq 10, 3) := by decide +kernel
theorem dX1_moveOne_21 : decode cX1_moveOne 21 = .ok (.aload_n 0, 1) := by decide +kernel
theorem dX1_moveOne_22 : decode cX1_moveOne 22 = .ok (.getfield 22, 3) := by decide +kernel
theorem dX1_moveOne_25 : decode cX1_moveOne 25 = .ok (.goto 9, 3) := by decide +kernel
theorem dX1_moveOne_28 : decode cX1_moveOne 28 = .ok (.aload_n 0, 1) := by decide +kernel
theorem dX1_moveOne_29 : decode cX1_moveOne 29 = .ok (.getfield 22, 3) := by decide +kernel
theorem dX1_moveOne_32 : decode cX1_moveOne 32 = .ok (.iconst 1, 1) := by decide +kernel
theorem dX1_moveOne_33 : decode cX1_moveOne 33 = .ok (.isub, 1) := by decide +kernel
theorem dX1_moveOne_34 : decode cX1_moveOne 34 = .ok (.istore_n 2, 1) := by decide +kernel
theorem dX1_moveOne_35 : decode cX1_moveOne 35 = .ok (.iload_n 2, 1) := by decide +kernel
theorem dX1_moveOne_36 : decode cX1_moveOne 36 = .ok (.bipush 6, 2) := by decide +kernel
theorem dX1_moveOne_38 : decode cX1_moveOne 38 = .ok (.invokestatic 63, 3) := by decide +kernel
theorem dX1_moveOne_41 : decode cX1_moveOne 41 = .ok (.ifCond .eq 36, 3) := by decide +kernel
theorem dX1_moveOne_44 : decode cX1_moveOne 44 = .ok (.aload_n 0, 1) := by decide +kernel
theorem dX1_moveOne_45 : decode cX1_moveOne 45 = .ok (.getfield 18, 3) := by decide +kernel
theorem dX1_moveOne_48 : decode cX1_moveOne 48 = .ok (.iload_n 2, 1) := by decide +kernel
theorem dX1_moveOne_49 : decode cX1_moveOne 49 = .ok (.dup2, 1) := by decide +kernel
theorem dX1_moveOne_50 : decode cX1_moveOne 50 = .ok (.iaload, 1) := by decide +kernel
theorem dX1_moveOne_51 : decode cX1_moveOne 51 = .ok (.iconst 1, 1) := by decide +kernel
theorem dX1_moveOne_52 : decode cX1_moveOne 52 = .ok (.iadd, 1) := by decide +kernel
theorem dX1_moveOne_53 : decode cX1_moveOne 53 = .ok (.iastore, 1) := by decide +kernel
theorem dX1_moveOne_54 : decode cX1_moveOne 54 = .ok (.aload_n 0, 1) := by decide +kernel
theorem dX1_moveOne_55 : decode cX1_moveOne 55 = .ok (.iload_n 1, 1) := by decide +kernel
theorem dX1_moveOne_56 : decode cX1_moveOne 56 = .ok (.ifCond .eq 12, 3) := by decide +kernel
theorem dX1_moveOne_59 : decode cX1_moveOne 59 = .ok (.aload_n 0, 1) := by decide +kernel
theorem dX1_moveOne_60 : decode cX1_moveOne 60 = .ok (.getfield 22, 3) := by decide +kernel
theorem dX1_moveOne_63 : decode cX1_moveOne 63 = .ok (.iconst 1, 1) := by decide +kernel
theorem dX1_moveOne_64 : decode cX1_moveOne 64 = .ok (.iadd, 1) := by decide +kernel
theorem dX1_moveOne_65 : decode cX1_moveOne 65 = .ok (.goto 9, 3) := by decide +kernel
theorem dX1_moveOne_68 : decode cX1_moveOne 68 = .ok (.aload_n 0, 1) := by decide +kernel
theorem dX1_moveOne_69 : decode cX1_moveOne 69 = .ok (.getfield 22, 3) := by decide +kernel
theorem dX1_moveOne_72 : decode cX1_moveOne 72 = .ok (.iconst 1, 1) := by decide +kernel
theorem dX1_moveOne_73 : decode cX1_moveOne 73 = .ok (.isub, 1) := by decide +kernel
theorem dX1_moveOne_74 : decode cX1_moveOne 74 = .ok (.putfield 22, 3) := by decide +kernel
theorem dX1_moveOne_77 : decode cX1_moveOne 77 = .ok (.return_, 1) := by decide +kernel
set_option maxRecDepth 20000 in
theorem ggX1_hasDoubt_X3_isBelow : GoodIn wsX1_hasDoubt wsX3_isBelow := goodIn_r _ [4] (by decide +kernel) (by decide +kernel)
set_option maxRecDepth 20000 in
theorem gX1_hasDoubt_X3_isBelow_n63 : GoodIn wsX1_hasDoubt (wsX3_isBelow) := ggX1_hasDoubt_X3_isBelow
theorem dX1_hasDoubt_0 : decode cX1_hasDoubt 0 = .ok (.iload_n 1, 1) := by decide +kernel
theorem dX1_hasDoubt_1 : decode cX1_hasDoubt 1 = .ok (.bipush 7, 2) := by decide +kernel
theorem dX1_hasDoubt_3 : decode cX1_hasDoubt 3 = .ok (.invokestatic 63, 3) := by decide +kernel
theorem dX1_hasDoubt_6 : decode cX1_hasDoubt 6 = .ok (.ifCond .eq 16, 3) := by decide +kernel
theorem dX1_hasDoubt_9 : decode cX1_hasDoubt 9 = .ok (.aload_n 0, 1) := by decide +kernel
theorem dX1_hasDoubt_10 : decode cX1_hasDoubt 10 = .ok (.getfield 9, 3) := by decide +kernel
theorem dX1_hasDoubt_13 : decode cX1_hasDoubt 13 = .ok (.iload_n 1, 1) := by decide +kernel
theorem dX1_hasDoubt_14 : decode cX1_hasDoubt 14 = .ok (.baload, 1) := by decide +kernel
theorem dX1_hasDoubt_15 : decode cX1_hasDoubt 15 = .ok (.ifCond .eq 7, 3) := by decide +kernel
theorem dX1_hasDoubt_18 : decode cX1_hasDoubt 18 = .ok (.iconst 1, 1) := by decide +kernel
theorem dX1_hasDoubt_19 : decode cX1_hasDoubt 19 = .ok (.goto 4, 3) := by decide +kernel
theorem dX1_hasDoubt_22 : decode cX1_hasDoubt 22 = .ok (.iconst 0, 1) := by decide +kernel
theorem dX1_hasDoubt_23 : decode cX1_hasDoubt 23 = .ok (.ireturn, 1) := by decide +kernel
set_option maxRecDepth 20000 in
theorem ggX1_setDoubt_X3_isBelow : GoodIn wsX1_setDoubt wsX3_isBelow := goodIn_r _ [4] (by decide +kernel) (by decide +kernel)
set_option maxRecDepth 20000 in
theorem gX1_setDoubt_X3_isBelow_n63 : GoodIn wsX1_setDoubt (wsX3_isBelow) := ggX1_setDoubt_X3_isBelow
theorem dX1_setDoubt_0 : decode cX1_setDoubt 0 = .ok (.iload_n 1, 1) := by decide +kernel
theorem dX1_setDoubt_1 : decode cX1_setDoubt 1 = .ok (.bipush 7, 2) := by decide +kernel
theorem dX1_setDoubt_3 : decode cX1_setDoubt 3 = .ok (.invokestatic 63, 3) := by decide +kernel
theorem dX1_setDoubt_6 : decode cX1_setDoubt 6 = .ok (.ifCond .eq 10, 3) := by decide +kernel
theorem dX1_setDoubt_9 : decode cX1_setDoubt 9 = .ok (.aload_n 0, 1) := by decide +kernel
theorem dX1_setDoubt_10 : decode cX1_setDoubt 10 = .ok (.getfield 9, 3) := by decide +kernel
theorem dX1_setDoubt_13 : decode cX1_setDoubt 13 = .ok (.iload_n 1, 1) := by decide +kernel
theorem dX1_setDoubt_14 : decode cX1_setDoubt 14 = .ok (.iload_n 2, 1) := by decide +kernel
theorem dX1_setDoubt_15 : decode cX1_setDoubt 15 = .ok (.bastore, 1) := by decide +kernel
theorem dX1_setDoubt_16 : decode cX1_setDoubt 16 = .ok (.return_, 1) := by decide +kernel
theorem dX1_changeStall_0 : decode cX1_changeStall 0 = .ok (.aload_n 0, 1) := by decide +kernel
theorem dX1_changeStall_1 : decode cX1_changeStall 1 = .ok (.getfield 29, 3) := by decide +kernel
theorem dX1_changeStall_4 : decode cX1_changeStall 4 = .ok (.iload_n 1, 1) := by decide +kernel
theorem dX1_changeStall_5 : decode cX1_changeStall 5 = .ok (.if_icmp .eq 7, 3) := by decide +kernel
theorem dX1_changeStall_8 : decode cX1_changeStall 8 = .ok (.iconst 1, 1) := by decide +kernel
theorem dX1_changeStall_9 : decode cX1_changeStall 9 = .ok (.goto 4, 3) := by decide +kernel
theorem dX1_changeStall_12 : decode cX1_changeStall 12 = .ok (.iconst 0, 1) := by decide +kernel
theorem dX1_changeStall_13 : decode cX1_changeStall 13 = .ok (.istore_n 2, 1) := by decide +kernel
theorem dX1_changeStall_14 : decode cX1_changeStall 14 = .ok (.aload_n 0, 1) := by decide +kernel
theorem dX1_changeStall_15 : decode cX1_changeStall 15 = .ok (.iload_n 1, 1) := by decide +kernel
theorem dX1_changeStall_16 : decode cX1_changeStall 16 = .ok (.putfield 29, 3) := by decide +kernel
theorem dX1_changeStall_19 : decode cX1_changeStall 19 = .ok (.iload_n 2, 1) := by decide +kernel
theorem dX1_changeStall_20 : decode cX1_changeStall 20 = .ok (.ireturn, 1) := by decide +kernel
theorem dX1_changeSmoke_0 : decode cX1_changeSmoke 0 = .ok (.aload_n 0, 1) := by decide +kernel
theorem dX1_changeSmoke_1 : decode cX1_changeSmoke 1 = .ok (.iload_n 1, 1) := by decide +kernel
theorem dX1_changeSmoke_2 : decode cX1_changeSmoke 2 = .ok (.putfield 33, 3) := by decide +kernel
theorem dX1_changeSmoke_5 : decode cX1_changeSmoke 5 = .ok (.return_, 1) := by decide +kernel
set_option maxRecDepth 20000 in
theorem ggX1_isInside_X3_isBelow : GoodIn wsX1_isInside wsX3_isBelow := goodIn_r _ [4] (by decide +kernel) (by decide +kernel)
set_option maxRecDepth 20000 in
theorem gX1_isInside_X3_isBelow_n63 : GoodIn wsX1_isInside (wsX3_isBelow) := ggX1_isInside_X3_isBelow
theorem dX1_isInside_0 : decode cX1_isInside 0 = .ok (.iload_n 1, 1) := by decide +kernel
theorem dX1_isInside_1 : decode cX1_isInside 1 = .ok (.iconst 4, 1) := by decide +kernel
theorem dX1_isInside_2 : decode cX1_isInside 2 = .ok (.invokestatic 63, 3) := by decide +kernel
theorem dX1_isInside_5 : decode cX1_isInside 5 = .ok (.ifCond .eq 16, 3) := by decide +kernel
theorem dX1_isInside_8 : decode cX1_isInside 8 = .ok (.aload_n 0, 1) := by decide +kernel
theorem dX1_isInside_9 : decode cX1_isInside 9 = .ok (.getfield 15, 3) := by decide +kernel
theorem dX1_isInside_12 : decode cX1_isInside 12 = .ok (.iload_n 1, 1) := by decide +kernel
theorem dX1_isInside_13 : decode cX1_isInside 13 = .ok (.baload, 1) := by decide +kernel
theorem dX1_isInside_14 : decode cX1_isInside 14 = .ok (.ifCond .eq 7, 3) := by decide +kernel
theorem dX1_isInside_17 : decode cX1_isInside 17 = .ok (.iconst 1, 1) := by decide +kernel
theorem dX1_isInside_18 : decode cX1_isInside 18 = .ok (.goto 4, 3) := by decide +kernel
theorem dX1_isInside_21 : decode cX1_isInside 21 = .ok (.iconst 0, 1) := by decide +kernel
theorem dX1_isInside_22 : decode cX1_isInside 22 = .ok (.ireturn, 1) := by decide +kernel
set_option maxRecDepth 20000 in
theorem ggX1_setInside_X3_isBelow : GoodIn wsX1_setInside wsX3_isBelow := goodIn_r _ [4] (by decide +kernel) (by decide +kernel)
set_option maxRecDepth 20000 in
theorem gX1_setInside_X3_isBelow_n63 : GoodIn wsX1_setInside (wsX3_isBelow) := ggX1_setInside_X3_isBelow
theorem dX1_setInside_0 : decode cX1_setInside 0 = .ok (.iload_n 1, 1) := by decide +kernel
theorem dX1_setInside_1 : decode cX1_setInside 1 = .ok (.iconst 4, 1) := by decide +kernel
theorem dX1_setInside_2 : decode cX1_setInside 2 = .ok (.invokestatic 63, 3) := by decide +kernel
theorem dX1_setInside_5 : decode cX1_setInside 5 = .ok (.ifCond .eq 10, 3) := by decide +kernel
theorem dX1_setInside_8 : decode cX1_setInside 8 = .ok (.aload_n 0, 1) := by decide +kernel
theorem dX1_setInside_9 : decode cX1_setInside 9 = .ok (.getfield 15, 3) := by decide +kernel
theorem dX1_setInside_12 : decode cX1_setInside 12 = .ok (.iload_n 1, 1) := by decide +kernel
theorem dX1_setInside_13 : decode cX1_setInside 13 = .ok (.iload_n 2, 1) := by decide +kernel
theorem dX1_setInside_14 : decode cX1_setInside 14 = .ok (.bastore, 1) := by decide +kernel
theorem dX1_setInside_15 : decode cX1_setInside 15 = .ok (.return_, 1) := by decide +kernel
theorem dX1_countInside_0 : decode cX1_countInside 0 = .ok (.iconst 0, 1) := by decide +kernel
theorem dX1_countInside_1 : decode cX1_countInside 1 = .ok (.istore_n 1, 1) := by decide +kernel
theorem dX1_countInside_2 : decode cX1_countInside 2 = .ok (.iconst 0, 1) := by decide +kernel
theorem dX1_countInside_3 : decode cX1_countInside 3 = .ok (.istore_n 2, 1) := by decide +kernel
theorem dX1_countInside_4 : decode cX1_countInside 4 = .ok (.iload_n 2, 1) := by decide +kernel
theorem dX1_countInside_5 : decode cX1_countInside 5 = .ok (.iconst 4, 1) := by decide +kernel
theorem dX1_countInside_6 : decode cX1_countInside 6 = .ok (.if_icmp .ge 21, 3) := by decide +kernel
theorem dX1_countInside_9 : decode cX1_countInside 9 = .ok (.aload_n 0, 1) := by decide +kernel
theorem dX1_countInside_10 : decode cX1_countInside 10 = .ok (.getfield 15, 3) := by decide +kernel
theorem dX1_countInside_13 : decode cX1_countInside 13 = .ok (.iload_n 2, 1) := by decide +kernel
theorem dX1_countInside_14 : decode cX1_countInside 14 = .ok (.baload, 1) := by decide +kernel
theorem dX1_countInside_15 : decode cX1_countInside 15 = .ok (.ifCond .eq 6, 3) := by decide +kernel
theorem dX1_countInside_18 : decode cX1_countInside 18 = .ok (.iinc 1 1, 3) := by decide +kernel
theorem dX1_countInside_21 : decode cX1_countInside 21 = .ok (.iinc 2 1, 3) := by decide +kernel
theorem dX1_countInside_24 : decode cX1_countInside 24 = .ok (.goto (-20), 3) := by decide +kernel
theorem dX1_countInside_27 : decode cX1_countInside 27 = .ok (.iload_n 1, 1) := by decide +kernel
theorem dX1_countInside_28 : decode cX1_countInside 28 = .ok (.ireturn, 1) := by decide +kernel
set_option maxRecDepth 20000 in
theorem ggX1_sendAllOut_X1_countInside : GoodIn wsX1_sendAllOut wsX1_countInside := goodIn_r _ [6, 1, 7, 8, 9, 10, 11, 12, 13] (by decide +kernel) (by decide +kernel)
set_option maxRecDepth 20000 in
theorem gX1_sendAllOut_X1_countInside : GoodIn wsX1_sendAllOut (wsV RX1 40 RX1 yX1_countInside wsX1_countInside) := goodIn_app (goodIn_of _ (by decide +kernel)) ggX1_sendAllOut_X1_countInside
theorem dX1_sendAllOut_0 : decode cX1_sendAllOut 0 = .ok (.aload_n 0, 1) := by decide +kernel
theorem dX1_sendAllOut_1 : decode cX1_sendAllOut 1 = .ok (.invokevirtual 40, 3) := by decide +kernel
theorem dX1_sendAllOut_4 : decode cX1_sendAllOut 4 = .ok (.istore_n 1, 1) := by decide +kernel
theorem dX1_sendAllOut_5 : decode cX1_sendAllOut 5 = .ok (.iconst 0, 1) := by decide +kernel
theorem dX1_sendAllOut_6 : decode cX1_sendAllOut 6 = .ok (.istore_n 2, 1) := by decide +kernel
theorem dX1_sendAllOut_7 : decode cX1_sendAllOut 7 = .ok (.iload_n 2, 1) := by decide +kernel
theorem dX1_sendAllOut_8 : decode cX1_sendAllOut 8 = .ok (.iconst 4, 1) := by decide +kernel
theorem dX1_sendAllOut_9 : decode cX1_sendAllOut 9 = .ok (.if_icmp .ge 16, 3) := by decide +kernel
theorem dX1_sendAllOut_12 : decode cX1_sendAllOut 12 = .ok (.aload_n 0, 1) := by decide +kernel
theorem dX1_sendAllOut_13 : decode cX1_sendAllOut 13 = .ok (.getfield 15, 3) := by decide +kernel
theorem dX1_sendAllOut_16 : decode cX1_sendAllOut 16 = .ok (.iload_n 2, 1) := by decide +kernel
theorem dX1_sendAllOut_17 : decode cX1_sendAllOut 17 = .ok (.iconst 0, 1) := by decide +kernel
theorem dX1_sendAllOut_18 : decode cX1_sendAllOut 18 = .ok (.bastore, 1) := by decide +kernel
theorem dX1_sendAllOut_19 : decode cX1_sendAllOut 19 = .ok (.iinc 2 1, 3) := by decide +kernel
theorem dX1_sendAllOut_22 : decode cX1_sendAllOut 22 = .ok (.goto (-15), 3) := by decide +kernel
theorem dX1_sendAllOut_25 : decode cX1_sendAllOut 25 = .ok (.iload_n 1, 1) := by decide +kernel
theorem dX1_sendAllOut_26 : decode cX1_sendAllOut 26 = .ok (.ireturn, 1) := by decide +kernel
theorem dX2_init_0 : decode cX2_init 0 = .ok (.aload_n 0, 1) := by decide +kernel
theorem dX2_init_1 : decode cX2_init 1 = .ok (.invokespecial 3, 3) := by decide +kernel
theorem dX2_init_4 : decode cX2_init 4 = .ok (.aload_n 0, 1) := by decide +kernel
theorem dX2_init_5 : decode cX2_init 5 = .ok (.bipush 6, 2) := by decide +kernel
theorem dX2_init_7 : decode cX2_init 7 = .ok (.newarray .int, 2) := by decide +kernel
theorem dX2_init_9 : decode cX2_init 9 = .ok (.putfield 9, 3) := by decide +kernel
theorem dX2_init_12 : decode cX2_init 12 = .ok (.aload_n 0, 1) := by decide +kernel
theorem dX2_init_13 : decode cX2_init 13 = .ok (.bipush 20, 2) := by decide +kernel
theorem dX2_init_15 : decode cX2_init 15 = .ok (.newarray .int, 2) := by decide +kernel
theorem dX2_init_17 : decode cX2_init 17 = .ok (.putfield 15, 3) := by decide +kernel
theorem dX2_init_20 : decode cX2_init 20 = .ok (.aload_n 0, 1) := by decide +kernel
theorem dX2_init_21 : decode cX2_init 21 = .ok (.bipush 20, 2) := by decide +kernel
theorem dX2_init_23 : decode cX2_init 23 = .ok (.newarray .int, 2) := by decide +kernel
theorem dX2_init_25 : decode cX2_init 25 = .ok (.putfield 18, 3) := by decide +kernel
theorem dX2_init_28 : decode cX2_init 28 = .ok (.aload_n 0, 1) := by decide +kernel
theorem dX2_init_29 : decode cX2_init 29 = .ok (.bipush 20, 2) := by decide +kernel
theorem dX2_init_31 : decode cX2_init 31 = .ok (.newarray .int, 2) := by decide +kernel
theorem dX2_init_33 : decode cX2_init 33 = .ok (.putfield 21, 3) := by decide +kernel
theorem dX2_init_36 : decode cX2_init 36 = .ok (.aload_n 0, 1) := by decide +kernel
theorem dX2_init_37 : decode cX2_init 37 = .ok (.bipush 20, 2) := by decide +kernel
theorem dX2_init_39 : decode cX2_init 39 = .ok (.newarray .int, 2) := by decide +kernel
theorem dX2_init_41 : decode cX2_init 41 = .ok (.putfield 24, 3) := by decide +kernel
theorem dX2_init_44 : decode cX2_init 44 = .ok (.aload_n 0, 1) := by decide +kernel
theorem dX2_init_45 : decode cX2_init 45 = .ok (.iconst 0, 1) := by decide +kernel
theorem dX2_init_46 : decode cX2_init 46 = .ok (.putfield 27, 3) := by decide +kernel
theorem dX2_init_49 : decode cX2_init 49 = .ok (.return_, 1) := by decide +kernel
set_option maxRecDepth 20000 in
theorem ggX2_climateOf_X3_isBelow : GoodIn wsX2_climateOf wsX3_isBelow := goodIn_r _ [4] (by decide +kernel) (by decide +kernel)
set_option maxRecDepth 20000 in
theorem gX2_climateOf_X3_isBelow_n31 : GoodIn wsX2_climateOf (wsX3_isBelow) := ggX2_climateOf_X3_isBelow
theorem dX2_climateOf_0 : decode cX2_climateOf 0 = .ok (.iload_n 1, 1) := by decide +kernel
theorem dX2_climateOf_1 : decode cX2_climateOf 1 = .ok (.bipush 6, 2) := by decide +kernel
theorem dX2_climateOf_3 : decode cX2_climateOf 3 = .ok (.invokestatic 31, 3) := by decide +kernel
theorem dX2_climateOf_6 : decode cX2_climateOf 6 = .ok (.ifCond .eq 12, 3) := by decide +kernel
theorem dX2_climateOf_9 : decode cX2_climateOf 9 = .ok (.aload_n 0, 1) := by decide +kernel
theorem dX2_climateOf_10 : decode cX2_climateOf 10 = .ok (.getfield 9, 3) := by decide +kernel
theorem dX2_climateOf_13 : decode cX2_climateOf 13 = .ok (.iload_n 1, 1) := by decide +kernel
theorem dX2_climateOf_14 : decode cX2_climateOf 14 = .ok (.iaload, 1) := by decide +kernel
theorem dX2_climateOf_15 : decode cX2_climateOf 15 = .ok (.goto 4, 3) := by decide +kernel
theorem dX2_climateOf_18 : decode cX2_climateOf 18 = .ok (.iconst (-1), 1) := by decide +kernel
theorem dX2_climateOf_19 : decode cX2_climateOf 19 = .ok (.ireturn, 1) := by decide +kernel
set_option maxRecDepth 20000 in
theorem ggX2_changeClimate_X3_isBelow : GoodIn wsX2_changeClimate wsX3_isBelow := goodIn_r _ [4] (by decide +kernel) (by decide +kernel)
set_option maxRecDepth 20000 in
theorem gX2_changeClimate_X3_isBelow_n31 : GoodIn wsX2_changeClimate (wsX3_isBelow) := ggX2_changeClimate_X3_isBelow
theorem dX2_changeClimate_0 : decode cX2_changeClimate 0 = .ok (.iload_n 1, 1) := by decide +kernel
theorem dX2_changeClimate_1 : decode cX2_changeClimate 1 = .ok (.bipush 6, 2) := by decide +kernel
theorem dX2_changeClimate_3 : decode cX2_changeClimate 3 = .ok (.invokestatic 31, 3) := by decide +kernel
theorem dX2_changeClimate_6 : decode cX2_changeClimate 6 = .ok (.ifCond .eq 10, 3) := by decide +kernel
theorem dX2_changeClimate_9 : decode cX2_changeClimate 9 = .ok (.aload_n 0, 1) := by decide +kernel
theorem dX2_changeClimate_10 : decode cX2_changeClimate 10 = .ok (.getfield 9, 3) := by decide +kernel
theorem dX2_changeClimate_13 : decode cX2_changeClimate 13 = .ok (.iload_n 1, 1) := by decide +kernel
theorem dX2_changeClimate_14 : decode cX2_changeClimate 14 = .ok (.iload_n 2, 1) := by decide +kernel
theorem dX2_changeClimate_15 : decode cX2_changeClimate 15 = .ok (.iastore, 1) := by decide +kernel
theorem dX2_changeClimate_16 : decode cX2_changeClimate 16 = .ok (.return_, 1) := by decide +kernel
theorem dX2_isFull_0 : decode cX2_isFull 0 = .ok (.aload_n 0, 1) := by decide +kernel
theorem dX2_isFull_1 : decode cX2_isFull 1 = .ok (.getfield 27, 3) := by decide +kernel
theorem dX2_isFull_4 : decode cX2_isFull 4 = .ok (.bipush 20, 2) := by decide +kernel
theorem dX2_isFull_6 : decode cX2_isFull 6 = .ok (.if_icmp .lt 7, 3) := by decide +kernel
theorem dX2_isFull_9 : decode cX2_isFull 9 = .ok (.iconst 1, 1) := by decide +kernel
theorem dX2_isFull_10 : decode cX2_isFull 10 = .ok (.goto 4, 3) := by decide +kernel
theorem dX2_isFull_13 : decode cX2_isFull 13 = .ok (.iconst 0, 1) := by decide +kernel
theorem dX2_isFull_14 : decode cX2_isFull 14 = .ok (.ireturn, 1) := by decide +kernel
set_option maxRecDepth 20000 in
theorem ggX2_has_X3_isBelow : GoodIn wsX2_has wsX3_isBelow := goodIn_r _ [4] (by decide +kernel) (by decide +kernel)
set_option maxRecDepth 20000 in
theorem gX2_has_X3_isBelow_n31 : GoodIn wsX2_has (wsX3_isBelow) := ggX2_has_X3_isBelow
theorem dX2_has_0 : decode cX2_has 0 = .ok (.iload_n 1, 1) := by decide +kernel
theorem dX2_has_1 : decode cX2_has 1 = .ok (.aload_n 0, 1) := by decide +kernel
theorem dX2_has_2 : decode cX2_has 2 = .ok (.getfield 27, 3) := by decide +kernel
theorem dX2_has_5 : decode cX2_has 5 = .ok (.invokestatic 31, 3) := by decide +kernel
theorem dX2_has_8 : decode cX2_has 8 = .ok (.ireturn, 1) := by decide +kernel
set_option maxRecDepth 20000 in
theorem ggX2_enter_X2_isFull : GoodIn wsX2_enter wsX2_isFull := goodIn_r _ [10, 1, 11, 12, 13, 14, 15, 16] (by decide +kernel) (by decide +kernel)
set_option maxRecDepth 20000 in
theorem gX2_enter_X2_isFull : GoodIn wsX2_enter (wsV RX2 35 RX2 yX2_isFull wsX2_isFull) := goodIn_app (goodIn_of _ (by decide +kernel)) ggX2_enter_X2_isFull
theorem dX2_enter_0 : decode cX2_enter 0 = .ok (.aload_n 0, 1) := by decide +kernel
theorem dX2_enter_1 : decode cX2_enter 1 = .ok (.invokevirtual 35, 3) := by decide +kernel
theorem dX2_enter_4 : decode cX2_enter 4 = .ok (.ifCond .eq 5, 3) := by decide +kernel
theorem dX2_enter_7 : decode cX2_enter 7 = .ok (.iconst (-1), 1) := by decide +kernel
theorem dX2_enter_8 : decode cX2_enter 8 = .ok (.ireturn, 1) := by decide +kernel
theorem dX2_enter_9 : decode cX2_enter 9 = .ok (.aload_n 0, 1) := by decide +kernel
theorem dX2_enter_10 : decode cX2_enter 10 = .ok (.getfield 27, 3) := by decide +kernel
theorem dX2_enter_13 : decode cX2_enter 13 = .ok (.istore 4, 2) := by decide +kernel
theorem dX2_enter_15 : decode cX2_enter 15 = .ok (.aload_n 0, 1) := by decide +kernel
theorem dX2_enter_16 : decode cX2_enter 16 = .ok (.getfield 15, 3) := by decide +kernel
theorem dX2_enter_19 : decode cX2_enter 19 = .ok (.iload 4, 2) := by decide +kernel
theorem dX2_enter_21 : decode cX2_enter 21 = .ok (.iload_n 1, 1) := by decide +kernel
theorem dX2_enter_22 : decode cX2_enter 22 = .ok (.iastore, 1) := by decide +kernel
theorem dX2_enter_23 : decode cX2_enter 23 = .ok (.aload_n 0, 1) := by decide +kernel
theorem dX2_enter_24 : decode cX2_enter 24 = .ok (.getfield 18, 3) := by decide +kernel
theorem dX2_enter_27 : decode cX2_enter 27 = .ok (.iload 4, 2) := by decide +kernel
theorem dX2_enter_29 : decode cX2_enter 29 = .ok (.iload_n 2, 1) := by decide +kernel
theorem dX2_enter_30 : decode cX2_enter 30 = .ok (.iastore, 1) := by decide +kernel
theorem dX2_enter_31 : decode cX2_enter 31 = .ok (.aload_n 0, 1) := by decide +kernel
theorem dX2_enter_32 : decode cX2_enter 32 = .ok (.getfield 21, 3) := by decide +kernel
theorem dX2_enter_35 : decode cX2_enter 35 = .ok (.iload 4, 2) := by decide +kernel
theorem dX2_enter_37 : decode cX2_enter 37 = .ok (.iload_n 3, 1) := by decide +kernel
theorem dX2_enter_38 : decode cX2_enter 38 = .ok (.iastore, 1) := by decide +kernel
theorem dX2_enter_39 : decode cX2_enter 39 = .ok (.aload_n 0, 1) := by decide +kernel
theorem dX2_enter_40 : decode cX2_enter 40 = .ok (.getfield 24, 3) := by decide +kernel
theorem dX2_enter_43 : decode cX2_enter 43 = .ok (.iload 4, 2) := by decide +kernel
theorem dX2_enter_45 : decode cX2_enter 45 = .ok (.iconst (-1), 1) := by decide +kernel
theorem dX2_enter_46 : decode cX2_enter 46 = .ok (.iastore, 1) := by decide +kernel
theorem dX2_enter_47 : decode cX2_enter 47 = .ok (.aload_n 0, 1) := by decide +kernel
theorem dX2_enter_48 : decode cX2_enter 48 = .ok (.dup, 1) := by decide +kernel
theorem dX2_enter_49 : decode cX2_enter 49 = .ok (.getfield 27, 3) := by decide +kernel
theorem dX2_enter_52 : decode cX2_enter 52 = .ok (.iconst 1, 1) := by decide +kernel
theorem dX2_enter_53 : decode cX2_enter 53 = .ok (.iadd, 1) := by decide +kernel
theorem dX2_enter_54 : decode cX2_enter 54 = .ok (.putfield 27, 3) := by decide +kernel
theorem dX2_enter_57 : decode cX2_enter 57 = .ok (.iload 4, 2) := by decide +kernel
theorem dX2_enter_59 : decode cX2_enter 59 = .ok (.ireturn, 1) := by decide +kernel
set_option maxRecDepth 20000 in
theorem ggX2_whereIs_X2_has : GoodIn wsX2_whereIs wsX2_has := goodIn_r _ [6, 7, 8, 9, 10, 11, 12, 13, 14, 15, 16] (by decide +kernel) (by decide +kernel)
set_option maxRecDepth 20000 in
theorem gX2_whereIs_X2_has : GoodIn wsX2_whereIs (wsV RX2 39 RX2 yX2_has wsX2_has) := goodIn_app (goodIn_of _ (by decide +kernel)) ggX2_whereIs_X2_has
theorem dX2_whereIs_0 : decode cX2_whereIs 0 = .ok (.aload_n 0, 1) := by decide +kernel
theorem dX2_whereIs_1 : decode cX2_whereIs 1 = .ok (.iload_n 1, 1) := by decide +kernel
theorem dX2_whereIs_2 : decode cX2_whereIs 2 = .ok (.invokevirtual 39, 3) := by decide +kernel
theorem dX2_whereIs_5 : decode cX2_whereIs 5 = .ok (.ifCond .eq 12, 3) := by decide +kernel
theorem dX2_whereIs_8 : decode cX2_whereIs 8 = .ok (.aload_n 0, 1) := by decide +kernel
theorem dX2_whereIs_9 : decode cX2_whereIs 9 = .ok (.getfield 24, 3) := by decide +kernel
theorem dX2_whereIs_12 : decode cX2_whereIs 12 = .ok (.iload_n 1, 1) := by decide +kernel
theorem dX2_whereIs_13 : decode cX2_whereIs 13 = .ok (.iaload, 1) := by decide +kernel
theorem dX2_whereIs_14 : decode cX2_whereIs 14 = .ok (.goto 4, 3) := by decide +kernel
theorem dX2_whereIs_17 : decode cX2_whereIs 17 = .ok (.iconst (-1), 1) := by decide +kernel
theorem dX2_whereIs_18 : decode cX2_whereIs 18 = .ok (.ireturn, 1) := by decide +kernel
set_option maxRecDepth 20000 in
theorem ggX2_put_X2_has : GoodIn wsX2_put wsX2_has := goodIn_r _ [6, 7, 8, 9, 10, 11, 12, 13, 14, 15, 16] (by decide +kernel) (by decide +kernel)
set_option maxRecDepth 20000 in
theorem gX2_put_X2_has : GoodIn wsX2_put (wsV RX2 39 RX2 yX2_has wsX2_has) := goodIn_app (goodIn_of _ (by decide +kernel)) ggX2_put_X2_has
theorem dX2_put_0 : decode cX2_put 0 = .ok (.aload_n 0, 1) := by decide +kernel
theorem dX2_put_1 : decode cX2_put 1 = .ok (.iload_n 1, 1) := by decide +kernel
theorem dX2_put_2 : decode cX2_put 2 = .ok (.invokevirtual 39, 3) := by decide +kernel
theorem dX2_put_5 : decode cX2_put 5 = .ok (.ifCond .eq 10, 3) := by decide +kernel
theorem dX2_put_8 : decode cX2_put 8 = .ok (.aload_n 0, 1) := by decide +kernel
theorem dX2_put_9 : decode cX2_put 9 = .ok (.getfield 24, 3) := by decide +kernel
theorem dX2_put_12 : decode cX2_put 12 = .ok (.iload_n 1, 1) := by decide +kernel
theorem dX2_put_13 : decode cX2_put 13 = .ok (.iload_n 2, 1) := by decide +kernel
theorem dX2_put_14 : decode cX2_put 14 = .ok (.iastore, 1) := by decide +kernel
theorem dX2_put_15 : decode cX2_put 15 = .ok (.return_, 1) := by decide +kernel
theorem dX2_boxIn_0 : decode cX2_boxIn 0 = .ok (.iconst 0, 1) := by decide +kernel
theorem dX2_boxIn_1 : decode cX2_boxIn 1 = .ok (.istore_n 2, 1) := by decide +kernel
theorem dX2_boxIn_2 : decode cX2_boxIn 2 = .ok (.iload_n 2, 1) := by decide +kernel
theorem dX2_boxIn_3 : decode cX2_boxIn 3 = .ok (.aload_n 0, 1) := by decide +kernel
theorem dX2_boxIn_4 : decode cX2_boxIn 4 = .ok (.getfield 27, 3) := by decide +kernel
theorem dX2_boxIn_7 : decode cX2_boxIn 7 = .ok (.if_icmp .ge 21, 3) := by decide +kernel
theorem dX2_boxIn_10 : decode cX2_boxIn 10 = .ok (.aload_n 0, 1) := by decide +kernel
theorem dX2_boxIn_11 : decode cX2_boxIn 11 = .ok (.getfield 24, 3) := by decide +kernel
theorem dX2_boxIn_14 : decode cX2_boxIn 14 = .ok (.iload_n 2, 1) := by decide +kernel
theorem dX2_boxIn_15 : decode cX2_boxIn 15 = .ok (.iaload, 1) := by decide +kernel
theorem dX2_boxIn_16 : decode cX2_boxIn 16 = .ok (.iload_n 1, 1) := by decide +kernel
theorem dX2_boxIn_17 : decode cX2_boxIn 17 = .ok (.if_icmp .ne 5, 3) := by decide +kernel
theorem dX2_boxIn_20 : decode cX2_boxIn 20 = .ok (.iload_n 2, 1) := by decide +kernel
theorem dX2_boxIn_21 : decode cX2_boxIn 21 = .ok (.ireturn, 1) := by decide +kernel
theorem dX2_boxIn_22 : decode cX2_boxIn 22 = .ok (.iinc 2 1, 3) := by decide +kernel
theorem dX2_boxIn_25 : decode cX2_boxIn 25 = .ok (.goto (-23), 3) := by decide +kernel
theorem dX2_boxIn_28 : decode cX2_boxIn 28 = .ok (.iconst (-1), 1) := by decide +kernel
theorem dX2_boxIn_29 : decode cX2_boxIn 29 = .ok (.ireturn, 1) := by decide +kernel
set_option maxRecDepth 20000 in
theorem ggX2_aisleOfBox_X2_whereIs : GoodIn wsX2_aisleOfBox wsX2_whereIs := goodIn_r _ [5, 6, 7, 8, 9, 4, 10, 11, 12, 13, 14, 23, 24, 25, 26, 27, 28] (by decide +kernel) (by decide +kernel)
set_option maxRecDepth 20000 in
theorem gX2_aisleOfBox_X2_whereIs : GoodIn wsX2_aisleOfBox (wsV RX2 43 RX2 yX2_whereIs wsX2_whereIs) := goodIn_app (goodIn_of _ (by decide +kernel)) ggX2_aisleOfBox_X2_whereIs
set_option maxRecDepth 20000 in
theorem ggX2_aisleOfBox_X3_aisleAt : GoodIn wsX2_aisleOfBox wsX3_aisleAt := goodIn_r _ [16, 17, 18, 13, 19, 20, 21, 22] (by decide +kernel) (by decide +kernel)
set_option maxRecDepth 20000 in
theorem gX2_aisleOfBox_X3_aisleAt_n47 : GoodIn wsX2_aisleOfBox (wsX3_aisleAt) := ggX2_aisleOfBox_X3_aisleAt
theorem dX2_aisleOfBox_0 : decode cX2_aisleOfBox 0 = .ok (.aload_n 0, 1) := by decide +kernel
theorem dX2_aisleOfBox_1 : decode cX2_aisleOfBox 1 = .ok (.iload_n 1, 1) := by decide +kernel
theorem dX2_aisleOfBox_2 : decode cX2_aisleOfBox 2 = .ok (.invokevirtual 43, 3) := by decide +kernel
theorem dX2_aisleOfBox_5 : decode cX2_aisleOfBox 5 = .ok (.istore_n 2, 1) := by decide +kernel
theorem dX2_aisleOfBox_6 : decode cX2_aisleOfBox 6 = .ok (.iload_n 2, 1) := by decide +kernel
theorem dX2_aisleOfBox_7 : decode cX2_aisleOfBox 7 = .ok (.iconst (-1), 1) := by decide +kernel
theorem dX2_aisleOfBox_8 : decode cX2_aisleOfBox 8 = .ok (.if_icmp .ne 7, 3) := by decide +kernel
theorem dX2_aisleOfBox_11 : decode cX2_aisleOfBox 11 = .ok (.iconst (-1), 1) := by decide +kernel
theorem dX2_aisleOfBox_12 : decode cX2_aisleOfBox 12 = .ok (.goto 7, 3) := by decide +kernel
theorem dX2_aisleOfBox_15 : decode cX2_aisleOfBox 15 = .ok (.iload_n 2, 1) := by decide +kernel
theorem dX2_aisleOfBox_16 : decode cX2_aisleOfBox 16 = .ok (.invokestatic 47, 3) := by decide +kernel
theorem dX2_aisleOfBox_19 : decode cX2_aisleOfBox 19 = .ok (.ireturn, 1) := by decide +kernel
set_option maxRecDepth 20000 in
theorem ggX2_liesOn_X2_whereIs : GoodIn wsX2_liesOn wsX2_whereIs := goodIn_r _ [5, 6, 7, 8, 9, 4, 10, 11, 12, 13, 14, 17, 18, 19, 20, 21, 22] (by decide +kernel) (by decide +kernel)
set_option maxRecDepth 20000 in
theorem gX2_liesOn_X2_whereIs : GoodIn wsX2_liesOn (wsV RX2 43 RX2 yX2_whereIs wsX2_whereIs) := goodIn_app (goodIn_of _ (by decide +kernel)) ggX2_liesOn_X2_whereIs
set_option maxRecDepth 20000 in
theorem ggX2_liesOn_X3_shelfAt : GoodIn wsX2_liesOn wsX3_shelfAt := goodIn_r _ [16] (by decide +kernel) (by decide +kernel)
set_option maxRecDepth 20000 in
theorem gX2_liesOn_X3_shelfAt_n50 : GoodIn wsX2_liesOn (wsX3_shelfAt) := ggX2_liesOn_X3_shelfAt
theorem dX2_liesOn_0 : decode cX2_liesOn 0 = .ok (.aload_n 0, 1) := by decide +kernel
theorem dX2_liesOn_1 : decode cX2_liesOn 1 = .ok (.iload_n 1, 1) := by decide +kernel
theorem dX2_liesOn_2 : decode cX2_liesOn 2 = .ok (.invokevirtual 43, 3) := by decide +kernel
theorem dX2_liesOn_5 : decode cX2_liesOn 5 = .ok (.istore_n 3, 1) := by decide +kernel
theorem dX2_liesOn_6 : decode cX2_liesOn 6 = .ok (.iload_n 3, 1) := by decide +kernel
theorem dX2_liesOn_7 : decode cX2_liesOn 7 = .ok (.iconst (-1), 1) := by decide +kernel
theorem dX2_liesOn_8 : decode cX2_liesOn 8 = .ok (.if_icmp .eq 15, 3) := by decide +kernel
theorem dX2_liesOn_11 : decode cX2_liesOn 11 = .ok (.iload_n 3, 1) := by decide +kernel
theorem dX2_liesOn_12 : decode cX2_liesOn 12 = .ok (.invokestatic 50, 3) := by decide +kernel
theorem dX2_liesOn_15 : decode cX2_liesOn 15 = .ok (.iload_n 2, 1) := by decide +kernel
theorem dX2_liesOn_16 : decode cX2_liesOn 16 = .ok (.if_icmp .ne 7, 3) := by decide +kernel
theorem dX2_liesOn_19 : decode cX2_liesOn 19 = .ok (.iconst 1, 1) := by decide +kernel
theorem dX2_liesOn_20 : decode cX2_liesOn 20 = .ok (.goto 4, 3) := by decide +kernel
theorem dX2_liesOn_23 : decode cX2_liesOn 23 = .ok (.iconst 0, 1) := by decide +kernel
theorem dX2_liesOn_24 : decode cX2_liesOn 24 = .ok (.ireturn, 1) := by decide +kernel
set_option maxRecDepth 20000 in
theorem ggX2_weightOn_X2_liesOn : GoodIn wsX2_weightOn wsX2_liesOn := goodIn_r _ [7, 8, 9, 10, 6, 11, 12, 13, 14, 15, 16, 1, 17, 18, 19, 20, 21, 22, 23, 24, 25, 26, 27] (by decide +kernel) (by decide +kernel)
set_option maxRecDepth 20000 in
theorem gX2_weightOn_X2_liesOn : GoodIn wsX2_weightOn (wsV RX2 53 RX2 yX2_liesOn wsX2_liesOn) := goodIn_app (goodIn_of _ (by decide +kernel)) ggX2_weightOn_X2_liesOn
theorem dX2_weightOn_0 : decode cX2_weightOn 0 = .ok (.iconst 0, 1) := by decide +kernel
theorem dX2_weightOn_1 : decode cX2_weightOn 1 = .ok (.istore_n 2, 1) := by decide +kernel
theorem dX2_weightOn_2 : decode cX2_weightOn 2 = .ok (.iconst 0, 1) := by decide +kernel
theorem dX2_weightOn_3 : decode cX2_weightOn 3 = .ok (.istore_n 3, 1) := by decide +kernel
theorem dX2_weightOn_4 : decode cX2_weightOn 4 = .ok (.iload_n 3, 1) := by decide +kernel
theorem dX2_weightOn_5 : decode cX2_weightOn 5 = .ok (.aload_n 0, 1) := by decide +kernel
theorem dX2_weightOn_6 : decode cX2_weightOn 6 = .ok (.getfield 27, 3) := by decide +kernel
theorem dX2_weightOn_9 : decode cX2_weightOn 9 = .ok (.if_icmp .ge 27, 3) := by decide +kernel
theorem dX2_weightOn_12 : decode cX2_weightOn 12 = .ok (.aload_n 0, 1) := by decide +kernel
theorem dX2_weightOn_13 : decode cX2_weightOn 13 = .ok (.iload_n 3, 1) := by decide +kernel
theorem dX2_weightOn_14 : decode cX2_weightOn 14 = .ok (.iload_n 1, 1) := by decide +kernel
theorem dX2_weightOn_15 : decode cX2_weightOn 15 = .ok (.invokevirtual 53, 3) := by decide +kernel
theorem dX2_weightOn_18 : decode cX2_weightOn 18 = .ok (.ifCond .eq 12, 3) := by decide +kernel
theorem dX2_weightOn_21 : decode cX2_weightOn 21 = .ok (.iload_n 2, 1) := by decide +kernel
theorem dX2_weightOn_22 : decode cX2_weightOn 22 = .ok (.aload_n 0, 1) := by decide +kernel
theorem dX2_weightOn_23 : decode cX2_weightOn 23 = .ok (.getfield 18, 3) := by decide +kernel
theorem dX2_weightOn_26 : decode cX2_weightOn 26 = .ok (.iload_n 3, 1) := by decide +kernel
theorem dX2_weightOn_27 : decode cX2_weightOn 27 = .ok (.iaload, 1) := by decide +kernel
theorem dX2_weightOn_28 : decode cX2_weightOn 28 = .ok (.iadd, 1) := by decide +kernel
theorem dX2_weightOn_29 : decode cX2_weightOn 29 = .ok (.istore_n 2, 1) := by decide +kernel
theorem dX2_weightOn_30 : decode cX2_weightOn 30 = .ok (.iinc 3 1, 3) := by decide +kernel
theorem dX2_weightOn_33 : decode cX2_weightOn 33 = .ok (.goto (-29), 3) := by decide +kernel
theorem dX2_weightOn_36 : decode cX2_weightOn 36 = .ok (.iload_n 2, 1) := by decide +kernel
theorem dX2_weightOn_37 : decode cX2_weightOn 37 = .ok (.ireturn, 1) := by decide +kernel
set_option maxRecDepth 20000 in
theorem ggX2_countKin_X2_liesOn : GoodIn wsX2_countKin wsX2_liesOn := goodIn_r _ [7, 8, 9, 10, 6, 11, 12, 13, 14, 15, 16, 1, 17, 18, 19, 20, 21, 22, 23, 24, 25, 26, 27] (by decide +kernel) (by decide +kernel)
set_option maxRecDepth 20000 in
theorem gX2_countKin_X2_liesOn : GoodIn wsX2_countKin (wsV RX2 53 RX2 yX2_liesOn wsX2_liesOn) := goodIn_app (goodIn_of _ (by decide +kernel)) ggX2_countKin_X2_liesOn
theorem dX2_countKin_0 : decode cX2_countKin 0 = .ok (.iconst 0, 1) := by decide +kernel
theorem dX2_countKin_1 : decode cX2_countKin 1 = .ok (.istore_n 3, 1) := by decide +kernel
theorem dX2_countKin_2 : decode cX2_countKin 2 = .ok (.iconst 0, 1) := by decide +kernel
theorem dX2_countKin_3 : decode cX2_countKin 3 = .ok (.istore 4, 2) := by decide +kernel
theorem dX2_countKin_5 : decode cX2_countKin 5 = .ok (.iload 4, 2) := by decide +kernel
theorem dX2_countKin_7 : decode cX2_countKin 7 = .ok (.aload_n 0, 1) := by decide +kernel
theorem dX2_countKin_8 : decode cX2_countKin 8 = .ok (.getfield 27, 3) := by decide +kernel
theorem dX2_countKin_11 : decode cX2_countKin 11 = .ok (.if_icmp .ge 33, 3) := by decide +kernel
theorem dX2_countKin_14 : decode cX2_countKin 14 = .ok (.aload_n 0, 1) := by decide +kernel
theorem dX2_countKin_15 : decode cX2_countKin 15 = .ok (.getfield 21, 3) := by decide +kernel
theorem dX2_countKin_18 : decode cX2_countKin 18 = .ok (.iload 4, 2) := by decide +kernel
theorem dX2_countKin_20 : decode cX2_countKin 20 = .ok (.iaload, 1) := by decide +kernel
theorem dX2_countKin_21 : decode cX2_countKin 21 = .ok (.iload_n 2, 1) := by decide +kernel
theorem dX2_countKin_22 : decode cX2_countKin 22 = .ok (.if_icmp .ne 16, 3) := by decide +kernel
theorem dX2_countKin_25 : decode cX2_countKin 25 = .ok (.aload_n 0, 1) := by decide +kernel
theorem dX2_countKin_26 : decode cX2_countKin 26 = .ok (.iload 4, 2) := by decide +kernel
theorem dX2_countKin_28 : decode cX2_countKin 28 = .ok (.iload_n 1, 1) := by decide +kernel
theorem dX2_countKin_29 : decode cX2_countKin 29 = .ok (.invokevirtual 53, 3) := by decide +kernel
theorem dX2_countKin_32 : decode cX2_countKin 32 = .ok (.ifCond .eq 6, 3) := by decide +kernel
theorem dX2_countKin_35 : decode cX2_countKin 35 = .ok (.iinc 3 1, 3) := by decide +kernel
theorem dX2_countKin_38 : decode cX2_countKin 38 = .ok (.iinc 4 1, 3) := by decide +kernel
theorem dX2_countKin_41 : decode cX2_countKin 41 = .ok (.goto (-36), 3) := by decide +kernel
theorem dX2_countKin_44 : decode cX2_countKin 44 = .ok (.iload_n 3, 1) := by decide +kernel
theorem dX2_countKin_45 : decode cX2_countKin 45 = .ok (.ireturn, 1) := by decide +kernel
set_option maxRecDepth 20000 in
theorem ggX2_isWrong_X2_whereIs : GoodIn wsX2_isWrong wsX2_whereIs := goodIn_r _ [6, 7, 8, 9, 10, 5, 11, 12, 13, 14, 15, 23, 24, 25, 26, 27, 28] (by decide +kernel) (by decide +kernel)
set_option maxRecDepth 20000 in
theorem gX2_isWrong_X2_whereIs : GoodIn wsX2_isWrong (wsV RX2 43 RX2 yX2_whereIs wsX2_whereIs) := goodIn_app (goodIn_of _ (by decide +kernel)) ggX2_isWrong_X2_whereIs
set_option maxRecDepth 20000 in
theorem ggX2_isWrong_X3_shelfAt : GoodIn wsX2_isWrong wsX3_shelfAt := goodIn_r _ [17] (by decide +kernel) (by decide +kernel)
set_option maxRecDepth 20000 in
theorem gX2_isWrong_X3_shelfAt_n50 : GoodIn wsX2_isWrong (wsX3_shelfAt) := ggX2_isWrong_X3_shelfAt
set_option maxRecDepth 20000 in
theorem ggX2_isWrong_X2_climateOf : GoodIn wsX2_isWrong wsX2_climateOf := goodIn_r _ [21, 22, 13, 14, 15, 23, 24, 25, 26, 27, 28] (by decide +kernel) (by decide +kernel)
set_option maxRecDepth 20000 in
theorem gX2_isWrong_X2_climateOf : GoodIn wsX2_isWrong (wsV RX2 56 RX2 yX2_climateOf wsX2_climateOf) := goodIn_app (goodIn_of _ (by decide +kernel)) ggX2_isWrong_X2_climateOf
theorem dX2_isWrong_0 : decode cX2_isWrong 0 = .ok (.aload_n 0, 1) := by decide +kernel
theorem dX2_isWrong_1 : decode cX2_isWrong 1 = .ok (.iload_n 1, 1) := by decide +kernel
theorem dX2_isWrong_2 : decode cX2_isWrong 2 = .ok (.invokevirtual 43, 3) := by decide +kernel
theorem dX2_isWrong_5 : decode cX2_isWrong 5 = .ok (.istore_n 2, 1) := by decide +kernel
theorem dX2_isWrong_6 : decode cX2_isWrong 6 = .ok (.iload_n 2, 1) := by decide +kernel
theorem dX2_isWrong_7 : decode cX2_isWrong 7 = .ok (.iconst (-1), 1) := by decide +kernel
theorem dX2_isWrong_8 : decode cX2_isWrong 8 = .ok (.if_icmp .eq 24, 3) := by decide +kernel
theorem dX2_isWrong_11 : decode cX2_isWrong 11 = .ok (.aload_n 0, 1) := by decide +kernel
theorem dX2_isWrong_12 : decode cX2_isWrong 12 = .ok (.getfield 15, 3) := by decide +kernel
theorem dX2_isWrong_15 : decode cX2_isWrong 15 = .ok (.iload_n 1, 1) := by decide +kernel
theorem dX2_isWrong_16 : decode cX2_isWrong 16 = .ok (.iaload, 1) := by decide +kernel
theorem dX2_isWrong_17 : decode cX2_isWrong 17 = .ok (.aload_n 0, 1) := by decide +kernel
theorem dX2_isWrong_18 : decode cX2_isWrong 18 = .ok (.iload_n 2, 1) := by decide +kernel
theorem dX2_isWrong_19 : decode cX2_isWrong 19 = .ok (.invokestatic 50, 3) := by decide +kernel
theorem dX2_isWrong_22 : decode cX2_isWrong 22 = .ok (.invokevirtual 56, 3) := by decide +kernel
theorem dX2_isWrong_25 : decode cX2_isWrong 25 = .ok (.if_icmp .eq 7, 3) := by decide +kernel
theorem dX2_isWrong_28 : decode cX2_isWrong 28 = .ok (.iconst 1, 1) := by decide +kernel
theorem dX2_isWrong_29 : decode cX2_isWrong 29 = .ok (.goto 4, 3) := by decide +kernel
theorem dX2_isWrong_32 : decode cX2_isWrong 32 = .ok (.iconst 0, 1) := by decide +kernel
theorem dX2_isWrong_33 : decode cX2_isWrong 33 = .ok (.ireturn, 1) := by decide +kernel
set_option maxRecDepth 20000 in
theorem ggX2_countWrong_X2_isWrong : GoodIn wsX2_countWrong wsX2_isWrong := goodIn_r _ [6, 7, 8, 9, 10, 5, 11, 12, 13, 14, 15, 16, 1, 17, 18, 19, 20, 21, 22, 23, 24, 25, 26, 27, 28, 29, 30, 31, 32] (by decide +kernel) (by decide +kernel)
set_option maxRecDepth 20000 in
theorem gX2_countWrong_X2_isWrong : GoodIn wsX2_countWrong (wsV RX2 59 RX2 yX2_isWrong wsX2_isWrong) := goodIn_app (goodIn_of _ (by decide +kernel)) ggX2_countWrong_X2_isWrong
theorem dX2_countWrong_0 : decode cX2_countWrong 0 = .ok (.iconst 0, 1) := by decide +kernel
theorem dX2_countWrong_1 : decode cX2_countWrong 1 = .ok (.istore_n 1, 1) := by decide +kernel
theorem dX2_countWrong_2 : decode cX2_countWrong 2 = .ok (.iconst 0, 1) := by decide +kernel
theorem dX2_countWrong_3 : decode cX2_countWrong 3 = .ok (.istore_n 2, 1) := by decide +kernel
theorem dX2_countWrong_4 : decode cX2_countWrong 4 = .ok (.iload_n 2, 1) := by decide +kernel
theorem dX2_countWrong_5 : decode cX2_countWrong 5 = .ok (.aload_n 0, 1) := by decide +kernel
theorem dX2_countWrong_6 : decode cX2_countWrong 6 = .ok (.getfield 27, 3) := by decide +kernel
theorem dX2_countWrong_9 : decode cX2_countWrong 9 = .ok (.if_icmp .ge 20, 3) := by decide +kernel
theorem dX2_countWrong_12 : decode cX2_countWrong 12 = .ok (.aload_n 0, 1) := by decide +kernel
theorem dX2_countWrong_13 : decode cX2_countWrong 13 = .ok (.iload_n 2, 1) := by decide +kernel
theorem dX2_countWrong_14 : decode cX2_countWrong 14 = .ok (.invokevirtual 59, 3) := by decide +kernel
theorem dX2_countWrong_17 : decode cX2_countWrong 17 = .ok (.ifCond .eq 6, 3) := by decide +kernel
theorem dX2_countWrong_20 : decode cX2_countWrong 20 = .ok (.iinc 1 1, 3) := by decide +kernel
theorem dX2_countWrong_23 : decode cX2_countWrong 23 = .ok (.iinc 2 1, 3) := by decide +kernel
theorem dX2_countWrong_26 : decode cX2_countWrong 26 = .ok (.goto (-22), 3) := by decide +kernel
theorem dX2_countWrong_29 : decode cX2_countWrong 29 = .ok (.iload_n 1, 1) := by decide +kernel
theorem dX2_countWrong_30 : decode cX2_countWrong 30 = .ok (.ireturn, 1) := by decide +kernel
set_option maxRecDepth 20000 in
theorem ggX2_firstFreeSpot_X3_spotAt : GoodIn wsX2_firstFreeSpot wsX3_spotAt := goodIn_r _ [3] (by decide +kernel) (by decide +kernel)
set_option maxRecDepth 20000 in
theorem gX2_firstFreeSpot_X3_spotAt_n62 : GoodIn wsX2_firstFreeSpot (wsX3_spotAt) := ggX2_firstFreeSpot_X3_spotAt
set_option maxRecDepth 20000 in
theorem ggX2_firstFreeSpot_X2_boxIn : GoodIn wsX2_firstFreeSpot wsX2_boxIn := goodIn_r _ [8, 9, 10, 11, 12, 13, 14, 15, 16] (by decide +kernel) (by decide +kernel)
set_option maxRecDepth 20000 in
theorem gX2_firstFreeSpot_X2_boxIn : GoodIn wsX2_firstFreeSpot (wsV RX2 66 RX2 yX2_boxIn wsX2_boxIn) := goodIn_app (goodIn_of _ (by decide +kernel)) ggX2_firstFreeSpot_X2_boxIn
theorem dX2_firstFreeSpot_0 : decode cX2_firstFreeSpot 0 = .ok (.iconst 0, 1) := by decide +kernel
theorem dX2_firstFreeSpot_1 : decode cX2_firstFreeSpot 1 = .ok (.istore_n 2, 1) := by decide +kernel
theorem dX2_firstFreeSpot_2 : decode cX2_firstFreeSpot 2 = .ok (.iload_n 2, 1) := by decide +kernel
theorem dX2_firstFreeSpot_3 : decode cX2_firstFreeSpot 3 = .ok (.iconst 2, 1) := by decide +kernel
theorem dX2_firstFreeSpot_4 : decode cX2_firstFreeSpot 4 = .ok (.if_icmp .ge 43, 3) := by decide +kernel
theorem dX2_firstFreeSpot_7 : decode cX2_firstFreeSpot 7 = .ok (.iconst 0, 1) := by decide +kernel
theorem dX2_firstFreeSpot_8 : decode cX2_firstFreeSpot 8 = .ok (.istore_n 3, 1) := by decide +kernel
theorem dX2_firstFreeSpot_9 : decode cX2_firstFreeSpot 9 = .ok (.iload_n 3, 1) := by decide +kernel
theorem dX2_firstFreeSpot_10 : decode cX2_firstFreeSpot 10 = .ok (.iconst 3, 1) := by decide +kernel
theorem dX2_firstFreeSpot_11 : decode cX2_firstFreeSpot 11 = .ok (.if_icmp .ge 30, 3) := by decide +kernel
theorem dX2_firstFreeSpot_14 : decode cX2_firstFreeSpot 14 = .ok (.iload_n 1, 1) := by decide +kernel
theorem dX2_firstFreeSpot_15 : decode cX2_firstFreeSpot 15 = .ok (.iload_n 2, 1) := by decide +kernel
theorem dX2_firstFreeSpot_16 : decode cX2_firstFreeSpot 16 = .ok (.iload_n 3, 1) := by decide +kernel
theorem dX2_firstFreeSpot_17 : decode cX2_firstFreeSpot 17 = .ok (.invokestatic 62, 3) := by decide +kernel
theorem dX2_firstFreeSpot_20 : decode cX2_firstFreeSpot 20 = .ok (.istore 4, 2) := by decide +kernel
theorem dX2_firstFreeSpot_22 : decode cX2_firstFreeSpot 22 = .ok (.aload_n 0, 1) := by decide +kernel
theorem dX2_firstFreeSpot_23 : decode cX2_firstFreeSpot 23 = .ok (.iload 4, 2) := by decide +kernel
theorem dX2_firstFreeSpot_25 : decode cX2_firstFreeSpot 25 = .ok (.invokevirtual 66, 3) := by decide +kernel
theorem dX2_firstFreeSpot_28 : decode cX2_firstFreeSpot 28 = .ok (.iconst (-1), 1) := by decide +kernel
theorem dX2_firstFreeSpot_29 : decode cX2_firstFreeSpot 29 = .ok (.if_icmp .ne 6, 3) := by decide +kernel
theorem dX2_firstFreeSpot_32 : decode cX2_firstFreeSpot 32 = .ok (.iload 4, 2) := by decide +kernel
theorem dX2_firstFreeSpot_34 : decode cX2_firstFreeSpot 34 = .ok (.ireturn, 1) := by decide +kernel
theorem dX2_firstFreeSpot_35 : decode cX2_firstFreeSpot 35 = .ok (.iinc 3 1, 3) := by decide +kernel
theorem dX2_firstFreeSpot_38 : decode cX2_firstFreeSpot 38 = .ok (.goto (-29), 3) := by decide +kernel
theorem dX2_firstFreeSpot_41 : decode cX2_firstFreeSpot 41 = .ok (.iinc 2 1, 3) := by decide +kernel
theorem dX2_firstFreeSpot_44 : decode cX2_firstFreeSpot 44 = .ok (.goto (-42), 3) := by decide +kernel
theorem dX2_firstFreeSpot_47 : decode cX2_firstFreeSpot 47 = .ok (.iconst (-1), 1) := by decide +kernel
theorem dX2_firstFreeSpot_48 : decode cX2_firstFreeSpot 48 = .ok (.ireturn, 1) := by decide +kernel
set_option maxRecDepth 20000 in
theorem ggX2_bestSpotFor_X2_has : GoodIn wsX2_bestSpotFor wsX2_has := goodIn_r _ [9, 10, 11, 12, 13, 43, 44, 45, 46, 47, 48] (by decide +kernel) (by decide +kernel)
set_option maxRecDepth 20000 in
theorem gX2_bestSpotFor_X2_has : GoodIn wsX2_bestSpotFor (wsV RX2 39 RX2 yX2_has wsX2_has) := goodIn_app (goodIn_of _ (by decide +kernel)) ggX2_bestSpotFor_X2_has
set_option maxRecDepth 20000 in
theorem ggX2_bestSpotFor_X2_weightOn : GoodIn wsX2_bestSpotFor wsX2_weightOn := goodIn_r _ [17, 10, 3, 18, 19, 20, 8, 21, 22, 23, 24, 25, 26, 5, 6, 7, 9, 11, 12, 13, 27, 28, 43, 44, 45, 46, 47, 48] (by decide +kernel) (by decide +kernel)
set_option maxRecDepth 20000 in
theorem gX2_bestSpotFor_X2_weightOn : GoodIn wsX2_bestSpotFor (wsV RX2 69 RX2 yX2_weightOn wsX2_weightOn) := goodIn_app (goodIn_of _ (by decide +kernel)) ggX2_bestSpotFor_X2_weightOn
set_option maxRecDepth 20000 in
theorem ggX2_bestSpotFor_X2_firstFreeSpot : GoodIn wsX2_bestSpotFor wsX2_firstFreeSpot := goodIn_r _ [32, 33, 12, 34, 35, 36, 37, 8, 38, 10, 26, 43, 44, 45, 46, 47, 48] (by decide +kernel) (by decide +kernel)
set_option maxRecDepth 20000 in
theorem gX2_bestSpotFor_X2_firstFreeSpot : GoodIn wsX2_bestSpotFor (wsV RX2 72 RX2 yX2_firstFreeSpot wsX2_firstFreeSpot) := goodIn_app (goodIn_of _ (by decide +kernel)) ggX2_bestSpotFor_X2_firstFreeSpot
set_option maxRecDepth 20000 in
theorem ggX2_bestSpotFor_X2_countKin : GoodIn wsX2_bestSpotFor wsX2_countKin := goodIn_r _ [42, 10, 4, 18, 19, 20, 8, 21, 22, 23, 24, 25, 26, 5, 6, 7, 9, 11, 12, 13, 27, 28, 43, 44, 45, 46, 47, 48] (by decide +kernel) (by decide +kernel)
set_option maxRecDepth 20000 in
theorem gX2_bestSpotFor_X2_countKin : GoodIn wsX2_bestSpotFor (wsV RX2 75 RX2 yX2_countKin wsX2_countKin) := goodIn_app (goodIn_of _ (by decide +kernel)) ggX2_bestSpotFor_X2_countKin
theorem dX2_bestSpotFor_0 : decode cX2_bestSpotFor 0 = .ok (.aload_n 0, 1) := by decide +kernel
theorem dX2_bestSpotFor_1 : decode cX2_bestSpotFor 1 = .ok (.iload_n 1, 1) := by decide +kernel
theorem dX2_bestSpotFor_2 : decode cX2_bestSpotFor 2 = .ok (.invokevirtual 39, 3) := by decide +kernel
theorem dX2_bestSpotFor_5 : decode cX2_bestSpotFor 5 = .ok (.ifCond .ne 5, 3) := by decide +kernel
theorem dX2_bestSpotFor_8 : decode cX2_bestSpotFor 8 = .ok (.iconst (-1), 1) := by decide +kernel
theorem dX2_bestSpotFor_9 : decode cX2_bestSpotFor 9 = .ok (.ireturn, 1) := by decide +kernel
theorem dX2_bestSpotFor_10 : decode cX2_bestSpotFor 10 = .ok (.iconst (-1), 1) := by decide +kernel
theorem dX2_bestSpotFor_11 : decode cX2_bestSpotFor 11 = .ok (.istore_n 2, 1) := by decide +kernel
theorem dX2_bestSpotFor_12 : decode cX2_bestSpotFor 12 = .ok (.iconst (-1), 1) := by decide +kernel
theorem dX2_bestSpotFor_13 : decode cX2_bestSpotFor 13 = .ok (.istore_n 3, 1) := by decide +kernel
theorem dX2_bestSpotFor_14 : decode cX2_bestSpotFor 14 = .ok (.iconst 0, 1) := by decide +kernel
theorem dX2_bestSpotFor_15 : decode cX2_bestSpotFor 15 = .ok (.istore 4, 2) := by decide +kernel
theorem dX2_bestSpotFor_17 : decode cX2_bestSpotFor 17 = .ok (.iload 4, 2) := by decide +kernel
theorem dX2_bestSpotFor_19 : decode cX2_bestSpotFor 19 = .ok (.bipush 6, 2) := by decide +kernel
theorem dX2_bestSpotFor_21 : decode cX2_bestSpotFor 21 = .ok (.if_icmp .ge 95, 3) := by decide +kernel
theorem dX2_bestSpotFor_24 : decode cX2_bestSpotFor 24 = .ok (.aload_n 0, 1) := by decide +kernel
theorem dX2_bestSpotFor_25 : decode cX2_bestSpotFor 25 = .ok (.getfield 9, 3) := by decide +kernel
theorem dX2_bestSpotFor_28 : decode cX2_bestSpotFor 28 = .ok (.iload 4, 2) := by decide +kernel
theorem dX2_bestSpotFor_30 : decode cX2_bestSpotFor 30 = .ok (.iaload, 1) := by decide +kernel
theorem dX2_bestSpotFor_31 : decode cX2_bestSpotFor 31 = .ok (.aload_n 0, 1) := by decide +kernel
theorem dX2_bestSpotFor_32 : decode cX2_bestSpotFor 32 = .ok (.getfield 15, 3) := by decide +kernel
theorem dX2_bestSpotFor_35 : decode cX2_bestSpotFor 35 = .ok (.iload_n 1, 1) := by decide +kernel
theorem dX2_bestSpotFor_36 : decode cX2_bestSpotFor 36 = .ok (.iaload, 1) := by decide +kernel
theorem dX2_bestSpotFor_37 : decode cX2_bestSpotFor 37 = .ok (.if_icmp .ne 25, 3) := by decide +kernel
theorem dX2_bestSpotFor_40 : decode cX2_bestSpotFor 40 = .ok (.aload_n 0, 1) := by decide +kernel
theorem dX2_bestSpotFor_41 : decode cX2_bestSpotFor 41 = .ok (.iload 4, 2) := by decide +kernel
theorem dX2_bestSpotFor_43 : decode cX2_bestSpotFor 43 = .ok (.invokevirtual 69, 3) := by decide +kernel
theorem dX2_bestSpotFor_46 : decode cX2_bestSpotFor 46 = .ok (.aload_n 0, 1) := by decide +kernel
theorem dX2_bestSpotFor_47 : decode cX2_bestSpotFor 47 = .ok (.getfield 18, 3) := by decide +kernel
theorem dX2_bestSpotFor_50 : decode cX2_bestSpotFor 50 = .ok (.iload_n 1, 1) := by decide +kernel
theorem dX2_bestSpotFor_51 : decode cX2_bestSpotFor 51 = .ok (.iaload, 1) := by decide +kernel
theorem dX2_bestSpotFor_52 : decode cX2_bestSpotFor 52 = .ok (.iadd, 1) := by decide +kernel
theorem dX2_bestSpotFor_53 : decode cX2_bestSpotFor 53 = .ok (.bipush 100, 2) := by decide +kernel
theorem dX2_bestSpotFor_55 : decode cX2_bestSpotFor 55 = .ok (.if_icmp .gt 7, 3) := by decide +kernel
theorem dX2_bestSpotFor_58 : decode cX2_bestSpotFor 58 = .ok (.iconst 1, 1) := by decide +kernel
theorem dX2_bestSpotFor_59 : decode cX2_bestSpotFor 59 = .ok (.goto 4, 3) := by decide +kernel
theorem dX2_bestSpotFor_62 : decode cX2_bestSpotFor 62 = .ok (.iconst 0, 1) := by decide +kernel
theorem dX2_bestSpotFor_63 : decode cX2_bestSpotFor 63 = .ok (.istore 5, 2) := by decide +kernel
theorem dX2_bestSpotFor_65 : decode cX2_bestSpotFor 65 = .ok (.aload_n 0, 1) := by decide +kernel
theorem dX2_bestSpotFor_66 : decode cX2_bestSpotFor 66 = .ok (.iload 4, 2) := by decide +kernel
theorem dX2_bestSpotFor_68 : decode cX2_bestSpotFor 68 = .ok (.invokevirtual 72, 3) := by decide +kernel
theorem dX2_bestSpotFor_71 : decode cX2_bestSpotFor 71 = .ok (.istore 6, 2) := by decide +kernel
theorem dX2_bestSpotFor_73 : decode cX2_bestSpotFor 73 = .ok (.aload_n 0, 1) := by decide +kernel
theorem dX2_bestSpotFor_74 : decode cX2_bestSpotFor 74 = .ok (.iload 4, 2) := by decide +kernel
theorem dX2_bestSpotFor_76 : decode cX2_bestSpotFor 76 = .ok (.aload_n 0, 1) := by decide +kernel
theorem dX2_bestSpotFor_77 : decode cX2_bestSpotFor 77 = .ok (.getfield 21, 3) := by decide +kernel
theorem dX2_bestSpotFor_80 : decode cX2_bestSpotFor 80 = .ok (.iload_n 1, 1) := by decide +kernel
theorem dX2_bestSpotFor_81 : decode cX2_bestSpotFor 81 = .ok (.iaload, 1) := by decide +kernel
theorem dX2_bestSpotFor_82 : decode cX2_bestSpotFor 82 = .ok (.invokevirtual 75, 3) := by decide +kernel
theorem dX2_bestSpotFor_85 : decode cX2_bestSpotFor 85 = .ok (.istore 7, 2) := by decide +kernel
theorem dX2_bestSpotFor_87 : decode cX2_bestSpotFor 87 = .ok (.iload 5, 2) := by decide +kernel
theorem dX2_bestSpotFor_89 : decode cX2_bestSpotFor 89 = .ok (.ifCond .eq 21, 3) := by decide +kernel
theorem dX2_bestSpotFor_92 : decode cX2_bestSpotFor 92 = .ok (.iload 6, 2) := by decide +kernel
theorem dX2_bestSpotFor_94 : decode cX2_bestSpotFor 94 = .ok (.iconst (-1), 1) := by decide +kernel
theorem dX2_bestSpotFor_95 : decode cX2_bestSpotFor 95 = .ok (.if_icmp .eq 15, 3) := by decide +kernel
theorem dX2_bestSpotFor_98 : decode cX2_bestSpotFor 98 = .ok (.iload 7, 2) := by decide +kernel
theorem dX2_bestSpotFor_100 : decode cX2_bestSpotFor 100 = .ok (.iload_n 3, 1) := by decide +kernel
theorem dX2_bestSpotFor_101 : decode cX2_bestSpotFor 101 = .ok (.if_icmp .le 9, 3) := by decide +kernel
theorem dX2_bestSpotFor_104 : decode cX2_bestSpotFor 104 = .ok (.iload 6, 2) := by decide +kernel
theorem dX2_bestSpotFor_106 : decode cX2_bestSpotFor 106 = .ok (.istore_n 2, 1) := by decide +kernel
theorem dX2_bestSpotFor_107 : decode cX2_bestSpotFor 107 = .ok (.iload 7, 2) := by decide +kernel
theorem dX2_bestSpotFor_109 : decode cX2_bestSpotFor 109 = .ok (.istore_n 3, 1) := by decide +kernel
theorem dX2_bestSpotFor_110 : decode cX2_bestSpotFor 110 = .ok (.iinc 4 1, 3) := by decide +kernel
theorem dX2_bestSpotFor_113 : decode cX2_bestSpotFor 113 = .ok (.goto (-96), 3) := by decide +kernel
theorem dX2_bestSpotFor_116 : decode cX2_bestSpotFor 116 = .ok (.iload_n 2, 1) := by decide +kernel
theorem dX2_bestSpotFor_117 : decode cX2_bestSpotFor 117 = .ok (.ireturn, 1) := by decide +kernel
theorem dJ9_abs_0f7a4_0 : decode cJ9_abs_0f7a4 0 = .ok (.iload_n 0, 1) := by decide +kernel
theorem dJ9_abs_0f7a4_1 : decode cJ9_abs_0f7a4 1 = .ok (.ifCond .ge 8, 3) := by decide +kernel
theorem dJ9_abs_0f7a4_4 : decode cJ9_abs_0f7a4 4 = .ok (.iload_n 0, 1) := by decide +kernel
theorem dJ9_abs_0f7a4_5 : decode cJ9_abs_0f7a4 5 = .ok (.ineg, 1) := by decide +kernel
theorem dJ9_abs_0f7a4_6 : decode cJ9_abs_0f7a4 6 = .ok (.goto 4, 3) := by decide +kernel
theorem dJ9_abs_0f7a4_9 : decode cJ9_abs_0f7a4 9 = .ok (.iload_n 0, 1) := by decide +kernel
theorem dJ9_abs_0f7a4_10 : decode cJ9_abs_0f7a4 10 = .ok (.ireturn, 1) := by decide +kernel
theorem dJ9_min_7cf53_0 : decode cJ9_min_7cf53 0 = .ok (.iload_n 0, 1) := by decide +kernel
theorem dJ9_min_7cf53_1 : decode cJ9_min_7cf53 1 = .ok (.iload_n 1, 1) := by decide +kernel
theorem dJ9_min_7cf53_2 : decode cJ9_min_7cf53 2 = .ok (.if_icmp .gt 7, 3) := by decide +kernel
theorem dJ9_min_7cf53_5 : decode cJ9_min_7cf53 5 = .ok (.iload_n 0, 1) := by decide +kernel
theorem dJ9_min_7cf53_6 : decode cJ9_min_7cf53 6 = .ok (.goto 4, 3) := by decide +kernel
theorem dJ9_min_7cf53_9 : decode cJ9_min_7cf53 9 = .ok (.iload_n 1, 1) := by decide +kernel
theorem dJ9_min_7cf53_10 : decode cJ9_min_7cf53 10 = .ok (.ireturn, 1) := by decide +kernel
end
section
set_option maxRecDepth 20000 in
theorem ggX3_init_X2_init : GoodIn wsX3_init wsX2_init := goodIn_r _ [18, 19, 2, 3, 20, 21, 22, 23, 24, 25, 26, 46, 47, 48, 49, 50, 51] (by decide +kernel) (by decide +kernel)
set_option maxRecDepth 20000 in
theorem gX3_init_X2_init_n11 : GoodIn wsX3_init (wsX2_init) := ggX3_init_X2_init
set_option maxRecDepth 20000 in
theorem ggX3_init_X1_init : GoodIn wsX3_init wsX1_init := goodIn_r _ [28, 29, 2, 3, 30, 31, 32, 20, 33, 34, 35, 36, 37, 56, 57, 58, 59, 60, 61, 62] (by decide +kernel) (by decide +kernel)
set_option maxRecDepth 20000 in
theorem gX3_init_X1_init_n18 : GoodIn wsX3_init (wsX1_init) := ggX3_init_X1_init
set_option maxRecDepth 20000 in
theorem ggX3_init_X0_init : GoodIn wsX3_init wsX0_init := goodIn_r _ [39, 40, 2, 3, 20, 41, 42, 30, 43, 44, 45, 63, 64, 65, 66, 67] (by decide +kernel) (by decide +kernel)
set_option maxRecDepth 20000 in
theorem gX3_init_X0_init_n25 : GoodIn wsX3_init (wsX0_init) := ggX3_init_X0_init
theorem dX3_init_0 : decode cX3_init 0 = .ok (.aload_n 0, 1) := by decide +kernel
theorem dX3_init_1 : decode cX3_init 1 = .ok (.invokespecial 3, 3) := by decide +kernel
theorem dX3_init_4 : decode cX3_init 4 = .ok (.aload_n 0, 1) := by decide +kernel
theorem dX3_init_5 : decode cX3_init 5 = .ok (.new 9, 3) := by decide +kernel
theorem dX3_init_8 : decode cX3_init 8 = .ok (.dup, 1) := by decide +kernel
theorem dX3_init_9 : decode cX3_init 9 = .ok (.invokespecial 11, 3) := by decide +kernel
theorem dX3_init_12 : decode cX3_init 12 = .ok (.putfield 12, 3) := by decide +kernel
theorem dX3_init_15 : decode cX3_init 15 = .ok (.aload_n 0, 1) := by decide +kernel
theorem dX3_init_16 : decode cX3_init 16 = .ok (.new 16, 3) := by decide +kernel
theorem dX3_init_19 : decode cX3_init 19 = .ok (.dup, 1) := by decide +kernel
theorem dX3_init_20 : decode cX3_init 20 = .ok (.invokespecial 18, 3) := by decide +kernel
theorem dX3_init_23 : decode cX3_init 23 = .ok (.putfield 19, 3) := by decide +kernel
theorem dX3_init_26 : decode cX3_init 26 = .ok (.aload_n 0, 1) := by decide +kernel
theorem dX3_init_27 : decode cX3_init 27 = .ok (.new 23, 3) := by decide +kernel
theorem dX3_init_30 : decode cX3_init 30 = .ok (.dup, 1) := by decide +kernel
theorem dX3_init_31 : decode cX3_init 31 = .ok (.invokespecial 25, 3) := by decide +kernel
theorem dX3_init_34 : decode cX3_init 34 = .ok (.putfield 26, 3) := by decide +kernel
theorem dX3_init_37 : decode cX3_init 37 = .ok (.aload_n 0, 1) := by decide +kernel
theorem dX3_init_38 : decode cX3_init 38 = .ok (.iconst 0, 1) := by decide +kernel
theorem dX3_init_39 : decode cX3_init 39 = .ok (.putfield 30, 3) := by decide +kernel
theorem dX3_init_42 : decode cX3_init 42 = .ok (.return_, 1) := by decide +kernel
set_option maxRecDepth 20000 in
theorem ggX3_setClimate_X3_requireShelf : GoodIn wsX3_setClimate wsX3_requireShelf := goodIn_ca (goodIn_r _ [8, 9, 10, 11, 12, 7, 13] (by decide +kernel) (by decide +kernel)) (goodIn_sub (fun _ h => List.mem_cons_of_mem _ (List.mem_append_right _ h)) (by decide +kernel))
set_option maxRecDepth 20000 in
theorem gX3_setClimate_X3_requireShelf : GoodIn wsX3_setClimate (wsV RX3 34 RX3 yX3_requireShelf wsX3_requireShelf) := goodIn_app (goodIn_of _ (by decide +kernel)) ggX3_setClimate_X3_requireShelf
set_option maxRecDepth 20000 in
theorem ggX3_setClimate_X3_isBelow : GoodIn wsX3_setClimate wsX3_isBelow := goodIn_r _ [13] (by decide +kernel) (by decide +kernel)
set_option maxRecDepth 20000 in
theorem gX3_setClimate_X3_isBelow : GoodIn wsX3_setClimate (va_wsS RX3 38 yX3_isBelow wsX3_isBelow) := goodIn_app (goodIn_of _ (by decide +kernel)) ggX3_setClimate_X3_isBelow
set_option maxRecDepth 20000 in
theorem ggX3_setClimate_X2_climateOf : GoodIn wsX3_setClimate wsX2_climateOf := goodIn_r _ [18, 19, 12, 7, 13, 28, 29, 30, 31, 32, 33] (by decide +kernel) (by decide +kernel)
set_option maxRecDepth 20000 in
theorem gX3_setClimate_X2_climateOf : GoodIn wsX3_setClimate (wsV RX3 49 RX2 yX2_climateOf wsX2_climateOf) := goodIn_app (goodIn_of _ (by decide +kernel)) ggX3_setClimate_X2_climateOf
set_option maxRecDepth 20000 in
theorem ggX3_setClimate_X2_changeClimate : GoodIn wsX3_setClimate wsX2_changeClimate := goodIn_r _ [23, 19, 12, 7, 13, 28, 29, 30, 31, 32, 33] (by decide +kernel) (by decide +kernel)
set_option maxRecDepth 20000 in
theorem gX3_setClimate_X2_changeClimate : GoodIn wsX3_setClimate (wsV RX3 53 RX2 yX2_changeClimate wsX2_changeClimate) := goodIn_app (goodIn_of _ (by decide +kernel)) ggX3_setClimate_X2_changeClimate
theorem dX3_setClimate_0 : decode cX3_setClimate 0 = .ok (.aload_n 0, 1) := by decide +kernel
theorem dX3_setClimate_1 : decode cX3_setClimate 1 = .ok (.iload_n 1, 1) := by decide +kernel
theorem dX3_setClimate_2 : decode cX3_setClimate 2 = .ok (.invokevirtual 34, 3) := by decide +kernel
theorem dX3_setClimate_5 : decode cX3_setClimate 5 = .ok (.iload_n 2, 1) := by decide +kernel
theorem dX3_setClimate_6 : decode cX3_setClimate 6 = .ok (.iconst 3, 1) := by decide +kernel
theorem dX3_setClimate_7 : decode cX3_setClimate 7 = .ok (.invokestatic 38, 3) := by decide +kernel
theorem dX3_setClimate_10 : decode cX3_setClimate 10 = .ok (.ifCond .ne 13, 3) := by decide +kernel
theorem dX3_setClimate_13 : decode cX3_setClimate 13 = .ok (.new 42, 3) := by decide +kernel
theorem dX3_setClimate_16 : decode cX3_setClimate 16 = .ok (.dup, 1) := by decide +kernel
theorem dX3_setClimate_17 : decode cX3_setClimate 17 = .ok (.ldc 44, 2) := by decide +kernel
theorem dX3_setClimate_19 : decode cX3_setClimate 19 = .ok (.invokespecial 46, 3) := by decide +kernel
theorem dX3_setClimate_22 : decode cX3_setClimate 22 = .ok (.athrow, 1) := by decide +kernel
theorem dX3_setClimate_23 : decode cX3_setClimate 23 = .ok (.aload_n 0, 1) := by decide +kernel
theorem dX3_setClimate_24 : decode cX3_setClimate 24 = .ok (.getfield 12, 3) := by decide +kernel
theorem dX3_setClimate_27 : decode cX3_setClimate 27 = .ok (.iload_n 1, 1) := by decide +kernel
theorem dX3_setClimate_28 : decode cX3_setClimate 28 = .ok (.invokevirtual 49, 3) := by decide +kernel
theorem dX3_setClimate_31 : decode cX3_setClimate 31 = .ok (.istore_n 3, 1) := by decide +kernel
theorem dX3_setClimate_32 : decode cX3_setClimate 32 = .ok (.aload_n 0, 1) := by decide +kernel
theorem dX3_setClimate_33 : decode cX3_setClimate 33 = .ok (.getfield 12, 3) := by decide +kernel
theorem dX3_setClimate_36 : decode cX3_setClimate 36 = .ok (.iload_n 1, 1) := by decide +kernel
theorem dX3_setClimate_37 : decode cX3_setClimate 37 = .ok (.iload_n 2, 1) := by decide +kernel
theorem dX3_setClimate_38 : decode cX3_setClimate 38 = .ok (.invokevirtual 53, 3) := by decide +kernel
theorem dX3_setClimate_41 : decode cX3_setClimate 41 = .ok (.iload_n 3, 1) := by decide +kernel
theorem dX3_setClimate_42 : decode cX3_setClimate 42 = .ok (.ireturn, 1) := by decide +kernel
set_option maxRecDepth 20000 in
theorem ggX3_addBox_X3_isBelow : GoodIn wsX3_addBox wsX3_isBelow := goodIn_r _ [9] (by decide +kernel) (by decide +kernel)
set_option maxRecDepth 20000 in
theorem gX3_addBox_X3_isBelow : GoodIn wsX3_addBox (va_wsS RX3 38 yX3_isBelow wsX3_isBelow) := goodIn_app (goodIn_of _ (by decide +kernel)) ggX3_addBox_X3_isBelow
set_option maxRecDepth 20000 in
theorem ggX3_addBox_X2_isFull : GoodIn wsX3_addBox wsX2_isFull := goodIn_r _ [14, 15, 29, 30, 31, 32, 33, 34] (by decide +kernel) (by decide +kernel)
set_option maxRecDepth 20000 in
theorem gX3_addBox_X2_isFull : GoodIn wsX3_addBox (wsV RX3 61 RX2 yX2_isFull wsX2_isFull) := goodIn_app (goodIn_of _ (by decide +kernel)) ggX3_addBox_X2_isFull
set_option maxRecDepth 20000 in
theorem ggX3_addBox_X2_enter : GoodIn wsX3_addBox wsX2_enter := goodIn_r _ [19, 15, 20, 21, 22, 23, 24, 11, 12, 13, 14, 29, 30, 31, 32, 33, 34] (by decide +kernel) (by decide +kernel)
set_option maxRecDepth 20000 in
theorem gX3_addBox_X2_enter : GoodIn wsX3_addBox (wsV RX3 70 RX2 yX2_enter wsX2_enter) := goodIn_app (goodIn_of _ (by decide +kernel)) ggX3_addBox_X2_enter
theorem dX3_addBox_0 : decode cX3_addBox 0 = .ok (.iload_n 1, 1) := by decide +kernel
theorem dX3_addBox_1 : decode cX3_addBox 1 = .ok (.iconst 3, 1) := by decide +kernel
theorem dX3_addBox_2 : decode cX3_addBox 2 = .ok (.invokestatic 38, 3) := by decide +kernel
theorem dX3_addBox_5 : decode cX3_addBox 5 = .ok (.ifCond .ne 13, 3) := by decide +kernel
theorem dX3_addBox_8 : decode cX3_addBox 8 = .ok (.new 42, 3) := by decide +kernel
theorem dX3_addBox_11 : decode cX3_addBox 11 = .ok (.dup, 1) := by decide +kernel
theorem dX3_addBox_12 : decode cX3_addBox 12 = .ok (.ldc 44, 2) := by decide +kernel
theorem dX3_addBox_14 : decode cX3_addBox 14 = .ok (.invokespecial 46, 3) := by decide +kernel
theorem dX3_addBox_17 : decode cX3_addBox 17 = .ok (.athrow, 1) := by decide +kernel
theorem dX3_addBox_18 : decode cX3_addBox 18 = .ok (.iload_n 2, 1) := by decide +kernel
theorem dX3_addBox_19 : decode cX3_addBox 19 = .ok (.iconst 1, 1) := by decide +kernel
theorem dX3_addBox_20 : decode cX3_addBox 20 = .ok (.if_icmp .lt 9, 3) := by decide +kernel
theorem dX3_addBox_23 : decode cX3_addBox 23 = .ok (.iload_n 2, 1) := by decide +kernel
theorem dX3_addBox_24 : decode cX3_addBox 24 = .ok (.bipush 60, 2) := by decide +kernel
theorem dX3_addBox_26 : decode cX3_addBox 26 = .ok (.if_icmp .le 13, 3) := by decide +kernel
theorem dX3_addBox_29 : decode cX3_addBox 29 = .ok (.new 42, 3) := by decide +kernel
theorem dX3_addBox_32 : decode cX3_addBox 32 = .ok (.dup, 1) := by decide +kernel
theorem dX3_addBox_33 : decode cX3_addBox 33 = .ok (.ldc 57, 2) := by decide +kernel
theorem dX3_addBox_35 : decode cX3_addBox 35 = .ok (.invokespecial 46, 3) := by decide +kernel
theorem dX3_addBox_38 : decode cX3_addBox 38 = .ok (.athrow, 1) := by decide +kernel
theorem dX3_addBox_39 : decode cX3_addBox 39 = .ok (.iload_n 3, 1) := by decide +kernel
theorem dX3_addBox_40 : decode cX3_addBox 40 = .ok (.bipush 10, 2) := by decide +kernel
theorem dX3_addBox_42 : decode cX3_addBox 42 = .ok (.invokestatic 38, 3) := by decide +kernel
theorem dX3_addBox_45 : decode cX3_addBox 45 = .ok (.ifCond .ne 13, 3) := by decide +kernel
theorem dX3_addBox_48 : decode cX3_addBox 48 = .ok (.new 42, 3) := by decide +kernel
theorem dX3_addBox_51 : decode cX3_addBox 51 = .ok (.dup, 1) := by decide +kernel
theorem dX3_addBox_52 : decode cX3_addBox 52 = .ok (.ldc 59, 2) := by decide +kernel
theorem dX3_addBox_54 : decode cX3_addBox 54 = .ok (.invokespecial 46, 3) := by decide +kernel
theorem dX3_addBox_57 : decode cX3_addBox 57 = .ok (.athrow, 1) := by decide +kernel
theorem dX3_addBox_58 : decode cX3_addBox 58 = .ok (.aload_n 0, 1) := by decide +kernel
theorem dX3_addBox_59 : decode cX3_addBox 59 = .ok (.getfield 12, 3) := by decide +kernel
theorem dX3_addBox_62 : decode cX3_addBox 62 = .ok (.invokevirtual 61, 3) := by decide +kernel
theorem dX3_addBox_65 : decode cX3_addBox 65 = .ok (.ifCond .eq 13, 3) := by decide +kernel
theorem dX3_addBox_68 : decode cX3_addBox 68 = .ok (.new 65, 3) := by decide +kernel
theorem dX3_addBox_71 : decode cX3_addBox 71 = .ok (.dup, 1) := by decide +kernel
theorem dX3_addBox_72 : decode cX3_addBox 72 = .ok (.ldc 67, 2) := by decide +kernel
theorem dX3_addBox_74 : decode cX3_addBox 74 = .ok (.invokespecial 69, 3) := by decide +kernel
theorem dX3_addBox_77 : decode cX3_addBox 77 = .ok (.athrow, 1) := by decide +kernel
theorem dX3_addBox_78 : decode cX3_addBox 78 = .ok (.aload_n 0, 1) := by decide +kernel
theorem dX3_addBox_79 : decode cX3_addBox 79 = .ok (.getfield 12, 3) := by decide +kernel
theorem dX3_addBox_82 : decode cX3_addBox 82 = .ok (.iload_n 1, 1) := by decide +kernel
theorem dX3_addBox_83 : decode cX3_addBox 83 = .ok (.iload_n 2, 1) := by decide +kernel
theorem dX3_addBox_84 : decode cX3_addBox 84 = .ok (.iload_n 3, 1) := by decide +kernel
theorem dX3_addBox_85 : decode cX3_addBox 85 = .ok (.invokevirtual 70, 3) := by decide +kernel
theorem dX3_addBox_88 : decode cX3_addBox 88 = .ok (.ireturn, 1) := by decide +kernel
set_option maxRecDepth 20000 in
theorem ggX3_bestSpot_X3_requireBox : GoodIn wsX3_bestSpot wsX3_requireBox := goodIn_ca (goodIn_r _ [6, 7, 8, 1, 9, 10, 11, 12, 13, 14, 15, 5, 16, 62, 63, 64, 65, 66, 67, 68, 69, 70, 71] (by decide +kernel) (by decide +kernel)) (goodIn_sub (fun _ h => List.mem_cons_of_mem _ (List.mem_append_left _ (List.mem_append_right _ h))) (by decide +kernel))
set_option maxRecDepth 20000 in
theorem gX3_bestSpot_X3_requireBox : GoodIn wsX3_bestSpot (wsV RX3 74 RX3 yX3_requireBox wsX3_requireBox) := goodIn_app (goodIn_of _ (by decide +kernel)) ggX3_bestSpot_X3_requireBox
set_option maxRecDepth 20000 in
theorem ggX3_bestSpot_X3_requireOut : GoodIn wsX3_bestSpot wsX3_requireOut := goodIn_ca (goodIn_r _ [20, 21, 22, 1, 23, 24, 25, 12, 26, 27, 28, 10, 11, 13, 14, 15, 5, 16, 62, 63, 64, 65, 66, 67, 68, 69, 70, 71] (by decide +kernel) (by decide +kernel)) (goodIn_sub (fun _ h => List.mem_cons_of_mem _ (List.mem_append_right _ h)) (by decide +kernel))
set_option maxRecDepth 20000 in
theorem gX3_bestSpot_X3_requireOut : GoodIn wsX3_bestSpot (wsV RX3 77 RX3 yX3_requireOut wsX3_requireOut) := goodIn_app (goodIn_of _ (by decide +kernel)) ggX3_bestSpot_X3_requireOut
set_option maxRecDepth 20000 in
theorem ggX3_bestSpot_X2_bestSpotFor : GoodIn wsX3_bestSpot wsX2_bestSpotFor := goodIn_r _ [32, 33, 34, 35, 36, 28, 10, 11, 12, 13, 14, 15, 5, 16, 37, 38, 39, 40, 41, 42, 43, 44, 45, 24, 25, 26, 27, 46, 47, 48, 49, 50, 51, 52, 53, 54, 55, 56, 57, 58, 59, 60, 61, 66, 67, 68, 69, 70, 71] (by decide +kernel) (by decide +kernel)
set_option maxRecDepth 20000 in
theorem gX3_bestSpot_X2_bestSpotFor : GoodIn wsX3_bestSpot (wsV RX3 80 RX2 yX2_bestSpotFor wsX2_bestSpotFor) := goodIn_app (goodIn_of _ (by decide +kernel)) ggX3_bestSpot_X2_bestSpotFor
theorem dX3_bestSpot_0 : decode cX3_bestSpot 0 = .ok (.aload_n 0, 1) := by decide +kernel
theorem dX3_bestSpot_1 : decode cX3_bestSpot 1 = .ok (.iload_n 1, 1) := by decide +kernel
theorem dX3_bestSpot_2 : decode cX3_bestSpot 2 = .ok (.invokevirtual 74, 3) := by decide +kernel
theorem dX3_bestSpot_5 : decode cX3_bestSpot 5 = .ok (.aload_n 0, 1) := by decide +kernel
theorem dX3_bestSpot_6 : decode cX3_bestSpot 6 = .ok (.iload_n 1, 1) := by decide +kernel
theorem dX3_bestSpot_7 : decode cX3_bestSpot 7 = .ok (.invokevirtual 77, 3) := by decide +kernel
theorem dX3_bestSpot_10 : decode cX3_bestSpot 10 = .ok (.aload_n 0, 1) := by decide +kernel
theorem dX3_bestSpot_11 : decode cX3_bestSpot 11 = .ok (.getfield 12, 3) := by decide +kernel
theorem dX3_bestSpot_14 : decode cX3_bestSpot 14 = .ok (.iload_n 1, 1) := by decide +kernel
theorem dX3_bestSpot_15 : decode cX3_bestSpot 15 = .ok (.invokevirtual 80, 3) := by decide +kernel
theorem dX3_bestSpot_18 : decode cX3_bestSpot 18 = .ok (.ireturn, 1) := by decide +kernel
set_option maxRecDepth 20000 in
theorem ggX3_lay_X3_requireBox : GoodIn wsX3_lay wsX3_requireBox := goodIn_ca (goodIn_r _ [8, 9, 10, 3, 11, 12, 13, 14, 15, 16, 17, 7, 18, 66, 67, 68, 69, 70, 71, 72, 73, 74, 75] (by decide +kernel) (by decide +kernel)) (goodIn_sub (fun _ h => List.mem_cons_of_mem _ (List.mem_append_right _ h)) (by decide +kernel))
set_option maxRecDepth 20000 in
theorem gX3_lay_X3_requireBox : GoodIn wsX3_lay (wsV RX3 74 RX3 yX3_requireBox wsX3_requireBox) := goodIn_app (goodIn_of _ (by decide +kernel)) ggX3_lay_X3_requireBox
set_option maxRecDepth 20000 in
theorem ggX3_lay_X3_requireOut : GoodIn wsX3_lay wsX3_requireOut := goodIn_ca (goodIn_r _ [22, 1, 2, 3, 23, 24, 25, 14, 26, 27, 28, 12, 13, 15, 16, 17, 7, 18, 66, 67, 68, 69, 70, 71, 72, 73, 74, 75] (by decide +kernel) (by decide +kernel)) (goodIn_sub (fun _ h => List.mem_cons_of_mem _ (List.mem_append_left _ (List.mem_append_right _ h))) (by decide +kernel))
set_option maxRecDepth 20000 in
theorem gX3_lay_X3_requireOut : GoodIn wsX3_lay (wsV RX3 77 RX3 yX3_requireOut wsX3_requireOut) := goodIn_app (goodIn_of _ (by decide +kernel)) ggX3_lay_X3_requireOut
set_option maxRecDepth 20000 in
theorem ggX3_lay_X2_bestSpotFor : GoodIn wsX3_lay wsX2_bestSpotFor := goodIn_r _ [32, 33, 34, 35, 36, 28, 12, 13, 14, 15, 16, 17, 7, 18, 37, 38, 39, 40, 41, 42, 43, 44, 45, 24, 25, 26, 27, 46, 47, 48, 49, 50, 51, 52, 53, 54, 55, 56, 57, 58, 59, 60, 61, 70, 71, 72, 73, 74, 75] (by decide +kernel) (by decide +kernel)
set_option maxRecDepth 20000 in
theorem gX3_lay_X2_bestSpotFor : GoodIn wsX3_lay (wsV RX3 80 RX2 yX2_bestSpotFor wsX2_bestSpotFor) := goodIn_app (goodIn_of _ (by decide +kernel)) ggX3_lay_X2_bestSpotFor
set_option maxRecDepth 20000 in
theorem ggX3_lay_X2_put : GoodIn wsX3_lay wsX2_put := goodIn_r _ [65, 27, 28, 12, 13, 14, 15, 16, 17, 7, 18, 70, 71, 72, 73, 74, 75] (by decide +kernel) (by decide +kernel)
set_option maxRecDepth 20000 in
theorem gX3_lay_X2_put : GoodIn wsX3_lay (wsV RX3 85 RX2 yX2_put wsX2_put) := goodIn_app (goodIn_of _ (by decide +kernel)) ggX3_lay_X2_put
theorem dX3_lay_0 : decode cX3_lay 0 = .ok (.aload_n 0, 1) := by decide +kernel
theorem dX3_lay_1 : decode cX3_lay 1 = .ok (.iload_n 1, 1) := by decide +kernel
theorem dX3_lay_2 : decode cX3_lay 2 = .ok (.invokevirtual 74, 3) := by decide +kernel
theorem dX3_lay_5 : decode cX3_lay 5 = .ok (.aload_n 0, 1) := by decide +kernel
theorem dX3_lay_6 : decode cX3_lay 6 = .ok (.iload_n 1, 1) := by decide +kernel
theorem dX3_lay_7 : decode cX3_lay 7 = .ok (.invokevirtual 77, 3) := by decide +kernel
theorem dX3_lay_10 : decode cX3_lay 10 = .ok (.aload_n 0, 1) := by decide +kernel
theorem dX3_lay_11 : decode cX3_lay 11 = .ok (.getfield 12, 3) := by decide +kernel
theorem dX3_lay_14 : decode cX3_lay 14 = .ok (.iload_n 1, 1) := by decide +kernel
theorem dX3_lay_15 : decode cX3_lay 15 = .ok (.invokevirtual 80, 3) := by decide +kernel
theorem dX3_lay_18 : decode cX3_lay 18 = .ok (.istore_n 2, 1) := by decide +kernel
theorem dX3_lay_19 : decode cX3_lay 19 = .ok (.iload_n 2, 1) := by decide +kernel
theorem dX3_lay_20 : decode cX3_lay 20 = .ok (.iconst (-1), 1) := by decide +kernel
theorem dX3_lay_21 : decode cX3_lay 21 = .ok (.if_icmp .ne 13, 3) := by decide +kernel
theorem dX3_lay_24 : decode cX3_lay 24 = .ok (.new 65, 3) := by decide +kernel
theorem dX3_lay_27 : decode cX3_lay 27 = .ok (.dup, 1) := by decide +kernel
theorem dX3_lay_28 : decode cX3_lay 28 = .ok (.ldc 83, 2) := by decide +kernel
theorem dX3_lay_30 : decode cX3_lay 30 = .ok (.invokespecial 69, 3) := by decide +kernel
theorem dX3_lay_33 : decode cX3_lay 33 = .ok (.athrow, 1) := by decide +kernel
theorem dX3_lay_34 : decode cX3_lay 34 = .ok (.aload_n 0, 1) := by decide +kernel
theorem dX3_lay_35 : decode cX3_lay 35 = .ok (.getfield 12, 3) := by decide +kernel
theorem dX3_lay_38 : decode cX3_lay 38 = .ok (.iload_n 1, 1) := by decide +kernel
theorem dX3_lay_39 : decode cX3_lay 39 = .ok (.iload_n 2, 1) := by decide +kernel
theorem dX3_lay_40 : decode cX3_lay 40 = .ok (.invokevirtual 85, 3) := by decide +kernel
theorem dX3_lay_43 : decode cX3_lay 43 = .ok (.iload_n 2, 1) := by decide +kernel
theorem dX3_lay_44 : decode cX3_lay 44 = .ok (.ireturn, 1) := by decide +kernel
set_option maxRecDepth 20000 in
theorem ggX3_spotOf_X3_requireBox : GoodIn wsX3_spotOf wsX3_requireBox := goodIn_ca (goodIn_r _ [6, 7, 8, 1, 9, 10, 11, 12, 13, 14, 15, 5, 16, 23, 24, 25, 26, 27, 28, 29, 30, 31, 32] (by decide +kernel) (by decide +kernel)) (goodIn_sub (fun _ h => List.mem_cons_of_mem _ (List.mem_append_right _ h)) (by decide +kernel))
set_option maxRecDepth 20000 in
theorem gX3_spotOf_X3_requireBox : GoodIn wsX3_spotOf (wsV RX3 74 RX3 yX3_requireBox wsX3_requireBox) := goodIn_app (goodIn_of _ (by decide +kernel)) ggX3_spotOf_X3_requireBox
set_option maxRecDepth 20000 in
theorem ggX3_spotOf_X2_whereIs : GoodIn wsX3_spotOf wsX2_whereIs := goodIn_r _ [20, 21, 22, 10, 11, 12, 13, 14, 15, 5, 16, 27, 28, 29, 30, 31, 32] (by decide +kernel) (by decide +kernel)
set_option maxRecDepth 20000 in
theorem gX3_spotOf_X2_whereIs : GoodIn wsX3_spotOf (wsV RX3 88 RX2 yX2_whereIs wsX2_whereIs) := goodIn_app (goodIn_of _ (by decide +kernel)) ggX3_spotOf_X2_whereIs
theorem dX3_spotOf_0 : decode cX3_spotOf 0 = .ok (.aload_n 0, 1) := by decide +kernel
theorem dX3_spotOf_1 : decode cX3_spotOf 1 = .ok (.iload_n 1, 1) := by decide +kernel
theorem dX3_spotOf_2 : decode cX3_spotOf 2 = .ok (.invokevirtual 74, 3) := by decide +kernel
theorem dX3_spotOf_5 : decode cX3_spotOf 5 = .ok (.aload_n 0, 1) := by decide +kernel
theorem dX3_spotOf_6 : decode cX3_spotOf 6 = .ok (.getfield 12, 3) := by decide +kernel
theorem dX3_spotOf_9 : decode cX3_spotOf 9 = .ok (.iload_n 1, 1) := by decide +kernel
theorem dX3_spotOf_10 : decode cX3_spotOf 10 = .ok (.invokevirtual 88, 3) := by decide +kernel
theorem dX3_spotOf_13 : decode cX3_spotOf 13 = .ok (.ireturn, 1) := by decide +kernel
set_option maxRecDepth 20000 in
theorem ggX3_boxAt_X3_requireSpot : GoodIn wsX3_boxAt wsX3_requireSpot := goodIn_ca (goodIn_r _ [6, 7, 8, 9, 10, 5, 11, 12, 13, 14, 15, 16, 17, 18, 19, 20] (by decide +kernel) (by decide +kernel)) (goodIn_sub (fun _ h => List.mem_cons_of_mem _ (List.mem_append_right _ h)) (by decide +kernel))
set_option maxRecDepth 20000 in
theorem gX3_boxAt_X3_requireSpot : GoodIn wsX3_boxAt (wsV RX3 91 RX3 yX3_requireSpot wsX3_requireSpot) := goodIn_app (goodIn_of _ (by decide +kernel)) ggX3_boxAt_X3_requireSpot
set_option maxRecDepth 20000 in
theorem ggX3_boxAt_X2_boxIn : GoodIn wsX3_boxAt wsX2_boxIn := goodIn_r _ [25, 26, 27, 32, 33, 34, 35, 36, 37] (by decide +kernel) (by decide +kernel)
set_option maxRecDepth 20000 in
theorem gX3_boxAt_X2_boxIn : GoodIn wsX3_boxAt (wsV RX3 94 RX2 yX2_boxIn wsX2_boxIn) := goodIn_app (goodIn_of _ (by decide +kernel)) ggX3_boxAt_X2_boxIn
theorem dX3_boxAt_0 : decode cX3_boxAt 0 = .ok (.aload_n 0, 1) := by decide +kernel
theorem dX3_boxAt_1 : decode cX3_boxAt 1 = .ok (.iload_n 1, 1) := by decide +kernel
theorem dX3_boxAt_2 : decode cX3_boxAt 2 = .ok (.invokevirtual 91, 3) := by decide +kernel
theorem dX3_boxAt_5 : decode cX3_boxAt 5 = .ok (.aload_n 0, 1) := by decide +kernel
theorem dX3_boxAt_6 : decode cX3_boxAt 6 = .ok (.getfield 12, 3) := by decide +kernel
theorem dX3_boxAt_9 : decode cX3_boxAt 9 = .ok (.iload_n 1, 1) := by decide +kernel
theorem dX3_boxAt_10 : decode cX3_boxAt 10 = .ok (.invokevirtual 94, 3) := by decide +kernel
theorem dX3_boxAt_13 : decode cX3_boxAt 13 = .ok (.ireturn, 1) := by decide +kernel
set_option maxRecDepth 20000 in
theorem ggX3_weight_X3_requireShelf : GoodIn wsX3_weight wsX3_requireShelf := goodIn_ca (goodIn_r _ [6, 7, 8, 9, 10, 5, 11] (by decide +kernel) (by decide +kernel)) (goodIn_sub (fun _ h => List.mem_cons_of_mem _ (List.mem_append_right _ h)) (by decide +kernel))
set_option maxRecDepth 20000 in
theorem gX3_weight_X3_requireShelf : GoodIn wsX3_weight (wsV RX3 34 RX3 yX3_requireShelf wsX3_requireShelf) := goodIn_app (goodIn_of _ (by decide +kernel)) ggX3_weight_X3_requireShelf
set_option maxRecDepth 20000 in
theorem ggX3_weight_X2_weightOn : GoodIn wsX3_weight wsX2_weightOn := goodIn_r _ [16, 17, 18, 19, 20, 21, 15, 22, 23, 24, 25, 26, 27, 28, 29, 30, 31, 10, 5, 11, 32, 33, 38, 39, 40, 41, 42, 43] (by decide +kernel) (by decide +kernel)
set_option maxRecDepth 20000 in
theorem gX3_weight_X2_weightOn : GoodIn wsX3_weight (wsV RX3 97 RX2 yX2_weightOn wsX2_weightOn) := goodIn_app (goodIn_of _ (by decide +kernel)) ggX3_weight_X2_weightOn
theorem dX3_weight_0 : decode cX3_weight 0 = .ok (.aload_n 0, 1) := by decide +kernel
theorem dX3_weight_1 : decode cX3_weight 1 = .ok (.iload_n 1, 1) := by decide +kernel
theorem dX3_weight_2 : decode cX3_weight 2 = .ok (.invokevirtual 34, 3) := by decide +kernel
theorem dX3_weight_5 : decode cX3_weight 5 = .ok (.aload_n 0, 1) := by decide +kernel
theorem dX3_weight_6 : decode cX3_weight 6 = .ok (.getfield 12, 3) := by decide +kernel
theorem dX3_weight_9 : decode cX3_weight 9 = .ok (.iload_n 1, 1) := by decide +kernel
theorem dX3_weight_10 : decode cX3_weight 10 = .ok (.invokevirtual 97, 3) := by decide +kernel
theorem dX3_weight_13 : decode cX3_weight 13 = .ok (.ireturn, 1) := by decide +kernel
set_option maxRecDepth 20000 in
theorem ggX3_wrong_X2_countWrong : GoodIn wsX3_wrong wsX2_countWrong := goodIn_r _ [6, 7, 8, 9, 10, 5, 11, 12, 13, 14, 15, 16, 17, 18, 19, 20, 21, 22, 23, 24, 25, 26, 27, 28, 29, 30, 31, 36, 37, 38, 39, 40, 41] (by decide +kernel) (by decide +kernel)
set_option maxRecDepth 20000 in
theorem gX3_wrong_X2_countWrong : GoodIn wsX3_wrong (wsV RX3 100 RX2 yX2_countWrong wsX2_countWrong) := goodIn_app (goodIn_of _ (by decide +kernel)) ggX3_wrong_X2_countWrong
theorem dX3_wrong_0 : decode cX3_wrong 0 = .ok (.aload_n 0, 1) := by decide +kernel
theorem dX3_wrong_1 : decode cX3_wrong 1 = .ok (.getfield 12, 3) := by decide +kernel
theorem dX3_wrong_4 : decode cX3_wrong 4 = .ok (.invokevirtual 100, 3) := by decide +kernel
theorem dX3_wrong_7 : decode cX3_wrong 7 = .ok (.ireturn, 1) := by decide +kernel
set_option maxRecDepth 20000 in
theorem ggX3_open_X3_requireAisle : GoodIn wsX3_open wsX3_requireAisle := goodIn_ca (goodIn_r _ [8, 9, 10, 11, 12, 7, 13] (by decide +kernel) (by decide +kernel)) (goodIn_sub (fun _ h => List.mem_cons_of_mem _ (List.mem_append_right _ h)) (by decide +kernel))
set_option maxRecDepth 20000 in
theorem gX3_open_X3_requireAisle : GoodIn wsX3_open (wsV RX3 104 RX3 yX3_requireAisle wsX3_requireAisle) := goodIn_app (goodIn_of _ (by decide +kernel)) ggX3_open_X3_requireAisle
set_option maxRecDepth 20000 in
theorem ggX3_open_X1_mayOpen : GoodIn wsX3_open wsX1_mayOpen := goodIn_r _ [18, 19, 20, 21, 22, 23, 17, 24, 25, 26, 27, 28, 29, 30, 31, 32, 33, 34, 35, 36, 12, 7, 13, 53, 54, 55, 56, 57, 58, 59] (by decide +kernel) (by decide +kernel)
set_option maxRecDepth 20000 in
theorem gX3_open_X1_mayOpen : GoodIn wsX3_open (wsV RX3 107 RX1 yX1_mayOpen wsX1_mayOpen) := goodIn_app (goodIn_of _ (by decide +kernel)) ggX3_open_X1_mayOpen
set_option maxRecDepth 20000 in
theorem ggX3_open_X1_aimAt : GoodIn wsX3_open wsX1_aimAt := goodIn_r _ [40, 26, 53, 54, 55, 56, 57, 58, 59] (by decide +kernel) (by decide +kernel)
set_option maxRecDepth 20000 in
theorem gX3_open_X1_aimAt : GoodIn wsX3_open (wsV RX3 112 RX1 yX1_aimAt wsX1_aimAt) := goodIn_app (goodIn_of _ (by decide +kernel)) ggX3_open_X1_aimAt
set_option maxRecDepth 20000 in
theorem ggX3_open_X1_movesToCome : GoodIn wsX3_open wsX1_movesToCome := goodIn_r _ [44, 26, 25, 45, 46, 47, 48, 53, 54, 55, 56, 57, 58, 59] (by decide +kernel) (by decide +kernel)
set_option maxRecDepth 20000 in
theorem gX3_open_X1_movesToCome : GoodIn wsX3_open (wsV RX3 115 RX1 yX1_movesToCome wsX1_movesToCome) := goodIn_app (goodIn_of _ (by decide +kernel)) ggX3_open_X1_movesToCome
theorem dX3_open_0 : decode cX3_open 0 = .ok (.aload_n 0, 1) := by decide +kernel
theorem dX3_open_1 : decode cX3_open 1 = .ok (.iload_n 1, 1) := by decide +kernel
theorem dX3_open_2 : decode cX3_open 2 = .ok (.invokevirtual 104, 3) := by decide +kernel
theorem dX3_open_5 : decode cX3_open 5 = .ok (.aload_n 0, 1) := by decide +kernel
theorem dX3_open_6 : decode cX3_open 6 = .ok (.getfield 19, 3) := by decide +kernel
theorem dX3_open_9 : decode cX3_open 9 = .ok (.invokevirtual 107, 3) := by decide +kernel
theorem dX3_open_12 : decode cX3_open 12 = .ok (.ifCond .ne 13, 3) := by decide +kernel
theorem dX3_open_15 : decode cX3_open 15 = .ok (.new 65, 3) := by decide +kernel
theorem dX3_open_18 : decode cX3_open 18 = .ok (.dup, 1) := by decide +kernel
theorem dX3_open_19 : decode cX3_open 19 = .ok (.ldc 110, 2) := by decide +kernel
theorem dX3_open_21 : decode cX3_open 21 = .ok (.invokespecial 69, 3) := by decide +kernel
theorem dX3_open_24 : decode cX3_open 24 = .ok (.athrow, 1) := by decide +kernel
theorem dX3_open_25 : decode cX3_open 25 = .ok (.aload_n 0, 1) := by decide +kernel
theorem dX3_open_26 : decode cX3_open 26 = .ok (.getfield 19, 3) := by decide +kernel
theorem dX3_open_29 : decode cX3_open 29 = .ok (.iload_n 1, 1) := by decide +kernel
theorem dX3_open_30 : decode cX3_open 30 = .ok (.invokevirtual 112, 3) := by decide +kernel
theorem dX3_open_33 : decode cX3_open 33 = .ok (.aload_n 0, 1) := by decide +kernel
theorem dX3_open_34 : decode cX3_open 34 = .ok (.getfield 19, 3) := by decide +kernel
theorem dX3_open_37 : decode cX3_open 37 = .ok (.invokevirtual 115, 3) := by decide +kernel
theorem dX3_open_40 : decode cX3_open 40 = .ok (.ireturn, 1) := by decide +kernel
set_option maxRecDepth 20000 in
theorem ggX3_opened_X1_openAisle : GoodIn wsX3_opened wsX1_openAisle := goodIn_r _ [6, 7, 8, 13, 14, 15, 16, 17, 18, 19] (by decide +kernel) (by decide +kernel)
set_option maxRecDepth 20000 in
theorem gX3_opened_X1_openAisle : GoodIn wsX3_opened (wsV RX3 118 RX1 yX1_openAisle wsX1_openAisle) := goodIn_app (goodIn_of _ (by decide +kernel)) ggX3_opened_X1_openAisle
theorem dX3_opened_0 : decode cX3_opened 0 = .ok (.aload_n 0, 1) := by decide +kernel
theorem dX3_opened_1 : decode cX3_opened 1 = .ok (.getfield 19, 3) := by decide +kernel
theorem dX3_opened_4 : decode cX3_opened 4 = .ok (.invokevirtual 118, 3) := by decide +kernel
theorem dX3_opened_7 : decode cX3_opened 7 = .ok (.ireturn, 1) := by decide +kernel
set_option maxRecDepth 20000 in
theorem ggX3_openedByMoves_X1_openAisleByMoves : GoodIn wsX3_openedByMoves wsX1_openAisleByMoves := goodIn_r _ [6, 7, 8, 13, 14, 15, 16, 17, 18, 19] (by decide +kernel) (by decide +kernel)
set_option maxRecDepth 20000 in
theorem gX3_openedByMoves_X1_openAisleByMoves : GoodIn wsX3_openedByMoves (wsV RX3 121 RX1 yX1_openAisleByMoves wsX1_openAisleByMoves) := goodIn_app (goodIn_of _ (by decide +kernel)) ggX3_openedByMoves_X1_openAisleByMoves
theorem dX3_openedByMoves_0 : decode cX3_openedByMoves 0 = .ok (.aload_n 0, 1) := by decide +kernel
theorem dX3_openedByMoves_1 : decode cX3_openedByMoves 1 = .ok (.getfield 19, 3) := by decide +kernel
theorem dX3_openedByMoves_4 : decode cX3_openedByMoves 4 = .ok (.invokevirtual 121, 3) := by decide +kernel
theorem dX3_openedByMoves_7 : decode cX3_openedByMoves 7 = .ok (.ireturn, 1) := by decide +kernel
set_option maxRecDepth 20000 in
theorem ggX3_goIn_X3_requirePerson : GoodIn wsX3_goIn wsX3_requirePerson := goodIn_ca (goodIn_r _ [8, 9, 10, 11, 12, 7, 13] (by decide +kernel) (by decide +kernel)) (goodIn_sub (fun _ h => List.mem_cons_of_mem _ (List.mem_append_right _ h)) (by decide +kernel))
set_option maxRecDepth 20000 in
theorem gX3_goIn_X3_requirePerson : GoodIn wsX3_goIn (wsV RX3 124 RX3 yX3_requirePerson wsX3_requirePerson) := goodIn_app (goodIn_of _ (by decide +kernel)) ggX3_goIn_X3_requirePerson
set_option maxRecDepth 20000 in
theorem ggX3_goIn_X1_isInside : GoodIn wsX3_goIn wsX1_isInside := goodIn_r _ [18, 19, 12, 7, 13, 43, 44, 45, 46, 47, 48, 49] (by decide +kernel) (by decide +kernel)
set_option maxRecDepth 20000 in
theorem gX3_goIn_X1_isInside : GoodIn wsX3_goIn (wsV RX3 127 RX1 yX1_isInside wsX1_isInside) := goodIn_app (goodIn_of _ (by decide +kernel)) ggX3_goIn_X1_isInside
set_option maxRecDepth 20000 in
theorem ggX3_goIn_X1_mayGoIn : GoodIn wsX3_goIn wsX1_mayGoIn := goodIn_r _ [23, 24, 25, 26, 27, 17, 28, 29, 30, 43, 44, 45, 46, 47, 48, 49] (by decide +kernel) (by decide +kernel)
set_option maxRecDepth 20000 in
theorem gX3_goIn_X1_mayGoIn : GoodIn wsX3_goIn (wsV RX3 133 RX1 yX1_mayGoIn wsX1_mayGoIn) := goodIn_app (goodIn_of _ (by decide +kernel)) ggX3_goIn_X1_mayGoIn
set_option maxRecDepth 20000 in
theorem ggX3_goIn_X1_setInside : GoodIn wsX3_goIn wsX1_setInside := goodIn_r _ [34, 19, 12, 7, 13, 43, 44, 45, 46, 47, 48, 49] (by decide +kernel) (by decide +kernel)
set_option maxRecDepth 20000 in
theorem gX3_goIn_X1_setInside : GoodIn wsX3_goIn (wsV RX3 138 RX1 yX1_setInside wsX1_setInside) := goodIn_app (goodIn_of _ (by decide +kernel)) ggX3_goIn_X1_setInside
set_option maxRecDepth 20000 in
theorem ggX3_goIn_X1_countInside : GoodIn wsX3_goIn wsX1_countInside := goodIn_r _ [38, 19, 43, 44, 45, 46, 47, 48, 49] (by decide +kernel) (by decide +kernel)
set_option maxRecDepth 20000 in
theorem gX3_goIn_X1_countInside : GoodIn wsX3_goIn (wsV RX3 142 RX1 yX1_countInside wsX1_countInside) := goodIn_app (goodIn_of _ (by decide +kernel)) ggX3_goIn_X1_countInside
theorem dX3_goIn_0 : decode cX3_goIn 0 = .ok (.aload_n 0, 1) := by decide +kernel
theorem dX3_goIn_1 : decode cX3_goIn 1 = .ok (.iload_n 1, 1) := by decide +kernel
theorem dX3_goIn_2 : decode cX3_goIn 2 = .ok (.invokevirtual 124, 3) := by decide +kernel
theorem dX3_goIn_5 : decode cX3_goIn 5 = .ok (.aload_n 0, 1) := by decide +kernel
theorem dX3_goIn_6 : decode cX3_goIn 6 = .ok (.getfield 19, 3) := by decide +kernel
theorem dX3_goIn_9 : decode cX3_goIn 9 = .ok (.iload_n 1, 1) := by decide +kernel
theorem dX3_goIn_10 : decode cX3_goIn 10 = .ok (.invokevirtual 127, 3) := by decide +kernel
theorem dX3_goIn_13 : decode cX3_goIn 13 = .ok (.ifCond .eq 13, 3) := by decide +kernel
theorem dX3_goIn_16 : decode cX3_goIn 16 = .ok (.new 65, 3) := by decide +kernel
theorem dX3_goIn_19 : decode cX3_goIn 19 = .ok (.dup, 1) := by decide +kernel
theorem dX3_goIn_20 : decode cX3_goIn 20 = .ok (.ldc 131, 2) := by decide +kernel
theorem dX3_goIn_22 : decode cX3_goIn 22 = .ok (.invokespecial 69, 3) := by decide +kernel
theorem dX3_goIn_25 : decode cX3_goIn 25 = .ok (.athrow, 1) := by decide +kernel
theorem dX3_goIn_26 : decode cX3_goIn 26 = .ok (.aload_n 0, 1) := by decide +kernel
theorem dX3_goIn_27 : decode cX3_goIn 27 = .ok (.getfield 19, 3) := by decide +kernel
theorem dX3_goIn_30 : decode cX3_goIn 30 = .ok (.invokevirtual 133, 3) := by decide +kernel
theorem dX3_goIn_33 : decode cX3_goIn 33 = .ok (.ifCond .ne 13, 3) := by decide +kernel
theorem dX3_goIn_36 : decode cX3_goIn 36 = .ok (.new 65, 3) := by decide +kernel
theorem dX3_goIn_39 : decode cX3_goIn 39 = .ok (.dup, 1) := by decide +kernel
theorem dX3_goIn_40 : decode cX3_goIn 40 = .ok (.ldc 136, 2) := by decide +kernel
theorem dX3_goIn_42 : decode cX3_goIn 42 = .ok (.invokespecial 69, 3) := by decide +kernel
theorem dX3_goIn_45 : decode cX3_goIn 45 = .ok (.athrow, 1) := by decide +kernel
theorem dX3_goIn_46 : decode cX3_goIn 46 = .ok (.aload_n 0, 1) := by decide +kernel
theorem dX3_goIn_47 : decode cX3_goIn 47 = .ok (.getfield 19, 3) := by decide +kernel
theorem dX3_goIn_50 : decode cX3_goIn 50 = .ok (.iload_n 1, 1) := by decide +kernel
theorem dX3_goIn_51 : decode cX3_goIn 51 = .ok (.iconst 1, 1) := by decide +kernel
theorem dX3_goIn_52 : decode cX3_goIn 52 = .ok (.invokevirtual 138, 3) := by decide +kernel
theorem dX3_goIn_55 : decode cX3_goIn 55 = .ok (.aload_n 0, 1) := by decide +kernel
theorem dX3_goIn_56 : decode cX3_goIn 56 = .ok (.getfield 19, 3) := by decide +kernel
theorem dX3_goIn_59 : decode cX3_goIn 59 = .ok (.invokevirtual 142, 3) := by decide +kernel
theorem dX3_goIn_62 : decode cX3_goIn 62 = .ok (.ireturn, 1) := by decide +kernel
set_option maxRecDepth 20000 in
theorem ggX3_goOut_X3_requirePerson : GoodIn wsX3_goOut wsX3_requirePerson := goodIn_ca (goodIn_r _ [6, 7, 8, 9, 10, 5, 11] (by decide +kernel) (by decide +kernel)) (goodIn_sub (fun _ h => List.mem_cons_of_mem _ (List.mem_append_left _ (List.mem_append_right _ h))) (by decide +kernel))
set_option maxRecDepth 20000 in
theorem gX3_goOut_X3_requirePerson : GoodIn wsX3_goOut (wsV RX3 124 RX3 yX3_requirePerson wsX3_requirePerson) := goodIn_app (goodIn_of _ (by decide +kernel)) ggX3_goOut_X3_requirePerson
set_option maxRecDepth 20000 in
theorem ggX3_goOut_X3_requireInside : GoodIn wsX3_goOut wsX3_requireInside := goodIn_ca (goodIn_r _ [15, 16, 17, 1, 18, 19, 20, 21, 22, 23, 10, 5, 11, 32, 33, 34, 35, 36, 37, 38, 39, 40, 41, 42] (by decide +kernel) (by decide +kernel)) (goodIn_sub (fun _ h => List.mem_cons_of_mem _ (List.mem_append_right _ h)) (by decide +kernel))
set_option maxRecDepth 20000 in
theorem gX3_goOut_X3_requireInside : GoodIn wsX3_goOut (wsV RX3 145 RX3 yX3_requireInside wsX3_requireInside) := goodIn_app (goodIn_of _ (by decide +kernel)) ggX3_goOut_X3_requireInside
set_option maxRecDepth 20000 in
theorem ggX3_goOut_X1_setInside : GoodIn wsX3_goOut wsX1_setInside := goodIn_r _ [27, 23, 10, 5, 11, 36, 37, 38, 39, 40, 41, 42] (by decide +kernel) (by decide +kernel)
set_option maxRecDepth 20000 in
theorem gX3_goOut_X1_setInside : GoodIn wsX3_goOut (wsV RX3 138 RX1 yX1_setInside wsX1_setInside) := goodIn_app (goodIn_of _ (by decide +kernel)) ggX3_goOut_X1_setInside
set_option maxRecDepth 20000 in
theorem ggX3_goOut_X1_countInside : GoodIn wsX3_goOut wsX1_countInside := goodIn_r _ [31, 23, 36, 37, 38, 39, 40, 41, 42] (by decide +kernel) (by decide +kernel)
set_option maxRecDepth 20000 in
theorem gX3_goOut_X1_countInside : GoodIn wsX3_goOut (wsV RX3 142 RX1 yX1_countInside wsX1_countInside) := goodIn_app (goodIn_of _ (by decide +kernel)) ggX3_goOut_X1_countInside
theorem dX3_goOut_0 : decode cX3_goOut 0 = .ok (.aload_n 0, 1) := by decide +kernel
theorem dX3_goOut_1 : decode cX3_goOut 1 = .ok (.iload_n 1, 1) := by decide +kernel
theorem dX3_goOut_2 : decode cX3_goOut 2 = .ok (.invokevirtual 124, 3) := by decide +kernel
theorem dX3_goOut_5 : decode cX3_goOut 5 = .ok (.aload_n 0, 1) := by decide +kernel
theorem dX3_goOut_6 : decode cX3_goOut 6 = .ok (.iload_n 1, 1) := by decide +kernel
theorem dX3_goOut_7 : decode cX3_goOut 7 = .ok (.invokevirtual 145, 3) := by decide +kernel
theorem dX3_goOut_10 : decode cX3_goOut 10 = .ok (.aload_n 0, 1) := by decide +kernel
theorem dX3_goOut_11 : decode cX3_goOut 11 = .ok (.getfield 19, 3) := by decide +kernel
theorem dX3_goOut_14 : decode cX3_goOut 14 = .ok (.iload_n 1, 1) := by decide +kernel
theorem dX3_goOut_15 : decode cX3_goOut 15 = .ok (.iconst 0, 1) := by decide +kernel
theorem dX3_goOut_16 : decode cX3_goOut 16 = .ok (.invokevirtual 138, 3) := by decide +kernel
theorem dX3_goOut_19 : decode cX3_goOut 19 = .ok (.aload_n 0, 1) := by decide +kernel
theorem dX3_goOut_20 : decode cX3_goOut 20 = .ok (.getfield 19, 3) := by decide +kernel
theorem dX3_goOut_23 : decode cX3_goOut 23 = .ok (.invokevirtual 142, 3) := by decide +kernel
theorem dX3_goOut_26 : decode cX3_goOut 26 = .ok (.ireturn, 1) := by decide +kernel
set_option maxRecDepth 20000 in
theorem ggX3_doubt_X3_requireAisle : GoodIn wsX3_doubt wsX3_requireAisle := goodIn_ca (goodIn_r _ [6, 7, 8, 9, 10, 5, 11] (by decide +kernel) (by decide +kernel)) (goodIn_sub (fun _ h => List.mem_cons_of_mem _ (List.mem_append_right _ h)) (by decide +kernel))
set_option maxRecDepth 20000 in
theorem gX3_doubt_X3_requireAisle : GoodIn wsX3_doubt (wsV RX3 104 RX3 yX3_requireAisle wsX3_requireAisle) := goodIn_app (goodIn_of _ (by decide +kernel)) ggX3_doubt_X3_requireAisle
set_option maxRecDepth 20000 in
theorem ggX3_doubt_X1_hasDoubt : GoodIn wsX3_doubt wsX1_hasDoubt := goodIn_r _ [16, 17, 10, 5, 11, 26, 27, 28, 29, 30, 31, 32] (by decide +kernel) (by decide +kernel)
set_option maxRecDepth 20000 in
theorem gX3_doubt_X1_hasDoubt : GoodIn wsX3_doubt (wsV RX3 148 RX1 yX1_hasDoubt wsX1_hasDoubt) := goodIn_app (goodIn_of _ (by decide +kernel)) ggX3_doubt_X1_hasDoubt
set_option maxRecDepth 20000 in
theorem ggX3_doubt_X1_setDoubt : GoodIn wsX3_doubt wsX1_setDoubt := goodIn_r _ [21, 17, 10, 5, 11, 26, 27, 28, 29, 30, 31, 32] (by decide +kernel) (by decide +kernel)
set_option maxRecDepth 20000 in
theorem gX3_doubt_X1_setDoubt : GoodIn wsX3_doubt (wsV RX3 151 RX1 yX1_setDoubt wsX1_setDoubt) := goodIn_app (goodIn_of _ (by decide +kernel)) ggX3_doubt_X1_setDoubt
theorem dX3_doubt_0 : decode cX3_doubt 0 = .ok (.aload_n 0, 1) := by decide +kernel
theorem dX3_doubt_1 : decode cX3_doubt 1 = .ok (.iload_n 1, 1) := by decide +kernel
theorem dX3_doubt_2 : decode cX3_doubt 2 = .ok (.invokevirtual 104, 3) := by decide +kernel
theorem dX3_doubt_5 : decode cX3_doubt 5 = .ok (.aload_n 0, 1) := by decide +kernel
theorem dX3_doubt_6 : decode cX3_doubt 6 = .ok (.getfield 19, 3) := by decide +kernel
theorem dX3_doubt_9 : decode cX3_doubt 9 = .ok (.iload_n 1, 1) := by decide +kernel
theorem dX3_doubt_10 : decode cX3_doubt 10 = .ok (.invokevirtual 148, 3) := by decide +kernel
theorem dX3_doubt_13 : decode cX3_doubt 13 = .ok (.istore_n 2, 1) := by decide +kernel
theorem dX3_doubt_14 : decode cX3_doubt 14 = .ok (.aload_n 0, 1) := by decide +kernel
theorem dX3_doubt_15 : decode cX3_doubt 15 = .ok (.getfield 19, 3) := by decide +kernel
theorem dX3_doubt_18 : decode cX3_doubt 18 = .ok (.iload_n 1, 1) := by decide +kernel
theorem dX3_doubt_19 : decode cX3_doubt 19 = .ok (.iconst 1, 1) := by decide +kernel
theorem dX3_doubt_20 : decode cX3_doubt 20 = .ok (.invokevirtual 151, 3) := by decide +kernel
theorem dX3_doubt_23 : decode cX3_doubt 23 = .ok (.iload_n 2, 1) := by decide +kernel
theorem dX3_doubt_24 : decode cX3_doubt 24 = .ok (.ifCond .ne 7, 3) := by decide +kernel
theorem dX3_doubt_27 : decode cX3_doubt 27 = .ok (.iconst 1, 1) := by decide +kernel
theorem dX3_doubt_28 : decode cX3_doubt 28 = .ok (.goto 4, 3) := by decide +kernel
theorem dX3_doubt_31 : decode cX3_doubt 31 = .ok (.iconst 0, 1) := by decide +kernel
theorem dX3_doubt_32 : decode cX3_doubt 32 = .ok (.ireturn, 1) := by decide +kernel
set_option maxRecDepth 20000 in
theorem ggX3_look_X1_openAisle : GoodIn wsX3_look wsX1_openAisle := goodIn_r _ [8, 9, 10, 27, 28, 29, 30, 31, 32, 33] (by decide +kernel) (by decide +kernel)
set_option maxRecDepth 20000 in
theorem gX3_look_X1_openAisle : GoodIn wsX3_look (wsV RX3 118 RX1 yX1_openAisle wsX1_openAisle) := goodIn_app (goodIn_of _ (by decide +kernel)) ggX3_look_X1_openAisle
set_option maxRecDepth 20000 in
theorem ggX3_look_X1_hasDoubt : GoodIn wsX3_look wsX1_hasDoubt := goodIn_r _ [14, 15, 16, 17, 18, 27, 28, 29, 30, 31, 32, 33] (by decide +kernel) (by decide +kernel)
set_option maxRecDepth 20000 in
theorem gX3_look_X1_hasDoubt : GoodIn wsX3_look (wsV RX3 148 RX1 yX1_hasDoubt wsX1_hasDoubt) := goodIn_app (goodIn_of _ (by decide +kernel)) ggX3_look_X1_hasDoubt
set_option maxRecDepth 20000 in
theorem ggX3_look_X1_setDoubt : GoodIn wsX3_look wsX1_setDoubt := goodIn_r _ [22, 15, 16, 17, 18, 27, 28, 29, 30, 31, 32, 33] (by decide +kernel) (by decide +kernel)
set_option maxRecDepth 20000 in
theorem gX3_look_X1_setDoubt : GoodIn wsX3_look (wsV RX3 151 RX1 yX1_setDoubt wsX1_setDoubt) := goodIn_app (goodIn_of _ (by decide +kernel)) ggX3_look_X1_setDoubt
theorem dX3_look_0 : decode cX3_look 0 = .ok (.aload_n 0, 1) := by decide +kernel
theorem dX3_look_1 : decode cX3_look 1 = .ok (.getfield 19, 3) := by decide +kernel
theorem dX3_look_4 : decode cX3_look 4 = .ok (.invokevirtual 118, 3) := by decide +kernel
theorem dX3_look_7 : decode cX3_look 7 = .ok (.istore_n 1, 1) := by decide +kernel
theorem dX3_look_8 : decode cX3_look 8 = .ok (.iload_n 1, 1) := by decide +kernel
theorem dX3_look_9 : decode cX3_look 9 = .ok (.iconst (-1), 1) := by decide +kernel
theorem dX3_look_10 : decode cX3_look 10 = .ok (.if_icmp .ne 13, 3) := by decide +kernel
theorem dX3_look_13 : decode cX3_look 13 = .ok (.new 65, 3) := by decide +kernel
theorem dX3_look_16 : decode cX3_look 16 = .ok (.dup, 1) := by decide +kernel
theorem dX3_look_17 : decode cX3_look 17 = .ok (.ldc 154, 2) := by decide +kernel
theorem dX3_look_19 : decode cX3_look 19 = .ok (.invokespecial 69, 3) := by decide +kernel
theorem dX3_look_22 : decode cX3_look 22 = .ok (.athrow, 1) := by decide +kernel
theorem dX3_look_23 : decode cX3_look 23 = .ok (.aload_n 0, 1) := by decide +kernel
theorem dX3_look_24 : decode cX3_look 24 = .ok (.getfield 19, 3) := by decide +kernel
theorem dX3_look_27 : decode cX3_look 27 = .ok (.iload_n 1, 1) := by decide +kernel
theorem dX3_look_28 : decode cX3_look 28 = .ok (.invokevirtual 148, 3) := by decide +kernel
theorem dX3_look_31 : decode cX3_look 31 = .ok (.istore_n 2, 1) := by decide +kernel
theorem dX3_look_32 : decode cX3_look 32 = .ok (.aload_n 0, 1) := by decide +kernel
theorem dX3_look_33 : decode cX3_look 33 = .ok (.getfield 19, 3) := by decide +kernel
theorem dX3_look_36 : decode cX3_look 36 = .ok (.iload_n 1, 1) := by decide +kernel
theorem dX3_look_37 : decode cX3_look 37 = .ok (.iconst 0, 1) := by decide +kernel
theorem dX3_look_38 : decode cX3_look 38 = .ok (.invokevirtual 151, 3) := by decide +kernel
theorem dX3_look_41 : decode cX3_look 41 = .ok (.iload_n 2, 1) := by decide +kernel
theorem dX3_look_42 : decode cX3_look 42 = .ok (.ireturn, 1) := by decide +kernel
set_option maxRecDepth 20000 in
theorem ggX3_stall_X1_changeStall : GoodIn wsX3_stall wsX1_changeStall := goodIn_r _ [6, 7, 12, 13, 14, 15, 16, 17, 18] (by decide +kernel) (by decide +kernel)
set_option maxRecDepth 20000 in
theorem gX3_stall_X1_changeStall : GoodIn wsX3_stall (wsV RX3 156 RX1 yX1_changeStall wsX1_changeStall) := goodIn_app (goodIn_of _ (by decide +kernel)) ggX3_stall_X1_changeStall
theorem dX3_stall_0 : decode cX3_stall 0 = .ok (.aload_n 0, 1) := by decide +kernel
theorem dX3_stall_1 : decode cX3_stall 1 = .ok (.getfield 19, 3) := by decide +kernel
theorem dX3_stall_4 : decode cX3_stall 4 = .ok (.iload_n 1, 1) := by decide +kernel
theorem dX3_stall_5 : decode cX3_stall 5 = .ok (.invokevirtual 156, 3) := by decide +kernel
theorem dX3_stall_8 : decode cX3_stall 8 = .ok (.ireturn, 1) := by decide +kernel
set_option maxRecDepth 20000 in
theorem ggX3_smoke_X1_changeSmoke : GoodIn wsX3_smoke wsX1_changeSmoke := goodIn_r _ [6, 7, 21, 22, 23, 24, 25, 26, 27] (by decide +kernel) (by decide +kernel)
set_option maxRecDepth 20000 in
theorem gX3_smoke_X1_changeSmoke : GoodIn wsX3_smoke (wsV RX3 160 RX1 yX1_changeSmoke wsX1_changeSmoke) := goodIn_app (goodIn_of _ (by decide +kernel)) ggX3_smoke_X1_changeSmoke
set_option maxRecDepth 20000 in
theorem ggX3_smoke_X1_sendAllOut : GoodIn wsX3_smoke wsX1_sendAllOut := goodIn_r _ [11, 12, 13, 14, 15, 5, 16, 21, 22, 23, 24, 25, 26, 27] (by decide +kernel) (by decide +kernel)
set_option maxRecDepth 20000 in
theorem gX3_smoke_X1_sendAllOut : GoodIn wsX3_smoke (wsV RX3 164 RX1 yX1_sendAllOut wsX1_sendAllOut) := goodIn_app (goodIn_of _ (by decide +kernel)) ggX3_smoke_X1_sendAllOut
theorem dX3_smoke_0 : decode cX3_smoke 0 = .ok (.aload_n 0, 1) := by decide +kernel
theorem dX3_smoke_1 : decode cX3_smoke 1 = .ok (.getfield 19, 3) := by decide +kernel
theorem dX3_smoke_4 : decode cX3_smoke 4 = .ok (.iload_n 1, 1) := by decide +kernel
theorem dX3_smoke_5 : decode cX3_smoke 5 = .ok (.invokevirtual 160, 3) := by decide +kernel
theorem dX3_smoke_8 : decode cX3_smoke 8 = .ok (.iload_n 1, 1) := by decide +kernel
theorem dX3_smoke_9 : decode cX3_smoke 9 = .ok (.ifCond .eq 13, 3) := by decide +kernel
theorem dX3_smoke_12 : decode cX3_smoke 12 = .ok (.aload_n 0, 1) := by decide +kernel
theorem dX3_smoke_13 : decode cX3_smoke 13 = .ok (.getfield 19, 3) := by decide +kernel
theorem dX3_smoke_16 : decode cX3_smoke 16 = .ok (.invokevirtual 164, 3) := by decide +kernel
theorem dX3_smoke_19 : decode cX3_smoke 19 = .ok (.goto 4, 3) := by decide +kernel
theorem dX3_smoke_22 : decode cX3_smoke 22 = .ok (.iconst 0, 1) := by decide +kernel
theorem dX3_smoke_23 : decode cX3_smoke 23 = .ok (.ireturn, 1) := by decide +kernel
set_option maxRecDepth 20000 in
theorem ggX3_pass_X1_moveFor : GoodIn wsX3_pass wsX1_moveFor := goodIn_r _ [11, 12, 13, 14, 15, 16, 17, 18, 19, 20, 10, 21, 22, 23, 24, 25, 26, 27, 28, 29, 30, 31, 32, 33, 34, 39, 40, 41, 42, 43, 44, 45] (by decide +kernel) (by decide +kernel)
set_option maxRecDepth 20000 in
theorem gX3_pass_X1_moveFor : GoodIn wsX3_pass (wsV RX3 171 RX1 yX1_moveFor wsX1_moveFor) := goodIn_app (goodIn_of _ (by decide +kernel)) ggX3_pass_X1_moveFor
theorem dX3_pass_0 : decode cX3_pass 0 = .ok (.iload_n 1, 1) := by decide +kernel
theorem dX3_pass_1 : decode cX3_pass 1 = .ok (.iconst 1, 1) := by decide +kernel
theorem dX3_pass_2 : decode cX3_pass 2 = .ok (.if_icmp .lt 9, 3) := by decide +kernel
theorem dX3_pass_5 : decode cX3_pass 5 = .ok (.iload_n 1, 1) := by decide +kernel
theorem dX3_pass_6 : decode cX3_pass 6 = .ok (.bipush 100, 2) := by decide +kernel
theorem dX3_pass_8 : decode cX3_pass 8 = .ok (.if_icmp .le 13, 3) := by decide +kernel
theorem dX3_pass_11 : decode cX3_pass 11 = .ok (.new 42, 3) := by decide +kernel
theorem dX3_pass_14 : decode cX3_pass 14 = .ok (.dup, 1) := by decide +kernel
theorem dX3_pass_15 : decode cX3_pass 15 = .ok (.ldc 167, 2) := by decide +kernel
theorem dX3_pass_17 : decode cX3_pass 17 = .ok (.invokespecial 46, 3) := by decide +kernel
theorem dX3_pass_20 : decode cX3_pass 20 = .ok (.athrow, 1) := by decide +kernel
theorem dX3_pass_21 : decode cX3_pass 21 = .ok (.aload_n 0, 1) := by decide +kernel
theorem dX3_pass_22 : decode cX3_pass 22 = .ok (.getfield 30, 3) := by decide +kernel
theorem dX3_pass_25 : decode cX3_pass 25 = .ok (.iload_n 1, 1) := by decide +kernel
theorem dX3_pass_26 : decode cX3_pass 26 = .ok (.iadd, 1) := by decide +kernel
theorem dX3_pass_27 : decode cX3_pass 27 = .ok (.sipush 10000, 3) := by decide +kernel
theorem dX3_pass_30 : decode cX3_pass 30 = .ok (.if_icmp .le 13, 3) := by decide +kernel
theorem dX3_pass_33 : decode cX3_pass 33 = .ok (.new 65, 3) := by decide +kernel
theorem dX3_pass_36 : decode cX3_pass 36 = .ok (.dup, 1) := by decide +kernel
theorem dX3_pass_37 : decode cX3_pass 37 = .ok (.ldc 169, 2) := by decide +kernel
theorem dX3_pass_39 : decode cX3_pass 39 = .ok (.invokespecial 69, 3) := by decide +kernel
theorem dX3_pass_42 : decode cX3_pass 42 = .ok (.athrow, 1) := by decide +kernel
theorem dX3_pass_43 : decode cX3_pass 43 = .ok (.aload_n 0, 1) := by decide +kernel
theorem dX3_pass_44 : decode cX3_pass 44 = .ok (.dup, 1) := by decide +kernel
theorem dX3_pass_45 : decode cX3_pass 45 = .ok (.getfield 30, 3) := by decide +kernel
theorem dX3_pass_48 : decode cX3_pass 48 = .ok (.iload_n 1, 1) := by decide +kernel
theorem dX3_pass_49 : decode cX3_pass 49 = .ok (.iadd, 1) := by decide +kernel
theorem dX3_pass_50 : decode cX3_pass 50 = .ok (.putfield 30, 3) := by decide +kernel
theorem dX3_pass_53 : decode cX3_pass 53 = .ok (.aload_n 0, 1) := by decide +kernel
theorem dX3_pass_54 : decode cX3_pass 54 = .ok (.getfield 19, 3) := by decide +kernel
theorem dX3_pass_57 : decode cX3_pass 57 = .ok (.iload_n 1, 1) := by decide +kernel
theorem dX3_pass_58 : decode cX3_pass 58 = .ok (.invokevirtual 171, 3) := by decide +kernel
theorem dX3_pass_61 : decode cX3_pass 61 = .ok (.aload_n 0, 1) := by decide +kernel
theorem dX3_pass_62 : decode cX3_pass 62 = .ok (.getfield 30, 3) := by decide +kernel
theorem dX3_pass_65 : decode cX3_pass 65 = .ok (.ireturn, 1) := by decide +kernel
set_option maxRecDepth 20000 in
theorem ggX3_order_X3_requireBox : GoodIn wsX3_order wsX3_requireBox := goodIn_ca (goodIn_r _ [10, 11, 12, 13, 14, 15, 16, 17, 18, 19, 20, 9, 21, 40, 41, 42, 43, 44, 45, 46, 47, 48, 49] (by decide +kernel) (by decide +kernel)) (goodIn_sub (fun _ h => List.mem_cons_of_mem _ (List.mem_append_right _ h)) (by decide +kernel))
set_option maxRecDepth 20000 in
theorem gX3_order_X3_requireBox : GoodIn wsX3_order (wsV RX3 74 RX3 yX3_requireBox wsX3_requireBox) := goodIn_app (goodIn_of _ (by decide +kernel)) ggX3_order_X3_requireBox
set_option maxRecDepth 20000 in
theorem ggX3_order_X0_isOpenFor : GoodIn wsX3_order wsX0_isOpenFor := goodIn_r _ [26, 27, 28, 29, 50, 51, 52, 53, 54] (by decide +kernel) (by decide +kernel)
set_option maxRecDepth 20000 in
theorem gX3_order_X0_isOpenFor : GoodIn wsX3_order (wsV RX3 176 RX0 yX0_isOpenFor wsX0_isOpenFor) := goodIn_app (goodIn_of _ (by decide +kernel)) ggX3_order_X0_isOpenFor
set_option maxRecDepth 20000 in
theorem ggX3_order_X0_isFull : GoodIn wsX3_order wsX0_isFull := goodIn_r _ [33, 27, 50, 51, 52, 53, 54] (by decide +kernel) (by decide +kernel)
set_option maxRecDepth 20000 in
theorem gX3_order_X0_isFull : GoodIn wsX3_order (wsV RX3 181 RX0 yX0_isFull wsX0_isFull) := goodIn_app (goodIn_of _ (by decide +kernel)) ggX3_order_X0_isFull
set_option maxRecDepth 20000 in
theorem ggX3_order_X0_enter : GoodIn wsX3_order wsX0_enter := goodIn_r _ [37, 27, 29, 38, 39, 31, 32, 25, 33, 50, 51, 52, 53, 54] (by decide +kernel) (by decide +kernel)
set_option maxRecDepth 20000 in
theorem gX3_order_X0_enter : GoodIn wsX3_order (wsV RX3 184 RX0 yX0_enter wsX0_enter) := goodIn_app (goodIn_of _ (by decide +kernel)) ggX3_order_X0_enter
theorem dX3_order_0 : decode cX3_order 0 = .ok (.aload_n 0, 1) := by decide +kernel
theorem dX3_order_1 : decode cX3_order 1 = .ok (.iload_n 1, 1) := by decide +kernel
theorem dX3_order_2 : decode cX3_order 2 = .ok (.invokevirtual 74, 3) := by decide +kernel
theorem dX3_order_5 : decode cX3_order 5 = .ok (.iload_n 2, 1) := by decide +kernel
theorem dX3_order_6 : decode cX3_order 6 = .ok (.ifCond .lt 10, 3) := by decide +kernel
theorem dX3_order_9 : decode cX3_order 9 = .ok (.iload_n 2, 1) := by decide +kernel
theorem dX3_order_10 : decode cX3_order 10 = .ok (.sipush 10000, 3) := by decide +kernel
theorem dX3_order_13 : decode cX3_order 13 = .ok (.if_icmp .le 13, 3) := by decide +kernel
theorem dX3_order_16 : decode cX3_order 16 = .ok (.new 42, 3) := by decide +kernel
theorem dX3_order_19 : decode cX3_order 19 = .ok (.dup, 1) := by decide +kernel
theorem dX3_order_20 : decode cX3_order 20 = .ok (.ldc 174, 2) := by decide +kernel
theorem dX3_order_22 : decode cX3_order 22 = .ok (.invokespecial 46, 3) := by decide +kernel
theorem dX3_order_25 : decode cX3_order 25 = .ok (.athrow, 1) := by decide +kernel
theorem dX3_order_26 : decode cX3_order 26 = .ok (.aload_n 0, 1) := by decide +kernel
theorem dX3_order_27 : decode cX3_order 27 = .ok (.getfield 26, 3) := by decide +kernel
theorem dX3_order_30 : decode cX3_order 30 = .ok (.iload_n 1, 1) := by decide +kernel
theorem dX3_order_31 : decode cX3_order 31 = .ok (.invokevirtual 176, 3) := by decide +kernel
theorem dX3_order_34 : decode cX3_order 34 = .ok (.ifCond .eq 13, 3) := by decide +kernel
theorem dX3_order_37 : decode cX3_order 37 = .ok (.new 65, 3) := by decide +kernel
theorem dX3_order_40 : decode cX3_order 40 = .ok (.dup, 1) := by decide +kernel
theorem dX3_order_41 : decode cX3_order 41 = .ok (.ldc 179, 2) := by decide +kernel
theorem dX3_order_43 : decode cX3_order 43 = .ok (.invokespecial 69, 3) := by decide +kernel
theorem dX3_order_46 : decode cX3_order 46 = .ok (.athrow, 1) := by decide +kernel
theorem dX3_order_47 : decode cX3_order 47 = .ok (.aload_n 0, 1) := by decide +kernel
theorem dX3_order_48 : decode cX3_order 48 = .ok (.getfield 26, 3) := by decide +kernel
theorem dX3_order_51 : decode cX3_order 51 = .ok (.invokevirtual 181, 3) := by decide +kernel
theorem dX3_order_54 : decode cX3_order 54 = .ok (.ifCond .eq 13, 3) := by decide +kernel
theorem dX3_order_57 : decode cX3_order 57 = .ok (.new 65, 3) := by decide +kernel
theorem dX3_order_60 : decode cX3_order 60 = .ok (.dup, 1) := by decide +kernel
theorem dX3_order_61 : decode cX3_order 61 = .ok (.ldc 182, 2) := by decide +kernel
theorem dX3_order_63 : decode cX3_order 63 = .ok (.invokespecial 69, 3) := by decide +kernel
theorem dX3_order_66 : decode cX3_order 66 = .ok (.athrow, 1) := by decide +kernel
theorem dX3_order_67 : decode cX3_order 67 = .ok (.aload_n 0, 1) := by decide +kernel
theorem dX3_order_68 : decode cX3_order 68 = .ok (.getfield 26, 3) := by decide +kernel
theorem dX3_order_71 : decode cX3_order 71 = .ok (.iload_n 1, 1) := by decide +kernel
theorem dX3_order_72 : decode cX3_order 72 = .ok (.iload_n 2, 1) := by decide +kernel
theorem dX3_order_73 : decode cX3_order 73 = .ok (.invokevirtual 184, 3) := by decide +kernel
theorem dX3_order_76 : decode cX3_order 76 = .ok (.ireturn, 1) := by decide +kernel
set_option maxRecDepth 20000 in
theorem ggX3_nextAisle_X0_earliest : GoodIn wsX3_nextAisle wsX0_earliest := goodIn_r _ [7, 8, 9, 10, 11, 12, 13, 14, 15, 16, 17, 18, 19, 20, 21, 22, 23, 24, 25, 26, 27, 28, 29, 30, 31, 32, 33, 34, 35, 36, 37, 47, 48, 49, 50, 51, 52, 53, 54, 55, 56, 57] (by decide +kernel) (by decide +kernel)
set_option maxRecDepth 20000 in
theorem gX3_nextAisle_X0_earliest : GoodIn wsX3_nextAisle (wsV RX3 187 RX0 yX0_earliest wsX0_earliest) := goodIn_app (goodIn_of _ (by decide +kernel)) ggX3_nextAisle_X0_earliest
set_option maxRecDepth 20000 in
theorem ggX3_nextAisle_X0_boxOf : GoodIn wsX3_nextAisle wsX0_boxOf := goodIn_r _ [41, 8, 9, 27, 28, 29, 47, 48, 49, 50, 51] (by decide +kernel) (by decide +kernel)
set_option maxRecDepth 20000 in
theorem gX3_nextAisle_X0_boxOf : GoodIn wsX3_nextAisle (wsV RX3 191 RX0 yX0_boxOf wsX0_boxOf) := goodIn_app (goodIn_of _ (by decide +kernel)) ggX3_nextAisle_X0_boxOf
set_option maxRecDepth 20000 in
theorem ggX3_nextAisle_X2_aisleOfBox : GoodIn wsX3_nextAisle wsX2_aisleOfBox := goodIn_r _ [16, 17, 18, 19, 15, 20, 21, 22, 23, 24, 25, 26, 27, 28, 29, 30, 31, 32, 33, 34, 35, 36, 37, 52, 53, 54, 55, 56, 57] (by decide +kernel) (by decide +kernel)
set_option maxRecDepth 20000 in
theorem gX3_nextAisle_X2_aisleOfBox : GoodIn wsX3_nextAisle (wsV RX3 194 RX2 yX2_aisleOfBox wsX2_aisleOfBox) := goodIn_app (goodIn_of _ (by decide +kernel)) ggX3_nextAisle_X2_aisleOfBox
theorem dX3_nextAisle_0 : decode cX3_nextAisle 0 = .ok (.aload_n 0, 1) := by decide +kernel
theorem dX3_nextAisle_1 : decode cX3_nextAisle 1 = .ok (.getfield 26, 3) := by decide +kernel
theorem dX3_nextAisle_4 : decode cX3_nextAisle 4 = .ok (.aload_n 0, 1) := by decide +kernel
theorem dX3_nextAisle_5 : decode cX3_nextAisle 5 = .ok (.getfield 12, 3) := by decide +kernel
theorem dX3_nextAisle_8 : decode cX3_nextAisle 8 = .ok (.bipush (-2), 2) := by decide +kernel
theorem dX3_nextAisle_10 : decode cX3_nextAisle 10 = .ok (.invokevirtual 187, 3) := by decide +kernel
theorem dX3_nextAisle_13 : decode cX3_nextAisle 13 = .ok (.istore_n 1, 1) := by decide +kernel
theorem dX3_nextAisle_14 : decode cX3_nextAisle 14 = .ok (.aload_n 0, 1) := by decide +kernel
theorem dX3_nextAisle_15 : decode cX3_nextAisle 15 = .ok (.getfield 12, 3) := by decide +kernel
theorem dX3_nextAisle_18 : decode cX3_nextAisle 18 = .ok (.aload_n 0, 1) := by decide +kernel
theorem dX3_nextAisle_19 : decode cX3_nextAisle 19 = .ok (.getfield 26, 3) := by decide +kernel
theorem dX3_nextAisle_22 : decode cX3_nextAisle 22 = .ok (.iload_n 1, 1) := by decide +kernel
theorem dX3_nextAisle_23 : decode cX3_nextAisle 23 = .ok (.invokevirtual 191, 3) := by decide +kernel
theorem dX3_nextAisle_26 : decode cX3_nextAisle 26 = .ok (.invokevirtual 194, 3) := by decide +kernel
theorem dX3_nextAisle_29 : decode cX3_nextAisle 29 = .ok (.ireturn, 1) := by decide +kernel
set_option maxRecDepth 20000 in
theorem ggX3_fetch_X3_requirePerson : GoodIn wsX3_fetch wsX3_requirePerson := goodIn_ca (goodIn_r _ [11, 12, 13, 14, 15, 10, 16] (by decide +kernel) (by decide +kernel)) (goodIn_sub (fun _ h => List.mem_cons_of_mem _ (List.mem_append_right _ h)) (by decide +kernel))
set_option maxRecDepth 20000 in
theorem gX3_fetch_X3_requirePerson : GoodIn wsX3_fetch (wsV RX3 124 RX3 yX3_requirePerson wsX3_requirePerson) := goodIn_app (goodIn_of _ (by decide +kernel)) ggX3_fetch_X3_requirePerson
set_option maxRecDepth 20000 in
theorem ggX3_fetch_X3_requireInside : GoodIn wsX3_fetch wsX3_requireInside := goodIn_ca (goodIn_r _ [20, 1, 2, 5, 21, 22, 23, 24, 25, 26, 15, 10, 16, 78, 79, 80, 81, 82, 83, 84, 85, 86, 87, 88] (by decide +kernel) (by decide +kernel)) (goodIn_sub (fun _ h => List.mem_cons_of_mem _ (List.mem_append_left _ (List.mem_append_right _ h))) (by decide +kernel))
set_option maxRecDepth 20000 in
theorem gX3_fetch_X3_requireInside : GoodIn wsX3_fetch (wsV RX3 145 RX3 yX3_requireInside wsX3_requireInside) := goodIn_app (goodIn_of _ (by decide +kernel)) ggX3_fetch_X3_requireInside
set_option maxRecDepth 20000 in
theorem ggX3_fetch_X1_openAisle : GoodIn wsX3_fetch wsX1_openAisle := goodIn_r _ [30, 31, 32, 82, 83, 84, 85, 86, 87, 88] (by decide +kernel) (by decide +kernel)
set_option maxRecDepth 20000 in
theorem gX3_fetch_X1_openAisle : GoodIn wsX3_fetch (wsV RX3 118 RX1 yX1_openAisle wsX1_openAisle) := goodIn_app (goodIn_of _ (by decide +kernel)) ggX3_fetch_X1_openAisle
set_option maxRecDepth 20000 in
theorem ggX3_fetch_X0_earliest : GoodIn wsX3_fetch wsX0_earliest := goodIn_r _ [37, 38, 39, 40, 41, 42, 43, 44, 45, 46, 47, 48, 49, 50, 51, 52, 53, 54, 55, 56, 15, 10, 16, 57, 58, 59, 60, 61, 62, 63, 64, 89, 90, 91, 92, 93, 94, 95, 96, 97, 98, 99] (by decide +kernel) (by decide +kernel)
set_option maxRecDepth 20000 in
theorem gX3_fetch_X0_earliest : GoodIn wsX3_fetch (wsV RX3 187 RX0 yX0_earliest wsX0_earliest) := goodIn_app (goodIn_of _ (by decide +kernel)) ggX3_fetch_X0_earliest
set_option maxRecDepth 20000 in
theorem ggX3_fetch_X0_finish : GoodIn wsX3_fetch wsX0_finish := goodIn_r _ [68, 38, 40, 41, 69, 15, 10, 16, 89, 90, 91, 92, 93] (by decide +kernel) (by decide +kernel)
set_option maxRecDepth 20000 in
theorem gX3_fetch_X0_finish : GoodIn wsX3_fetch (wsV RX3 199 RX0 yX0_finish wsX0_finish) := goodIn_app (goodIn_of _ (by decide +kernel)) ggX3_fetch_X0_finish
set_option maxRecDepth 20000 in
theorem ggX3_fetch_X0_boxOf : GoodIn wsX3_fetch wsX0_boxOf := goodIn_r _ [73, 38, 39, 15, 10, 16, 89, 90, 91, 92, 93] (by decide +kernel) (by decide +kernel)
set_option maxRecDepth 20000 in
theorem gX3_fetch_X0_boxOf : GoodIn wsX3_fetch (wsV RX3 191 RX0 yX0_boxOf wsX0_boxOf) := goodIn_app (goodIn_of _ (by decide +kernel)) ggX3_fetch_X0_boxOf
set_option maxRecDepth 20000 in
theorem ggX3_fetch_X2_put : GoodIn wsX3_fetch wsX2_put := goodIn_r _ [77, 51, 52, 53, 54, 45, 55, 56, 15, 10, 16, 94, 95, 96, 97, 98, 99] (by decide +kernel) (by decide +kernel)
set_option maxRecDepth 20000 in
theorem gX3_fetch_X2_put : GoodIn wsX3_fetch (wsV RX3 85 RX2 yX2_put wsX2_put) := goodIn_app (goodIn_of _ (by decide +kernel)) ggX3_fetch_X2_put
theorem dX3_fetch_0 : decode cX3_fetch 0 = .ok (.aload_n 0, 1) := by decide +kernel
theorem dX3_fetch_1 : decode cX3_fetch 1 = .ok (.iload_n 1, 1) := by decide +kernel
theorem dX3_fetch_2 : decode cX3_fetch 2 = .ok (.invokevirtual 124, 3) := by decide +kernel
theorem dX3_fetch_5 : decode cX3_fetch 5 = .ok (.aload_n 0, 1) := by decide +kernel
theorem dX3_fetch_6 : decode cX3_fetch 6 = .ok (.iload_n 1, 1) := by decide +kernel
theorem dX3_fetch_7 : decode cX3_fetch 7 = .ok (.invokevirtual 145, 3) := by decide +kernel
theorem dX3_fetch_10 : decode cX3_fetch 10 = .ok (.aload_n 0, 1) := by decide +kernel
theorem dX3_fetch_11 : decode cX3_fetch 11 = .ok (.getfield 26, 3) := by decide +kernel
theorem dX3_fetch_14 : decode cX3_fetch 14 = .ok (.aload_n 0, 1) := by decide +kernel
theorem dX3_fetch_15 : decode cX3_fetch 15 = .ok (.getfield 12, 3) := by decide +kernel
theorem dX3_fetch_18 : decode cX3_fetch 18 = .ok (.aload_n 0, 1) := by decide +kernel
theorem dX3_fetch_19 : decode cX3_fetch 19 = .ok (.getfield 19, 3) := by decide +kernel
theorem dX3_fetch_22 : decode cX3_fetch 22 = .ok (.invokevirtual 118, 3) := by decide +kernel
theorem dX3_fetch_25 : decode cX3_fetch 25 = .ok (.invokevirtual 187, 3) := by decide +kernel
theorem dX3_fetch_28 : decode cX3_fetch 28 = .ok (.istore_n 2, 1) := by decide +kernel
theorem dX3_fetch_29 : decode cX3_fetch 29 = .ok (.iload_n 2, 1) := by decide +kernel
theorem dX3_fetch_30 : decode cX3_fetch 30 = .ok (.iconst (-1), 1) := by decide +kernel
theorem dX3_fetch_31 : decode cX3_fetch 31 = .ok (.if_icmp .ne 13, 3) := by decide +kernel
theorem dX3_fetch_34 : decode cX3_fetch 34 = .ok (.new 65, 3) := by decide +kernel
theorem dX3_fetch_37 : decode cX3_fetch 37 = .ok (.dup, 1) := by decide +kernel
theorem dX3_fetch_38 : decode cX3_fetch 38 = .ok (.ldc 197, 2) := by decide +kernel
theorem dX3_fetch_40 : decode cX3_fetch 40 = .ok (.invokespecial 69, 3) := by decide +kernel
theorem dX3_fetch_43 : decode cX3_fetch 43 = .ok (.athrow, 1) := by decide +kernel
theorem dX3_fetch_44 : decode cX3_fetch 44 = .ok (.aload_n 0, 1) := by decide +kernel
theorem dX3_fetch_45 : decode cX3_fetch 45 = .ok (.getfield 26, 3) := by decide +kernel
theorem dX3_fetch_48 : decode cX3_fetch 48 = .ok (.iload_n 2, 1) := by decide +kernel
theorem dX3_fetch_49 : decode cX3_fetch 49 = .ok (.aload_n 0, 1) := by decide +kernel
theorem dX3_fetch_50 : decode cX3_fetch 50 = .ok (.getfield 30, 3) := by decide +kernel
theorem dX3_fetch_53 : decode cX3_fetch 53 = .ok (.invokevirtual 199, 3) := by decide +kernel
theorem dX3_fetch_56 : decode cX3_fetch 56 = .ok (.aload_n 0, 1) := by decide +kernel
theorem dX3_fetch_57 : decode cX3_fetch 57 = .ok (.getfield 12, 3) := by decide +kernel
theorem dX3_fetch_60 : decode cX3_fetch 60 = .ok (.aload_n 0, 1) := by decide +kernel
theorem dX3_fetch_61 : decode cX3_fetch 61 = .ok (.getfield 26, 3) := by decide +kernel
theorem dX3_fetch_64 : decode cX3_fetch 64 = .ok (.iload_n 2, 1) := by decide +kernel
theorem dX3_fetch_65 : decode cX3_fetch 65 = .ok (.invokevirtual 191, 3) := by decide +kernel
theorem dX3_fetch_68 : decode cX3_fetch 68 = .ok (.iconst (-1), 1) := by decide +kernel
theorem dX3_fetch_69 : decode cX3_fetch 69 = .ok (.invokevirtual 85, 3) := by decide +kernel
theorem dX3_fetch_72 : decode cX3_fetch 72 = .ok (.iload_n 2, 1) := by decide +kernel
theorem dX3_fetch_73 : decode cX3_fetch 73 = .ok (.ireturn, 1) := by decide +kernel
set_option maxRecDepth 20000 in
theorem ggX3_waiting_X0_countOpen : GoodIn wsX3_waiting wsX0_countOpen := goodIn_r _ [6, 7, 8, 13, 14, 15, 16, 17] (by decide +kernel) (by decide +kernel)
set_option maxRecDepth 20000 in
theorem gX3_waiting_X0_countOpen : GoodIn wsX3_waiting (wsV RX3 212 RX0 yX0_countOpen wsX0_countOpen) := goodIn_app (goodIn_of _ (by decide +kernel)) ggX3_waiting_X0_countOpen
theorem dX3_waiting_0 : decode cX3_waiting 0 = .ok (.aload_n 0, 1) := by decide +kernel
theorem dX3_waiting_1 : decode cX3_waiting 1 = .ok (.getfield 26, 3) := by decide +kernel
theorem dX3_waiting_4 : decode cX3_waiting 4 = .ok (.invokevirtual 212, 3) := by decide +kernel
theorem dX3_waiting_7 : decode cX3_waiting 7 = .ok (.ireturn, 1) := by decide +kernel
set_option maxRecDepth 20000 in
theorem ggX3_late_X0_countLate : GoodIn wsX3_late wsX0_countLate := goodIn_r _ [6, 7, 12, 13, 14, 15, 16] (by decide +kernel) (by decide +kernel)
set_option maxRecDepth 20000 in
theorem gX3_late_X0_countLate : GoodIn wsX3_late (wsV RX3 215 RX0 yX0_countLate wsX0_countLate) := goodIn_app (goodIn_of _ (by decide +kernel)) ggX3_late_X0_countLate
theorem dX3_late_0 : decode cX3_late 0 = .ok (.aload_n 0, 1) := by decide +kernel
theorem dX3_late_1 : decode cX3_late 1 = .ok (.getfield 26, 3) := by decide +kernel
theorem dX3_late_4 : decode cX3_late 4 = .ok (.invokevirtual 215, 3) := by decide +kernel
theorem dX3_late_7 : decode cX3_late 7 = .ok (.ireturn, 1) := by decide +kernel
set_option maxRecDepth 20000 in
theorem ggX3_requireShelf_X3_isBelow : GoodIn wsX3_requireShelf wsX3_isBelow := goodIn_r _ [6] (by decide +kernel) (by decide +kernel)
set_option maxRecDepth 20000 in
theorem gX3_requireShelf_X3_isBelow : GoodIn wsX3_requireShelf (va_wsS RX3 38 yX3_isBelow wsX3_isBelow) := goodIn_app (goodIn_of _ (by decide +kernel)) ggX3_requireShelf_X3_isBelow
theorem dX3_requireShelf_0 : decode cX3_requireShelf 0 = .ok (.iload_n 1, 1) := by decide +kernel
theorem dX3_requireShelf_1 : decode cX3_requireShelf 1 = .ok (.bipush 6, 2) := by decide +kernel
theorem dX3_requireShelf_3 : decode cX3_requireShelf 3 = .ok (.invokestatic 38, 3) := by decide +kernel
theorem dX3_requireShelf_6 : decode cX3_requireShelf 6 = .ok (.ifCond .ne 13, 3) := by decide +kernel
theorem dX3_requireShelf_9 : decode cX3_requireShelf 9 = .ok (.new 218, 3) := by decide +kernel
theorem dX3_requireShelf_12 : decode cX3_requireShelf 12 = .ok (.dup, 1) := by decide +kernel
theorem dX3_requireShelf_13 : decode cX3_requireShelf 13 = .ok (.ldc 220, 2) := by decide +kernel
theorem dX3_requireShelf_15 : decode cX3_requireShelf 15 = .ok (.invokespecial 222, 3) := by decide +kernel
theorem dX3_requireShelf_18 : decode cX3_requireShelf 18 = .ok (.athrow, 1) := by decide +kernel
theorem dX3_requireShelf_19 : decode cX3_requireShelf 19 = .ok (.return_, 1) := by decide +kernel
set_option maxRecDepth 20000 in
theorem ggX3_requireAisle_X3_isBelow : GoodIn wsX3_requireAisle wsX3_isBelow := goodIn_r _ [6] (by decide +kernel) (by decide +kernel)
set_option maxRecDepth 20000 in
theorem gX3_requireAisle_X3_isBelow : GoodIn wsX3_requireAisle (va_wsS RX3 38 yX3_isBelow wsX3_isBelow) := goodIn_app (goodIn_of _ (by decide +kernel)) ggX3_requireAisle_X3_isBelow
theorem dX3_requireAisle_0 : decode cX3_requireAisle 0 = .ok (.iload_n 1, 1) := by decide +kernel
theorem dX3_requireAisle_1 : decode cX3_requireAisle 1 = .ok (.bipush 7, 2) := by decide +kernel
theorem dX3_requireAisle_3 : decode cX3_requireAisle 3 = .ok (.invokestatic 38, 3) := by decide +kernel
theorem dX3_requireAisle_6 : decode cX3_requireAisle 6 = .ok (.ifCond .ne 13, 3) := by decide +kernel
theorem dX3_requireAisle_9 : decode cX3_requireAisle 9 = .ok (.new 218, 3) := by decide +kernel
theorem dX3_requireAisle_12 : decode cX3_requireAisle 12 = .ok (.dup, 1) := by decide +kernel
theorem dX3_requireAisle_13 : decode cX3_requireAisle 13 = .ok (.ldc 223, 2) := by decide +kernel
theorem dX3_requireAisle_15 : decode cX3_requireAisle 15 = .ok (.invokespecial 222, 3) := by decide +kernel
theorem dX3_requireAisle_18 : decode cX3_requireAisle 18 = .ok (.athrow, 1) := by decide +kernel
theorem dX3_requireAisle_19 : decode cX3_requireAisle 19 = .ok (.return_, 1) := by decide +kernel
set_option maxRecDepth 20000 in
theorem ggX3_requireSpot_X3_isSpot : GoodIn wsX3_requireSpot wsX3_isSpot := goodIn_r _ [6, 7, 8, 5, 9, 10, 11, 12, 13, 14, 15] (by decide +kernel) (by decide +kernel)
set_option maxRecDepth 20000 in
theorem gX3_requireSpot_X3_isSpot : GoodIn wsX3_requireSpot (va_wsS RX3 225 yX3_isSpot wsX3_isSpot) := goodIn_app (goodIn_of _ (by decide +kernel)) ggX3_requireSpot_X3_isSpot
theorem dX3_requireSpot_0 : decode cX3_requireSpot 0 = .ok (.iload_n 1, 1) := by decide +kernel
theorem dX3_requireSpot_1 : decode cX3_requireSpot 1 = .ok (.invokestatic 225, 3) := by decide +kernel
theorem dX3_requireSpot_4 : decode cX3_requireSpot 4 = .ok (.ifCond .ne 13, 3) := by decide +kernel
theorem dX3_requireSpot_7 : decode cX3_requireSpot 7 = .ok (.new 218, 3) := by decide +kernel
theorem dX3_requireSpot_10 : decode cX3_requireSpot 10 = .ok (.dup, 1) := by decide +kernel
theorem dX3_requireSpot_11 : decode cX3_requireSpot 11 = .ok (.ldc 228, 2) := by decide +kernel
theorem dX3_requireSpot_13 : decode cX3_requireSpot 13 = .ok (.invokespecial 222, 3) := by decide +kernel
theorem dX3_requireSpot_16 : decode cX3_requireSpot 16 = .ok (.athrow, 1) := by decide +kernel
theorem dX3_requireSpot_17 : decode cX3_requireSpot 17 = .ok (.return_, 1) := by decide +kernel
set_option maxRecDepth 20000 in
theorem ggX3_requirePerson_X3_isBelow : GoodIn wsX3_requirePerson wsX3_isBelow := goodIn_r _ [6] (by decide +kernel) (by decide +kernel)
set_option maxRecDepth 20000 in
theorem gX3_requirePerson_X3_isBelow : GoodIn wsX3_requirePerson (va_wsS RX3 38 yX3_isBelow wsX3_isBelow) := goodIn_app (goodIn_of _ (by decide +kernel)) ggX3_requirePerson_X3_isBelow
theorem dX3_requirePerson_0 : decode cX3_requirePerson 0 = .ok (.iload_n 1, 1) := by decide +kernel
theorem dX3_requirePerson_1 : decode cX3_requirePerson 1 = .ok (.iconst 4, 1) := by decide +kernel
theorem dX3_requirePerson_2 : decode cX3_requirePerson 2 = .ok (.invokestatic 38, 3) := by decide +kernel
theorem dX3_requirePerson_5 : decode cX3_requirePerson 5 = .ok (.ifCond .ne 13, 3) := by decide +kernel
theorem dX3_requirePerson_8 : decode cX3_requirePerson 8 = .ok (.new 218, 3) := by decide +kernel
theorem dX3_requirePerson_11 : decode cX3_requirePerson 11 = .ok (.dup, 1) := by decide +kernel
theorem dX3_requirePerson_12 : decode cX3_requirePerson 12 = .ok (.ldc 230, 2) := by decide +kernel
theorem dX3_requirePerson_14 : decode cX3_requirePerson 14 = .ok (.invokespecial 222, 3) := by decide +kernel
theorem dX3_requirePerson_17 : decode cX3_requirePerson 17 = .ok (.athrow, 1) := by decide +kernel
theorem dX3_requirePerson_18 : decode cX3_requirePerson 18 = .ok (.return_, 1) := by decide +kernel
set_option maxRecDepth 20000 in
theorem ggX3_requireBox_X2_has : GoodIn wsX3_requireBox wsX2_has := goodIn_r _ [8, 9, 10, 11, 12, 17, 18, 19, 20, 21, 22] (by decide +kernel) (by decide +kernel)
set_option maxRecDepth 20000 in
theorem gX3_requireBox_X2_has : GoodIn wsX3_requireBox (wsV RX3 232 RX2 yX2_has wsX2_has) := goodIn_app (goodIn_of _ (by decide +kernel)) ggX3_requireBox_X2_has
theorem dX3_requireBox_0 : decode cX3_requireBox 0 = .ok (.aload_n 0, 1) := by decide +kernel
theorem dX3_requireBox_1 : decode cX3_requireBox 1 = .ok (.getfield 12, 3) := by decide +kernel
theorem dX3_requireBox_4 : decode cX3_requireBox 4 = .ok (.iload_n 1, 1) := by decide +kernel
theorem dX3_requireBox_5 : decode cX3_requireBox 5 = .ok (.invokevirtual 232, 3) := by decide +kernel
theorem dX3_requireBox_8 : decode cX3_requireBox 8 = .ok (.ifCond .ne 13, 3) := by decide +kernel
theorem dX3_requireBox_11 : decode cX3_requireBox 11 = .ok (.new 218, 3) := by decide +kernel
theorem dX3_requireBox_14 : decode cX3_requireBox 14 = .ok (.dup, 1) := by decide +kernel
theorem dX3_requireBox_15 : decode cX3_requireBox 15 = .ok (.ldc 235, 2) := by decide +kernel
theorem dX3_requireBox_17 : decode cX3_requireBox 17 = .ok (.invokespecial 222, 3) := by decide +kernel
theorem dX3_requireBox_20 : decode cX3_requireBox 20 = .ok (.athrow, 1) := by decide +kernel
theorem dX3_requireBox_21 : decode cX3_requireBox 21 = .ok (.return_, 1) := by decide +kernel
set_option maxRecDepth 20000 in
theorem ggX3_requireOut_X2_whereIs : GoodIn wsX3_requireOut wsX2_whereIs := goodIn_r _ [8, 9, 10, 11, 12, 7, 13, 14, 15, 16, 17, 22, 23, 24, 25, 26, 27] (by decide +kernel) (by decide +kernel)
set_option maxRecDepth 20000 in
theorem gX3_requireOut_X2_whereIs : GoodIn wsX3_requireOut (wsV RX3 88 RX2 yX2_whereIs wsX2_whereIs) := goodIn_app (goodIn_of _ (by decide +kernel)) ggX3_requireOut_X2_whereIs
theorem dX3_requireOut_0 : decode cX3_requireOut 0 = .ok (.aload_n 0, 1) := by decide +kernel
theorem dX3_requireOut_1 : decode cX3_requireOut 1 = .ok (.getfield 12, 3) := by decide +kernel
theorem dX3_requireOut_4 : decode cX3_requireOut 4 = .ok (.iload_n 1, 1) := by decide +kernel
theorem dX3_requireOut_5 : decode cX3_requireOut 5 = .ok (.invokevirtual 88, 3) := by decide +kernel
theorem dX3_requireOut_8 : decode cX3_requireOut 8 = .ok (.iconst (-1), 1) := by decide +kernel
theorem dX3_requireOut_9 : decode cX3_requireOut 9 = .ok (.if_icmp .eq 13, 3) := by decide +kernel
theorem dX3_requireOut_12 : decode cX3_requireOut 12 = .ok (.new 65, 3) := by decide +kernel
theorem dX3_requireOut_15 : decode cX3_requireOut 15 = .ok (.dup, 1) := by decide +kernel
theorem dX3_requireOut_16 : decode cX3_requireOut 16 = .ok (.ldc 237, 2) := by decide +kernel
theorem dX3_requireOut_18 : decode cX3_requireOut 18 = .ok (.invokespecial 69, 3) := by decide +kernel
theorem dX3_requireOut_21 : decode cX3_requireOut 21 = .ok (.athrow, 1) := by decide +kernel
theorem dX3_requireOut_22 : decode cX3_requireOut 22 = .ok (.return_, 1) := by decide +kernel
set_option maxRecDepth 20000 in
theorem ggX3_requireInside_X1_isInside : GoodIn wsX3_requireInside wsX1_isInside := goodIn_r _ [8, 9, 10, 11, 12, 17, 18, 19, 20, 21, 22, 23] (by decide +kernel) (by decide +kernel)
set_option maxRecDepth 20000 in
theorem gX3_requireInside_X1_isInside : GoodIn wsX3_requireInside (wsV RX3 127 RX1 yX1_isInside wsX1_isInside) := goodIn_app (goodIn_of _ (by decide +kernel)) ggX3_requireInside_X1_isInside
theorem dX3_requireInside_0 : decode cX3_requireInside 0 = .ok (.aload_n 0, 1) := by decide +kernel
theorem dX3_requireInside_1 : decode cX3_requireInside 1 = .ok (.getfield 19, 3) := by decide +kernel
theorem dX3_requireInside_4 : decode cX3_requireInside 4 = .ok (.iload_n 1, 1) := by decide +kernel
theorem dX3_requireInside_5 : decode cX3_requireInside 5 = .ok (.invokevirtual 127, 3) := by decide +kernel
theorem dX3_requireInside_8 : decode cX3_requireInside 8 = .ok (.ifCond .ne 13, 3) := by decide +kernel
theorem dX3_requireInside_11 : decode cX3_requireInside 11 = .ok (.new 65, 3) := by decide +kernel
theorem dX3_requireInside_14 : decode cX3_requireInside 14 = .ok (.dup, 1) := by decide +kernel
theorem dX3_requireInside_15 : decode cX3_requireInside 15 = .ok (.ldc 239, 2) := by decide +kernel
theorem dX3_requireInside_17 : decode cX3_requireInside 17 = .ok (.invokespecial 69, 3) := by decide +kernel
theorem dX3_requireInside_20 : decode cX3_requireInside 20 = .ok (.athrow, 1) := by decide +kernel
theorem dX3_requireInside_21 : decode cX3_requireInside 21 = .ok (.return_, 1) := by decide +kernel
theorem dX3_isBelow_0 : decode cX3_isBelow 0 = .ok (.iload_n 0, 1) := by decide +kernel
theorem dX3_isBelow_1 : decode cX3_isBelow 1 = .ok (.ifCond .lt 12, 3) := by decide +kernel
theorem dX3_isBelow_4 : decode cX3_isBelow 4 = .ok (.iload_n 0, 1) := by decide +kernel
theorem dX3_isBelow_5 : decode cX3_isBelow 5 = .ok (.iload_n 1, 1) := by decide +kernel
theorem dX3_isBelow_6 : decode cX3_isBelow 6 = .ok (.if_icmp .ge 7, 3) := by decide +kernel
theorem dX3_isBelow_9 : decode cX3_isBelow 9 = .ok (.iconst 1, 1) := by decide +kernel
theorem dX3_isBelow_10 : decode cX3_isBelow 10 = .ok (.goto 4, 3) := by decide +kernel
theorem dX3_isBelow_13 : decode cX3_isBelow 13 = .ok (.iconst 0, 1) := by decide +kernel
theorem dX3_isBelow_14 : decode cX3_isBelow 14 = .ok (.ireturn, 1) := by decide +kernel
theorem dX3_spotAt_0 : decode cX3_spotAt 0 = .ok (.bipush 100, 2) := by decide +kernel
theorem dX3_spotAt_2 : decode cX3_spotAt 2 = .ok (.iload_n 0, 1) := by decide +kernel
theorem dX3_spotAt_3 : decode cX3_spotAt 3 = .ok (.imul, 1) := by decide +kernel
theorem dX3_spotAt_4 : decode cX3_spotAt 4 = .ok (.bipush 10, 2) := by decide +kernel
theorem dX3_spotAt_6 : decode cX3_spotAt 6 = .ok (.iload_n 1, 1) := by decide +kernel
theorem dX3_spotAt_7 : decode cX3_spotAt 7 = .ok (.imul, 1) := by decide +kernel
theorem dX3_spotAt_8 : decode cX3_spotAt 8 = .ok (.iadd, 1) := by decide +kernel
theorem dX3_spotAt_9 : decode cX3_spotAt 9 = .ok (.iload_n 2, 1) := by decide +kernel
theorem dX3_spotAt_10 : decode cX3_spotAt 10 = .ok (.iadd, 1) := by decide +kernel
theorem dX3_spotAt_11 : decode cX3_spotAt 11 = .ok (.ireturn, 1) := by decide +kernel
theorem dX3_shelfAt_0 : decode cX3_shelfAt 0 = .ok (.iload_n 0, 1) := by decide +kernel
theorem dX3_shelfAt_1 : decode cX3_shelfAt 1 = .ok (.bipush 100, 2) := by decide +kernel
theorem dX3_shelfAt_3 : decode cX3_shelfAt 3 = .ok (.idiv, 1) := by decide +kernel
theorem dX3_shelfAt_4 : decode cX3_shelfAt 4 = .ok (.ireturn, 1) := by decide +kernel
theorem dX3_sideAt_0 : decode cX3_sideAt 0 = .ok (.iload_n 0, 1) := by decide +kernel
theorem dX3_sideAt_1 : decode cX3_sideAt 1 = .ok (.bipush 10, 2) := by decide +kernel
theorem dX3_sideAt_3 : decode cX3_sideAt 3 = .ok (.idiv, 1) := by decide +kernel
theorem dX3_sideAt_4 : decode cX3_sideAt 4 = .ok (.bipush 10, 2) := by decide +kernel
theorem dX3_sideAt_6 : decode cX3_sideAt 6 = .ok (.irem, 1) := by decide +kernel
theorem dX3_sideAt_7 : decode cX3_sideAt 7 = .ok (.ireturn, 1) := by decide +kernel
theorem dX3_placeAt_0 : decode cX3_placeAt 0 = .ok (.iload_n 0, 1) := by decide +kernel
theorem dX3_placeAt_1 : decode cX3_placeAt 1 = .ok (.bipush 10, 2) := by decide +kernel
theorem dX3_placeAt_3 : decode cX3_placeAt 3 = .ok (.irem, 1) := by decide +kernel
theorem dX3_placeAt_4 : decode cX3_placeAt 4 = .ok (.ireturn, 1) := by decide +kernel
set_option maxRecDepth 20000 in
theorem ggX3_isSpot_X3_shelfAt : GoodIn wsX3_isSpot wsX3_shelfAt := goodIn_r _ [4] (by decide +kernel) (by decide +kernel)
set_option maxRecDepth 20000 in
theorem gX3_isSpot_X3_shelfAt : GoodIn wsX3_isSpot (va_wsS RX3 241 yX3_shelfAt wsX3_shelfAt) := goodIn_app (goodIn_of _ (by decide +kernel)) ggX3_isSpot_X3_shelfAt
set_option maxRecDepth 20000 in
theorem ggX3_isSpot_X3_sideAt : GoodIn wsX3_isSpot wsX3_sideAt := goodIn_r _ [7] (by decide +kernel) (by decide +kernel)
set_option maxRecDepth 20000 in
theorem gX3_isSpot_X3_sideAt : GoodIn wsX3_isSpot (va_wsS RX3 244 yX3_sideAt wsX3_sideAt) := goodIn_app (goodIn_of _ (by decide +kernel)) ggX3_isSpot_X3_sideAt
set_option maxRecDepth 20000 in
theorem ggX3_isSpot_X3_placeAt : GoodIn wsX3_isSpot wsX3_placeAt := goodIn_r _ [10] (by decide +kernel) (by decide +kernel)
set_option maxRecDepth 20000 in
theorem gX3_isSpot_X3_placeAt : GoodIn wsX3_isSpot (va_wsS RX3 247 yX3_placeAt wsX3_placeAt) := goodIn_app (goodIn_of _ (by decide +kernel)) ggX3_isSpot_X3_placeAt
theorem dX3_isSpot_0 : decode cX3_isSpot 0 = .ok (.iload_n 0, 1) := by decide +kernel
theorem dX3_isSpot_1 : decode cX3_isSpot 1 = .ok (.ifCond .lt 32, 3) := by decide +kernel
theorem dX3_isSpot_4 : decode cX3_isSpot 4 = .ok (.iload_n 0, 1) := by decide +kernel
theorem dX3_isSpot_5 : decode cX3_isSpot 5 = .ok (.invokestatic 241, 3) := by decide +kernel
theorem dX3_isSpot_8 : decode cX3_isSpot 8 = .ok (.bipush 6, 2) := by decide +kernel
theorem dX3_isSpot_10 : decode cX3_isSpot 10 = .ok (.if_icmp .ge 23, 3) := by decide +kernel
theorem dX3_isSpot_13 : decode cX3_isSpot 13 = .ok (.iload_n 0, 1) := by decide +kernel
theorem dX3_isSpot_14 : decode cX3_isSpot 14 = .ok (.invokestatic 244, 3) := by decide +kernel
theorem dX3_isSpot_17 : decode cX3_isSpot 17 = .ok (.iconst 2, 1) := by decide +kernel
theorem dX3_isSpot_18 : decode cX3_isSpot 18 = .ok (.if_icmp .ge 15, 3) := by decide +kernel
theorem dX3_isSpot_21 : decode cX3_isSpot 21 = .ok (.iload_n 0, 1) := by decide +kernel
theorem dX3_isSpot_22 : decode cX3_isSpot 22 = .ok (.invokestatic 247, 3) := by decide +kernel
theorem dX3_isSpot_25 : decode cX3_isSpot 25 = .ok (.iconst 3, 1) := by decide +kernel
theorem dX3_isSpot_26 : decode cX3_isSpot 26 = .ok (.if_icmp .ge 7, 3) := by decide +kernel
theorem dX3_isSpot_29 : decode cX3_isSpot 29 = .ok (.iconst 1, 1) := by decide +kernel
theorem dX3_isSpot_30 : decode cX3_isSpot 30 = .ok (.goto 4, 3) := by decide +kernel
theorem dX3_isSpot_33 : decode cX3_isSpot 33 = .ok (.iconst 0, 1) := by decide +kernel
theorem dX3_isSpot_34 : decode cX3_isSpot 34 = .ok (.ireturn, 1) := by decide +kernel
set_option maxRecDepth 20000 in
theorem ggX3_aisleAt_X3_shelfAt : GoodIn wsX3_aisleAt wsX3_shelfAt := goodIn_r _ [4] (by decide +kernel) (by decide +kernel)
set_option maxRecDepth 20000 in
theorem gX3_aisleAt_X3_shelfAt : GoodIn wsX3_aisleAt (va_wsS RX3 241 yX3_shelfAt wsX3_shelfAt) := goodIn_app (goodIn_of _ (by decide +kernel)) ggX3_aisleAt_X3_shelfAt
set_option maxRecDepth 20000 in
theorem ggX3_aisleAt_X3_sideAt : GoodIn wsX3_aisleAt wsX3_sideAt := goodIn_r _ [7] (by decide +kernel) (by decide +kernel)
set_option maxRecDepth 20000 in
theorem gX3_aisleAt_X3_sideAt : GoodIn wsX3_aisleAt (va_wsS RX3 244 yX3_sideAt wsX3_sideAt) := goodIn_app (goodIn_of _ (by decide +kernel)) ggX3_aisleAt_X3_sideAt
theorem dX3_aisleAt_0 : decode cX3_aisleAt 0 = .ok (.iload_n 0, 1) := by decide +kernel
theorem dX3_aisleAt_1 : decode cX3_aisleAt 1 = .ok (.invokestatic 241, 3) := by decide +kernel
theorem dX3_aisleAt_4 : decode cX3_aisleAt 4 = .ok (.iload_n 0, 1) := by decide +kernel
theorem dX3_aisleAt_5 : decode cX3_aisleAt 5 = .ok (.invokestatic 244, 3) := by decide +kernel
theorem dX3_aisleAt_8 : decode cX3_aisleAt 8 = .ok (.iadd, 1) := by decide +kernel
theorem dX3_aisleAt_9 : decode cX3_aisleAt 9 = .ok (.ireturn, 1) := by decide +kernel
end
section
theorem dL_cell_0 : decode cL_cell 0 = .ok (.iload_n 1, 1) := by decide +kernel
theorem dL_cell_1 : decode cL_cell 1 = .ok (.aload_n 0, 1) := by decide +kernel
theorem dL_cell_2 : decode cL_cell 2 = .ok (.arraylength, 1) := by decide +kernel
theorem dL_cell_3 : decode cL_cell 3 = .ok (.if_icmp .ge 9, 3) := by decide +kernel
theorem dL_cell_6 : decode cL_cell 6 = .ok (.aload_n 0, 1) := by decide +kernel
theorem dL_cell_7 : decode cL_cell 7 = .ok (.iload_n 1, 1) := by decide +kernel
theorem dL_cell_8 : decode cL_cell 8 = .ok (.iaload, 1) := by decide +kernel
theorem dL_cell_9 : decode cL_cell 9 = .ok (.goto 15, 3) := by decide +kernel
theorem dL_cell_12 : decode cL_cell 12 = .ok (.sipush 7919, 3) := by decide +kernel
theorem dL_cell_15 : decode cL_cell 15 = .ok (.iload_n 1, 1) := by decide +kernel
theorem dL_cell_16 : decode cL_cell 16 = .ok (.iconst 3, 1) := by decide +kernel
theorem dL_cell_17 : decode cL_cell 17 = .ok (.iadd, 1) := by decide +kernel
theorem dL_cell_18 : decode cL_cell 18 = .ok (.imul, 1) := by decide +kernel
theorem dL_cell_19 : decode cL_cell 19 = .ok (.iload_n 1, 1) := by decide +kernel
theorem dL_cell_20 : decode cL_cell 20 = .ok (.bipush 11, 2) := by decide +kernel
theorem dL_cell_22 : decode cL_cell 22 = .ok (.iadd, 1) := by decide +kernel
theorem dL_cell_23 : decode cL_cell 23 = .ok (.imul, 1) := by decide +kernel
theorem dL_cell_24 : decode cL_cell 24 = .ok (.ireturn, 1) := by decide +kernel
theorem dL_low_0 : decode cL_low 0 = .ok (.iload_n 0, 1) := by decide +kernel
theorem dL_low_1 : decode cL_low 1 = .ok (.ldc 7, 2) := by decide +kernel
theorem dL_low_3 : decode cL_low 3 = .ok (.iand, 1) := by decide +kernel
theorem dL_low_4 : decode cL_low 4 = .ok (.iload_n 1, 1) := by decide +kernel
theorem dL_low_5 : decode cL_low 5 = .ok (.irem, 1) := by decide +kernel
theorem dL_low_6 : decode cL_low 6 = .ok (.ireturn, 1) := by decide +kernel
set_option maxRecDepth 20000 in
theorem ggL_areBoxes_X3_boxAt : GoodIn wsL_areBoxes wsX3_boxAt := goodIn_ca (goodIn_r _ [5, 6, 7, 8, 9, 4, 10, 11, 12, 13, 14, 15, 16, 17, 18, 19, 20, 21, 22, 23, 24, 25, 26, 27, 28, 29, 30, 31, 88, 89, 90, 91, 92, 93, 94, 95, 96, 97] (by decide +kernel) (by decide +kernel)) (goodIn_sub (fun _ h => List.mem_cons_of_mem _ (List.mem_append_right _ h)) (by decide +kernel))
set_option maxRecDepth 20000 in
theorem gL_areBoxes_X3_boxAt : GoodIn wsL_areBoxes (wsV RL 8 RX3 yX3_boxAt wsX3_boxAt) := goodIn_app (goodIn_of _ (by decide +kernel)) ggL_areBoxes_X3_boxAt
set_option maxRecDepth 20000 in
theorem ggL_areBoxes_X3_spotOf : GoodIn wsL_areBoxes wsX3_spotOf := goodIn_ca (goodIn_r _ [35, 6, 36, 37, 38, 4, 39, 11, 12, 40, 41, 42, 28, 43, 30, 44, 45, 46, 47, 48, 49, 31, 50, 88, 89, 90, 91, 92, 93, 94, 95, 96, 97] (by decide +kernel) (by decide +kernel)) (goodIn_sub (fun _ h => List.mem_cons_of_mem _ (List.mem_append_right _ h)) (by decide +kernel))
set_option maxRecDepth 20000 in
theorem gL_areBoxes_X3_spotOf : GoodIn wsL_areBoxes (wsV RL 14 RX3 yX3_spotOf wsX3_spotOf) := goodIn_app (goodIn_of _ (by decide +kernel)) ggL_areBoxes_X3_spotOf
set_option maxRecDepth 20000 in
theorem ggL_areBoxes_X3_weight : GoodIn wsL_areBoxes wsX3_weight := goodIn_ca (goodIn_r _ [54, 6, 55, 56, 57, 4, 58, 11, 12, 59, 44, 45, 60, 61, 62, 28, 63, 30, 64, 65, 66, 67, 68, 69, 47, 48, 49, 31, 50, 41, 42, 43, 17, 18, 88, 89, 90, 91, 92, 93, 94, 95, 96, 97] (by decide +kernel) (by decide +kernel)) (goodIn_sub (fun _ h => List.mem_cons_of_mem _ (List.mem_append_right _ h)) (by decide +kernel))
set_option maxRecDepth 20000 in
theorem gL_areBoxes_X3_weight : GoodIn wsL_areBoxes (wsV RL 17 RX3 yX3_weight wsX3_weight) := goodIn_app (goodIn_of _ (by decide +kernel)) ggL_areBoxes_X3_weight
set_option maxRecDepth 20000 in
theorem ggL_areBoxes_X3_wrong : GoodIn wsL_areBoxes wsX3_wrong := goodIn_r _ [73, 6, 74, 75, 76, 28, 77, 30, 78, 79, 80, 81, 82, 69, 47, 48, 49, 31, 50, 41, 42, 43, 44, 4, 45, 17, 18, 83, 84, 85, 86, 87, 88, 89, 90, 91, 92, 93, 94, 95, 96, 97] (by decide +kernel) (by decide +kernel)
set_option maxRecDepth 20000 in
theorem gL_areBoxes_X3_wrong : GoodIn wsL_areBoxes (wsV RL 20 RX3 yX3_wrong wsX3_wrong) := goodIn_app (goodIn_of _ (by decide +kernel)) ggL_areBoxes_X3_wrong
theorem dL_areBoxes_0 : decode cL_areBoxes 0 = .ok (.iconst 0, 1) := by decide +kernel
theorem dL_areBoxes_1 : decode cL_areBoxes 1 = .ok (.istore 5, 2) := by decide +kernel
theorem dL_areBoxes_3 : decode cL_areBoxes 3 = .ok (.iconst 0, 1) := by decide +kernel
theorem dL_areBoxes_4 : decode cL_areBoxes 4 = .ok (.istore 6, 2) := by decide +kernel
theorem dL_areBoxes_6 : decode cL_areBoxes 6 = .ok (.iconst 1, 1) := by decide +kernel
theorem dL_areBoxes_7 : decode cL_areBoxes 7 = .ok (.istore 7, 2) := by decide +kernel
theorem dL_areBoxes_9 : decode cL_areBoxes 9 = .ok (.iconst 0, 1) := by decide +kernel
theorem dL_areBoxes_10 : decode cL_areBoxes 10 = .ok (.istore 8, 2) := by decide +kernel
theorem dL_areBoxes_12 : decode cL_areBoxes 12 = .ok (.iload 8, 2) := by decide +kernel
theorem dL_areBoxes_14 : decode cL_areBoxes 14 = .ok (.bipush 6, 2) := by decide +kernel
theorem dL_areBoxes_16 : decode cL_areBoxes 16 = .ok (.if_icmp .ge 152, 3) := by decide +kernel
theorem dL_areBoxes_19 : decode cL_areBoxes 19 = .ok (.iload 7, 2) := by decide +kernel
theorem dL_areBoxes_21 : decode cL_areBoxes 21 = .ok (.ifCond .eq 147, 3) := by decide +kernel
theorem dL_areBoxes_24 : decode cL_areBoxes 24 = .ok (.iconst 0, 1) := by decide +kernel
theorem dL_areBoxes_25 : decode cL_areBoxes 25 = .ok (.istore 9, 2) := by decide +kernel
theorem dL_areBoxes_27 : decode cL_areBoxes 27 = .ok (.iconst 0, 1) := by decide +kernel
theorem dL_areBoxes_28 : decode cL_areBoxes 28 = .ok (.istore 10, 2) := by decide +kernel
theorem dL_areBoxes_30 : decode cL_areBoxes 30 = .ok (.iload 10, 2) := by decide +kernel
theorem dL_areBoxes_32 : decode cL_areBoxes 32 = .ok (.bipush 6, 2) := by decide +kernel
theorem dL_areBoxes_34 : decode cL_areBoxes 34 = .ok (.if_icmp .ge 105, 3) := by decide +kernel
theorem dL_areBoxes_37 : decode cL_areBoxes 37 = .ok (.iload 7, 2) := by decide +kernel
theorem dL_areBoxes_39 : decode cL_areBoxes 39 = .ok (.ifCond .eq 100, 3) := by decide +kernel
theorem dL_areBoxes_42 : decode cL_areBoxes 42 = .ok (.bipush 100, 2) := by decide +kernel
theorem dL_areBoxes_44 : decode cL_areBoxes 44 = .ok (.iload 8, 2) := by decide +kernel
theorem dL_areBoxes_46 : decode cL_areBoxes 46 = .ok (.imul, 1) := by decide +kernel
theorem dL_areBoxes_47 : decode cL_areBoxes 47 = .ok (.bipush 10, 2) := by decide +kernel
theorem dL_areBoxes_49 : decode cL_areBoxes 49 = .ok (.iload 10, 2) := by decide +kernel
theorem dL_areBoxes_51 : decode cL_areBoxes 51 = .ok (.iconst 3, 1) := by decide +kernel
theorem dL_areBoxes_52 : decode cL_areBoxes 52 = .ok (.idiv, 1) := by decide +kernel
theorem dL_areBoxes_53 : decode cL_areBoxes 53 = .ok (.imul, 1) := by decide +kernel
theorem dL_areBoxes_54 : decode cL_areBoxes 54 = .ok (.iadd, 1) := by decide +kernel
theorem dL_areBoxes_55 : decode cL_areBoxes 55 = .ok (.iload 10, 2) := by decide +kernel
theorem dL_areBoxes_57 : decode cL_areBoxes 57 = .ok (.iconst 3, 1) := by decide +kernel
theorem dL_areBoxes_58 : decode cL_areBoxes 58 = .ok (.irem, 1) := by decide +kernel
theorem dL_areBoxes_59 : decode cL_areBoxes 59 = .ok (.iadd, 1) := by decide +kernel
theorem dL_areBoxes_60 : decode cL_areBoxes 60 = .ok (.istore 11, 2) := by decide +kernel
theorem dL_areBoxes_62 : decode cL_areBoxes 62 = .ok (.aload_n 0, 1) := by decide +kernel
theorem dL_areBoxes_63 : decode cL_areBoxes 63 = .ok (.iload 11, 2) := by decide +kernel
theorem dL_areBoxes_65 : decode cL_areBoxes 65 = .ok (.invokevirtual 8, 3) := by decide +kernel
theorem dL_areBoxes_68 : decode cL_areBoxes 68 = .ok (.istore 12, 2) := by decide +kernel
theorem dL_areBoxes_70 : decode cL_areBoxes 70 = .ok (.iload 12, 2) := by decide +kernel
theorem dL_areBoxes_72 : decode cL_areBoxes 72 = .ok (.ifCond .lt 61, 3) := by decide +kernel
theorem dL_areBoxes_75 : decode cL_areBoxes 75 = .ok (.iload 9, 2) := by decide +kernel
theorem dL_areBoxes_77 : decode cL_areBoxes 77 = .ok (.aload_n 2, 1) := by decide +kernel
theorem dL_areBoxes_78 : decode cL_areBoxes 78 = .ok (.iload 12, 2) := by decide +kernel
theorem dL_areBoxes_80 : decode cL_areBoxes 80 = .ok (.iaload, 1) := by decide +kernel
theorem dL_areBoxes_81 : decode cL_areBoxes 81 = .ok (.iadd, 1) := by decide +kernel
theorem dL_areBoxes_82 : decode cL_areBoxes 82 = .ok (.istore 9, 2) := by decide +kernel
theorem dL_areBoxes_84 : decode cL_areBoxes 84 = .ok (.iinc 5 1, 3) := by decide +kernel
theorem dL_areBoxes_87 : decode cL_areBoxes 87 = .ok (.iload 6, 2) := by decide +kernel
theorem dL_areBoxes_89 : decode cL_areBoxes 89 = .ok (.aload_n 1, 1) := by decide +kernel
theorem dL_areBoxes_90 : decode cL_areBoxes 90 = .ok (.iload 12, 2) := by decide +kernel
theorem dL_areBoxes_92 : decode cL_areBoxes 92 = .ok (.iaload, 1) := by decide +kernel
theorem dL_areBoxes_93 : decode cL_areBoxes 93 = .ok (.aload_n 3, 1) := by decide +kernel
theorem dL_areBoxes_94 : decode cL_areBoxes 94 = .ok (.iload 8, 2) := by decide +kernel
theorem dL_areBoxes_96 : decode cL_areBoxes 96 = .ok (.iaload, 1) := by decide +kernel
theorem dL_areBoxes_97 : decode cL_areBoxes 97 = .ok (.if_icmp .ne 7, 3) := by decide +kernel
theorem dL_areBoxes_100 : decode cL_areBoxes 100 = .ok (.iconst 0, 1) := by decide +kernel
theorem dL_areBoxes_101 : decode cL_areBoxes 101 = .ok (.goto 4, 3) := by decide +kernel
theorem dL_areBoxes_104 : decode cL_areBoxes 104 = .ok (.iconst 1, 1) := by decide +kernel
theorem dL_areBoxes_105 : decode cL_areBoxes 105 = .ok (.iadd, 1) := by decide +kernel
theorem dL_areBoxes_106 : decode cL_areBoxes 106 = .ok (.istore 6, 2) := by decide +kernel
theorem dL_areBoxes_108 : decode cL_areBoxes 108 = .ok (.iload 12, 2) := by decide +kernel
theorem dL_areBoxes_110 : decode cL_areBoxes 110 = .ok (.iload 4, 2) := by decide +kernel
theorem dL_areBoxes_112 : decode cL_areBoxes 112 = .ok (.if_icmp .ge 18, 3) := by decide +kernel
theorem dL_areBoxes_115 : decode cL_areBoxes 115 = .ok (.aload_n 0, 1) := by decide +kernel
theorem dL_areBoxes_116 : decode cL_areBoxes 116 = .ok (.iload 12, 2) := by decide +kernel
theorem dL_areBoxes_118 : decode cL_areBoxes 118 = .ok (.invokevirtual 14, 3) := by decide +kernel
theorem dL_areBoxes_121 : decode cL_areBoxes 121 = .ok (.iload 11, 2) := by decide +kernel
theorem dL_areBoxes_123 : decode cL_areBoxes 123 = .ok (.if_icmp .ne 7, 3) := by decide +kernel
theorem dL_areBoxes_126 : decode cL_areBoxes 126 = .ok (.iconst 1, 1) := by decide +kernel
theorem dL_areBoxes_127 : decode cL_areBoxes 127 = .ok (.goto 4, 3) := by decide +kernel
theorem dL_areBoxes_130 : decode cL_areBoxes 130 = .ok (.iconst 0, 1) := by decide +kernel
theorem dL_areBoxes_131 : decode cL_areBoxes 131 = .ok (.istore 7, 2) := by decide +kernel
theorem dL_areBoxes_133 : decode cL_areBoxes 133 = .ok (.iinc 10 1, 3) := by decide +kernel
theorem dL_areBoxes_136 : decode cL_areBoxes 136 = .ok (.goto (-106), 3) := by decide +kernel
theorem dL_areBoxes_139 : decode cL_areBoxes 139 = .ok (.iload 7, 2) := by decide +kernel
theorem dL_areBoxes_141 : decode cL_areBoxes 141 = .ok (.ifCond .eq 18, 3) := by decide +kernel
theorem dL_areBoxes_144 : decode cL_areBoxes 144 = .ok (.aload_n 0, 1) := by decide +kernel
theorem dL_areBoxes_145 : decode cL_areBoxes 145 = .ok (.iload 8, 2) := by decide +kernel
theorem dL_areBoxes_147 : decode cL_areBoxes 147 = .ok (.invokevirtual 17, 3) := by decide +kernel
theorem dL_areBoxes_150 : decode cL_areBoxes 150 = .ok (.iload 9, 2) := by decide +kernel
theorem dL_areBoxes_152 : decode cL_areBoxes 152 = .ok (.if_icmp .ne 7, 3) := by decide +kernel
theorem dL_areBoxes_155 : decode cL_areBoxes 155 = .ok (.iconst 1, 1) := by decide +kernel
theorem dL_areBoxes_156 : decode cL_areBoxes 156 = .ok (.goto 4, 3) := by decide +kernel
theorem dL_areBoxes_159 : decode cL_areBoxes 159 = .ok (.iconst 0, 1) := by decide +kernel
theorem dL_areBoxes_160 : decode cL_areBoxes 160 = .ok (.istore 7, 2) := by decide +kernel
theorem dL_areBoxes_162 : decode cL_areBoxes 162 = .ok (.iinc 8 1, 3) := by decide +kernel
theorem dL_areBoxes_165 : decode cL_areBoxes 165 = .ok (.goto (-153), 3) := by decide +kernel
theorem dL_areBoxes_168 : decode cL_areBoxes 168 = .ok (.iconst 0, 1) := by decide +kernel
theorem dL_areBoxes_169 : decode cL_areBoxes 169 = .ok (.istore 8, 2) := by decide +kernel
theorem dL_areBoxes_171 : decode cL_areBoxes 171 = .ok (.iload 8, 2) := by decide +kernel
theorem dL_areBoxes_173 : decode cL_areBoxes 173 = .ok (.iload 4, 2) := by decide +kernel
theorem dL_areBoxes_175 : decode cL_areBoxes 175 = .ok (.if_icmp .ge 28, 3) := by decide +kernel
theorem dL_areBoxes_178 : decode cL_areBoxes 178 = .ok (.iload 5, 2) := by decide +kernel
theorem dL_areBoxes_180 : decode cL_areBoxes 180 = .ok (.aload_n 0, 1) := by decide +kernel
theorem dL_areBoxes_181 : decode cL_areBoxes 181 = .ok (.iload 8, 2) := by decide +kernel
theorem dL_areBoxes_183 : decode cL_areBoxes 183 = .ok (.invokevirtual 14, 3) := by decide +kernel
theorem dL_areBoxes_186 : decode cL_areBoxes 186 = .ok (.ifCond .lt 7, 3) := by decide +kernel
theorem dL_areBoxes_189 : decode cL_areBoxes 189 = .ok (.iconst 1, 1) := by decide +kernel
theorem dL_areBoxes_190 : decode cL_areBoxes 190 = .ok (.goto 4, 3) := by decide +kernel
theorem dL_areBoxes_193 : decode cL_areBoxes 193 = .ok (.iconst 0, 1) := by decide +kernel
theorem dL_areBoxes_194 : decode cL_areBoxes 194 = .ok (.isub, 1) := by decide +kernel
theorem dL_areBoxes_195 : decode cL_areBoxes 195 = .ok (.istore 5, 2) := by decide +kernel
theorem dL_areBoxes_197 : decode cL_areBoxes 197 = .ok (.iinc 8 1, 3) := by decide +kernel
theorem dL_areBoxes_200 : decode cL_areBoxes 200 = .ok (.goto (-29), 3) := by decide +kernel
theorem dL_areBoxes_203 : decode cL_areBoxes 203 = .ok (.iload 7, 2) := by decide +kernel
theorem dL_areBoxes_205 : decode cL_areBoxes 205 = .ok (.ifCond .eq 21, 3) := by decide +kernel
theorem dL_areBoxes_208 : decode cL_areBoxes 208 = .ok (.iload 5, 2) := by decide +kernel
theorem dL_areBoxes_210 : decode cL_areBoxes 210 = .ok (.ifCond .ne 16, 3) := by decide +kernel
theorem dL_areBoxes_213 : decode cL_areBoxes 213 = .ok (.aload_n 0, 1) := by decide +kernel
theorem dL_areBoxes_214 : decode cL_areBoxes 214 = .ok (.invokevirtual 20, 3) := by decide +kernel
theorem dL_areBoxes_217 : decode cL_areBoxes 217 = .ok (.iload 6, 2) := by decide +kernel
theorem dL_areBoxes_219 : decode cL_areBoxes 219 = .ok (.if_icmp .ne 7, 3) := by decide +kernel
theorem dL_areBoxes_222 : decode cL_areBoxes 222 = .ok (.iconst 1, 1) := by decide +kernel
theorem dL_areBoxes_223 : decode cL_areBoxes 223 = .ok (.goto 4, 3) := by decide +kernel
theorem dL_areBoxes_226 : decode cL_areBoxes 226 = .ok (.iconst 0, 1) := by decide +kernel
theorem dL_areBoxes_227 : decode cL_areBoxes 227 = .ok (.ireturn, 1) := by decide +kernel
set_option maxRecDepth 20000 in
theorem ggL_isOpen_X3_nextAisle : GoodIn wsL_isOpen wsX3_nextAisle := goodIn_r _ [5, 6, 7, 8, 9, 10, 11, 12, 13, 14, 15, 16, 17, 18, 19, 20, 21, 22, 23, 24, 25, 26, 27, 28, 29, 30, 31, 32, 4, 33, 34, 35, 36, 37, 38, 39, 40, 41, 42, 43, 44, 45, 46, 76, 77, 78, 79, 80, 81, 82, 83, 84, 85, 86, 87, 88, 89, 90] (by decide +kernel) (by decide +kernel)
set_option maxRecDepth 20000 in
theorem gL_isOpen_X3_nextAisle : GoodIn wsL_isOpen (wsV RL 24 RX3 yX3_nextAisle wsX3_nextAisle) := goodIn_app (goodIn_of _ (by decide +kernel)) ggL_isOpen_X3_nextAisle
set_option maxRecDepth 20000 in
theorem ggL_isOpen_X3_opened : GoodIn wsL_isOpen wsX3_opened := goodIn_r _ [50, 51, 52, 53, 54, 55, 56, 57, 58, 76, 77, 78, 79, 91, 92, 93, 94, 95, 96, 97] (by decide +kernel) (by decide +kernel)
set_option maxRecDepth 20000 in
theorem gL_isOpen_X3_opened : GoodIn wsL_isOpen (wsV RL 27 RX3 yX3_opened wsX3_opened) := goodIn_app (goodIn_of _ (by decide +kernel)) ggL_isOpen_X3_opened
set_option maxRecDepth 20000 in
theorem ggL_isOpen_X3_openedByMoves : GoodIn wsL_isOpen wsX3_openedByMoves := goodIn_r _ [62, 51, 63, 64, 65, 55, 66, 67, 58, 76, 77, 78, 79, 91, 92, 93, 94, 95, 96, 97] (by decide +kernel) (by decide +kernel)
set_option maxRecDepth 20000 in
theorem gL_isOpen_X3_openedByMoves : GoodIn wsL_isOpen (wsV RL 30 RX3 yX3_openedByMoves wsX3_openedByMoves) := goodIn_app (goodIn_of _ (by decide +kernel)) ggL_isOpen_X3_openedByMoves
set_option maxRecDepth 20000 in
theorem ggL_isOpen_X3_waiting : GoodIn wsL_isOpen wsX3_waiting := goodIn_r _ [71, 6, 72, 73, 74, 11, 75, 13, 15, 76, 77, 78, 79, 80, 81, 82, 83, 84] (by decide +kernel) (by decide +kernel)
set_option maxRecDepth 20000 in
theorem gL_isOpen_X3_waiting : GoodIn wsL_isOpen (wsV RL 33 RX3 yX3_waiting wsX3_waiting) := goodIn_app (goodIn_of _ (by decide +kernel)) ggL_isOpen_X3_waiting
theorem dL_isOpen_0 : decode cL_isOpen 0 = .ok (.aload_n 0, 1) := by decide +kernel
theorem dL_isOpen_1 : decode cL_isOpen 1 = .ok (.invokevirtual 24, 3) := by decide +kernel
theorem dL_isOpen_4 : decode cL_isOpen 4 = .ok (.istore_n 2, 1) := by decide +kernel
theorem dL_isOpen_5 : decode cL_isOpen 5 = .ok (.aload_n 0, 1) := by decide +kernel
theorem dL_isOpen_6 : decode cL_isOpen 6 = .ok (.invokevirtual 27, 3) := by decide +kernel
theorem dL_isOpen_9 : decode cL_isOpen 9 = .ok (.aload_n 0, 1) := by decide +kernel
theorem dL_isOpen_10 : decode cL_isOpen 10 = .ok (.invokevirtual 30, 3) := by decide +kernel
theorem dL_isOpen_13 : decode cL_isOpen 13 = .ok (.if_icmp .ne 35, 3) := by decide +kernel
theorem dL_isOpen_16 : decode cL_isOpen 16 = .ok (.iload_n 2, 1) := by decide +kernel
theorem dL_isOpen_17 : decode cL_isOpen 17 = .ok (.iconst (-1), 1) := by decide +kernel
theorem dL_isOpen_18 : decode cL_isOpen 18 = .ok (.if_icmp .lt 30, 3) := by decide +kernel
theorem dL_isOpen_21 : decode cL_isOpen 21 = .ok (.iload_n 2, 1) := by decide +kernel
theorem dL_isOpen_22 : decode cL_isOpen 22 = .ok (.bipush 6, 2) := by decide +kernel
theorem dL_isOpen_24 : decode cL_isOpen 24 = .ok (.if_icmp .gt 24, 3) := by decide +kernel
theorem dL_isOpen_27 : decode cL_isOpen 27 = .ok (.iload_n 1, 1) := by decide +kernel
theorem dL_isOpen_28 : decode cL_isOpen 28 = .ok (.ifCond .gt 8, 3) := by decide +kernel
theorem dL_isOpen_31 : decode cL_isOpen 31 = .ok (.iload_n 2, 1) := by decide +kernel
theorem dL_isOpen_32 : decode cL_isOpen 32 = .ok (.iconst (-1), 1) := by decide +kernel
theorem dL_isOpen_33 : decode cL_isOpen 33 = .ok (.if_icmp .ne 15, 3) := by decide +kernel
theorem dL_isOpen_36 : decode cL_isOpen 36 = .ok (.aload_n 0, 1) := by decide +kernel
theorem dL_isOpen_37 : decode cL_isOpen 37 = .ok (.invokevirtual 33, 3) := by decide +kernel
theorem dL_isOpen_40 : decode cL_isOpen 40 = .ok (.iload_n 1, 1) := by decide +kernel
theorem dL_isOpen_41 : decode cL_isOpen 41 = .ok (.if_icmp .ne 7, 3) := by decide +kernel
theorem dL_isOpen_44 : decode cL_isOpen 44 = .ok (.iconst 1, 1) := by decide +kernel
theorem dL_isOpen_45 : decode cL_isOpen 45 = .ok (.goto 4, 3) := by decide +kernel
theorem dL_isOpen_48 : decode cL_isOpen 48 = .ok (.iconst 0, 1) := by decide +kernel
theorem dL_isOpen_49 : decode cL_isOpen 49 = .ok (.ireturn, 1) := by decide +kernel
end
section
theorem dL_law_0 : decode cL_law 0 = .ok (.new 9, 3) := by decide +kernel
theorem dL_law_3 : decode cL_law 3 = .ok (.dup, 1) := by decide +kernel
theorem dL_law_4 : decode cL_law 4 = .ok (.invokespecial 36, 3) := by decide +kernel
theorem dL_law_7 : decode cL_law 7 = .ok (.astore_n 1, 1) := by decide +kernel
theorem dL_law_8 : decode cL_law 8 = .ok (.bipush 20, 2) := by decide +kernel
theorem dL_law_10 : decode cL_law 10 = .ok (.newarray .int, 2) := by decide +kernel
theorem dL_law_12 : decode cL_law 12 = .ok (.astore_n 2, 1) := by decide +kernel
theorem dL_law_13 : decode cL_law 13 = .ok (.bipush 20, 2) := by decide +kernel
theorem dL_law_15 : decode cL_law 15 = .ok (.newarray .int, 2) := by decide +kernel
theorem dL_law_17 : decode cL_law 17 = .ok (.astore_n 3, 1) := by decide +kernel
theorem dL_law_18 : decode cL_law 18 = .ok (.bipush 6, 2) := by decide +kernel
theorem dL_law_20 : decode cL_law 20 = .ok (.newarray .int, 2) := by decide +kernel
theorem dL_law_22 : decode cL_law 22 = .ok (.astore 4, 2) := by decide +kernel
theorem dL_law_24 : decode cL_law 24 = .ok (.bipush 20, 2) := by decide +kernel
theorem dL_law_26 : decode cL_law 26 = .ok (.newarray .int, 2) := by decide +kernel
theorem dL_law_28 : decode cL_law 28 = .ok (.astore 5, 2) := by decide +kernel
theorem dL_law_30 : decode cL_law 30 = .ok (.bipush 30, 2) := by decide +kernel
theorem dL_law_32 : decode cL_law 32 = .ok (.newarray .int, 2) := by decide +kernel
theorem dL_law_34 : decode cL_law 34 = .ok (.astore 6, 2) := by decide +kernel
theorem dL_law_36 : decode cL_law 36 = .ok (.iconst 0, 1) := by decide +kernel
theorem dL_law_37 : decode cL_law 37 = .ok (.istore 7, 2) := by decide +kernel
theorem dL_law_39 : decode cL_law 39 = .ok (.iconst 0, 1) := by decide +kernel
theorem dL_law_40 : decode cL_law 40 = .ok (.istore 8, 2) := by decide +kernel
theorem dL_law_42 : decode cL_law 42 = .ok (.iconst 0, 1) := by decide +kernel
theorem dL_law_43 : decode cL_law 43 = .ok (.istore 9, 2) := by decide +kernel
theorem dL_law_45 : decode cL_law 45 = .ok (.iconst 0, 1) := by decide +kernel
theorem dL_law_46 : decode cL_law 46 = .ok (.istore 10, 2) := by decide +kernel
theorem dL_law_48 : decode cL_law 48 = .ok (.iconst 0, 1) := by decide +kernel
theorem dL_law_49 : decode cL_law 49 = .ok (.istore 11, 2) := by decide +kernel
theorem dL_law_51 : decode cL_law 51 = .ok (.iconst 0, 1) := by decide +kernel
theorem dL_law_52 : decode cL_law 52 = .ok (.istore 12, 2) := by decide +kernel
theorem dL_law_54 : decode cL_law 54 = .ok (.iload 12, 2) := by decide +kernel
theorem dL_law_56 : decode cL_law 56 = .ok (.bipush 60, 2) := by decide +kernel
theorem dL_law_58 : decode cL_law 58 = .ok (.if_icmp .ge 846, 3) := by decide +kernel
theorem dL_law_61 : decode cL_law 61 = .ok (.aload_n 0, 1) := by decide +kernel
theorem dL_law_62 : decode cL_law 62 = .ok (.iconst 2, 1) := by decide +kernel
theorem dL_law_63 : decode cL_law 63 = .ok (.iload 12, 2) := by decide +kernel
theorem dL_law_65 : decode cL_law 65 = .ok (.imul, 1) := by decide +kernel
theorem dL_law_66 : decode cL_law 66 = .ok (.invokestatic 37, 3) := by decide +kernel
theorem dL_law_69 : decode cL_law 69 = .ok (.istore 13, 2) := by decide +kernel
theorem dL_law_71 : decode cL_law 71 = .ok (.aload_n 0, 1) := by decide +kernel
theorem dL_law_72 : decode cL_law 72 = .ok (.iconst 2, 1) := by decide +kernel
theorem dL_law_73 : decode cL_law 73 = .ok (.iload 12, 2) := by decide +kernel
theorem dL_law_75 : decode cL_law 75 = .ok (.imul, 1) := by decide +kernel
theorem dL_law_76 : decode cL_law 76 = .ok (.iconst 1, 1) := by decide +kernel
theorem dL_law_77 : decode cL_law 77 = .ok (.iadd, 1) := by decide +kernel
theorem dL_law_78 : decode cL_law 78 = .ok (.invokestatic 37, 3) := by decide +kernel
theorem dL_law_81 : decode cL_law 81 = .ok (.istore 14, 2) := by decide +kernel
theorem dL_law_83 : decode cL_law 83 = .ok (.iload 13, 2) := by decide +kernel
theorem dL_law_85 : decode cL_law 85 = .ok (.bipush 13, 2) := by decide +kernel
theorem dL_law_87 : decode cL_law 87 = .ok (.invokestatic 43, 3) := by decide +kernel
theorem dL_law_90 : decode cL_law 90 = .ok (.istore 15, 2) := by decide +kernel
theorem dL_law_92 : decode cL_law 92 = .ok (.iload 7, 2) := by decide +kernel
theorem dL_law_94 : decode cL_law 94 = .ok (.ifCond .ne 7, 3) := by decide +kernel
theorem dL_law_97 : decode cL_law 97 = .ok (.iconst 0, 1) := by decide +kernel
theorem dL_law_98 : decode cL_law 98 = .ok (.goto 10, 3) := by decide +kernel
theorem dL_law_101 : decode cL_law 101 = .ok (.iload 14, 2) := by decide +kernel
theorem dL_law_103 : decode cL_law 103 = .ok (.iload 7, 2) := by decide +kernel
theorem dL_law_105 : decode cL_law 105 = .ok (.invokestatic 43, 3) := by decide +kernel
theorem dL_law_108 : decode cL_law 108 = .ok (.istore 16, 2) := by decide +kernel
theorem dL_law_110 : decode cL_law 110 = .ok (.iconst 1, 1) := by decide +kernel
theorem dL_law_111 : decode cL_law 111 = .ok (.istore 17, 2) := by decide +kernel
theorem dL_law_113 : decode cL_law 113 = .ok (.iload 7, 2) := by decide +kernel
theorem dL_law_115 : decode cL_law 115 = .ok (.iconst 2, 1) := by decide +kernel
theorem dL_law_116 : decode cL_law 116 = .ok (.if_icmp .lt 15, 3) := by decide +kernel
theorem dL_law_119 : decode cL_law 119 = .ok (.iload 15, 2) := by decide +kernel
theorem dL_law_121 : decode cL_law 121 = .ok (.ifCond .ne 84, 3) := by decide +kernel
theorem dL_law_124 : decode cL_law 124 = .ok (.iload 7, 2) := by decide +kernel
theorem dL_law_126 : decode cL_law 126 = .ok (.bipush 20, 2) := by decide +kernel
theorem dL_law_128 : decode cL_law 128 = .ok (.if_icmp .ge 77, 3) := by decide +kernel
theorem dL_law_131 : decode cL_law 131 = .ok (.aload_n 2, 1) := by decide +kernel
theorem dL_law_132 : decode cL_law 132 = .ok (.iload 7, 2) := by decide +kernel
theorem dL_law_134 : decode cL_law 134 = .ok (.iload 14, 2) := by decide +kernel
theorem dL_law_136 : decode cL_law 136 = .ok (.iconst 2, 1) := by decide +kernel
theorem dL_law_137 : decode cL_law 137 = .ok (.invokestatic 43, 3) := by decide +kernel
theorem dL_law_140 : decode cL_law 140 = .ok (.iastore, 1) := by decide +kernel
theorem dL_law_141 : decode cL_law 141 = .ok (.aload_n 3, 1) := by decide +kernel
theorem dL_law_142 : decode cL_law 142 = .ok (.iload 7, 2) := by decide +kernel
theorem dL_law_144 : decode cL_law 144 = .ok (.iconst 1, 1) := by decide +kernel
theorem dL_law_145 : decode cL_law 145 = .ok (.iload 14, 2) := by decide +kernel
theorem dL_law_147 : decode cL_law 147 = .ok (.iconst 1, 1) := by decide +kernel
theorem dL_law_148 : decode cL_law 148 = .ok (.ishr, 1) := by decide +kernel
theorem dL_law_149 : decode cL_law 149 = .ok (.bipush 60, 2) := by decide +kernel
theorem dL_law_151 : decode cL_law 151 = .ok (.invokestatic 43, 3) := by decide +kernel
theorem dL_law_154 : decode cL_law 154 = .ok (.iadd, 1) := by decide +kernel
theorem dL_law_155 : decode cL_law 155 = .ok (.iastore, 1) := by decide +kernel
theorem dL_law_156 : decode cL_law 156 = .ok (.aload_n 1, 1) := by decide +kernel
theorem dL_law_157 : decode cL_law 157 = .ok (.aload_n 2, 1) := by decide +kernel
theorem dL_law_158 : decode cL_law 158 = .ok (.iload 7, 2) := by decide +kernel
theorem dL_law_160 : decode cL_law 160 = .ok (.iaload, 1) := by decide +kernel
theorem dL_law_161 : decode cL_law 161 = .ok (.aload_n 3, 1) := by decide +kernel
theorem dL_law_162 : decode cL_law 162 = .ok (.iload 7, 2) := by decide +kernel
theorem dL_law_164 : decode cL_law 164 = .ok (.iaload, 1) := by decide +kernel
theorem dL_law_165 : decode cL_law 165 = .ok (.iload 14, 2) := by decide +kernel
theorem dL_law_167 : decode cL_law 167 = .ok (.bipush 7, 2) := by decide +kernel
theorem dL_law_169 : decode cL_law 169 = .ok (.ishr, 1) := by decide +kernel
theorem dL_law_170 : decode cL_law 170 = .ok (.iconst 3, 1) := by decide +kernel
theorem dL_law_171 : decode cL_law 171 = .ok (.invokestatic 43, 3) := by decide +kernel
theorem dL_law_174 : decode cL_law 174 = .ok (.invokevirtual 47, 3) := by decide +kernel
theorem dL_law_177 : decode cL_law 177 = .ok (.iload 7, 2) := by decide +kernel
theorem dL_law_179 : decode cL_law 179 = .ok (.if_icmp .ne 17, 3) := by decide +kernel
theorem dL_law_182 : decode cL_law 182 = .ok (.aload_n 1, 1) := by decide +kernel
theorem dL_law_183 : decode cL_law 183 = .ok (.iload 7, 2) := by decide +kernel
theorem dL_law_185 : decode cL_law 185 = .ok (.invokevirtual 14, 3) := by decide +kernel
theorem dL_law_188 : decode cL_law 188 = .ok (.iconst (-1), 1) := by decide +kernel
theorem dL_law_189 : decode cL_law 189 = .ok (.if_icmp .ne 7, 3) := by decide +kernel
theorem dL_law_192 : decode cL_law 192 = .ok (.iconst 1, 1) := by decide +kernel
theorem dL_law_193 : decode cL_law 193 = .ok (.goto 4, 3) := by decide +kernel
theorem dL_law_196 : decode cL_law 196 = .ok (.iconst 0, 1) := by decide +kernel
theorem dL_law_197 : decode cL_law 197 = .ok (.istore 17, 2) := by decide +kernel
theorem dL_law_199 : decode cL_law 199 = .ok (.iinc 7 1, 3) := by decide +kernel
theorem dL_law_202 : decode cL_law 202 = .ok (.goto 667, 3) := by decide +kernel
theorem dL_law_205 : decode cL_law 205 = .ok (.iload 15, 2) := by decide +kernel
theorem dL_law_207 : decode cL_law 207 = .ok (.iconst 4, 1) := by decide +kernel
theorem dL_law_208 : decode cL_law 208 = .ok (.if_icmp .ge 84, 3) := by decide +kernel
theorem dL_law_211 : decode cL_law 211 = .ok (.aload_n 1, 1) := by decide +kernel
theorem dL_law_212 : decode cL_law 212 = .ok (.iload 16, 2) := by decide +kernel
theorem dL_law_214 : decode cL_law 214 = .ok (.invokevirtual 14, 3) := by decide +kernel
theorem dL_law_217 : decode cL_law 217 = .ok (.ifCond .lt 7, 3) := by decide +kernel
theorem dL_law_220 : decode cL_law 220 = .ok (.iconst (-1), 1) := by decide +kernel
theorem dL_law_221 : decode cL_law 221 = .ok (.goto 9, 3) := by decide +kernel
theorem dL_law_224 : decode cL_law 224 = .ok (.aload_n 1, 1) := by decide +kernel
theorem dL_law_225 : decode cL_law 225 = .ok (.iload 16, 2) := by decide +kernel
theorem dL_law_227 : decode cL_law 227 = .ok (.invokevirtual 51, 3) := by decide +kernel
theorem dL_law_230 : decode cL_law 230 = .ok (.istore 18, 2) := by decide +kernel
theorem dL_law_232 : decode cL_law 232 = .ok (.iload 18, 2) := by decide +kernel
theorem dL_law_234 : decode cL_law 234 = .ok (.ifCond .lt 48, 3) := by decide +kernel
theorem dL_law_237 : decode cL_law 237 = .ok (.aload_n 1, 1) := by decide +kernel
theorem dL_law_238 : decode cL_law 238 = .ok (.iload 18, 2) := by decide +kernel
theorem dL_law_240 : decode cL_law 240 = .ok (.bipush 100, 2) := by decide +kernel
theorem dL_law_242 : decode cL_law 242 = .ok (.idiv, 1) := by decide +kernel
theorem dL_law_243 : decode cL_law 243 = .ok (.invokevirtual 17, 3) := by decide +kernel
theorem dL_law_246 : decode cL_law 246 = .ok (.aload_n 3, 1) := by decide +kernel
theorem dL_law_247 : decode cL_law 247 = .ok (.iload 16, 2) := by decide +kernel
theorem dL_law_249 : decode cL_law 249 = .ok (.iaload, 1) := by decide +kernel
theorem dL_law_250 : decode cL_law 250 = .ok (.iadd, 1) := by decide +kernel
theorem dL_law_251 : decode cL_law 251 = .ok (.bipush 100, 2) := by decide +kernel
theorem dL_law_253 : decode cL_law 253 = .ok (.if_icmp .gt 33, 3) := by decide +kernel
theorem dL_law_256 : decode cL_law 256 = .ok (.aload 4, 2) := by decide +kernel
theorem dL_law_258 : decode cL_law 258 = .ok (.iload 18, 2) := by decide +kernel
theorem dL_law_260 : decode cL_law 260 = .ok (.bipush 100, 2) := by decide +kernel
theorem dL_law_262 : decode cL_law 262 = .ok (.idiv, 1) := by decide +kernel
theorem dL_law_263 : decode cL_law 263 = .ok (.iaload, 1) := by decide +kernel
theorem dL_law_264 : decode cL_law 264 = .ok (.aload_n 2, 1) := by decide +kernel
theorem dL_law_265 : decode cL_law 265 = .ok (.iload 16, 2) := by decide +kernel
theorem dL_law_267 : decode cL_law 267 = .ok (.iaload, 1) := by decide +kernel
theorem dL_law_268 : decode cL_law 268 = .ok (.if_icmp .ne 18, 3) := by decide +kernel
theorem dL_law_271 : decode cL_law 271 = .ok (.aload_n 1, 1) := by decide +kernel
theorem dL_law_272 : decode cL_law 272 = .ok (.iload 16, 2) := by decide +kernel
theorem dL_law_274 : decode cL_law 274 = .ok (.invokevirtual 54, 3) := by decide +kernel
theorem dL_law_277 : decode cL_law 277 = .ok (.iload 18, 2) := by decide +kernel
theorem dL_law_279 : decode cL_law 279 = .ok (.if_icmp .ne 7, 3) := by decide +kernel
theorem dL_law_282 : decode cL_law 282 = .ok (.iconst 1, 1) := by decide +kernel
theorem dL_law_283 : decode cL_law 283 = .ok (.goto 4, 3) := by decide +kernel
theorem dL_law_286 : decode cL_law 286 = .ok (.iconst 0, 1) := by decide +kernel
theorem dL_law_287 : decode cL_law 287 = .ok (.istore 17, 2) := by decide +kernel
theorem dL_law_289 : decode cL_law 289 = .ok (.goto 580, 3) := by decide +kernel
theorem dL_law_292 : decode cL_law 292 = .ok (.iload 15, 2) := by decide +kernel
theorem dL_law_294 : decode cL_law 294 = .ok (.iconst 4, 1) := by decide +kernel
theorem dL_law_295 : decode cL_law 295 = .ok (.if_icmp .ne 66, 3) := by decide +kernel
theorem dL_law_298 : decode cL_law 298 = .ok (.iload 14, 2) := by decide +kernel
theorem dL_law_300 : decode cL_law 300 = .ok (.bipush 6, 2) := by decide +kernel
theorem dL_law_302 : decode cL_law 302 = .ok (.invokestatic 43, 3) := by decide +kernel
theorem dL_law_305 : decode cL_law 305 = .ok (.istore 18, 2) := by decide +kernel
theorem dL_law_307 : decode cL_law 307 = .ok (.aload 4, 2) := by decide +kernel
theorem dL_law_309 : decode cL_law 309 = .ok (.iload 18, 2) := by decide +kernel
theorem dL_law_311 : decode cL_law 311 = .ok (.iaload, 1) := by decide +kernel
theorem dL_law_312 : decode cL_law 312 = .ok (.istore 19, 2) := by decide +kernel
theorem dL_law_314 : decode cL_law 314 = .ok (.aload 4, 2) := by decide +kernel
theorem dL_law_316 : decode cL_law 316 = .ok (.iload 18, 2) := by decide +kernel
theorem dL_law_318 : decode cL_law 318 = .ok (.iload 14, 2) := by decide +kernel
theorem dL_law_320 : decode cL_law 320 = .ok (.iconst 3, 1) := by decide +kernel
theorem dL_law_321 : decode cL_law 321 = .ok (.ishr, 1) := by decide +kernel
theorem dL_law_322 : decode cL_law 322 = .ok (.iconst 4, 1) := by decide +kernel
theorem dL_law_323 : decode cL_law 323 = .ok (.invokestatic 43, 3) := by decide +kernel
theorem dL_law_326 : decode cL_law 326 = .ok (.ifCond .ne 7, 3) := by decide +kernel
theorem dL_law_329 : decode cL_law 329 = .ok (.iconst 1, 1) := by decide +kernel
theorem dL_law_330 : decode cL_law 330 = .ok (.goto 4, 3) := by decide +kernel
theorem dL_law_333 : decode cL_law 333 = .ok (.iconst 0, 1) := by decide +kernel
theorem dL_law_334 : decode cL_law 334 = .ok (.iastore, 1) := by decide +kernel
theorem dL_law_335 : decode cL_law 335 = .ok (.aload_n 1, 1) := by decide +kernel
theorem dL_law_336 : decode cL_law 336 = .ok (.iload 18, 2) := by decide +kernel
theorem dL_law_338 : decode cL_law 338 = .ok (.aload 4, 2) := by decide +kernel
theorem dL_law_340 : decode cL_law 340 = .ok (.iload 18, 2) := by decide +kernel
theorem dL_law_342 : decode cL_law 342 = .ok (.iaload, 1) := by decide +kernel
theorem dL_law_343 : decode cL_law 343 = .ok (.invokevirtual 57, 3) := by decide +kernel
theorem dL_law_346 : decode cL_law 346 = .ok (.iload 19, 2) := by decide +kernel
theorem dL_law_348 : decode cL_law 348 = .ok (.if_icmp .ne 7, 3) := by decide +kernel
theorem dL_law_351 : decode cL_law 351 = .ok (.iconst 1, 1) := by decide +kernel
theorem dL_law_352 : decode cL_law 352 = .ok (.goto 4, 3) := by decide +kernel
theorem dL_law_355 : decode cL_law 355 = .ok (.iconst 0, 1) := by decide +kernel
theorem dL_law_356 : decode cL_law 356 = .ok (.istore 17, 2) := by decide +kernel
theorem dL_law_358 : decode cL_law 358 = .ok (.goto 511, 3) := by decide +kernel
theorem dL_law_361 : decode cL_law 361 = .ok (.iload 15, 2) := by decide +kernel
theorem dL_law_363 : decode cL_law 363 = .ok (.bipush 7, 2) := by decide +kernel
theorem dL_law_365 : decode cL_law 365 = .ok (.if_icmp .ge 68, 3) := by decide +kernel
theorem dL_law_368 : decode cL_law 368 = .ok (.iload 8, 2) := by decide +kernel
theorem dL_law_370 : decode cL_law 370 = .ok (.bipush 30, 2) := by decide +kernel
theorem dL_law_372 : decode cL_law 372 = .ok (.if_icmp .ge 61, 3) := by decide +kernel
theorem dL_law_375 : decode cL_law 375 = .ok (.aload 5, 2) := by decide +kernel
theorem dL_law_377 : decode cL_law 377 = .ok (.iload 16, 2) := by decide +kernel
theorem dL_law_379 : decode cL_law 379 = .ok (.iaload, 1) := by decide +kernel
theorem dL_law_380 : decode cL_law 380 = .ok (.ifCond .ne 53, 3) := by decide +kernel
theorem dL_law_383 : decode cL_law 383 = .ok (.aload 6, 2) := by decide +kernel
theorem dL_law_385 : decode cL_law 385 = .ok (.iload 8, 2) := by decide +kernel
theorem dL_law_387 : decode cL_law 387 = .ok (.iload 16, 2) := by decide +kernel
theorem dL_law_389 : decode cL_law 389 = .ok (.iastore, 1) := by decide +kernel
theorem dL_law_390 : decode cL_law 390 = .ok (.aload 5, 2) := by decide +kernel
theorem dL_law_392 : decode cL_law 392 = .ok (.iload 16, 2) := by decide +kernel
theorem dL_law_394 : decode cL_law 394 = .ok (.iconst 1, 1) := by decide +kernel
theorem dL_law_395 : decode cL_law 395 = .ok (.iastore, 1) := by decide +kernel
theorem dL_law_396 : decode cL_law 396 = .ok (.aload_n 1, 1) := by decide +kernel
theorem dL_law_397 : decode cL_law 397 = .ok (.iload 16, 2) := by decide +kernel
theorem dL_law_399 : decode cL_law 399 = .ok (.iload 14, 2) := by decide +kernel
theorem dL_law_401 : decode cL_law 401 = .ok (.iconst 5, 1) := by decide +kernel
theorem dL_law_402 : decode cL_law 402 = .ok (.ishr, 1) := by decide +kernel
theorem dL_law_403 : decode cL_law 403 = .ok (.sipush 200, 3) := by decide +kernel
theorem dL_law_406 : decode cL_law 406 = .ok (.invokestatic 43, 3) := by decide +kernel
theorem dL_law_409 : decode cL_law 409 = .ok (.invokevirtual 60, 3) := by decide +kernel
theorem dL_law_412 : decode cL_law 412 = .ok (.iload 8, 2) := by decide +kernel
theorem dL_law_414 : decode cL_law 414 = .ok (.if_icmp .ne 7, 3) := by decide +kernel
theorem dL_law_417 : decode cL_law 417 = .ok (.iconst 1, 1) := by decide +kernel
theorem dL_law_418 : decode cL_law 418 = .ok (.goto 4, 3) := by decide +kernel
theorem dL_law_421 : decode cL_law 421 = .ok (.iconst 0, 1) := by decide +kernel
theorem dL_law_422 : decode cL_law 422 = .ok (.istore 17, 2) := by decide +kernel
theorem dL_law_424 : decode cL_law 424 = .ok (.iinc 8 1, 3) := by decide +kernel
theorem dL_law_427 : decode cL_law 427 = .ok (.iinc 9 1, 3) := by decide +kernel
theorem dL_law_430 : decode cL_law 430 = .ok (.goto 439, 3) := by decide +kernel
theorem dL_law_433 : decode cL_law 433 = .ok (.iload 15, 2) := by decide +kernel
theorem dL_law_435 : decode cL_law 435 = .ok (.bipush 7, 2) := by decide +kernel
theorem dL_law_437 : decode cL_law 437 = .ok (.if_icmp .ne 142, 3) := by decide +kernel
theorem dL_law_440 : decode cL_law 440 = .ok (.iload 10, 2) := by decide +kernel
theorem dL_law_442 : decode cL_law 442 = .ok (.ifCond .ne 137, 3) := by decide +kernel
theorem dL_law_445 : decode cL_law 445 = .ok (.aload_n 1, 1) := by decide +kernel
theorem dL_law_446 : decode cL_law 446 = .ok (.invokevirtual 24, 3) := by decide +kernel
theorem dL_law_449 : decode cL_law 449 = .ok (.istore 18, 2) := by decide +kernel
theorem dL_law_451 : decode cL_law 451 = .ok (.aload_n 1, 1) := by decide +kernel
theorem dL_law_452 : decode cL_law 452 = .ok (.invokevirtual 27, 3) := by decide +kernel
theorem dL_law_455 : decode cL_law 455 = .ok (.ifCond .lt 121, 3) := by decide +kernel
theorem dL_law_458 : decode cL_law 458 = .ok (.iload 18, 2) := by decide +kernel
theorem dL_law_460 : decode cL_law 460 = .ok (.ifCond .lt 116, 3) := by decide +kernel
theorem dL_law_463 : decode cL_law 463 = .ok (.aload_n 1, 1) := by decide +kernel
theorem dL_law_464 : decode cL_law 464 = .ok (.invokevirtual 63, 3) := by decide +kernel
theorem dL_law_467 : decode cL_law 467 = .ok (.pop, 1) := by decide +kernel
theorem dL_law_468 : decode cL_law 468 = .ok (.aload_n 1, 1) := by decide +kernel
theorem dL_law_469 : decode cL_law 469 = .ok (.invokevirtual 27, 3) := by decide +kernel
theorem dL_law_472 : decode cL_law 472 = .ok (.iload 18, 2) := by decide +kernel
theorem dL_law_474 : decode cL_law 474 = .ok (.if_icmp .le 13, 3) := by decide +kernel
theorem dL_law_477 : decode cL_law 477 = .ok (.aload_n 1, 1) := by decide +kernel
theorem dL_law_478 : decode cL_law 478 = .ok (.invokevirtual 27, 3) := by decide +kernel
theorem dL_law_481 : decode cL_law 481 = .ok (.iload 18, 2) := by decide +kernel
theorem dL_law_483 : decode cL_law 483 = .ok (.isub, 1) := by decide +kernel
theorem dL_law_484 : decode cL_law 484 = .ok (.goto 10, 3) := by decide +kernel
theorem dL_law_487 : decode cL_law 487 = .ok (.iload 18, 2) := by decide +kernel
theorem dL_law_489 : decode cL_law 489 = .ok (.aload_n 1, 1) := by decide +kernel
theorem dL_law_490 : decode cL_law 490 = .ok (.invokevirtual 27, 3) := by decide +kernel
theorem dL_law_493 : decode cL_law 493 = .ok (.isub, 1) := by decide +kernel
theorem dL_law_494 : decode cL_law 494 = .ok (.istore 19, 2) := by decide +kernel
theorem dL_law_496 : decode cL_law 496 = .ok (.aload_n 1, 1) := by decide +kernel
theorem dL_law_497 : decode cL_law 497 = .ok (.iload 18, 2) := by decide +kernel
theorem dL_law_499 : decode cL_law 499 = .ok (.invokevirtual 67, 3) := by decide +kernel
theorem dL_law_502 : decode cL_law 502 = .ok (.iload 19, 2) := by decide +kernel
theorem dL_law_504 : decode cL_law 504 = .ok (.if_icmp .ne 25, 3) := by decide +kernel
theorem dL_law_507 : decode cL_law 507 = .ok (.aload_n 1, 1) := by decide +kernel
theorem dL_law_508 : decode cL_law 508 = .ok (.invokevirtual 27, 3) := by decide +kernel
theorem dL_law_511 : decode cL_law 511 = .ok (.iload 19, 2) := by decide +kernel
theorem dL_law_513 : decode cL_law 513 = .ok (.ifCond .ne 8, 3) := by decide +kernel
theorem dL_law_516 : decode cL_law 516 = .ok (.iload 18, 2) := by decide +kernel
theorem dL_law_518 : decode cL_law 518 = .ok (.goto 4, 3) := by decide +kernel
theorem dL_law_521 : decode cL_law 521 = .ok (.iconst (-1), 1) := by decide +kernel
theorem dL_law_522 : decode cL_law 522 = .ok (.if_icmp .ne 7, 3) := by decide +kernel
theorem dL_law_525 : decode cL_law 525 = .ok (.iconst 1, 1) := by decide +kernel
theorem dL_law_526 : decode cL_law 526 = .ok (.goto 4, 3) := by decide +kernel
theorem dL_law_529 : decode cL_law 529 = .ok (.iconst 0, 1) := by decide +kernel
theorem dL_law_530 : decode cL_law 530 = .ok (.istore 17, 2) := by decide +kernel
theorem dL_law_532 : decode cL_law 532 = .ok (.iload 19, 2) := by decide +kernel
theorem dL_law_534 : decode cL_law 534 = .ok (.ifCond .le 42, 3) := by decide +kernel
theorem dL_law_537 : decode cL_law 537 = .ok (.iload 11, 2) := by decide +kernel
theorem dL_law_539 : decode cL_law 539 = .ok (.iload 19, 2) := by decide +kernel
theorem dL_law_541 : decode cL_law 541 = .ok (.iadd, 1) := by decide +kernel
theorem dL_law_542 : decode cL_law 542 = .ok (.istore 11, 2) := by decide +kernel
theorem dL_law_544 : decode cL_law 544 = .ok (.iload 17, 2) := by decide +kernel
theorem dL_law_546 : decode cL_law 546 = .ok (.ifCond .eq 27, 3) := by decide +kernel
theorem dL_law_549 : decode cL_law 549 = .ok (.aload_n 1, 1) := by decide +kernel
theorem dL_law_550 : decode cL_law 550 = .ok (.iload 19, 2) := by decide +kernel
theorem dL_law_552 : decode cL_law 552 = .ok (.invokevirtual 70, 3) := by decide +kernel
theorem dL_law_555 : decode cL_law 555 = .ok (.iload 11, 2) := by decide +kernel
theorem dL_law_557 : decode cL_law 557 = .ok (.if_icmp .ne 16, 3) := by decide +kernel
theorem dL_law_560 : decode cL_law 560 = .ok (.aload_n 1, 1) := by decide +kernel
theorem dL_law_561 : decode cL_law 561 = .ok (.invokevirtual 27, 3) := by decide +kernel
theorem dL_law_564 : decode cL_law 564 = .ok (.iload 18, 2) := by decide +kernel
theorem dL_law_566 : decode cL_law 566 = .ok (.if_icmp .ne 7, 3) := by decide +kernel
theorem dL_law_569 : decode cL_law 569 = .ok (.iconst 1, 1) := by decide +kernel
theorem dL_law_570 : decode cL_law 570 = .ok (.goto 4, 3) := by decide +kernel
theorem dL_law_573 : decode cL_law 573 = .ok (.iconst 0, 1) := by decide +kernel
theorem dL_law_574 : decode cL_law 574 = .ok (.istore 17, 2) := by decide +kernel
theorem dL_law_576 : decode cL_law 576 = .ok (.goto 293, 3) := by decide +kernel
theorem dL_law_579 : decode cL_law 579 = .ok (.iload 15, 2) := by decide +kernel
theorem dL_law_581 : decode cL_law 581 = .ok (.bipush 10, 2) := by decide +kernel
theorem dL_law_583 : decode cL_law 583 = .ok (.if_icmp .ge 143, 3) := by decide +kernel
theorem dL_law_586 : decode cL_law 586 = .ok (.aload_n 1, 1) := by decide +kernel
theorem dL_law_587 : decode cL_law 587 = .ok (.invokevirtual 27, 3) := by decide +kernel
theorem dL_law_590 : decode cL_law 590 = .ok (.ifCond .lt 136, 3) := by decide +kernel
theorem dL_law_593 : decode cL_law 593 = .ok (.iload 10, 2) := by decide +kernel
theorem dL_law_595 : decode cL_law 595 = .ok (.iconst 1, 1) := by decide +kernel
theorem dL_law_596 : decode cL_law 596 = .ok (.if_icmp .eq 12, 3) := by decide +kernel
theorem dL_law_599 : decode cL_law 599 = .ok (.aload_n 1, 1) := by decide +kernel
theorem dL_law_600 : decode cL_law 600 = .ok (.iconst 2, 1) := by decide +kernel
theorem dL_law_601 : decode cL_law 601 = .ok (.invokevirtual 73, 3) := by decide +kernel
theorem dL_law_604 : decode cL_law 604 = .ok (.iconst 1, 1) := by decide +kernel
theorem dL_law_605 : decode cL_law 605 = .ok (.if_icmp .ne 7, 3) := by decide +kernel
theorem dL_law_608 : decode cL_law 608 = .ok (.iconst 1, 1) := by decide +kernel
theorem dL_law_609 : decode cL_law 609 = .ok (.goto 4, 3) := by decide +kernel
theorem dL_law_612 : decode cL_law 612 = .ok (.iconst 0, 1) := by decide +kernel
theorem dL_law_613 : decode cL_law 613 = .ok (.istore 17, 2) := by decide +kernel
theorem dL_law_615 : decode cL_law 615 = .ok (.aload_n 1, 1) := by decide +kernel
theorem dL_law_616 : decode cL_law 616 = .ok (.invokevirtual 24, 3) := by decide +kernel
theorem dL_law_619 : decode cL_law 619 = .ok (.istore 18, 2) := by decide +kernel
end
section
set_option maxRecDepth 20000 in
theorem ggL_law_X3_init : GoodIn wsL_law wsX3_init := goodIn_r _ [6, 7, 8, 9, 10, 11, 12, 13, 14, 15, 16, 17, 18, 19, 20, 21, 22, 23, 24, 25, 3, 26, 27, 28, 29, 30, 31, 32, 33, 34, 35, 36, 37, 38, 39, 40, 41, 42, 43, 44, 45, 46, 47, 48, 49, 50, 393, 394, 395, 396, 397, 398, 389, 390, 391, 392, 399, 400, 401, 402, 403, 404, 405, 406, 407, 408, 409, 410] (by decide +kernel) (by decide +kernel)
set_option maxRecDepth 20000 in
theorem gL_law_X3_init : GoodIn wsL_law (wsX3_init) := ggL_law_X3_init
set_option maxRecDepth 20000 in
theorem ggL_law_L_cell : GoodIn wsL_law wsL_cell := goodIn_r _ [54] (by decide +kernel) (by decide +kernel)
set_option maxRecDepth 20000 in
theorem gL_law_L_cell : GoodIn wsL_law (va_wsS RL 37 yL_cell wsL_cell) := goodIn_app (goodIn_of _ (by decide +kernel)) ggL_law_L_cell
set_option maxRecDepth 20000 in
theorem ggL_law_L_low : GoodIn wsL_law wsL_low := goodIn_r _ [57, 58] (by decide +kernel) (by decide +kernel)
set_option maxRecDepth 20000 in
theorem gL_law_L_low : GoodIn wsL_law (va_wsS RL 43 yL_low wsL_low) := goodIn_app (goodIn_of _ (by decide +kernel)) ggL_law_L_low
set_option maxRecDepth 20000 in
theorem ggL_law_X3_addBox : GoodIn wsL_law wsX3_addBox := goodIn_ca (goodIn_ca (goodIn_r _ [62, 63, 64, 65, 66, 13, 67, 68, 2, 69, 70, 71, 72, 12, 73, 31, 74, 75, 76, 77, 27, 28, 29, 30, 78, 389, 390, 391, 392, 393, 394, 395, 396, 397, 398] (by decide +kernel) (by decide +kernel)) (goodIn_sub (fun _ h => List.mem_append_left _ (List.mem_append_left _ (List.mem_append_right _ h))) (by decide +kernel))) (goodIn_sub (fun _ h => List.mem_append_left _ (List.mem_append_right _ h)) (by decide +kernel))
set_option maxRecDepth 20000 in
theorem gL_law_X3_addBox : GoodIn wsL_law (wsV RL 47 RX3 yX3_addBox wsX3_addBox) := goodIn_app (goodIn_of _ (by decide +kernel)) ggL_law_X3_addBox
set_option maxRecDepth 20000 in
theorem ggL_law_X3_spotOf : GoodIn wsL_law wsX3_spotOf := goodIn_ca (goodIn_r _ [82, 13, 83, 84, 85, 2, 86, 87, 88, 89, 90, 91, 12, 92, 31, 68, 69, 93, 94, 95, 96, 30, 97, 389, 390, 391, 392, 393, 394, 395, 396, 397, 398] (by decide +kernel) (by decide +kernel)) (goodIn_sub (fun _ h => List.mem_append_right _ h) (by decide +kernel))
set_option maxRecDepth 20000 in
theorem gL_law_X3_spotOf : GoodIn wsL_law (wsV RL 14 RX3 yX3_spotOf wsX3_spotOf) := goodIn_app (goodIn_of _ (by decide +kernel)) ggL_law_X3_spotOf
set_option maxRecDepth 20000 in
theorem ggL_law_X3_bestSpot : GoodIn wsL_law wsX3_bestSpot := goodIn_ca (goodIn_ca (goodIn_r _ [101, 13, 83, 84, 85, 2, 86, 87, 88, 89, 90, 91, 12, 92, 31, 68, 69, 102, 103, 104, 105, 65, 66, 93, 94, 95, 96, 30, 97, 106, 107, 108, 109, 26, 27, 28, 29, 110, 111, 112, 113, 114, 115, 116, 117, 118, 119, 120, 121, 122, 123, 124, 125, 126, 127, 128, 129, 130, 131, 132, 133, 134, 389, 390, 391, 392, 393, 394, 395, 396, 397, 398] (by decide +kernel) (by decide +kernel)) (goodIn_sub (fun _ h => List.mem_append_right _ h) (by decide +kernel))) (goodIn_sub (fun _ h => List.mem_append_left _ (List.mem_append_right _ h)) (by decide +kernel))
set_option maxRecDepth 20000 in
theorem gL_law_X3_bestSpot : GoodIn wsL_law (wsV RL 51 RX3 yX3_bestSpot wsX3_bestSpot) := goodIn_app (goodIn_of _ (by decide +kernel)) ggL_law_X3_bestSpot
set_option maxRecDepth 20000 in
theorem ggL_law_X3_weight : GoodIn wsL_law wsX3_weight := goodIn_ca (goodIn_r _ [138, 13, 139, 140, 141, 2, 142, 87, 88, 67, 68, 69, 143, 111, 112, 12, 113, 31, 28, 114, 115, 116, 117, 118, 94, 95, 96, 30, 97, 90, 91, 92, 119, 120, 389, 390, 391, 392, 393, 394, 395, 396, 397, 398] (by decide +kernel) (by decide +kernel)) (goodIn_sub (fun _ h => List.mem_append_right _ h) (by decide +kernel))
set_option maxRecDepth 20000 in
theorem gL_law_X3_weight : GoodIn wsL_law (wsV RL 17 RX3 yX3_weight wsX3_weight) := goodIn_app (goodIn_of _ (by decide +kernel)) ggL_law_X3_weight
set_option maxRecDepth 20000 in
theorem ggL_law_X3_lay : GoodIn wsL_law wsX3_lay := goodIn_ca (goodIn_ca (goodIn_r _ [147, 65, 66, 13, 83, 84, 85, 2, 86, 87, 88, 89, 90, 91, 12, 92, 31, 68, 69, 102, 103, 104, 105, 93, 94, 95, 96, 30, 97, 106, 107, 108, 109, 26, 27, 28, 29, 110, 111, 112, 113, 114, 115, 116, 117, 118, 119, 120, 121, 122, 123, 124, 125, 126, 127, 128, 129, 130, 131, 132, 133, 134, 148, 149, 150, 151, 389, 390, 391, 392, 393, 394, 395, 396, 397, 398] (by decide +kernel) (by decide +kernel)) (goodIn_sub (fun _ h => List.mem_append_left _ (List.mem_append_right _ h)) (by decide +kernel))) (goodIn_sub (fun _ h => List.mem_append_right _ h) (by decide +kernel))
set_option maxRecDepth 20000 in
theorem gL_law_X3_lay : GoodIn wsL_law (wsV RL 54 RX3 yX3_lay wsX3_lay) := goodIn_app (goodIn_of _ (by decide +kernel)) ggL_law_X3_lay
set_option maxRecDepth 20000 in
theorem ggL_law_X3_setClimate : GoodIn wsL_law wsX3_setClimate := goodIn_ca (goodIn_ca (goodIn_r _ [155, 63, 64, 13, 139, 140, 141, 2, 142, 87, 88, 67, 68, 69, 156, 157, 158, 12, 159, 26, 160, 161, 162, 163, 389, 390, 391, 392, 393, 394, 395, 396, 397, 398] (by decide +kernel) (by decide +kernel)) (goodIn_sub (fun _ h => List.mem_append_left _ (List.mem_append_left _ (List.mem_append_right _ h))) (by decide +kernel))) (goodIn_sub (fun _ h => List.mem_append_right _ h) (by decide +kernel))
set_option maxRecDepth 20000 in
theorem gL_law_X3_setClimate : GoodIn wsL_law (wsV RL 57 RX3 yX3_setClimate wsX3_setClimate) := goodIn_app (goodIn_of _ (by decide +kernel)) ggL_law_X3_setClimate
set_option maxRecDepth 20000 in
theorem ggL_law_X3_order : GoodIn wsL_law wsX3_order := goodIn_ca (goodIn_ca (goodIn_ca (goodIn_r _ [167, 63, 64, 65, 66, 21, 83, 84, 85, 2, 86, 87, 88, 13, 89, 90, 91, 12, 92, 31, 68, 69, 168, 169, 170, 20, 171, 49, 48, 46, 172, 173, 174, 175, 176, 177, 178, 179, 47, 180, 389, 390, 391, 392, 393, 394, 395, 396, 397, 398, 406, 407, 408, 409, 410] (by decide +kernel) (by decide +kernel)) (goodIn_sub (fun _ h => List.mem_append_left _ (List.mem_append_left _ (List.mem_append_right _ h))) (by decide +kernel))) (goodIn_sub (fun _ h => List.mem_append_left _ (List.mem_append_right _ h)) (by decide +kernel))) (goodIn_sub (fun _ h => List.mem_append_right _ h) (by decide +kernel))
set_option maxRecDepth 20000 in
theorem gL_law_X3_order : GoodIn wsL_law (wsV RL 60 RX3 yX3_order wsX3_order) := goodIn_app (goodIn_of _ (by decide +kernel)) ggL_law_X3_order
set_option maxRecDepth 20000 in
theorem ggL_law_X3_nextAisle : GoodIn wsL_law wsX3_nextAisle := goodIn_r _ [184, 21, 13, 185, 186, 187, 20, 188, 49, 46, 48, 47, 189, 190, 191, 12, 192, 118, 94, 95, 96, 30, 97, 90, 91, 92, 31, 68, 2, 69, 193, 194, 195, 119, 120, 196, 197, 198, 199, 200, 201, 202, 203, 389, 390, 391, 392, 406, 407, 408, 409, 410, 393, 394, 395, 396, 397, 398] (by decide +kernel) (by decide +kernel)
set_option maxRecDepth 20000 in
theorem gL_law_X3_nextAisle : GoodIn wsL_law (wsV RL 24 RX3 yX3_nextAisle wsX3_nextAisle) := goodIn_app (goodIn_of _ (by decide +kernel)) ggL_law_X3_nextAisle
set_option maxRecDepth 20000 in
theorem ggL_law_X3_opened : GoodIn wsL_law wsX3_opened := goodIn_r _ [207, 17, 208, 209, 210, 16, 211, 39, 40, 389, 390, 391, 392, 399, 400, 401, 402, 403, 404, 405] (by decide +kernel) (by decide +kernel)
set_option maxRecDepth 20000 in
theorem gL_law_X3_opened : GoodIn wsL_law (wsV RL 27 RX3 yX3_opened wsX3_opened) := goodIn_app (goodIn_of _ (by decide +kernel)) ggL_law_X3_opened
set_option maxRecDepth 20000 in
theorem ggL_law_X3_look : GoodIn wsL_law wsX3_look := goodIn_ca (goodIn_r _ [215, 65, 66, 17, 208, 209, 210, 16, 211, 39, 40, 216, 217, 218, 219, 36, 68, 2, 69, 220, 221, 222, 223, 389, 390, 391, 392, 399, 400, 401, 402, 403, 404, 405] (by decide +kernel) (by decide +kernel)) (goodIn_sub (fun _ h => List.mem_append_left _ (List.mem_append_right _ h)) (by decide +kernel))
set_option maxRecDepth 20000 in
theorem gL_law_X3_look : GoodIn wsL_law (wsV RL 63 RX3 yX3_look wsX3_look) := goodIn_app (goodIn_of _ (by decide +kernel)) ggL_law_X3_look
set_option maxRecDepth 20000 in
theorem ggL_law_X3_open : GoodIn wsL_law wsX3_open := goodIn_ca (goodIn_ca (goodIn_r _ [227, 65, 66, 17, 228, 229, 230, 2, 231, 87, 88, 67, 68, 69, 232, 233, 234, 16, 235, 41, 42, 236, 209, 210, 211, 39, 40, 237, 238, 239, 240, 37, 241, 217, 218, 219, 36, 242, 243, 244, 245, 246, 247, 248, 249, 250, 251, 252, 253, 389, 390, 391, 392, 399, 400, 401, 402, 403, 404, 405] (by decide +kernel) (by decide +kernel)) (goodIn_sub (fun _ h => List.mem_append_left _ (List.mem_append_right _ h)) (by decide +kernel))) (goodIn_sub (fun _ h => List.mem_append_right _ h) (by decide +kernel))
set_option maxRecDepth 20000 in
theorem gL_law_X3_open : GoodIn wsL_law (wsV RL 67 RX3 yX3_open wsX3_open) := goodIn_app (goodIn_of _ (by decide +kernel)) ggL_law_X3_open
set_option maxRecDepth 20000 in
theorem ggL_law_X3_pass : GoodIn wsL_law wsX3_pass := goodIn_ca (goodIn_ca (goodIn_r _ [257, 63, 64, 65, 66, 22, 17, 258, 259, 260, 16, 261, 41, 42, 262, 263, 252, 264, 265, 247, 248, 249, 40, 39, 250, 251, 253, 266, 267, 268, 269, 38, 68, 2, 69, 389, 390, 391, 392, 399, 400, 401, 402, 403, 404, 405] (by decide +kernel) (by decide +kernel)) (goodIn_sub (fun _ h => List.mem_append_left _ (List.mem_append_left _ (List.mem_append_right _ h))) (by decide +kernel))) (goodIn_sub (fun _ h => List.mem_append_left _ (List.mem_append_right _ h)) (by decide +kernel))
set_option maxRecDepth 20000 in
theorem gL_law_X3_pass : GoodIn wsL_law (wsV RL 70 RX3 yX3_pass wsX3_pass) := goodIn_app (goodIn_of _ (by decide +kernel)) ggL_law_X3_pass
set_option maxRecDepth 20000 in
theorem ggL_law_X3_goIn : GoodIn wsL_law wsX3_goIn := goodIn_ca (goodIn_ca (goodIn_r _ [273, 65, 66, 17, 274, 275, 276, 2, 277, 87, 88, 67, 68, 69, 278, 279, 280, 16, 281, 37, 282, 283, 284, 285, 42, 236, 209, 210, 211, 39, 40, 286, 287, 288, 289, 290, 238, 239, 240, 389, 390, 391, 392, 399, 400, 401, 402, 403, 404, 405] (by decide +kernel) (by decide +kernel)) (goodIn_sub (fun _ h => List.mem_append_left _ (List.mem_append_right _ h)) (by decide +kernel))) (goodIn_sub (fun _ h => List.mem_append_right _ h) (by decide +kernel))
set_option maxRecDepth 20000 in
theorem gL_law_X3_goIn : GoodIn wsL_law (wsV RL 73 RX3 yX3_goIn wsX3_goIn) := goodIn_app (goodIn_of _ (by decide +kernel)) ggL_law_X3_goIn
set_option maxRecDepth 20000 in
theorem ggL_law_X3_late : GoodIn wsL_law wsX3_late := goodIn_r _ [294, 21, 295, 296, 297, 20, 298, 50, 389, 390, 391, 392, 406, 407, 408, 409, 410] (by decide +kernel) (by decide +kernel)
set_option maxRecDepth 20000 in
theorem gL_law_X3_late : GoodIn wsL_law (wsV RL 76 RX3 yX3_late wsX3_late) := goodIn_app (goodIn_of _ (by decide +kernel)) ggL_law_X3_late
set_option maxRecDepth 20000 in
theorem ggL_law_X3_fetch : GoodIn wsL_law wsX3_fetch := goodIn_ca (goodIn_ca (goodIn_r _ [302, 65, 66, 21, 13, 17, 22, 274, 275, 276, 2, 277, 87, 88, 67, 68, 69, 303, 304, 305, 306, 278, 279, 280, 16, 281, 37, 208, 209, 210, 211, 39, 40, 185, 186, 187, 20, 188, 49, 46, 48, 47, 189, 190, 191, 12, 192, 118, 94, 95, 96, 30, 97, 90, 91, 92, 31, 193, 194, 195, 119, 120, 196, 197, 198, 307, 308, 309, 310, 50, 199, 200, 201, 202, 148, 149, 150, 151, 389, 390, 391, 392, 399, 400, 401, 402, 403, 404, 405, 406, 407, 408, 409, 410, 393, 394, 395, 396, 397, 398] (by decide +kernel) (by decide +kernel)) (goodIn_sub (fun _ h => List.mem_append_left _ (List.mem_append_right _ h)) (by decide +kernel))) (goodIn_sub (fun _ h => List.mem_append_right _ h) (by decide +kernel))
set_option maxRecDepth 20000 in
theorem gL_law_X3_fetch : GoodIn wsL_law (wsV RL 79 RX3 yX3_fetch wsX3_fetch) := goodIn_app (goodIn_of _ (by decide +kernel)) ggL_law_X3_fetch
set_option maxRecDepth 20000 in
theorem ggL_law_X3_goOut : GoodIn wsL_law wsX3_goOut := goodIn_ca (goodIn_ca (goodIn_r _ [314, 17, 274, 275, 276, 2, 277, 87, 88, 67, 68, 69, 303, 304, 305, 306, 65, 66, 278, 279, 280, 16, 281, 37, 286, 287, 288, 289, 290, 238, 239, 240, 389, 390, 391, 392, 399, 400, 401, 402, 403, 404, 405] (by decide +kernel) (by decide +kernel)) (goodIn_sub (fun _ h => List.mem_append_right _ h) (by decide +kernel))) (goodIn_sub (fun _ h => List.mem_append_left _ (List.mem_append_right _ h)) (by decide +kernel))
set_option maxRecDepth 20000 in
theorem gL_law_X3_goOut : GoodIn wsL_law (wsV RL 82 RX3 yX3_goOut wsX3_goOut) := goodIn_app (goodIn_of _ (by decide +kernel)) ggL_law_X3_goOut
set_option maxRecDepth 20000 in
theorem ggL_law_X3_doubt : GoodIn wsL_law wsX3_doubt := goodIn_ca (goodIn_r _ [318, 17, 228, 229, 230, 2, 231, 87, 88, 67, 68, 69, 216, 217, 218, 16, 219, 36, 220, 221, 222, 223, 389, 390, 391, 392, 399, 400, 401, 402, 403, 404, 405] (by decide +kernel) (by decide +kernel)) (goodIn_sub (fun _ h => List.mem_append_right _ h) (by decide +kernel))
set_option maxRecDepth 20000 in
theorem gL_law_X3_doubt : GoodIn wsL_law (wsV RL 85 RX3 yX3_doubt wsX3_doubt) := goodIn_app (goodIn_of _ (by decide +kernel)) ggL_law_X3_doubt
set_option maxRecDepth 20000 in
theorem ggL_law_X3_stall : GoodIn wsL_law wsX3_stall := goodIn_r _ [322, 17, 323, 324, 325, 16, 326, 41, 389, 390, 391, 392, 399, 400, 401, 402, 403, 404, 405] (by decide +kernel) (by decide +kernel)
set_option maxRecDepth 20000 in
theorem gL_law_X3_stall : GoodIn wsL_law (wsV RL 89 RX3 yX3_stall wsX3_stall) := goodIn_app (goodIn_of _ (by decide +kernel)) ggL_law_X3_stall
set_option maxRecDepth 20000 in
theorem ggL_law_X3_smoke : GoodIn wsL_law wsX3_smoke := goodIn_r _ [330, 17, 331, 332, 333, 16, 334, 42, 335, 336, 337, 338, 37, 237, 238, 239, 240, 389, 390, 391, 392, 399, 400, 401, 402, 403, 404, 405] (by decide +kernel) (by decide +kernel)
set_option maxRecDepth 20000 in
theorem gL_law_X3_smoke : GoodIn wsL_law (wsV RL 93 RX3 yX3_smoke wsX3_smoke) := goodIn_app (goodIn_of _ (by decide +kernel)) ggL_law_X3_smoke
set_option maxRecDepth 20000 in
theorem ggL_law_L_areBoxes : GoodIn wsL_law wsL_areBoxes := goodIn_ca (goodIn_r _ [341, 342, 343, 344, 2, 345, 13, 346, 347, 348, 349, 87, 88, 350, 351, 352, 195, 119, 120, 196, 197, 198, 353, 354, 355, 356, 128, 129, 12, 130, 31, 30, 79, 80, 81, 82, 83, 84, 85, 86, 89, 90, 91, 92, 68, 69, 93, 94, 95, 96, 97, 135, 136, 137, 138, 139, 140, 141, 142, 67, 143, 111, 112, 113, 28, 114, 115, 116, 117, 118, 357, 358, 359, 360, 361, 362, 363, 364, 365, 366, 367, 368, 27, 369, 157, 158, 159, 26, 389, 390, 391, 392, 393, 394, 395, 396, 397, 398] (by decide +kernel) (by decide +kernel)) (goodIn_sub (fun _ h => List.mem_append_right _ h) (by decide +kernel))
set_option maxRecDepth 20000 in
theorem gL_law_L_areBoxes : GoodIn wsL_law (va_wsS RL 97 yL_areBoxes wsL_areBoxes) := goodIn_app (goodIn_of _ (by decide +kernel)) ggL_law_L_areBoxes
set_option maxRecDepth 20000 in
theorem ggL_law_L_isOpen : GoodIn wsL_law wsL_isOpen := goodIn_r _ [372, 181, 182, 183, 2, 184, 21, 13, 185, 186, 187, 20, 188, 49, 46, 48, 47, 189, 190, 191, 12, 192, 118, 94, 95, 96, 30, 97, 90, 91, 92, 31, 68, 69, 193, 194, 195, 119, 120, 196, 197, 198, 199, 200, 201, 202, 203, 204, 205, 206, 207, 17, 208, 209, 210, 16, 211, 39, 40, 373, 374, 375, 376, 377, 378, 379, 380, 38, 381, 382, 383, 384, 385, 386, 387, 388, 389, 390, 391, 392, 406, 407, 408, 409, 410, 393, 394, 395, 396, 397, 398, 399, 400, 401, 402, 403, 404, 405] (by decide +kernel) (by decide +kernel)
set_option maxRecDepth 20000 in
theorem gL_law_L_isOpen : GoodIn wsL_law (va_wsS RL 101 yL_isOpen wsL_isOpen) := goodIn_app (goodIn_of _ (by decide +kernel)) ggL_law_L_isOpen
theorem dL_law_621 : decode cL_law 621 = .ok (.iload 18, 2) := by decide +kernel
theorem dL_law_623 : decode cL_law 623 = .ok (.aload_n 1, 1) := by decide +kernel
theorem dL_law_624 : decode cL_law 624 = .ok (.invokevirtual 27, 3) := by decide +kernel
theorem dL_law_627 : decode cL_law 627 = .ok (.if_icmp .ne 73, 3) := by decide +kernel
theorem dL_law_630 : decode cL_law 630 = .ok (.aload_n 1, 1) := by decide +kernel
theorem dL_law_631 : decode cL_law 631 = .ok (.invokevirtual 76, 3) := by decide +kernel
theorem dL_law_634 : decode cL_law 634 = .ok (.istore 19, 2) := by decide +kernel
theorem dL_law_636 : decode cL_law 636 = .ok (.aload_n 1, 1) := by decide +kernel
theorem dL_law_637 : decode cL_law 637 = .ok (.iconst 2, 1) := by decide +kernel
theorem dL_law_638 : decode cL_law 638 = .ok (.invokevirtual 79, 3) := by decide +kernel
theorem dL_law_641 : decode cL_law 641 = .ok (.istore 20, 2) := by decide +kernel
theorem dL_law_643 : decode cL_law 643 = .ok (.iinc 9 (-1), 3) := by decide +kernel
theorem dL_law_646 : decode cL_law 646 = .ok (.aload 5, 2) := by decide +kernel
theorem dL_law_648 : decode cL_law 648 = .ok (.aload 6, 2) := by decide +kernel
theorem dL_law_650 : decode cL_law 650 = .ok (.iload 20, 2) := by decide +kernel
theorem dL_law_652 : decode cL_law 652 = .ok (.iaload, 1) := by decide +kernel
theorem dL_law_653 : decode cL_law 653 = .ok (.iconst 0, 1) := by decide +kernel
theorem dL_law_654 : decode cL_law 654 = .ok (.iastore, 1) := by decide +kernel
theorem dL_law_655 : decode cL_law 655 = .ok (.iload 17, 2) := by decide +kernel
theorem dL_law_657 : decode cL_law 657 = .ok (.ifCond .eq 40, 3) := by decide +kernel
theorem dL_law_660 : decode cL_law 660 = .ok (.aload_n 1, 1) := by decide +kernel
theorem dL_law_661 : decode cL_law 661 = .ok (.aload 6, 2) := by decide +kernel
theorem dL_law_663 : decode cL_law 663 = .ok (.iload 20, 2) := by decide +kernel
theorem dL_law_665 : decode cL_law 665 = .ok (.iaload, 1) := by decide +kernel
theorem dL_law_666 : decode cL_law 666 = .ok (.invokevirtual 14, 3) := by decide +kernel
theorem dL_law_669 : decode cL_law 669 = .ok (.iconst (-1), 1) := by decide +kernel
theorem dL_law_670 : decode cL_law 670 = .ok (.if_icmp .ne 27, 3) := by decide +kernel
theorem dL_law_673 : decode cL_law 673 = .ok (.aload_n 1, 1) := by decide +kernel
theorem dL_law_674 : decode cL_law 674 = .ok (.invokevirtual 76, 3) := by decide +kernel
theorem dL_law_677 : decode cL_law 677 = .ok (.iload 19, 2) := by decide +kernel
theorem dL_law_679 : decode cL_law 679 = .ok (.if_icmp .lt 18, 3) := by decide +kernel
theorem dL_law_682 : decode cL_law 682 = .ok (.aload_n 1, 1) := by decide +kernel
theorem dL_law_683 : decode cL_law 683 = .ok (.invokevirtual 76, 3) := by decide +kernel
theorem dL_law_686 : decode cL_law 686 = .ok (.iload 19, 2) := by decide +kernel
theorem dL_law_688 : decode cL_law 688 = .ok (.iconst 1, 1) := by decide +kernel
theorem dL_law_689 : decode cL_law 689 = .ok (.iadd, 1) := by decide +kernel
theorem dL_law_690 : decode cL_law 690 = .ok (.if_icmp .gt 7, 3) := by decide +kernel
theorem dL_law_693 : decode cL_law 693 = .ok (.iconst 1, 1) := by decide +kernel
theorem dL_law_694 : decode cL_law 694 = .ok (.goto 4, 3) := by decide +kernel
theorem dL_law_697 : decode cL_law 697 = .ok (.iconst 0, 1) := by decide +kernel
theorem dL_law_698 : decode cL_law 698 = .ok (.istore 17, 2) := by decide +kernel
theorem dL_law_700 : decode cL_law 700 = .ok (.iload 17, 2) := by decide +kernel
theorem dL_law_702 : decode cL_law 702 = .ok (.ifCond .eq 15, 3) := by decide +kernel
theorem dL_law_705 : decode cL_law 705 = .ok (.aload_n 1, 1) := by decide +kernel
theorem dL_law_706 : decode cL_law 706 = .ok (.iconst 2, 1) := by decide +kernel
theorem dL_law_707 : decode cL_law 707 = .ok (.invokevirtual 82, 3) := by decide +kernel
theorem dL_law_710 : decode cL_law 710 = .ok (.ifCond .ne 7, 3) := by decide +kernel
theorem dL_law_713 : decode cL_law 713 = .ok (.iconst 1, 1) := by decide +kernel
theorem dL_law_714 : decode cL_law 714 = .ok (.goto 4, 3) := by decide +kernel
theorem dL_law_717 : decode cL_law 717 = .ok (.iconst 0, 1) := by decide +kernel
theorem dL_law_718 : decode cL_law 718 = .ok (.istore 17, 2) := by decide +kernel
theorem dL_law_720 : decode cL_law 720 = .ok (.iconst 0, 1) := by decide +kernel
theorem dL_law_721 : decode cL_law 721 = .ok (.istore 10, 2) := by decide +kernel
theorem dL_law_723 : decode cL_law 723 = .ok (.goto 146, 3) := by decide +kernel
theorem dL_law_726 : decode cL_law 726 = .ok (.iload 15, 2) := by decide +kernel
theorem dL_law_728 : decode cL_law 728 = .ok (.bipush 10, 2) := by decide +kernel
theorem dL_law_730 : decode cL_law 730 = .ok (.if_icmp .ne 46, 3) := by decide +kernel
theorem dL_law_733 : decode cL_law 733 = .ok (.iload 14, 2) := by decide +kernel
theorem dL_law_735 : decode cL_law 735 = .ok (.bipush 7, 2) := by decide +kernel
theorem dL_law_737 : decode cL_law 737 = .ok (.invokestatic 43, 3) := by decide +kernel
theorem dL_law_740 : decode cL_law 740 = .ok (.istore 18, 2) := by decide +kernel
theorem dL_law_742 : decode cL_law 742 = .ok (.aload_n 1, 1) := by decide +kernel
theorem dL_law_743 : decode cL_law 743 = .ok (.iload 18, 2) := by decide +kernel
theorem dL_law_745 : decode cL_law 745 = .ok (.invokevirtual 85, 3) := by decide +kernel
theorem dL_law_748 : decode cL_law 748 = .ok (.aload_n 1, 1) := by decide +kernel
theorem dL_law_749 : decode cL_law 749 = .ok (.iload 18, 2) := by decide +kernel
theorem dL_law_751 : decode cL_law 751 = .ok (.invokevirtual 85, 3) := by decide +kernel
theorem dL_law_754 : decode cL_law 754 = .ok (.if_icmp .ne 12, 3) := by decide +kernel
theorem dL_law_757 : decode cL_law 757 = .ok (.aload_n 1, 1) := by decide +kernel
theorem dL_law_758 : decode cL_law 758 = .ok (.iload 18, 2) := by decide +kernel
theorem dL_law_760 : decode cL_law 760 = .ok (.invokevirtual 85, 3) := by decide +kernel
theorem dL_law_763 : decode cL_law 763 = .ok (.ifCond .ne 7, 3) := by decide +kernel
theorem dL_law_766 : decode cL_law 766 = .ok (.iconst 1, 1) := by decide +kernel
theorem dL_law_767 : decode cL_law 767 = .ok (.goto 4, 3) := by decide +kernel
theorem dL_law_770 : decode cL_law 770 = .ok (.iconst 0, 1) := by decide +kernel
theorem dL_law_771 : decode cL_law 771 = .ok (.istore 17, 2) := by decide +kernel
theorem dL_law_773 : decode cL_law 773 = .ok (.goto 96, 3) := by decide +kernel
theorem dL_law_776 : decode cL_law 776 = .ok (.iload 15, 2) := by decide +kernel
theorem dL_law_778 : decode cL_law 778 = .ok (.bipush 11, 2) := by decide +kernel
theorem dL_law_780 : decode cL_law 780 = .ok (.if_icmp .ne 53, 3) := by decide +kernel
theorem dL_law_783 : decode cL_law 783 = .ok (.aload_n 1, 1) := by decide +kernel
theorem dL_law_784 : decode cL_law 784 = .ok (.iconst 1, 1) := by decide +kernel
theorem dL_law_785 : decode cL_law 785 = .ok (.invokevirtual 89, 3) := by decide +kernel
theorem dL_law_788 : decode cL_law 788 = .ok (.ifCond .eq 39, 3) := by decide +kernel
theorem dL_law_791 : decode cL_law 791 = .ok (.aload_n 1, 1) := by decide +kernel
theorem dL_law_792 : decode cL_law 792 = .ok (.iconst 1, 1) := by decide +kernel
theorem dL_law_793 : decode cL_law 793 = .ok (.invokevirtual 89, 3) := by decide +kernel
theorem dL_law_796 : decode cL_law 796 = .ok (.ifCond .ne 31, 3) := by decide +kernel
theorem dL_law_799 : decode cL_law 799 = .ok (.aload_n 1, 1) := by decide +kernel
theorem dL_law_800 : decode cL_law 800 = .ok (.iconst 0, 1) := by decide +kernel
theorem dL_law_801 : decode cL_law 801 = .ok (.invokevirtual 89, 3) := by decide +kernel
theorem dL_law_804 : decode cL_law 804 = .ok (.ifCond .eq 23, 3) := by decide +kernel
theorem dL_law_807 : decode cL_law 807 = .ok (.aload_n 1, 1) := by decide +kernel
theorem dL_law_808 : decode cL_law 808 = .ok (.iconst 1, 1) := by decide +kernel
theorem dL_law_809 : decode cL_law 809 = .ok (.invokevirtual 93, 3) := by decide +kernel
theorem dL_law_812 : decode cL_law 812 = .ok (.ifCond .ne 15, 3) := by decide +kernel
theorem dL_law_815 : decode cL_law 815 = .ok (.aload_n 1, 1) := by decide +kernel
theorem dL_law_816 : decode cL_law 816 = .ok (.iconst 0, 1) := by decide +kernel
theorem dL_law_817 : decode cL_law 817 = .ok (.invokevirtual 93, 3) := by decide +kernel
theorem dL_law_820 : decode cL_law 820 = .ok (.ifCond .ne 7, 3) := by decide +kernel
theorem dL_law_823 : decode cL_law 823 = .ok (.iconst 1, 1) := by decide +kernel
theorem dL_law_824 : decode cL_law 824 = .ok (.goto 4, 3) := by decide +kernel
theorem dL_law_827 : decode cL_law 827 = .ok (.iconst 0, 1) := by decide +kernel
theorem dL_law_828 : decode cL_law 828 = .ok (.istore 17, 2) := by decide +kernel
theorem dL_law_830 : decode cL_law 830 = .ok (.goto 39, 3) := by decide +kernel
theorem dL_law_833 : decode cL_law 833 = .ok (.iconst 1, 1) := by decide +kernel
theorem dL_law_834 : decode cL_law 834 = .ok (.iload 14, 2) := by decide +kernel
theorem dL_law_836 : decode cL_law 836 = .ok (.bipush 30, 2) := by decide +kernel
theorem dL_law_838 : decode cL_law 838 = .ok (.invokestatic 43, 3) := by decide +kernel
theorem dL_law_841 : decode cL_law 841 = .ok (.iadd, 1) := by decide +kernel
theorem dL_law_842 : decode cL_law 842 = .ok (.istore 18, 2) := by decide +kernel
theorem dL_law_844 : decode cL_law 844 = .ok (.iload 11, 2) := by decide +kernel
theorem dL_law_846 : decode cL_law 846 = .ok (.iload 18, 2) := by decide +kernel
theorem dL_law_848 : decode cL_law 848 = .ok (.iadd, 1) := by decide +kernel
theorem dL_law_849 : decode cL_law 849 = .ok (.istore 11, 2) := by decide +kernel
theorem dL_law_851 : decode cL_law 851 = .ok (.aload_n 1, 1) := by decide +kernel
theorem dL_law_852 : decode cL_law 852 = .ok (.iload 18, 2) := by decide +kernel
theorem dL_law_854 : decode cL_law 854 = .ok (.invokevirtual 70, 3) := by decide +kernel
theorem dL_law_857 : decode cL_law 857 = .ok (.iload 11, 2) := by decide +kernel
theorem dL_law_859 : decode cL_law 859 = .ok (.if_icmp .ne 7, 3) := by decide +kernel
theorem dL_law_862 : decode cL_law 862 = .ok (.iconst 1, 1) := by decide +kernel
theorem dL_law_863 : decode cL_law 863 = .ok (.goto 4, 3) := by decide +kernel
theorem dL_law_866 : decode cL_law 866 = .ok (.iconst 0, 1) := by decide +kernel
theorem dL_law_867 : decode cL_law 867 = .ok (.istore 17, 2) := by decide +kernel
theorem dL_law_869 : decode cL_law 869 = .ok (.iload 17, 2) := by decide +kernel
theorem dL_law_871 : decode cL_law 871 = .ok (.ifCond .eq 25, 3) := by decide +kernel
theorem dL_law_874 : decode cL_law 874 = .ok (.aload_n 1, 1) := by decide +kernel
theorem dL_law_875 : decode cL_law 875 = .ok (.aload_n 2, 1) := by decide +kernel
theorem dL_law_876 : decode cL_law 876 = .ok (.aload_n 3, 1) := by decide +kernel
theorem dL_law_877 : decode cL_law 877 = .ok (.aload 4, 2) := by decide +kernel
theorem dL_law_879 : decode cL_law 879 = .ok (.iload 7, 2) := by decide +kernel
theorem dL_law_881 : decode cL_law 881 = .ok (.invokestatic 97, 3) := by decide +kernel
theorem dL_law_884 : decode cL_law 884 = .ok (.ifCond .eq 12, 3) := by decide +kernel
theorem dL_law_887 : decode cL_law 887 = .ok (.aload_n 1, 1) := by decide +kernel
theorem dL_law_888 : decode cL_law 888 = .ok (.iload 9, 2) := by decide +kernel
theorem dL_law_890 : decode cL_law 890 = .ok (.invokestatic 101, 3) := by decide +kernel
theorem dL_law_893 : decode cL_law 893 = .ok (.ifCond .ne 5, 3) := by decide +kernel
theorem dL_law_896 : decode cL_law 896 = .ok (.iconst 0, 1) := by decide +kernel
theorem dL_law_897 : decode cL_law 897 = .ok (.ireturn, 1) := by decide +kernel
theorem dL_law_898 : decode cL_law 898 = .ok (.iinc 12 1, 3) := by decide +kernel
theorem dL_law_901 : decode cL_law 901 = .ok (.goto (-847), 3) := by decide +kernel
theorem dL_law_904 : decode cL_law 904 = .ok (.iconst 1, 1) := by decide +kernel
theorem dL_law_905 : decode cL_law 905 = .ok (.ireturn, 1) := by decide +kernel
end
section
/-! my own layer: what a method is given (the machine's tables, the cells that it needs), what it owes, and a call's row -/
abbrev GT : Type := va_G × ClassId × ClassId
abbrev tysG (G : GT) : List (ClassId × FieldType) := [(G.2.1, .int), (G.2.2, .boolean)]
def nestW : List (String × Nat × MethodName) := [(RX3, 11, yX2_init), (RX3, 18, yX1_init), (RX3, 25, yX0_init), (RX2, 31, yX3_isBelow), (RX2, 50, yX3_shelfAt), (RX2, 47, yX3_aisleAt), (RX0, 33, yX3_isBelow), (RX2, 62, yX3_spotAt), (RX1, 63, yX3_isBelow)]
/-- what the tables say of the machine, beside the methods' own words -/
def Ev (G : GT) (U : State) : Prop :=
  va_K G.1 vwCl (tysG G) U ∧ (∀ q ∈ nestW, va_Nw (.methodLinkNest q.1 q.2.1 q.2.2 "Rackrail") U) ∧ True
theorem Ev.warm {G : GT} {s U : State} (hW : s.WarmedH U.vm) (h : Ev G s) : Ev G U :=
  ⟨va_K.moved hW.alike h.1, fun q hq => va_Nw.warmM hW (h.2.1 q hq), trivial⟩
theorem Ev.same {G : GT} {s U : State} (hv : U.vm = s.vm) (h : Ev G s) : Ev G U := Ev.warm (by rw [hv]; exact State.WarmedH.refl s) h
/-- a method's start: its arguments, its cells, and no more -/
def GP (G : GT) (av : List Value) (ws : va_W) (sz : Nat) : Array Value → State → Prop :=
  va_Pc av (fun U => U.heap.size = sz ∧ va_P G.1 vwCl ws U.heap ∧ Ev G U ∧ va_D (fun _ => True) ws)
theorem GP.blind {G : GT} {av : List Value} {ws : va_W} {sz : Nat} : FrameBlind (GP G av ws sz) := fun _ U _ _ h =>
  ⟨h.1, h.2.1, h.2.2.1, Ev.same (s := U) rfl h.2.2.2.1, h.2.2.2.2⟩
theorem fm_some {ws wc : va_W} {isC : List Nat} (hC : isC.map (fun i => ws[i]?) = wc.map some) : isC.filterMap (fun i => ws[i]?) = wc := by
  have h1 : isC.filterMap (fun i => ws[i]?) = (isC.map (fun i => ws[i]?)).filterMap id := by rw [List.filterMap_map]; rfl
  rw [h1, hC, List.filterMap_map]
  simp
theorem GP.go {G : GT} {A : Nat → Prop} {s : State} {H : Heap} {locs : List Loc} {ws wc : va_W} (hE : Ev G s) (hP : va_P G.1 vwCl ws H) (hD : va_D A ws) (hS : va_S A s.heap H locs) (hA : ∀ q, s.heap.size ≤ q → A q)
    (isC : List Nat) (hC : isC.map (fun i => ws[i]?) = wc.map some) (hn : va_nd isC = true) (av : List Value) : ∀ U : State, U.heap = H → s.WarmedH U.vm → GP G av wc H.size av.toArray U := by
  intro U hU hW
  exact ⟨rfl, by rw [hU], by rw [hU]; exact hP.sub isC (fm_some hC), Ev.warm hW hE, (hD.sub isC hn hC).weaken (fun _ _ _ _ => trivial)⟩
/-- a read: the outcome, the heap as it was -/
def PQo (o0 : Outcome) : Array Value → State → Outcome → State → Prop := fun _ st o t => o = o0 ∧ t.heap = st.heap
/-- a write: the outcome, the cells behind it, no other old cell changed -/
def MQo (G : GT) (o0 : Outcome) (w1 : va_W) (A : Nat → Prop) : Array Value → State → Outcome → State → Prop := fun _ st o t => o = o0 ∧ va_P G.1 vwCl w1 t.heap ∧ va_F A st t
/-- what holds at a body's first instruction -/
def Bx (G : GT) (p : Program) (s : State) (m : MethodId) (av : List Value) (meth : Method) (c : Code) (cc : ByteArray) (maxL : Nat) (ret : Option FieldType) (cls : String) (ws : List Cond) (w0 : va_W) (sz : Nat) (ls : Array Slot) : Prop :=
  p.tables.exec = Jvm.exec ∧ c.code = cc ∧ meth.sig.returnType = ret ∧ (∀ w ∈ ws, w.before av.toArray s = true) ∧ s.vm.findClass cls = some m.cls ∧ meth.locks = false ∧ c.maxLocals = maxL ∧ sz = s.heap.size ∧ va_P G.1 vwCl w0 s.heap ∧ Ev G s ∧ va_D (va_A w0 s.heap.size) w0 ∧ (∀ q : Nat, s.heap.size ≤ q → va_A w0 s.heap.size q) ∧ va_S (va_A w0 s.heap.size) s.heap s.heap [] ∧ lv_has ls maxL (lv_args 0 av)
section BODY
variable {l : Launch} {y : MethodName} {ws ws' : List Cond} {rm : Room} {mc ms sz : Nat} {free : Addr → Prop} {cc : ByteArray} {maxL : Nat} {ret : Option FieldType} {G : GT} {av : List Value} {w0 : va_W}
theorem bodyM {Qc : Array Value → State → Outcome → State → Prop} (hy : plainName y.cls = true) (hw : ws = Cond.code y cc maxL ret :: ws') (hn : (lg_sl av).length ≤ maxL)
    (body : ∀ p e s m below meth c ls, Bx G p s m av meth c cc maxL ret y.cls ws w0 sz ls → W p l e rm s m av.toArray below meth c s.heap [] 0 0 (MQ below Qc av.toArray s mc ms free) (F0 m 0 ls [])) : Met l y ws rm (GP G av w0 sz) Qc mc ms free := by
  refine Met.ofW (cc := cc) (maxL := maxL) (ret := ret) hy hw ?_
  intro p e s m args below meth c s₁ B hml hv
  obtain ⟨rfl, hsz, hP, hE, hD0⟩ := hv
  have hl := lv_entry av (n := maxL) hn
  rw [lg_entry_eq]
  exact body p e s m below meth c _ ⟨B.exec, B.bytes, B.returns, atoms_spec (ws := ws) B.pre, findClass_of_methodNamed B.named, B.notSynchronized, hml, hsz.symm, hP, hE, hD0.self, fun _ h => Or.inr h, va_S.rf, hl⟩
end BODY
/-- the cells of a callee, put back into the caller's list -/
def sp_put (ws : va_W) : List Nat → va_W → va_W
  | [], _ => ws
  | _ :: _, [] => ws
  | i :: is, w :: wc => (sp_put ws is wc).set i w
theorem sp_put_len (ws : va_W) : ∀ (is : List Nat) (wc : va_W), (sp_put ws is wc).length = ws.length
  | [], _ => rfl
  | _ :: _, [] => rfl
  | i :: is, w :: wc => by simp [sp_put, sp_put_len ws is wc]
theorem sp_put_at (ws : va_W) : ∀ (is : List Nat) (wc : va_W), is.length = wc.length → ∀ (k : Nat) (q : Nat × va_E), (sp_put ws is wc)[k]? = some q → (∃ j : Nat, is[j]? = some k ∧ wc[j]? = some q) ∨ (ws[k]? = some q ∧ k ∉ is)
  | [], _, _, k, q, h => Or.inr ⟨h, fun z => nomatch z⟩
  | _ :: _, [], hl, _, _, _ => by simp at hl
  | i :: is, w :: wc, hl, k, q, h => by
    by_cases hk : i = k
    · subst hk
      by_cases hi : i < (sp_put ws is wc).length
      · have h2 : ((sp_put ws is wc).set i w)[i]? = some w := by rw [List.getElem?_set]; simp [hi]
        have h3 : some w = some q := h2.symm.trans h
        exact Or.inl ⟨0, rfl, h3⟩
      · have h2 : ((sp_put ws is wc).set i w)[i]? = none := by rw [List.getElem?_eq_none]; simp; omega
        have h3 : (none : Option (Nat × va_E)) = some q := h2.symm.trans h
        exact absurd h3 (by simp)
    · have h2 : ((sp_put ws is wc).set i w)[k]? = (sp_put ws is wc)[k]? := List.getElem?_set_ne hk
      rcases sp_put_at ws is wc (by simpa using hl) k q (h2.symm.trans h) with ⟨j, a, b⟩ | ⟨a, b⟩
      · exact Or.inl ⟨j + 1, a, b⟩
      · exact Or.inr ⟨a, fun z => (List.mem_cons.mp z).elim (fun e => hk e.symm) b⟩
theorem va_D_addr {A : Nat → Prop} {ws wn : va_W} (h : va_D A ws) (e : wn.map (·.1) = ws.map (·.1)) : va_D A wn := by
  have key : ∀ (k : Nat) (q : Nat × va_E), wn[k]? = some q → ∃ q0, ws[k]? = some q0 ∧ q0.1 = q.1 := by
    intro k q hk
    have h1 : (wn.map (·.1))[k]? = some q.1 := by rw [List.getElem?_map, hk]; rfl
    rw [e, List.getElem?_map] at h1
    cases hw : ws[k]? with
    | none => rw [hw] at h1; cases h1
    | some q0 => rw [hw] at h1; exact ⟨q0, rfl, Option.some.inj h1⟩
  refine ⟨fun i j p q hi hj hpq => ?_, fun k q hk => ?_⟩
  · obtain ⟨p0, a1, a2⟩ := key i p hi
    obtain ⟨q0, b1, b2⟩ := key j q hj
    exact h.1 i j p0 q0 a1 b1 (by rw [a2, b2, hpq])
  · obtain ⟨q0, a1, a2⟩ := key k q hk
    rw [← a2]; exact h.2 k q0 a1
theorem sp_P {A0 : Nat → Prop} {D : va_G} {cl : List vw_C} {ws wc w1 wn : va_W} {H H1 : Heap} (hP : va_P D cl ws H) (hD : va_D A0 ws) (isC : List Nat) (hC : isC.map (fun i => ws[i]?) = wc.map some) (hl : isC.length = w1.length)
    (hk : ∀ q : Nat, q < H.size → ¬ va_A wc H.size q → H1[q]? = H[q]?) (hP1 : va_P D cl w1 H1) (hnew : sp_put ws isC w1 = wn) : va_P D cl wn H1 := by
  subst hnew
  intro k q hq
  rcases sp_put_at ws isC w1 hl k q hq with ⟨j, -, b⟩ | ⟨a, b⟩
  · exact hP1 j q b
  · have hlt := (hP k q a).lt
    refine (hP k q a).kept (hk q.1 hlt fun z => ?_)
    rcases z with ⟨k2, e, h⟩ | h
    · have h1 : (isC.map (fun i => ws[i]?))[k2]? = some (some (q.1, e)) := by rw [hC, List.getElem?_map, h]; rfl
      rw [List.getElem?_map] at h1
      cases hi : isC[k2]? with
      | none => rw [hi] at h1; cases h1
      | some i =>
        rw [hi] at h1
        have h4 : ws[i]? = some (q.1, e) := Option.some.inj h1
        have hij := hD.1 k i q (q.1, e) a h4 rfl
        subst hij
        exact b (List.mem_of_getElem? hi)
    · omega
section CALLS
variable {p : Program} {l : Launch} {e : Env} {R : Room} {s : State} {m : MethodId} {args : Array Value} {below : List Frame} {meth : Method} {c : Code} {H H0 : Heap} {locs : List Loc} {cells slots mc ms : Nat} {Q : State → Prop} {pc : Nat} {ls : Array Slot} {rest st0 : List Value} {a : Array Value}
/-- a call of a read -/
theorem k_p {rv : Option Value} (hr : va_Run p l e R s m args below meth c H locs cells slots 0 0 (F0 m pc ls st0) rest (PQo (.returned rv) a) (fun _ => False))
    (kk : W p l e R s m args below meth c H locs cells slots Q (F0 m (pc + 3) ls (rv.toList ++ rest))) : W p l e R s m args below meth c H locs cells slots Q (F0 m pc ls st0) := by
  intro T hT X
  obtain ⟨v, st₀, t, T', L, h0, X', hL, e1, -, ⟨hv, hh⟩, st⟩ := hr T hT X
  cases hv
  obtain ⟨t2, a1, b1⟩ := kk T' (by rw [e1, hh, h0]) (Stand.forget X' (fun q h => (hL q h).elim))
  exact ⟨t2, st t2 a1, b1⟩
/-- a call of a write -/
theorem k_m {rv : Option Value} {G : GT} {A0 : Nat → Prop} {ws wc w1 wn : va_W} (hr : va_Run p l e R s m args below meth c H locs cells slots mc ms (F0 m pc ls st0) rest (MQo G (.returned rv) w1 (va_A wc H.size) a) (va_A wc H.size))
    (hP : va_P G.1 vwCl ws H) (hD : va_D A0 ws) (hS : va_S A0 H0 H locs) (hA : ∀ q, H0.size ≤ q → A0 q) (isC : List Nat) (hC : isC.map (fun i => ws[i]?) = wc.map some) (hl : isC.length = w1.length) (hnew : sp_put ws isC w1 = wn) (hadr : wn.map (·.1) = ws.map (·.1))
    (kk : ∀ (H1 : Heap) (locs1 : List Loc), va_P G.1 vwCl wn H1 → va_D A0 wn → va_S A0 H0 H1 locs1 → W p l e R s m args below meth c H1 locs1 (cells + mc) (slots + ms) Q (F0 m (pc + 3) ls (rv.toList ++ rest))) : W p l e R s m args below meth c H locs cells slots Q (F0 m pc ls st0) := by
  intro T hT X
  have hF := va_free hD hS hA isC hC
  obtain ⟨v, st₀, t, T', L, h0, X', hL, e1, -, ⟨hv, hP1, hz, hk⟩, st⟩ := hr T hT X
  cases hv
  rw [h0] at hz hk
  rw [← e1] at hP1 hz hk
  obtain ⟨t2, a1, b1⟩ := kk T'.heap (locs ++ L) (sp_P hP hD isC hC hl hk hP1 hnew) (va_D_addr hD hadr)
    ⟨Nat.le_trans hS.1 hz, fun q h1 h2 => by rw [hk q (Nat.lt_of_lt_of_le h1 hS.1) (fun z => h2 (hF q z))]; exact hS.2.1 q h1 h2, fun q hq => by
      rcases List.mem_append.mp hq with h | h
      · exact hS.2.2 q h
      · exact hF _ (hL q h)⟩ T' rfl X'
  exact ⟨t2, st t2 a1, b1⟩
end CALLS
/-- numbers up to N -/
def okN (N : Nat) (x : Int32) : Prop := ∃ n : Nat, n ≤ N ∧ x = nI n
theorem inc1 (j : Nat) : nI j + Int32.ofInt 1 = nI (j + 1) := nI_1 j
theorem lp_a {y : Int32} {j n : Nat} (hy : y = nI n) (hn : n < 2 ^ 31) (h : j = n) : y ≤ nI j := by rw [hy, h]; exact nI_le (Nat.le_refl n) hn
theorem lp_b {y : Int32} {j n r : Nat} (hy : y = nI n) (hn : n < 2 ^ 31) (h : j + (r + 1) = n) : ¬ y ≤ nI j := by rw [hy]; exact nI_ge (by omega) hn
theorem bool_nar {x : Int32} (h : x = 0 ∨ x = 1) : narrow .boolean (.int x) = .int x := by rcases h with rfl | rfl <;> rfl
theorem bool_vnar {x : Int32} (h : x = 0 ∨ x = 1) : vp_nar .boolean x = x := by rcases h with rfl | rfl <;> rfl
-- the cells
abbrev wcI (G : GT) (q len : Nat) (f : Nat → Int32) : Nat × va_E := (q, .inl (G.2.1, len, .inl f))
abbrev wcZ (G : GT) (q len : Nat) (f : Nat → Int32) : Nat × va_E := (q, .inl (G.2.2, len, .inl f))
abbrev wcA (a : Nat → Nat) (ck : Int32) : Nat × va_E := (a 0, .inr (3, [.ref (a 1), .ref (a 7), .ref (a 11), .int ck]))
abbrev wcS (a : Nat → Nat) (cn : Int32) : Nat × va_E := (a 1, .inr (2, [.ref (a 2), .ref (a 3), .ref (a 4), .ref (a 5), .ref (a 6), .int cn]))
abbrev wcR (a : Nat → Nat) (gp tg st sm : Int32) : Nat × va_E := (a 7, .inr (1, [.ref (a 8), .ref (a 9), .ref (a 10), .int gp, .int tg, .int st, .int sm]))
abbrev wcO (a : Nat → Nat) (oc lt : Int32) : Nat × va_E := (a 11, .inr (0, [.ref (a 12), .ref (a 13), .ref (a 14), .int oc, .int lt]))
section LOOPS
variable {p : Program} {l : Launch} {e : Env} {R : Room} {s : State} {m : MethodId} {args : Array Value} {below : List Frame} {meth : Method} {c : Code} {H H0 : Heap} {locs : List Loc} {cells slots mc ms : Nat} {Q : State → Prop} {pc : Nat} {ls : Array Slot} {rest st0 : List Value} {a : Array Value}
/-- a loop that only reads: I of what is left, of the counter, of what the loop carries, of the locals -/
theorem k_loopP {α : Type} (I : Nat → Nat → α → Array Slot → Prop) (N j0 : Nat) (x0 : α) (h0 : I N j0 x0 ls)
    (hz : ∀ (j : Nat) (x : α) (ls : Array Slot), I 0 j x ls → W p l e R s m args below meth c H locs cells slots Q (F0 m pc ls []))
    (hs : ∀ (r : Nat), (∀ (j : Nat) (x : α) (ls : Array Slot), I r j x ls → W p l e R s m args below meth c H locs cells slots Q (F0 m pc ls [])) → ∀ (j : Nat) (x : α) (ls : Array Slot), I (r + 1) j x ls → W p l e R s m args below meth c H locs cells slots Q (F0 m pc ls [])) : W p l e R s m args below meth c H locs cells slots Q (F0 m pc ls []) := by
  have key : ∀ (r j : Nat) (x : α) (ls : Array Slot), I r j x ls → W p l e R s m args below meth c H locs cells slots Q (F0 m pc ls []) := by
    intro r
    induction r with
    | zero => exact hz
    | succ r ih => exact hs r ih
  exact key N j0 x0 ls h0
/-- a loop that writes -/
theorem k_loopM {α : Type} (I : Nat → Nat → α → Heap → List Loc → Array Slot → Prop) (N j0 : Nat) (x0 : α) (h0 : I N j0 x0 H locs ls)
    (hz : ∀ (j : Nat) (x : α) (H : Heap) (locs : List Loc) (ls : Array Slot), I 0 j x H locs ls → W p l e R s m args below meth c H locs cells slots Q (F0 m pc ls []))
    (hs : ∀ (r : Nat), (∀ (j : Nat) (x : α) (H : Heap) (locs : List Loc) (ls : Array Slot), I r j x H locs ls → W p l e R s m args below meth c H locs cells slots Q (F0 m pc ls [])) → ∀ (j : Nat) (x : α) (H : Heap) (locs : List Loc) (ls : Array Slot), I (r + 1) j x H locs ls → W p l e R s m args below meth c H locs cells slots Q (F0 m pc ls [])) : W p l e R s m args below meth c H locs cells slots Q (F0 m pc ls []) := by
  have key : ∀ (r j : Nat) (x : α) (H : Heap) (locs : List Loc) (ls : Array Slot), I r j x H locs ls → W p l e R s m args below meth c H locs cells slots Q (F0 m pc ls []) := by
    intro r
    induction r with
    | zero => exact hz
    | succ r ih => exact hs r ih
  exact key N j0 x0 H locs ls h0
end LOOPS
theorem n4_eq : (4 : Int32) = nI 4 := rfl
theorem n6_eq : (6 : Int32) = nI 6 := rfl
theorem n36_eq : (36 : Int32) = nI 36 := rfl
theorem bool_fits {x : Int32} (h : x = 0 ∨ x = 1) : fits .boolean (.int x) = true := by rcases h with rfl | rfl <;> rfl
theorem in_of {x : Int32} {N : Nat} (hN : N < 2 ^ 31) (h0 : ¬ x < 0) (h1 : ¬ nI N ≤ x) : vp_in x N := by
  rcases pk_ix x hN with h | h | ⟨j, hj, rfl⟩
  · exact absurd h h0
  · exact absurd h h1
  · exact vp_in_nI hj hN
theorem in_mono {x : Int32} {n N : Nat} (h : vp_in x n) (hn : n ≤ N) (hN : N < 2 ^ 31) : vp_in x N := by
  obtain ⟨j, hj, rfl⟩ := vp_in_of h (by omega)
  exact vp_in_nI (by omega) hN
theorem nI_ofi {x : Int32} {N : Nat} (h : vp_in x N) (hN : N < 2 ^ 31) : x = nI x.toNatClampNeg ∧ x.toNatClampNeg < N := by
  obtain ⟨j, hj, rfl⟩ := vp_in_of h hN
  rw [nI_clamp (by omega)]
  exact ⟨rfl, hj⟩
end
section
/-! X3_isBelow -/
def f_X3_isBelow (p0 : Int32) (p1 : Int32) : Int32 :=
  if p0 < 0 then 0
    else if p1 ≤ p0 then 0
    else 1
theorem b_X3_isBelow (p0 : Int32) (p1 : Int32) : f_X3_isBelow p0 p1 = 0 ∨ f_X3_isBelow p0 p1 = 1 := by
  rw [f_X3_isBelow]
  (repeat' split) <;> first | exact Or.inl rfl | exact Or.inr rfl
theorem in_below {x y : Int32} {N : Nat} (hy : y = nI N) (hN : N < 2 ^ 31) (h : ¬ f_X3_isBelow x y = 0) : vp_in x N := by
  subst hy
  refine in_of hN (fun z => h (by rw [f_X3_isBelow, if_pos z])) (fun z => h ?_)
  by_cases z0 : x < 0
  · rw [f_X3_isBelow, if_pos z0]
  · rw [f_X3_isBelow, if_neg z0, if_pos z]
theorem in_mo {x y : Int32} {N : Nat} (hy : okN N y) (h : ¬ f_X3_isBelow x y = 0) (hN : N < 2 ^ 31 := by decide) : vp_in x N := by
  obtain ⟨n, hn, e⟩ := hy
  exact in_mono (in_below e (by omega) h) hn hN
set_option maxHeartbeats 4000000 in
set_option maxRecDepth 100000 in
theorem c_X3_isBelow (l : Launch) (G : GT) (sz : Nat) (p0 : Int32) (p1 : Int32) : Met l yX3_isBelow wsX3_isBelow ({ frames := 0, cells := 0, slots := 0, locals := 0 }) (GP G [.int p0, .int p1] [] sz) (PQo (.returned (some (.int (f_X3_isBelow p0 p1))))) 0 0 (fun _ => False) := by
  refine bodyM (cc := cX3_isBelow) (maxL := 2) (ret := (some .boolean)) (by decide) rfl (Nat.le_of_ble_eq_true rfl) ?_
  intro p e s m below meth c ls C
  obtain ⟨hx, hb, hr, hts, hown, hlocks, hml, hsz, hP, hE, hD, hA, hS, hl⟩ := C
  subst hsz
  have hl : lv_has ls 2 [(0, .int p0), (1, .int p1)] := hl
  refine lv_iload_n hx hb dX3_isBelow_0 rfl (lv_at hl 0 rfl) ?_
  refine lv_if_lt (tgt := 13) hx hb dX3_isBelow_1 (by decide) (fun c_1 => ?_) (fun c_1 => ?_)
  · refine lv_iconst (v := 0) hx hb dX3_isBelow_13 (by decide) ?_
    have hq : f_X3_isBelow p0 p1 = 0 := (by rw [f_X3_isBelow, if_pos c_1])
    exact W.zret (v := 0) hx hb hr rfl (fun t ht _ => ⟨by rw [hq], ht⟩) (fun _ h => nomatch h) dX3_isBelow_14
  · refine lv_iload_n hx hb dX3_isBelow_4 rfl (lv_at hl 0 rfl) ?_
    refine lv_iload_n hx hb dX3_isBelow_5 rfl (lv_at hl 1 rfl) ?_
    refine lv_icmp_ge (tgt := 13) hx hb dX3_isBelow_6 (by decide) (fun c_6 => ?_) (fun c_6 => ?_)
    · refine lv_iconst (v := 0) hx hb dX3_isBelow_13 (by decide) ?_
      have hq : f_X3_isBelow p0 p1 = 0 := (by rw [f_X3_isBelow, if_neg c_1, if_pos c_6])
      exact W.zret (v := 0) hx hb hr rfl (fun t ht _ => ⟨by rw [hq], ht⟩) (fun _ h => nomatch h) dX3_isBelow_14
    · refine lv_iconst (v := 1) hx hb dX3_isBelow_9 (by decide) ?_
      refine lv_goto (tgt := 14) hx hb dX3_isBelow_10 (by decide) ?_
      have hq : f_X3_isBelow p0 p1 = 1 := (by rw [f_X3_isBelow, if_neg c_1, if_neg c_6])
      exact W.zret (v := 1) hx hb hr rfl (fun t ht _ => ⟨by rw [hq], ht⟩) (fun _ h => nomatch h) dX3_isBelow_14

/-! X3_spotAt -/
def f_X3_spotAt (p0 : Int32) (p1 : Int32) (p2 : Int32) : Int32 :=
  ((100 * p0) + (10 * p1)) + p2
set_option maxHeartbeats 4000000 in
set_option maxRecDepth 100000 in
theorem c_X3_spotAt (l : Launch) (G : GT) (sz : Nat) (p0 : Int32) (p1 : Int32) (p2 : Int32) : Met l yX3_spotAt wsX3_spotAt ({ frames := 0, cells := 0, slots := 0, locals := 0 }) (GP G [.int p0, .int p1, .int p2] [] sz) (PQo (.returned (some (.int (f_X3_spotAt p0 p1 p2))))) 0 0 (fun _ => False) := by
  refine bodyM (cc := cX3_spotAt) (maxL := 3) (ret := (some .int)) (by decide) rfl (Nat.le_of_ble_eq_true rfl) ?_
  intro p e s m below meth c ls C
  obtain ⟨hx, hb, hr, hts, hown, hlocks, hml, hsz, hP, hE, hD, hA, hS, hl⟩ := C
  subst hsz
  have hl : lv_has ls 3 [(0, .int p0), (1, .int p1), (2, .int p2)] := hl
  refine lv_bipush (v := 100) hx hb dX3_spotAt_0 (by decide) ?_
  refine lv_iload_n hx hb dX3_spotAt_2 rfl (lv_at hl 0 rfl) ?_
  refine lv_imul hx hb dX3_spotAt_3 ?_
  refine lv_bipush (v := 10) hx hb dX3_spotAt_4 (by decide) ?_
  refine lv_iload_n hx hb dX3_spotAt_6 rfl (lv_at hl 1 rfl) ?_
  refine lv_imul hx hb dX3_spotAt_7 ?_
  refine lv_iadd hx hb dX3_spotAt_8 ?_
  refine lv_iload_n hx hb dX3_spotAt_9 rfl (lv_at hl 2 rfl) ?_
  refine lv_iadd hx hb dX3_spotAt_10 ?_
  have hq : f_X3_spotAt p0 p1 p2 = (((100 * p0) + (10 * p1)) + p2) := (by rw [f_X3_spotAt])
  exact W.iret (v := ((100 * p0) + (10 * p1)) + p2) hx hb hr (fun t ht _ => ⟨by rw [hq], ht⟩) (fun _ h => nomatch h) dX3_spotAt_11

/-! X3_shelfAt -/
def f_X3_shelfAt (p0 : Int32) : Int32 :=
  p0 / 100
set_option maxHeartbeats 4000000 in
set_option maxRecDepth 100000 in
theorem c_X3_shelfAt (l : Launch) (G : GT) (sz : Nat) (p0 : Int32) : Met l yX3_shelfAt wsX3_shelfAt ({ frames := 0, cells := 0, slots := 0, locals := 0 }) (GP G [.int p0] [] sz) (PQo (.returned (some (.int (f_X3_shelfAt p0))))) 0 0 (fun _ => False) := by
  refine bodyM (cc := cX3_shelfAt) (maxL := 1) (ret := (some .int)) (by decide) rfl (Nat.le_of_ble_eq_true rfl) ?_
  intro p e s m below meth c ls C
  obtain ⟨hx, hb, hr, hts, hown, hlocks, hml, hsz, hP, hE, hD, hA, hS, hl⟩ := C
  subst hsz
  have hl : lv_has ls 1 [(0, .int p0)] := hl
  refine lv_iload_n hx hb dX3_shelfAt_0 rfl (lv_at hl 0 rfl) ?_
  refine lv_bipush (v := 100) hx hb dX3_shelfAt_1 (by decide) ?_
  refine lv_idiv hx hb dX3_shelfAt_3 (by decide) ?_
  have hq : f_X3_shelfAt p0 = (p0 / 100) := (by rw [f_X3_shelfAt])
  exact W.iret (v := p0 / 100) hx hb hr (fun t ht _ => ⟨by rw [hq], ht⟩) (fun _ h => nomatch h) dX3_shelfAt_4

/-! X3_sideAt -/
def f_X3_sideAt (p0 : Int32) : Int32 :=
  (p0 / 10) - (p0 / 10) / 10 * 10
set_option maxHeartbeats 4000000 in
set_option maxRecDepth 100000 in
theorem c_X3_sideAt (l : Launch) (G : GT) (sz : Nat) (p0 : Int32) : Met l yX3_sideAt wsX3_sideAt ({ frames := 0, cells := 0, slots := 0, locals := 0 }) (GP G [.int p0] [] sz) (PQo (.returned (some (.int (f_X3_sideAt p0))))) 0 0 (fun _ => False) := by
  refine bodyM (cc := cX3_sideAt) (maxL := 1) (ret := (some .int)) (by decide) rfl (Nat.le_of_ble_eq_true rfl) ?_
  intro p e s m below meth c ls C
  obtain ⟨hx, hb, hr, hts, hown, hlocks, hml, hsz, hP, hE, hD, hA, hS, hl⟩ := C
  subst hsz
  have hl : lv_has ls 1 [(0, .int p0)] := hl
  refine lv_iload_n hx hb dX3_sideAt_0 rfl (lv_at hl 0 rfl) ?_
  refine lv_bipush (v := 10) hx hb dX3_sideAt_1 (by decide) ?_
  refine lv_idiv hx hb dX3_sideAt_3 (by decide) ?_
  refine lv_bipush (v := 10) hx hb dX3_sideAt_4 (by decide) ?_
  refine lv_irem hx hb dX3_sideAt_6 (by decide) ?_
  have hq : f_X3_sideAt p0 = ((p0 / 10) - (p0 / 10) / 10 * 10) := (by rw [f_X3_sideAt])
  exact W.iret (v := (p0 / 10) - (p0 / 10) / 10 * 10) hx hb hr (fun t ht _ => ⟨by rw [hq], ht⟩) (fun _ h => nomatch h) dX3_sideAt_7

/-! X3_placeAt -/
def f_X3_placeAt (p0 : Int32) : Int32 :=
  p0 - p0 / 10 * 10
set_option maxHeartbeats 4000000 in
set_option maxRecDepth 100000 in
theorem c_X3_placeAt (l : Launch) (G : GT) (sz : Nat) (p0 : Int32) : Met l yX3_placeAt wsX3_placeAt ({ frames := 0, cells := 0, slots := 0, locals := 0 }) (GP G [.int p0] [] sz) (PQo (.returned (some (.int (f_X3_placeAt p0))))) 0 0 (fun _ => False) := by
  refine bodyM (cc := cX3_placeAt) (maxL := 1) (ret := (some .int)) (by decide) rfl (Nat.le_of_ble_eq_true rfl) ?_
  intro p e s m below meth c ls C
  obtain ⟨hx, hb, hr, hts, hown, hlocks, hml, hsz, hP, hE, hD, hA, hS, hl⟩ := C
  subst hsz
  have hl : lv_has ls 1 [(0, .int p0)] := hl
  refine lv_iload_n hx hb dX3_placeAt_0 rfl (lv_at hl 0 rfl) ?_
  refine lv_bipush (v := 10) hx hb dX3_placeAt_1 (by decide) ?_
  refine lv_irem hx hb dX3_placeAt_3 (by decide) ?_
  have hq : f_X3_placeAt p0 = (p0 - p0 / 10 * 10) := (by rw [f_X3_placeAt])
  exact W.iret (v := p0 - p0 / 10 * 10) hx hb hr (fun t ht _ => ⟨by rw [hq], ht⟩) (fun _ h => nomatch h) dX3_placeAt_4

/-! X3_isSpot -/
def f_X3_isSpot (p0 : Int32) : Int32 :=
  if p0 < 0 then 0
    else if 6 ≤ (f_X3_shelfAt p0) then 0
    else if 2 ≤ (f_X3_sideAt p0) then 0
    else if 3 ≤ (f_X3_placeAt p0) then 0
    else 1
theorem b_X3_isSpot (p0 : Int32) : f_X3_isSpot p0 = 0 ∨ f_X3_isSpot p0 = 1 := by
  rw [f_X3_isSpot]
  (repeat' split) <;> first | exact Or.inl rfl | exact Or.inr rfl
set_option maxHeartbeats 4000000 in
set_option maxRecDepth 100000 in
theorem c_X3_isSpot (l : Launch) (G : GT) (sz : Nat) (p0 : Int32) : Met l yX3_isSpot wsX3_isSpot ({ frames := 1, cells := 0, slots := 0, locals := 20 }) (GP G [.int p0] [] sz) (PQo (.returned (some (.int (f_X3_isSpot p0))))) 0 0 (fun _ => False) := by
  refine bodyM (cc := cX3_isSpot) (maxL := 1) (ret := (some .boolean)) (by decide) rfl (Nat.le_of_ble_eq_true rfl) ?_
  intro p e s m below meth c ls C
  obtain ⟨hx, hb, hr, hts, hown, hlocks, hml, hsz, hP, hE, hD, hA, hS, hl⟩ := C
  subst hsz
  have hl : lv_has ls 1 [(0, .int p0)] := hl
  refine lv_iload_n hx hb dX3_isSpot_0 rfl (lv_at hl 0 rfl) ?_
  refine lv_if_lt (tgt := 33) hx hb dX3_isSpot_1 (by decide) (fun c_1 => ?_) (fun c_1 => ?_)
  · refine lv_iconst (v := 0) hx hb dX3_isSpot_33 (by decide) ?_
    have hq : f_X3_isSpot p0 = 0 := (by rw [f_X3_isSpot, if_pos c_1])
    exact W.zret (v := 0) hx hb hr rfl (fun t ht _ => ⟨by rw [hq], ht⟩) (fun _ h => nomatch h) dX3_isSpot_34
  · refine lv_iload_n hx hb dX3_isSpot_4 rfl (lv_at hl 0 rfl) ?_
    refine k_p (va_runS (As := [.int p0]) (rest := []) ⟨hx, hb, hml, hown, hts⟩ (c_X3_shelfAt l G s.heap.size p0) (va_cwS 1 hts gX3_isSpot_X3_shelfAt rfl rfl rfl ⟨by decide +kernel, by decide +kernel, by decide +kernel⟩ ⟨Nat.le_of_ble_eq_true rfl, Nat.le_of_ble_eq_true rfl⟩) ⟨GP.blind, GP.go (wc := []) hE hP hD hS hA [] rfl (by decide) [.int p0]⟩ rfl rfl hl.1 rfl (lv_room (Nat.le_of_ble_eq_true rfl)) dX3_isSpot_5 ⟨Nat.le_of_ble_eq_true rfl, Nat.le_of_ble_eq_true rfl⟩) ?_
    refine lv_bipush (v := 6) hx hb dX3_isSpot_8 (by decide) ?_
    refine lv_icmp_ge (tgt := 33) hx hb dX3_isSpot_10 (by decide) (fun c_10 => ?_) (fun c_10 => ?_)
    · refine lv_iconst (v := 0) hx hb dX3_isSpot_33 (by decide) ?_
      have hq : f_X3_isSpot p0 = 0 := (by rw [f_X3_isSpot, if_neg c_1, if_pos c_10])
      exact W.zret (v := 0) hx hb hr rfl (fun t ht _ => ⟨by rw [hq], ht⟩) (fun _ h => nomatch h) dX3_isSpot_34
    · refine lv_iload_n hx hb dX3_isSpot_13 rfl (lv_at hl 0 rfl) ?_
      refine k_p (va_runS (As := [.int p0]) (rest := []) ⟨hx, hb, hml, hown, hts⟩ (c_X3_sideAt l G s.heap.size p0) (va_cwS 1 hts gX3_isSpot_X3_sideAt rfl rfl rfl ⟨by decide +kernel, by decide +kernel, by decide +kernel⟩ ⟨Nat.le_of_ble_eq_true rfl, Nat.le_of_ble_eq_true rfl⟩) ⟨GP.blind, GP.go (wc := []) hE hP hD hS hA [] rfl (by decide) [.int p0]⟩ rfl rfl hl.1 rfl (lv_room (Nat.le_of_ble_eq_true rfl)) dX3_isSpot_14 ⟨Nat.le_of_ble_eq_true rfl, Nat.le_of_ble_eq_true rfl⟩) ?_
      refine lv_iconst (v := 2) hx hb dX3_isSpot_17 (by decide) ?_
      refine lv_icmp_ge (tgt := 33) hx hb dX3_isSpot_18 (by decide) (fun c_18 => ?_) (fun c_18 => ?_)
      · refine lv_iconst (v := 0) hx hb dX3_isSpot_33 (by decide) ?_
        have hq : f_X3_isSpot p0 = 0 := (by rw [f_X3_isSpot, if_neg c_1, if_neg c_10, if_pos c_18])
        exact W.zret (v := 0) hx hb hr rfl (fun t ht _ => ⟨by rw [hq], ht⟩) (fun _ h => nomatch h) dX3_isSpot_34
      · refine lv_iload_n hx hb dX3_isSpot_21 rfl (lv_at hl 0 rfl) ?_
        refine k_p (va_runS (As := [.int p0]) (rest := []) ⟨hx, hb, hml, hown, hts⟩ (c_X3_placeAt l G s.heap.size p0) (va_cwS 1 hts gX3_isSpot_X3_placeAt rfl rfl rfl ⟨by decide +kernel, by decide +kernel, by decide +kernel⟩ ⟨Nat.le_of_ble_eq_true rfl, Nat.le_of_ble_eq_true rfl⟩) ⟨GP.blind, GP.go (wc := []) hE hP hD hS hA [] rfl (by decide) [.int p0]⟩ rfl rfl hl.1 rfl (lv_room (Nat.le_of_ble_eq_true rfl)) dX3_isSpot_22 ⟨Nat.le_of_ble_eq_true rfl, Nat.le_of_ble_eq_true rfl⟩) ?_
        refine lv_iconst (v := 3) hx hb dX3_isSpot_25 (by decide) ?_
        refine lv_icmp_ge (tgt := 33) hx hb dX3_isSpot_26 (by decide) (fun c_26 => ?_) (fun c_26 => ?_)
        · refine lv_iconst (v := 0) hx hb dX3_isSpot_33 (by decide) ?_
          have hq : f_X3_isSpot p0 = 0 := (by rw [f_X3_isSpot, if_neg c_1, if_neg c_10, if_neg c_18, if_pos c_26])
          exact W.zret (v := 0) hx hb hr rfl (fun t ht _ => ⟨by rw [hq], ht⟩) (fun _ h => nomatch h) dX3_isSpot_34
        · refine lv_iconst (v := 1) hx hb dX3_isSpot_29 (by decide) ?_
          refine lv_goto (tgt := 34) hx hb dX3_isSpot_30 (by decide) ?_
          have hq : f_X3_isSpot p0 = 1 := (by rw [f_X3_isSpot, if_neg c_1, if_neg c_10, if_neg c_18, if_neg c_26])
          exact W.zret (v := 1) hx hb hr rfl (fun t ht _ => ⟨by rw [hq], ht⟩) (fun _ h => nomatch h) dX3_isSpot_34

/-! X3_aisleAt -/
def f_X3_aisleAt (p0 : Int32) : Int32 :=
  (f_X3_shelfAt p0) + (f_X3_sideAt p0)
set_option maxHeartbeats 4000000 in
set_option maxRecDepth 100000 in
theorem c_X3_aisleAt (l : Launch) (G : GT) (sz : Nat) (p0 : Int32) : Met l yX3_aisleAt wsX3_aisleAt ({ frames := 1, cells := 0, slots := 0, locals := 20 }) (GP G [.int p0] [] sz) (PQo (.returned (some (.int (f_X3_aisleAt p0))))) 0 0 (fun _ => False) := by
  refine bodyM (cc := cX3_aisleAt) (maxL := 1) (ret := (some .int)) (by decide) rfl (Nat.le_of_ble_eq_true rfl) ?_
  intro p e s m below meth c ls C
  obtain ⟨hx, hb, hr, hts, hown, hlocks, hml, hsz, hP, hE, hD, hA, hS, hl⟩ := C
  subst hsz
  have hl : lv_has ls 1 [(0, .int p0)] := hl
  refine lv_iload_n hx hb dX3_aisleAt_0 rfl (lv_at hl 0 rfl) ?_
  refine k_p (va_runS (As := [.int p0]) (rest := []) ⟨hx, hb, hml, hown, hts⟩ (c_X3_shelfAt l G s.heap.size p0) (va_cwS 1 hts gX3_aisleAt_X3_shelfAt rfl rfl rfl ⟨by decide +kernel, by decide +kernel, by decide +kernel⟩ ⟨Nat.le_of_ble_eq_true rfl, Nat.le_of_ble_eq_true rfl⟩) ⟨GP.blind, GP.go (wc := []) hE hP hD hS hA [] rfl (by decide) [.int p0]⟩ rfl rfl hl.1 rfl (lv_room (Nat.le_of_ble_eq_true rfl)) dX3_aisleAt_1 ⟨Nat.le_of_ble_eq_true rfl, Nat.le_of_ble_eq_true rfl⟩) ?_
  refine lv_iload_n hx hb dX3_aisleAt_4 rfl (lv_at hl 0 rfl) ?_
  refine k_p (va_runS (As := [.int p0]) (rest := [.int (f_X3_shelfAt p0)]) ⟨hx, hb, hml, hown, hts⟩ (c_X3_sideAt l G s.heap.size p0) (va_cwS 1 hts gX3_aisleAt_X3_sideAt rfl rfl rfl ⟨by decide +kernel, by decide +kernel, by decide +kernel⟩ ⟨Nat.le_of_ble_eq_true rfl, Nat.le_of_ble_eq_true rfl⟩) ⟨GP.blind, GP.go (wc := []) hE hP hD hS hA [] rfl (by decide) [.int p0]⟩ rfl rfl hl.1 rfl (lv_room (Nat.le_of_ble_eq_true rfl)) dX3_aisleAt_5 ⟨Nat.le_of_ble_eq_true rfl, Nat.le_of_ble_eq_true rfl⟩) ?_
  refine lv_iadd hx hb dX3_aisleAt_8 ?_
  have hq : f_X3_aisleAt p0 = ((f_X3_shelfAt p0) + (f_X3_sideAt p0)) := (by rw [f_X3_aisleAt])
  exact W.iret (v := (f_X3_shelfAt p0) + (f_X3_sideAt p0)) hx hb hr (fun t ht _ => ⟨by rw [hq], ht⟩) (fun _ h => nomatch h) dX3_aisleAt_9

/-! X2_has -/
def f_X2_has (cn : Int32) (p0 : Int32) : Int32 :=
  f_X3_isBelow p0 cn
theorem b_X2_has (cn : Int32) (p0 : Int32) : f_X2_has cn p0 = 0 ∨ f_X2_has cn p0 = 1 := by
  rw [f_X2_has]
  (repeat' split) <;> first | exact Or.inl rfl | exact Or.inr rfl | exact b_X3_isBelow _ _
theorem in_has {x cn : Int32} (hcn : okN 20 cn) (h : ¬ f_X2_has cn x = 0) : vp_in x 20 := in_mo hcn (by rw [f_X2_has] at h; exact h)
theorem iw_X2_has_RX2 : ∀ w ∈ u_ws RX2 TX2 6, w ∈ wsX2_has := by decide +kernel
set_option maxHeartbeats 4000000 in
set_option maxRecDepth 100000 in
theorem c_X2_has (l : Launch) (G : GT) (a : Nat → Nat) (sz : Nat) (cn : Int32) (p0 : Int32) : Met l yX2_has wsX2_has ({ frames := 1, cells := 0, slots := 0, locals := 21 }) (GP G [.ref (a 1), .int p0] [wcS a cn] sz) (PQo (.returned (some (.int (f_X2_has cn p0))))) 0 0 (fun _ => False) := by
  refine bodyM (cc := cX2_has) (maxL := 2) (ret := (some .boolean)) (by decide) rfl (Nat.le_of_ble_eq_true rfl) ?_
  intro p e s m below meth c ls C
  obtain ⟨hx, hb, hr, hts, hown, hlocks, hml, hsz, hP, hE, hD, hA, hS, hl⟩ := C
  subst hsz
  have hl : lv_has ls 2 [(0, .ref (a 1)), (1, .int p0)] := hl
  refine lv_iload_n hx hb dX2_has_0 rfl (lv_at hl 1 rfl) ?_
  refine lv_aload_n hx hb dX2_has_1 rfl (lv_at hl 0 rfl) ?_
  refine va_get (D := G.1) (ci := 2) (v := .int cn) (C := RX2) (T := TX2) (N := 6) hx hb hts iw_X2_has_RX2 hown hE.1 hP 0 rfl rfl 5 (by decide) (hts (.fieldLink RX2 27 "Rackrail$Store" "count" "I") (by decide +kernel)) (fun _ h9 => h9) rfl dX2_has_2 ?_
  refine k_p (va_runSN (As := [.int p0, .int cn]) (rest := []) ⟨hx, hb, hml, hown, hts⟩ (c_X3_isBelow l G s.heap.size p0 cn) ⟨va_cnB (host := "Rackrail") 2 hts gX2_has_X3_isBelow_n31 rfl rfl rfl (hE.2.1 (RX2, 31, yX3_isBelow) (by decide)) (hts (.initialized RX3) (by decide +kernel)) ⟨by decide +kernel, by decide +kernel, by decide +kernel⟩ ⟨Nat.le_of_ble_eq_true rfl, Nat.le_of_ble_eq_true rfl⟩, hts (.static yX3_isBelow) (by decide +kernel), trivial⟩ ⟨GP.blind, GP.go (wc := []) hE hP hD hS hA [] rfl (by decide) [.int p0, .int cn]⟩ rfl rfl hl.1 rfl (lv_room (Nat.le_of_ble_eq_true rfl)) dX2_has_5 ⟨Nat.le_of_ble_eq_true rfl, Nat.le_of_ble_eq_true rfl⟩) ?_
  have hq : f_X2_has cn p0 = (f_X3_isBelow p0 cn) := (by rw [f_X2_has])
  exact W.zret (v := f_X3_isBelow p0 cn) hx hb hr (bool_nar (b_X3_isBelow _ _)) (fun t ht _ => ⟨by rw [hq], ht⟩) (fun _ h => nomatch h) dX2_has_8

/-! X2_isFull -/
def f_X2_isFull (cn : Int32) : Int32 :=
  if cn < 20 then 0
    else 1
theorem b_X2_isFull (cn : Int32) : f_X2_isFull cn = 0 ∨ f_X2_isFull cn = 1 := by
  rw [f_X2_isFull]
  (repeat' split) <;> first | exact Or.inl rfl | exact Or.inr rfl
theorem in_fullS {cn : Int32} (hcn : okN 20 cn) (h : f_X2_isFull cn = 0) : vp_in cn 20 := by
  obtain ⟨n, hn, e⟩ := hcn
  refine in_of (by decide) (by rw [e]; exact nI_pos (by omega)) (fun z => ?_)
  have h1 : f_X2_isFull cn = 1 := by
    rw [f_X2_isFull, if_neg]
    intro z2
    rw [e] at z z2
    have h2 := (nI_leI (by decide) (by omega)).mp z
    exact absurd z2 (nI_nlt h2 (by omega))
  rw [h1] at h
  exact absurd h (by decide)
theorem iw_X2_isFull_RX2 : ∀ w ∈ u_ws RX2 TX2 6, w ∈ wsX2_isFull := by decide +kernel
set_option maxHeartbeats 4000000 in
set_option maxRecDepth 100000 in
theorem c_X2_isFull (l : Launch) (G : GT) (a : Nat → Nat) (sz : Nat) (cn : Int32) : Met l yX2_isFull wsX2_isFull ({ frames := 0, cells := 0, slots := 0, locals := 0 }) (GP G [.ref (a 1)] [wcS a cn] sz) (PQo (.returned (some (.int (f_X2_isFull cn))))) 0 0 (fun _ => False) := by
  refine bodyM (cc := cX2_isFull) (maxL := 1) (ret := (some .boolean)) (by decide) rfl (Nat.le_of_ble_eq_true rfl) ?_
  intro p e s m below meth c ls C
  obtain ⟨hx, hb, hr, hts, hown, hlocks, hml, hsz, hP, hE, hD, hA, hS, hl⟩ := C
  subst hsz
  have hl : lv_has ls 1 [(0, .ref (a 1))] := hl
  refine lv_aload_n hx hb dX2_isFull_0 rfl (lv_at hl 0 rfl) ?_
  refine va_get (D := G.1) (ci := 2) (v := .int cn) (C := RX2) (T := TX2) (N := 6) hx hb hts iw_X2_isFull_RX2 hown hE.1 hP 0 rfl rfl 5 (by decide) (hts (.fieldLink RX2 27 "Rackrail$Store" "count" "I") (by decide +kernel)) (fun _ h9 => h9) rfl dX2_isFull_1 ?_
  refine lv_bipush (v := 20) hx hb dX2_isFull_4 (by decide) ?_
  refine lv_icmp_lt (tgt := 13) hx hb dX2_isFull_6 (by decide) (fun c_6 => ?_) (fun c_6 => ?_)
  · refine lv_iconst (v := 0) hx hb dX2_isFull_13 (by decide) ?_
    have hq : f_X2_isFull cn = 0 := (by rw [f_X2_isFull, if_pos c_6])
    exact W.zret (v := 0) hx hb hr rfl (fun t ht _ => ⟨by rw [hq], ht⟩) (fun _ h => nomatch h) dX2_isFull_14
  · refine lv_iconst (v := 1) hx hb dX2_isFull_9 (by decide) ?_
    refine lv_goto (tgt := 14) hx hb dX2_isFull_10 (by decide) ?_
    have hq : f_X2_isFull cn = 1 := (by rw [f_X2_isFull, if_neg c_6])
    exact W.zret (v := 1) hx hb hr rfl (fun t ht _ => ⟨by rw [hq], ht⟩) (fun _ h => nomatch h) dX2_isFull_14

/-! X2_climateOf -/
def f_X2_climateOf (sc : Nat → Int32) (p0 : Int32) : Int32 :=
  if (f_X3_isBelow p0 6) = 0 then (-1)
    else sc p0.toNatClampNeg
theorem iw_X2_climateOf_RX2 : ∀ w ∈ u_ws RX2 TX2 6, w ∈ wsX2_climateOf := by decide +kernel
set_option maxHeartbeats 4000000 in
set_option maxRecDepth 100000 in
theorem c_X2_climateOf (l : Launch) (G : GT) (a : Nat → Nat) (sz : Nat) (cn : Int32) (sc : Nat → Int32) (p0 : Int32) : Met l yX2_climateOf wsX2_climateOf ({ frames := 1, cells := 0, slots := 0, locals := 21 }) (GP G [.ref (a 1), .int p0] [wcS a cn, wcI G (a 2) 6 sc] sz) (PQo (.returned (some (.int (f_X2_climateOf sc p0))))) 0 0 (fun _ => False) := by
  refine bodyM (cc := cX2_climateOf) (maxL := 2) (ret := (some .int)) (by decide) rfl (Nat.le_of_ble_eq_true rfl) ?_
  intro p e s m below meth c ls C
  obtain ⟨hx, hb, hr, hts, hown, hlocks, hml, hsz, hP, hE, hD, hA, hS, hl⟩ := C
  subst hsz
  have hl : lv_has ls 2 [(0, .ref (a 1)), (1, .int p0)] := hl
  refine lv_iload_n hx hb dX2_climateOf_0 rfl (lv_at hl 1 rfl) ?_
  refine lv_bipush (v := 6) hx hb dX2_climateOf_1 (by decide) ?_
  refine k_p (va_runSN (As := [.int p0, .int 6]) (rest := []) ⟨hx, hb, hml, hown, hts⟩ (c_X3_isBelow l G s.heap.size p0 6) ⟨va_cnB (host := "Rackrail") 2 hts gX2_climateOf_X3_isBelow_n31 rfl rfl rfl (hE.2.1 (RX2, 31, yX3_isBelow) (by decide)) (hts (.initialized RX3) (by decide +kernel)) ⟨by decide +kernel, by decide +kernel, by decide +kernel⟩ ⟨Nat.le_of_ble_eq_true rfl, Nat.le_of_ble_eq_true rfl⟩, hts (.static yX3_isBelow) (by decide +kernel), trivial⟩ ⟨GP.blind, GP.go (wc := []) hE hP hD hS hA [] rfl (by decide) [.int p0, .int 6]⟩ rfl rfl hl.1 rfl (lv_room (Nat.le_of_ble_eq_true rfl)) dX2_climateOf_3 ⟨Nat.le_of_ble_eq_true rfl, Nat.le_of_ble_eq_true rfl⟩) ?_
  refine lv_if_eq (tgt := 18) hx hb dX2_climateOf_6 (by decide) (fun c_6 => ?_) (fun c_6 => ?_)
  · refine lv_iconst (v := (-1)) hx hb dX2_climateOf_18 (by decide) ?_
    have hq : f_X2_climateOf sc p0 = (-1) := (by rw [f_X2_climateOf, if_pos c_6])
    exact W.iret (v := (-1)) hx hb hr (fun t ht _ => ⟨by rw [hq], ht⟩) (fun _ h => nomatch h) dX2_climateOf_19
  · refine lv_aload_n hx hb dX2_climateOf_9 rfl (lv_at hl 0 rfl) ?_
    refine va_get (D := G.1) (ci := 2) (v := .ref (a 2)) (C := RX2) (T := TX2) (N := 6) hx hb hts iw_X2_climateOf_RX2 hown hE.1 hP 0 rfl rfl 0 (by decide) (hts (.fieldLink RX2 9 "Rackrail$Store" "shelfClimates" "[I") (by decide +kernel)) (fun _ h9 => h9) rfl dX2_climateOf_10 ?_
    refine lv_iload_n hx hb dX2_climateOf_13 rfl (lv_at hl 1 rfl) ?_
    refine va_iald hx hb hE.1 hP 1 0 rfl rfl (in_below rfl (by decide) c_6) dX2_climateOf_14 ?_
    refine lv_goto (tgt := 19) hx hb dX2_climateOf_15 (by decide) ?_
    have hq : f_X2_climateOf sc p0 = (sc p0.toNatClampNeg) := (by rw [f_X2_climateOf, if_neg c_6])
    exact W.iret (v := sc p0.toNatClampNeg) hx hb hr (fun t ht _ => ⟨by rw [hq], ht⟩) (fun _ h => nomatch h) dX2_climateOf_19

/-! X2_changeClimate -/
def f_X2_changeClimate (sc : Nat → Int32) (p0 : Int32) (p1 : Int32) : (Nat → Int32) :=
  if (f_X3_isBelow p0 6) = 0 then sc
    else upd sc p0.toNatClampNeg p1
theorem iw_X2_changeClimate_RX2 : ∀ w ∈ u_ws RX2 TX2 6, w ∈ wsX2_changeClimate := by decide +kernel
set_option maxHeartbeats 4000000 in
set_option maxRecDepth 100000 in
theorem c_X2_changeClimate (l : Launch) (G : GT) (a : Nat → Nat) (sz : Nat) (cn : Int32) (sc : Nat → Int32) (p0 : Int32) (p1 : Int32) : Met l yX2_changeClimate wsX2_changeClimate ({ frames := 1, cells := 0, slots := 0, locals := 21 }) (GP G [.ref (a 1), .int p0, .int p1] [wcS a cn, wcI G (a 2) 6 sc] sz) (MQo G (.returned none) [wcS a cn, wcI G (a 2) 6 (f_X2_changeClimate sc p0 p1)] (va_A [wcS a cn, wcI G (a 2) 6 sc] sz)) 0 0 (va_A [wcS a cn, wcI G (a 2) 6 sc] sz) := by
  refine bodyM (cc := cX2_changeClimate) (maxL := 3) (ret := none) (by decide) rfl (Nat.le_of_ble_eq_true rfl) ?_
  intro p e s m below meth c ls C
  obtain ⟨hx, hb, hr, hts, hown, hlocks, hml, hsz, hP, hE, hD, hA, hS, hl⟩ := C
  subst hsz
  have hl : lv_has ls 3 [(0, .ref (a 1)), (1, .int p0), (2, .int p1)] := hl
  refine lv_iload_n hx hb dX2_changeClimate_0 rfl (lv_at hl 1 rfl) ?_
  refine lv_bipush (v := 6) hx hb dX2_changeClimate_1 (by decide) ?_
  refine k_p (va_runSN (As := [.int p0, .int 6]) (rest := []) ⟨hx, hb, hml, hown, hts⟩ (c_X3_isBelow l G s.heap.size p0 6) ⟨va_cnB (host := "Rackrail") 2 hts gX2_changeClimate_X3_isBelow_n31 rfl rfl rfl (hE.2.1 (RX2, 31, yX3_isBelow) (by decide)) (hts (.initialized RX3) (by decide +kernel)) ⟨by decide +kernel, by decide +kernel, by decide +kernel⟩ ⟨Nat.le_of_ble_eq_true rfl, Nat.le_of_ble_eq_true rfl⟩, hts (.static yX3_isBelow) (by decide +kernel), trivial⟩ ⟨GP.blind, GP.go (wc := []) hE hP hD hS hA [] rfl (by decide) [.int p0, .int 6]⟩ rfl rfl hl.1 rfl (lv_room (Nat.le_of_ble_eq_true rfl)) dX2_changeClimate_3 ⟨Nat.le_of_ble_eq_true rfl, Nat.le_of_ble_eq_true rfl⟩) ?_
  refine lv_if_eq (tgt := 16) hx hb dX2_changeClimate_6 (by decide) (fun c_6 => ?_) (fun c_6 => ?_)
  · have hq : f_X2_changeClimate sc p0 p1 = sc := (by rw [f_X2_changeClimate, if_pos c_6])
    exact W.vret hx hb hr (fun t ht _ => ⟨rfl, by rw [hq, ht]; exact hP, hS.F ht⟩) hS.2.2 dX2_changeClimate_16
  · refine lv_aload_n hx hb dX2_changeClimate_9 rfl (lv_at hl 0 rfl) ?_
    refine va_get (D := G.1) (ci := 2) (v := .ref (a 2)) (C := RX2) (T := TX2) (N := 6) hx hb hts iw_X2_changeClimate_RX2 hown hE.1 hP 0 rfl rfl 0 (by decide) (hts (.fieldLink RX2 9 "Rackrail$Store" "shelfClimates" "[I") (by decide +kernel)) (fun _ h9 => h9) rfl dX2_changeClimate_10 ?_
    refine lv_iload_n hx hb dX2_changeClimate_13 rfl (lv_at hl 1 rfl) ?_
    refine lv_iload_n hx hb dX2_changeClimate_14 rfl (lv_at hl 2 rfl) ?_
    refine va_iast hx hb hE.1 hP hD hS 1 0 rfl rfl (in_below rfl (by decide) c_6) dX2_changeClimate_15 (fun H locs hP hD hS => ?_)
    have hP : va_P G.1 vwCl [wcS a cn, wcI G (a 2) 6 (upd sc p0.toNatClampNeg p1)] H := hP
    have hD : va_D _ [wcS a cn, wcI G (a 2) 6 (upd sc p0.toNatClampNeg p1)] := hD
    have hq : f_X2_changeClimate sc p0 p1 = upd sc p0.toNatClampNeg p1 := (by rw [f_X2_changeClimate, if_neg c_6])
    exact W.vret hx hb hr (fun t ht _ => ⟨rfl, by rw [hq, ht]; exact hP, hS.F ht⟩) hS.2.2 dX2_changeClimate_16

/-! X2_enter -/
def f_X2_enter (cn : Int32) (cl : Nat → Int32) (wt : Nat → Int32) (kn : Nat → Int32) (sp : Nat → Int32) (p0 : Int32) (p1 : Int32) (p2 : Int32) : Int32 × Int32 × (Nat → Int32) × (Nat → Int32) × (Nat → Int32) × (Nat → Int32) :=
  if (f_X2_isFull cn) = 0 then (cn, cn + 1, upd cl cn.toNatClampNeg p0, upd wt cn.toNatClampNeg p1, upd kn cn.toNatClampNeg p2, upd sp cn.toNatClampNeg (-1))
    else ((-1), cn, cl, wt, kn, sp)
theorem iw_X2_enter_RX2 : ∀ w ∈ u_ws RX2 TX2 6, w ∈ wsX2_enter := by decide +kernel
set_option maxHeartbeats 4000000 in
set_option maxRecDepth 100000 in
theorem c_X2_enter (l : Launch) (G : GT) (a : Nat → Nat) (sz : Nat) (cn : Int32) (cl : Nat → Int32) (wt : Nat → Int32) (kn : Nat → Int32) (sp : Nat → Int32) (p0 : Int32) (p1 : Int32) (p2 : Int32) (hcn : okN 20 cn) : Met l yX2_enter wsX2_enter ({ frames := 1, cells := 0, slots := 0, locals := 20 }) (GP G [.ref (a 1), .int p0, .int p1, .int p2] [wcS a cn, wcI G (a 3) 20 cl, wcI G (a 4) 20 wt, wcI G (a 5) 20 kn, wcI G (a 6) 20 sp] sz) (MQo G (.returned (some (.int ((f_X2_enter cn cl wt kn sp p0 p1 p2).1)))) [wcS a ((f_X2_enter cn cl wt kn sp p0 p1 p2).2.1), wcI G (a 3) 20 ((f_X2_enter cn cl wt kn sp p0 p1 p2).2.2.1), wcI G (a 4) 20 ((f_X2_enter cn cl wt kn sp p0 p1 p2).2.2.2.1), wcI G (a 5) 20 ((f_X2_enter cn cl wt kn sp p0 p1 p2).2.2.2.2.1), wcI G (a 6) 20 ((f_X2_enter cn cl wt kn sp p0 p1 p2).2.2.2.2.2)] (va_A [wcS a cn, wcI G (a 3) 20 cl, wcI G (a 4) 20 wt, wcI G (a 5) 20 kn, wcI G (a 6) 20 sp] sz)) 0 0 (va_A [wcS a cn, wcI G (a 3) 20 cl, wcI G (a 4) 20 wt, wcI G (a 5) 20 kn, wcI G (a 6) 20 sp] sz) := by
  refine bodyM (cc := cX2_enter) (maxL := 5) (ret := (some .int)) (by decide) rfl (Nat.le_of_ble_eq_true rfl) ?_
  intro p e s m below meth c ls C
  obtain ⟨hx, hb, hr, hts, hown, hlocks, hml, hsz, hP, hE, hD, hA, hS, hl⟩ := C
  subst hsz
  have hl : lv_has ls 5 [(0, .ref (a 1)), (1, .int p0), (2, .int p1), (3, .int p2)] := hl
  refine lv_aload_n hx hb dX2_enter_0 rfl (lv_at hl 0 rfl) ?_
  refine k_p (va_runV (As := []) (rest := []) ⟨hx, hb, hml, hown, hts⟩ (c_X2_isFull l G a s.heap.size cn) (cwV 0 hts gX2_enter_X2_isFull rfl rfl rfl ⟨rfl, by decide +kernel, by decide +kernel, by decide +kernel⟩ ⟨Nat.le_of_ble_eq_true rfl, Nat.le_of_ble_eq_true rfl⟩) ⟨GP.blind, va_recv hE.1 hP (ci := 2) (q0 := 0) rfl rfl, GP.go (wc := [wcS a cn]) hE hP hD hS hA [0] rfl (by decide) [.ref (a 1)]⟩ rfl rfl hl.1 rfl (lv_room (Nat.le_of_ble_eq_true rfl)) dX2_enter_1 ⟨Nat.le_of_ble_eq_true rfl, Nat.le_of_ble_eq_true rfl⟩) ?_
  refine lv_if_eq (tgt := 9) hx hb dX2_enter_4 (by decide) (fun c_4 => ?_) (fun c_4 => ?_)
  · refine lv_aload_n hx hb dX2_enter_9 rfl (lv_at hl 0 rfl) ?_
    refine va_get (D := G.1) (ci := 2) (v := .int cn) (C := RX2) (T := TX2) (N := 6) hx hb hts iw_X2_enter_RX2 hown hE.1 hP 0 rfl rfl 5 (by decide) (hts (.fieldLink RX2 27 "Rackrail$Store" "count" "I") (by decide +kernel)) (fun _ h9 => h9) rfl dX2_enter_10 ?_
    refine lv_istore (lv' := [(4, .int cn), (0, .ref (a 1)), (1, .int p0), (2, .int p1), (3, .int p2)]) hx hb dX2_enter_13 hl (by decide) rfl (fun ls hl => ?_)
    refine lv_aload_n hx hb dX2_enter_15 rfl (lv_at hl 1 rfl) ?_
    refine va_get (D := G.1) (ci := 2) (v := .ref (a 3)) (C := RX2) (T := TX2) (N := 6) hx hb hts iw_X2_enter_RX2 hown hE.1 hP 0 rfl rfl 1 (by decide) (hts (.fieldLink RX2 15 "Rackrail$Store" "climates" "[I") (by decide +kernel)) (fun _ h9 => h9) rfl dX2_enter_16 ?_
    refine lv_iload hx hb dX2_enter_19 (lv_at hl 0 rfl) ?_
    refine lv_iload_n hx hb dX2_enter_21 rfl (lv_at hl 2 rfl) ?_
    refine va_iast hx hb hE.1 hP hD hS 1 0 rfl rfl (in_fullS hcn c_4) dX2_enter_22 (fun H locs hP hD hS => ?_)
    have hP : va_P G.1 vwCl [wcS a cn, wcI G (a 3) 20 (upd cl cn.toNatClampNeg p0), wcI G (a 4) 20 wt, wcI G (a 5) 20 kn, wcI G (a 6) 20 sp] H := hP
    have hD : va_D _ [wcS a cn, wcI G (a 3) 20 (upd cl cn.toNatClampNeg p0), wcI G (a 4) 20 wt, wcI G (a 5) 20 kn, wcI G (a 6) 20 sp] := hD
    refine lv_aload_n hx hb dX2_enter_23 rfl (lv_at hl 1 rfl) ?_
    refine va_get (D := G.1) (ci := 2) (v := .ref (a 4)) (C := RX2) (T := TX2) (N := 6) hx hb hts iw_X2_enter_RX2 hown hE.1 hP 0 rfl rfl 2 (by decide) (hts (.fieldLink RX2 18 "Rackrail$Store" "weights" "[I") (by decide +kernel)) (fun _ h9 => h9) rfl dX2_enter_24 ?_
    refine lv_iload hx hb dX2_enter_27 (lv_at hl 0 rfl) ?_
    refine lv_iload_n hx hb dX2_enter_29 rfl (lv_at hl 3 rfl) ?_
    refine va_iast hx hb hE.1 hP hD hS 2 0 rfl rfl (in_fullS hcn c_4) dX2_enter_30 (fun H locs hP hD hS => ?_)
    have hP : va_P G.1 vwCl [wcS a cn, wcI G (a 3) 20 (upd cl cn.toNatClampNeg p0), wcI G (a 4) 20 (upd wt cn.toNatClampNeg p1), wcI G (a 5) 20 kn, wcI G (a 6) 20 sp] H := hP
    have hD : va_D _ [wcS a cn, wcI G (a 3) 20 (upd cl cn.toNatClampNeg p0), wcI G (a 4) 20 (upd wt cn.toNatClampNeg p1), wcI G (a 5) 20 kn, wcI G (a 6) 20 sp] := hD
    refine lv_aload_n hx hb dX2_enter_31 rfl (lv_at hl 1 rfl) ?_
    refine va_get (D := G.1) (ci := 2) (v := .ref (a 5)) (C := RX2) (T := TX2) (N := 6) hx hb hts iw_X2_enter_RX2 hown hE.1 hP 0 rfl rfl 3 (by decide) (hts (.fieldLink RX2 21 "Rackrail$Store" "kins" "[I") (by decide +kernel)) (fun _ h9 => h9) rfl dX2_enter_32 ?_
    refine lv_iload hx hb dX2_enter_35 (lv_at hl 0 rfl) ?_
    refine lv_iload_n hx hb dX2_enter_37 rfl (lv_at hl 4 rfl) ?_
    refine va_iast hx hb hE.1 hP hD hS 3 0 rfl rfl (in_fullS hcn c_4) dX2_enter_38 (fun H locs hP hD hS => ?_)
    have hP : va_P G.1 vwCl [wcS a cn, wcI G (a 3) 20 (upd cl cn.toNatClampNeg p0), wcI G (a 4) 20 (upd wt cn.toNatClampNeg p1), wcI G (a 5) 20 (upd kn cn.toNatClampNeg p2), wcI G (a 6) 20 sp] H := hP
    have hD : va_D _ [wcS a cn, wcI G (a 3) 20 (upd cl cn.toNatClampNeg p0), wcI G (a 4) 20 (upd wt cn.toNatClampNeg p1), wcI G (a 5) 20 (upd kn cn.toNatClampNeg p2), wcI G (a 6) 20 sp] := hD
    refine lv_aload_n hx hb dX2_enter_39 rfl (lv_at hl 1 rfl) ?_
    refine va_get (D := G.1) (ci := 2) (v := .ref (a 6)) (C := RX2) (T := TX2) (N := 6) hx hb hts iw_X2_enter_RX2 hown hE.1 hP 0 rfl rfl 4 (by decide) (hts (.fieldLink RX2 24 "Rackrail$Store" "spots" "[I") (by decide +kernel)) (fun _ h9 => h9) rfl dX2_enter_40 ?_
    refine lv_iload hx hb dX2_enter_43 (lv_at hl 0 rfl) ?_
    refine lv_iconst (v := (-1)) hx hb dX2_enter_45 (by decide) ?_
    refine va_iast hx hb hE.1 hP hD hS 4 0 rfl rfl (in_fullS hcn c_4) dX2_enter_46 (fun H locs hP hD hS => ?_)
    have hP : va_P G.1 vwCl [wcS a cn, wcI G (a 3) 20 (upd cl cn.toNatClampNeg p0), wcI G (a 4) 20 (upd wt cn.toNatClampNeg p1), wcI G (a 5) 20 (upd kn cn.toNatClampNeg p2), wcI G (a 6) 20 (upd sp cn.toNatClampNeg (-1))] H := hP
    have hD : va_D _ [wcS a cn, wcI G (a 3) 20 (upd cl cn.toNatClampNeg p0), wcI G (a 4) 20 (upd wt cn.toNatClampNeg p1), wcI G (a 5) 20 (upd kn cn.toNatClampNeg p2), wcI G (a 6) 20 (upd sp cn.toNatClampNeg (-1))] := hD
    refine lv_aload_n hx hb dX2_enter_47 rfl (lv_at hl 1 rfl) ?_
    refine lv_dup hx hb dX2_enter_48 rfl ?_
    refine va_get (D := G.1) (ci := 2) (v := .int cn) (C := RX2) (T := TX2) (N := 6) hx hb hts iw_X2_enter_RX2 hown hE.1 hP 0 rfl rfl 5 (by decide) (hts (.fieldLink RX2 27 "Rackrail$Store" "count" "I") (by decide +kernel)) (fun _ h9 => h9) rfl dX2_enter_49 ?_
    refine lv_iconst (v := 1) hx hb dX2_enter_52 (by decide) ?_
    refine lv_iadd hx hb dX2_enter_53 ?_
    refine va_put (D := G.1) (ci := 2) (v := .int (cn + 1)) (ty := .int) (C := RX2) (T := TX2) (N := 6) hx hb hts iw_X2_enter_RX2 tyX2 tyX2_ok nmX2 hown hE.1 hP hD hS 0 rfl rfl 5 (by decide) (hts (.fieldLink RX2 27 "Rackrail$Store" "count" "I") (by decide +kernel)) (fun _ h9 => h9) rfl (by decide +kernel) rfl rfl (Nat.le_of_ble_eq_true rfl) dX2_enter_54 (fun H locs hP hD hS => ?_)
    have hP : va_P G.1 vwCl [wcS a (cn + 1), wcI G (a 3) 20 (upd cl cn.toNatClampNeg p0), wcI G (a 4) 20 (upd wt cn.toNatClampNeg p1), wcI G (a 5) 20 (upd kn cn.toNatClampNeg p2), wcI G (a 6) 20 (upd sp cn.toNatClampNeg (-1))] H := hP
    have hD : va_D _ [wcS a (cn + 1), wcI G (a 3) 20 (upd cl cn.toNatClampNeg p0), wcI G (a 4) 20 (upd wt cn.toNatClampNeg p1), wcI G (a 5) 20 (upd kn cn.toNatClampNeg p2), wcI G (a 6) 20 (upd sp cn.toNatClampNeg (-1))] := hD
    refine lv_iload hx hb dX2_enter_57 (lv_at hl 0 rfl) ?_
    have hq : f_X2_enter cn cl wt kn sp p0 p1 p2 = (cn, cn + 1, upd cl cn.toNatClampNeg p0, upd wt cn.toNatClampNeg p1, upd kn cn.toNatClampNeg p2, upd sp cn.toNatClampNeg (-1)) := (by rw [f_X2_enter, if_pos c_4])
    exact W.iret (v := cn) hx hb hr (fun t ht _ => ⟨by rw [hq], by rw [hq, ht]; exact hP, hS.F ht⟩) hS.2.2 dX2_enter_59
  · refine lv_iconst (v := (-1)) hx hb dX2_enter_7 (by decide) ?_
    have hq : f_X2_enter cn cl wt kn sp p0 p1 p2 = ((-1), cn, cl, wt, kn, sp) := (by rw [f_X2_enter, if_neg c_4])
    exact W.iret (v := (-1)) hx hb hr (fun t ht _ => ⟨by rw [hq], by rw [hq, ht]; exact hP, hS.F ht⟩) hS.2.2 dX2_enter_8

/-! X2_whereIs -/
def f_X2_whereIs (cn : Int32) (sp : Nat → Int32) (p0 : Int32) : Int32 :=
  if (f_X2_has cn p0) = 0 then (-1)
    else sp p0.toNatClampNeg
theorem in_where {x cn : Int32} {sp : Nat → Int32} (hcn : okN 20 cn) (h : ¬ f_X2_whereIs cn sp x = -1) : vp_in x 20 := by
  refine in_has hcn (fun z => h ?_)
  rw [f_X2_whereIs, if_pos z]
theorem iw_X2_whereIs_RX2 : ∀ w ∈ u_ws RX2 TX2 6, w ∈ wsX2_whereIs := by decide +kernel
set_option maxHeartbeats 4000000 in
set_option maxRecDepth 100000 in
theorem c_X2_whereIs (l : Launch) (G : GT) (a : Nat → Nat) (sz : Nat) (cn : Int32) (sp : Nat → Int32) (p0 : Int32) (hcn : okN 20 cn) : Met l yX2_whereIs wsX2_whereIs ({ frames := 2, cells := 0, slots := 0, locals := 42 }) (GP G [.ref (a 1), .int p0] [wcS a cn, wcI G (a 6) 20 sp] sz) (PQo (.returned (some (.int (f_X2_whereIs cn sp p0))))) 0 0 (fun _ => False) := by
  refine bodyM (cc := cX2_whereIs) (maxL := 2) (ret := (some .int)) (by decide) rfl (Nat.le_of_ble_eq_true rfl) ?_
  intro p e s m below meth c ls C
  obtain ⟨hx, hb, hr, hts, hown, hlocks, hml, hsz, hP, hE, hD, hA, hS, hl⟩ := C
  subst hsz
  have hl : lv_has ls 2 [(0, .ref (a 1)), (1, .int p0)] := hl
  refine lv_aload_n hx hb dX2_whereIs_0 rfl (lv_at hl 0 rfl) ?_
  refine lv_iload_n hx hb dX2_whereIs_1 rfl (lv_at hl 1 rfl) ?_
  refine k_p (va_runV (As := [.int p0]) (rest := []) ⟨hx, hb, hml, hown, hts⟩ (c_X2_has l G a s.heap.size cn p0) (cwV 1 hts gX2_whereIs_X2_has rfl rfl rfl ⟨rfl, by decide +kernel, by decide +kernel, by decide +kernel⟩ ⟨Nat.le_of_ble_eq_true rfl, Nat.le_of_ble_eq_true rfl⟩) ⟨GP.blind, va_recv hE.1 hP (ci := 2) (q0 := 0) rfl rfl, GP.go (wc := [wcS a cn]) hE hP hD hS hA [0] rfl (by decide) [.ref (a 1), .int p0]⟩ rfl rfl hl.1 rfl (lv_room (Nat.le_of_ble_eq_true rfl)) dX2_whereIs_2 ⟨Nat.le_of_ble_eq_true rfl, Nat.le_of_ble_eq_true rfl⟩) ?_
  refine lv_if_eq (tgt := 17) hx hb dX2_whereIs_5 (by decide) (fun c_5 => ?_) (fun c_5 => ?_)
  · refine lv_iconst (v := (-1)) hx hb dX2_whereIs_17 (by decide) ?_
    have hq : f_X2_whereIs cn sp p0 = (-1) := (by rw [f_X2_whereIs, if_pos c_5])
    exact W.iret (v := (-1)) hx hb hr (fun t ht _ => ⟨by rw [hq], ht⟩) (fun _ h => nomatch h) dX2_whereIs_18
  · refine lv_aload_n hx hb dX2_whereIs_8 rfl (lv_at hl 0 rfl) ?_
    refine va_get (D := G.1) (ci := 2) (v := .ref (a 6)) (C := RX2) (T := TX2) (N := 6) hx hb hts iw_X2_whereIs_RX2 hown hE.1 hP 0 rfl rfl 4 (by decide) (hts (.fieldLink RX2 24 "Rackrail$Store" "spots" "[I") (by decide +kernel)) (fun _ h9 => h9) rfl dX2_whereIs_9 ?_
    refine lv_iload_n hx hb dX2_whereIs_12 rfl (lv_at hl 1 rfl) ?_
    refine va_iald hx hb hE.1 hP 1 0 rfl rfl (in_has hcn c_5) dX2_whereIs_13 ?_
    refine lv_goto (tgt := 18) hx hb dX2_whereIs_14 (by decide) ?_
    have hq : f_X2_whereIs cn sp p0 = (sp p0.toNatClampNeg) := (by rw [f_X2_whereIs, if_neg c_5])
    exact W.iret (v := sp p0.toNatClampNeg) hx hb hr (fun t ht _ => ⟨by rw [hq], ht⟩) (fun _ h => nomatch h) dX2_whereIs_18

/-! X2_put -/
def f_X2_put (cn : Int32) (sp : Nat → Int32) (p0 : Int32) (p1 : Int32) : (Nat → Int32) :=
  if (f_X2_has cn p0) = 0 then sp
    else upd sp p0.toNatClampNeg p1
theorem iw_X2_put_RX2 : ∀ w ∈ u_ws RX2 TX2 6, w ∈ wsX2_put := by decide +kernel
set_option maxHeartbeats 4000000 in
set_option maxRecDepth 100000 in
theorem c_X2_put (l : Launch) (G : GT) (a : Nat → Nat) (sz : Nat) (cn : Int32) (sp : Nat → Int32) (p0 : Int32) (p1 : Int32) (hcn : okN 20 cn) : Met l yX2_put wsX2_put ({ frames := 2, cells := 0, slots := 0, locals := 42 }) (GP G [.ref (a 1), .int p0, .int p1] [wcS a cn, wcI G (a 6) 20 sp] sz) (MQo G (.returned none) [wcS a cn, wcI G (a 6) 20 (f_X2_put cn sp p0 p1)] (va_A [wcS a cn, wcI G (a 6) 20 sp] sz)) 0 0 (va_A [wcS a cn, wcI G (a 6) 20 sp] sz) := by
  refine bodyM (cc := cX2_put) (maxL := 3) (ret := none) (by decide) rfl (Nat.le_of_ble_eq_true rfl) ?_
  intro p e s m below meth c ls C
  obtain ⟨hx, hb, hr, hts, hown, hlocks, hml, hsz, hP, hE, hD, hA, hS, hl⟩ := C
  subst hsz
  have hl : lv_has ls 3 [(0, .ref (a 1)), (1, .int p0), (2, .int p1)] := hl
  refine lv_aload_n hx hb dX2_put_0 rfl (lv_at hl 0 rfl) ?_
  refine lv_iload_n hx hb dX2_put_1 rfl (lv_at hl 1 rfl) ?_
  refine k_p (va_runV (As := [.int p0]) (rest := []) ⟨hx, hb, hml, hown, hts⟩ (c_X2_has l G a s.heap.size cn p0) (cwV 1 hts gX2_put_X2_has rfl rfl rfl ⟨rfl, by decide +kernel, by decide +kernel, by decide +kernel⟩ ⟨Nat.le_of_ble_eq_true rfl, Nat.le_of_ble_eq_true rfl⟩) ⟨GP.blind, va_recv hE.1 hP (ci := 2) (q0 := 0) rfl rfl, GP.go (wc := [wcS a cn]) hE hP hD hS hA [0] rfl (by decide) [.ref (a 1), .int p0]⟩ rfl rfl hl.1 rfl (lv_room (Nat.le_of_ble_eq_true rfl)) dX2_put_2 ⟨Nat.le_of_ble_eq_true rfl, Nat.le_of_ble_eq_true rfl⟩) ?_
  refine lv_if_eq (tgt := 15) hx hb dX2_put_5 (by decide) (fun c_5 => ?_) (fun c_5 => ?_)
  · have hq : f_X2_put cn sp p0 p1 = sp := (by rw [f_X2_put, if_pos c_5])
    exact W.vret hx hb hr (fun t ht _ => ⟨rfl, by rw [hq, ht]; exact hP, hS.F ht⟩) hS.2.2 dX2_put_15
  · refine lv_aload_n hx hb dX2_put_8 rfl (lv_at hl 0 rfl) ?_
    refine va_get (D := G.1) (ci := 2) (v := .ref (a 6)) (C := RX2) (T := TX2) (N := 6) hx hb hts iw_X2_put_RX2 hown hE.1 hP 0 rfl rfl 4 (by decide) (hts (.fieldLink RX2 24 "Rackrail$Store" "spots" "[I") (by decide +kernel)) (fun _ h9 => h9) rfl dX2_put_9 ?_
    refine lv_iload_n hx hb dX2_put_12 rfl (lv_at hl 1 rfl) ?_
    refine lv_iload_n hx hb dX2_put_13 rfl (lv_at hl 2 rfl) ?_
    refine va_iast hx hb hE.1 hP hD hS 1 0 rfl rfl (in_has hcn c_5) dX2_put_14 (fun H locs hP hD hS => ?_)
    have hP : va_P G.1 vwCl [wcS a cn, wcI G (a 6) 20 (upd sp p0.toNatClampNeg p1)] H := hP
    have hD : va_D _ [wcS a cn, wcI G (a 6) 20 (upd sp p0.toNatClampNeg p1)] := hD
    have hq : f_X2_put cn sp p0 p1 = upd sp p0.toNatClampNeg p1 := (by rw [f_X2_put, if_neg c_5])
    exact W.vret hx hb hr (fun t ht _ => ⟨rfl, by rw [hq, ht]; exact hP, hS.F ht⟩) hS.2.2 dX2_put_15

/-! X2_boxIn -/
def f_X2_boxIn_L (sp : Nat → Int32) (p0 : Int32) : Nat → Nat → Int32
  | 0, j => (-1)
  | r + 1, j => if (sp (nI j).toNatClampNeg) = p0 then nI j
    else f_X2_boxIn_L sp p0 r (j + 1)
def f_X2_boxIn (cn : Int32) (sp : Nat → Int32) (p0 : Int32) : Int32 :=
  f_X2_boxIn_L sp p0 cn.toNatClampNeg 0
theorem iw_X2_boxIn_RX2 : ∀ w ∈ u_ws RX2 TX2 6, w ∈ wsX2_boxIn := by decide +kernel
set_option maxHeartbeats 4000000 in
set_option maxRecDepth 100000 in
theorem c_X2_boxIn (l : Launch) (G : GT) (a : Nat → Nat) (sz : Nat) (cn : Int32) (sp : Nat → Int32) (p0 : Int32) (hcn : okN 20 cn) : Met l yX2_boxIn wsX2_boxIn ({ frames := 0, cells := 0, slots := 0, locals := 0 }) (GP G [.ref (a 1), .int p0] [wcS a cn, wcI G (a 6) 20 sp] sz) (PQo (.returned (some (.int (f_X2_boxIn cn sp p0))))) 0 0 (fun _ => False) := by
  refine bodyM (cc := cX2_boxIn) (maxL := 3) (ret := (some .int)) (by decide) rfl (Nat.le_of_ble_eq_true rfl) ?_
  intro p e s m below meth c ls C
  obtain ⟨hx, hb, hr, hts, hown, hlocks, hml, hsz, hP, hE, hD, hA, hS, hl⟩ := C
  subst hsz
  have hl : lv_has ls 3 [(0, .ref (a 1)), (1, .int p0)] := hl
  obtain ⟨n, hn, hcn2⟩ := id hcn
  have hcl : cn.toNatClampNeg = n := by rw [hcn2]; exact nI_clamp (by omega)
  refine lv_iconst (v := 0) hx hb dX2_boxIn_0 (by decide) ?_
  refine lv_istore_n (lv' := [(2, .int 0), (0, .ref (a 1)), (1, .int p0)]) hx hb dX2_boxIn_1 rfl hl (by decide) rfl (fun ls hl => ?_)
  refine k_loopP (α := Unit) (fun (r j : Nat) (x : Unit) (ls : Array Slot) => j + r = n ∧ f_X2_boxIn cn sp p0 = f_X2_boxIn_L sp p0 r j ∧ lv_has ls 3 [(2, .int (nI j)), (0, .ref (a 1)), (1, .int p0)]) n 0 () ⟨by omega, (by rw [f_X2_boxIn, hcl]), lv_sub hl [0, 1, 2] rfl⟩ ?_ ?_
  · intro j x ls hI
    obtain ⟨hj, hf, hl⟩ := hI
    have hl : lv_has ls 3 [(2, .int (nI j)), (0, .ref (a 1)), (1, .int p0)] := hl
    have hf : f_X2_boxIn cn sp p0 = f_X2_boxIn_L sp p0 0 j := hf
    refine lv_iload_n hx hb dX2_boxIn_2 rfl (lv_at hl 0 rfl) ?_
    refine lv_aload_n hx hb dX2_boxIn_3 rfl (lv_at hl 1 rfl) ?_
    refine va_get (D := G.1) (ci := 2) (v := .int cn) (C := RX2) (T := TX2) (N := 6) hx hb hts iw_X2_boxIn_RX2 hown hE.1 hP 0 rfl rfl 5 (by decide) (hts (.fieldLink RX2 27 "Rackrail$Store" "count" "I") (by decide +kernel)) (fun _ h9 => h9) rfl dX2_boxIn_4 ?_
    refine lv_icmp_ge (tgt := 28) hx hb dX2_boxIn_7 (by decide) (fun c_7 => ?_) (fun c_7 => absurd (lp_a hcn2 (by omega) (by omega)) c_7)
    refine lv_iconst (v := (-1)) hx hb dX2_boxIn_28 (by decide) ?_
    have hq : f_X2_boxIn cn sp p0 = (-1) := (hf.trans (by rw [f_X2_boxIn_L]))
    exact W.iret (v := (-1)) hx hb hr (fun t ht _ => ⟨by rw [hq], ht⟩) (fun _ h => nomatch h) dX2_boxIn_29
  · intro r ih j x ls hI
    obtain ⟨hj, hf, hl⟩ := hI
    have hl : lv_has ls 3 [(2, .int (nI j)), (0, .ref (a 1)), (1, .int p0)] := hl
    have hf : f_X2_boxIn cn sp p0 = f_X2_boxIn_L sp p0 (r + 1) j := hf
    refine lv_iload_n hx hb dX2_boxIn_2 rfl (lv_at hl 0 rfl) ?_
    refine lv_aload_n hx hb dX2_boxIn_3 rfl (lv_at hl 1 rfl) ?_
    refine va_get (D := G.1) (ci := 2) (v := .int cn) (C := RX2) (T := TX2) (N := 6) hx hb hts iw_X2_boxIn_RX2 hown hE.1 hP 0 rfl rfl 5 (by decide) (hts (.fieldLink RX2 27 "Rackrail$Store" "count" "I") (by decide +kernel)) (fun _ h9 => h9) rfl dX2_boxIn_4 ?_
    refine lv_icmp_ge (tgt := 28) hx hb dX2_boxIn_7 (by decide) (fun c_7 => absurd c_7 (lp_b (r := r) hcn2 (by omega) (by omega))) (fun c_7 => ?_)
    refine lv_aload_n hx hb dX2_boxIn_10 rfl (lv_at hl 1 rfl) ?_
    refine va_get (D := G.1) (ci := 2) (v := .ref (a 6)) (C := RX2) (T := TX2) (N := 6) hx hb hts iw_X2_boxIn_RX2 hown hE.1 hP 0 rfl rfl 4 (by decide) (hts (.fieldLink RX2 24 "Rackrail$Store" "spots" "[I") (by decide +kernel)) (fun _ h9 => h9) rfl dX2_boxIn_11 ?_
    refine lv_iload_n hx hb dX2_boxIn_14 rfl (lv_at hl 0 rfl) ?_
    refine va_iald hx hb hE.1 hP 1 0 rfl rfl (vp_in_nI (by omega) (by decide)) dX2_boxIn_15 ?_
    refine lv_iload_n hx hb dX2_boxIn_16 rfl (lv_at hl 2 rfl) ?_
    refine lv_icmp_ne (tgt := 22) hx hb dX2_boxIn_17 (by decide) (fun c_17 => ?_) (fun c_17 => ?_)
    · refine lv_iinc (v := nI (j + 1)) (lv' := [(2, .int (nI (j + 1))), (0, .ref (a 1)), (1, .int p0)]) hx hb dX2_boxIn_22 hl (k := 0) rfl (inc1 _) (by decide) rfl (fun ls hl => ?_)
      refine lv_goto (tgt := 2) hx hb dX2_boxIn_25 (by decide) ?_
      exact ih (j + 1) () _ ⟨by omega, (hf.trans (by rw [f_X2_boxIn_L, if_neg c_17])), lv_sub hl [0, 1, 2] rfl⟩
    · refine lv_iload_n hx hb dX2_boxIn_20 rfl (lv_at hl 0 rfl) ?_
      have hq : f_X2_boxIn cn sp p0 = (nI j) := (hf.trans (by rw [f_X2_boxIn_L, if_pos c_17]))
      exact W.iret (v := nI j) hx hb hr (fun t ht _ => ⟨by rw [hq], ht⟩) (fun _ h => nomatch h) dX2_boxIn_21

/-! X2_aisleOfBox -/
def f_X2_aisleOfBox (cn : Int32) (sp : Nat → Int32) (p0 : Int32) : Int32 :=
  if (f_X2_whereIs cn sp p0) = (-1) then (-1)
    else f_X3_aisleAt (f_X2_whereIs cn sp p0)
set_option maxHeartbeats 4000000 in
set_option maxRecDepth 100000 in
theorem c_X2_aisleOfBox (l : Launch) (G : GT) (a : Nat → Nat) (sz : Nat) (cn : Int32) (sp : Nat → Int32) (p0 : Int32) (hcn : okN 20 cn) : Met l yX2_aisleOfBox wsX2_aisleOfBox ({ frames := 3, cells := 0, slots := 0, locals := 63 }) (GP G [.ref (a 1), .int p0] [wcS a cn, wcI G (a 6) 20 sp] sz) (PQo (.returned (some (.int (f_X2_aisleOfBox cn sp p0))))) 0 0 (fun _ => False) := by
  refine bodyM (cc := cX2_aisleOfBox) (maxL := 3) (ret := (some .int)) (by decide) rfl (Nat.le_of_ble_eq_true rfl) ?_
  intro p e s m below meth c ls C
  obtain ⟨hx, hb, hr, hts, hown, hlocks, hml, hsz, hP, hE, hD, hA, hS, hl⟩ := C
  subst hsz
  have hl : lv_has ls 3 [(0, .ref (a 1)), (1, .int p0)] := hl
  refine lv_aload_n hx hb dX2_aisleOfBox_0 rfl (lv_at hl 0 rfl) ?_
  refine lv_iload_n hx hb dX2_aisleOfBox_1 rfl (lv_at hl 1 rfl) ?_
  refine k_p (va_runV (As := [.int p0]) (rest := []) ⟨hx, hb, hml, hown, hts⟩ (c_X2_whereIs l G a s.heap.size cn sp p0 hcn) (cwV 1 hts gX2_aisleOfBox_X2_whereIs rfl rfl rfl ⟨rfl, by decide +kernel, by decide +kernel, by decide +kernel⟩ ⟨Nat.le_of_ble_eq_true rfl, Nat.le_of_ble_eq_true rfl⟩) ⟨GP.blind, va_recv hE.1 hP (ci := 2) (q0 := 0) rfl rfl, GP.go (wc := [wcS a cn, wcI G (a 6) 20 sp]) hE hP hD hS hA [0, 1] rfl (by decide) [.ref (a 1), .int p0]⟩ rfl rfl hl.1 rfl (lv_room (Nat.le_of_ble_eq_true rfl)) dX2_aisleOfBox_2 ⟨Nat.le_of_ble_eq_true rfl, Nat.le_of_ble_eq_true rfl⟩) ?_
  refine lv_istore_n (lv' := [(2, .int (f_X2_whereIs cn sp p0)), (0, .ref (a 1)), (1, .int p0)]) hx hb dX2_aisleOfBox_5 rfl hl (by decide) rfl (fun ls hl => ?_)
  refine lv_iload_n hx hb dX2_aisleOfBox_6 rfl (lv_at hl 0 rfl) ?_
  refine lv_iconst (v := (-1)) hx hb dX2_aisleOfBox_7 (by decide) ?_
  refine lv_icmp_ne (tgt := 15) hx hb dX2_aisleOfBox_8 (by decide) (fun c_8 => ?_) (fun c_8 => ?_)
  · refine lv_iload_n hx hb dX2_aisleOfBox_15 rfl (lv_at hl 0 rfl) ?_
    refine k_p (va_runSN (As := [.int (f_X2_whereIs cn sp p0)]) (rest := []) ⟨hx, hb, hml, hown, hts⟩ (c_X3_aisleAt l G s.heap.size (f_X2_whereIs cn sp p0)) ⟨va_cnB (host := "Rackrail") 1 hts gX2_aisleOfBox_X3_aisleAt_n47 rfl rfl rfl (hE.2.1 (RX2, 47, yX3_aisleAt) (by decide)) (hts (.initialized RX3) (by decide +kernel)) ⟨by decide +kernel, by decide +kernel, by decide +kernel⟩ ⟨Nat.le_of_ble_eq_true rfl, Nat.le_of_ble_eq_true rfl⟩, hts (.static yX3_aisleAt) (by decide +kernel), trivial⟩ ⟨GP.blind, GP.go (wc := []) hE hP hD hS hA [] rfl (by decide) [.int (f_X2_whereIs cn sp p0)]⟩ rfl rfl hl.1 rfl (lv_room (Nat.le_of_ble_eq_true rfl)) dX2_aisleOfBox_16 ⟨Nat.le_of_ble_eq_true rfl, Nat.le_of_ble_eq_true rfl⟩) ?_
    have hq : f_X2_aisleOfBox cn sp p0 = (f_X3_aisleAt (f_X2_whereIs cn sp p0)) := (by rw [f_X2_aisleOfBox, if_neg c_8])
    exact W.iret (v := f_X3_aisleAt (f_X2_whereIs cn sp p0)) hx hb hr (fun t ht _ => ⟨by rw [hq], ht⟩) (fun _ h => nomatch h) dX2_aisleOfBox_19
  · refine lv_iconst (v := (-1)) hx hb dX2_aisleOfBox_11 (by decide) ?_
    refine lv_goto (tgt := 19) hx hb dX2_aisleOfBox_12 (by decide) ?_
    have hq : f_X2_aisleOfBox cn sp p0 = (-1) := (by rw [f_X2_aisleOfBox, if_pos c_8])
    exact W.iret (v := (-1)) hx hb hr (fun t ht _ => ⟨by rw [hq], ht⟩) (fun _ h => nomatch h) dX2_aisleOfBox_19

/-! X2_liesOn -/
def f_X2_liesOn (cn : Int32) (sp : Nat → Int32) (p0 : Int32) (p1 : Int32) : Int32 :=
  if (f_X2_whereIs cn sp p0) = (-1) then 0
    else if (f_X3_shelfAt (f_X2_whereIs cn sp p0)) = p1 then 1
    else 0
theorem b_X2_liesOn (cn : Int32) (sp : Nat → Int32) (p0 : Int32) (p1 : Int32) : f_X2_liesOn cn sp p0 p1 = 0 ∨ f_X2_liesOn cn sp p0 p1 = 1 := by
  rw [f_X2_liesOn]
  (repeat' split) <;> first | exact Or.inl rfl | exact Or.inr rfl
set_option maxHeartbeats 4000000 in
set_option maxRecDepth 100000 in
theorem c_X2_liesOn (l : Launch) (G : GT) (a : Nat → Nat) (sz : Nat) (cn : Int32) (sp : Nat → Int32) (p0 : Int32) (p1 : Int32) (hcn : okN 20 cn) : Met l yX2_liesOn wsX2_liesOn ({ frames := 3, cells := 0, slots := 0, locals := 63 }) (GP G [.ref (a 1), .int p0, .int p1] [wcS a cn, wcI G (a 6) 20 sp] sz) (PQo (.returned (some (.int (f_X2_liesOn cn sp p0 p1))))) 0 0 (fun _ => False) := by
  refine bodyM (cc := cX2_liesOn) (maxL := 4) (ret := (some .boolean)) (by decide) rfl (Nat.le_of_ble_eq_true rfl) ?_
  intro p e s m below meth c ls C
  obtain ⟨hx, hb, hr, hts, hown, hlocks, hml, hsz, hP, hE, hD, hA, hS, hl⟩ := C
  subst hsz
  have hl : lv_has ls 4 [(0, .ref (a 1)), (1, .int p0), (2, .int p1)] := hl
  refine lv_aload_n hx hb dX2_liesOn_0 rfl (lv_at hl 0 rfl) ?_
  refine lv_iload_n hx hb dX2_liesOn_1 rfl (lv_at hl 1 rfl) ?_
  refine k_p (va_runV (As := [.int p0]) (rest := []) ⟨hx, hb, hml, hown, hts⟩ (c_X2_whereIs l G a s.heap.size cn sp p0 hcn) (cwV 1 hts gX2_liesOn_X2_whereIs rfl rfl rfl ⟨rfl, by decide +kernel, by decide +kernel, by decide +kernel⟩ ⟨Nat.le_of_ble_eq_true rfl, Nat.le_of_ble_eq_true rfl⟩) ⟨GP.blind, va_recv hE.1 hP (ci := 2) (q0 := 0) rfl rfl, GP.go (wc := [wcS a cn, wcI G (a 6) 20 sp]) hE hP hD hS hA [0, 1] rfl (by decide) [.ref (a 1), .int p0]⟩ rfl rfl hl.1 rfl (lv_room (Nat.le_of_ble_eq_true rfl)) dX2_liesOn_2 ⟨Nat.le_of_ble_eq_true rfl, Nat.le_of_ble_eq_true rfl⟩) ?_
  refine lv_istore_n (lv' := [(3, .int (f_X2_whereIs cn sp p0)), (0, .ref (a 1)), (1, .int p0), (2, .int p1)]) hx hb dX2_liesOn_5 rfl hl (by decide) rfl (fun ls hl => ?_)
  refine lv_iload_n hx hb dX2_liesOn_6 rfl (lv_at hl 0 rfl) ?_
  refine lv_iconst (v := (-1)) hx hb dX2_liesOn_7 (by decide) ?_
  refine lv_icmp_eq (tgt := 23) hx hb dX2_liesOn_8 (by decide) (fun c_8 => ?_) (fun c_8 => ?_)
  · refine lv_iconst (v := 0) hx hb dX2_liesOn_23 (by decide) ?_
    have hq : f_X2_liesOn cn sp p0 p1 = 0 := (by rw [f_X2_liesOn, if_pos c_8])
    exact W.zret (v := 0) hx hb hr rfl (fun t ht _ => ⟨by rw [hq], ht⟩) (fun _ h => nomatch h) dX2_liesOn_24
  · refine lv_iload_n hx hb dX2_liesOn_11 rfl (lv_at hl 0 rfl) ?_
    refine k_p (va_runSN (As := [.int (f_X2_whereIs cn sp p0)]) (rest := []) ⟨hx, hb, hml, hown, hts⟩ (c_X3_shelfAt l G s.heap.size (f_X2_whereIs cn sp p0)) ⟨va_cnB (host := "Rackrail") 1 hts gX2_liesOn_X3_shelfAt_n50 rfl rfl rfl (hE.2.1 (RX2, 50, yX3_shelfAt) (by decide)) (hts (.initialized RX3) (by decide +kernel)) ⟨by decide +kernel, by decide +kernel, by decide +kernel⟩ ⟨Nat.le_of_ble_eq_true rfl, Nat.le_of_ble_eq_true rfl⟩, hts (.static yX3_shelfAt) (by decide +kernel), trivial⟩ ⟨GP.blind, GP.go (wc := []) hE hP hD hS hA [] rfl (by decide) [.int (f_X2_whereIs cn sp p0)]⟩ rfl rfl hl.1 rfl (lv_room (Nat.le_of_ble_eq_true rfl)) dX2_liesOn_12 ⟨Nat.le_of_ble_eq_true rfl, Nat.le_of_ble_eq_true rfl⟩) ?_
    refine lv_iload_n hx hb dX2_liesOn_15 rfl (lv_at hl 3 rfl) ?_
    refine lv_icmp_ne (tgt := 23) hx hb dX2_liesOn_16 (by decide) (fun c_16 => ?_) (fun c_16 => ?_)
    · refine lv_iconst (v := 0) hx hb dX2_liesOn_23 (by decide) ?_
      have hq : f_X2_liesOn cn sp p0 p1 = 0 := (by rw [f_X2_liesOn, if_neg c_8, if_neg c_16])
      exact W.zret (v := 0) hx hb hr rfl (fun t ht _ => ⟨by rw [hq], ht⟩) (fun _ h => nomatch h) dX2_liesOn_24
    · refine lv_iconst (v := 1) hx hb dX2_liesOn_19 (by decide) ?_
      refine lv_goto (tgt := 24) hx hb dX2_liesOn_20 (by decide) ?_
      have hq : f_X2_liesOn cn sp p0 p1 = 1 := (by rw [f_X2_liesOn, if_neg c_8, if_pos c_16])
      exact W.zret (v := 1) hx hb hr rfl (fun t ht _ => ⟨by rw [hq], ht⟩) (fun _ h => nomatch h) dX2_liesOn_24

/-! X2_weightOn -/
def f_X2_weightOn_L (cn : Int32) (wt : Nat → Int32) (sp : Nat → Int32) (p0 : Int32) : Nat → Nat → Int32 → Int32
  | 0, j, sum => sum
  | r + 1, j, sum => if (f_X2_liesOn cn sp (nI j) p0) = 0 then f_X2_weightOn_L cn wt sp p0 r (j + 1) sum
    else f_X2_weightOn_L cn wt sp p0 r (j + 1) (sum + (wt (nI j).toNatClampNeg))
def f_X2_weightOn (cn : Int32) (wt : Nat → Int32) (sp : Nat → Int32) (p0 : Int32) : Int32 :=
  f_X2_weightOn_L cn wt sp p0 cn.toNatClampNeg 0 0
theorem iw_X2_weightOn_RX2 : ∀ w ∈ u_ws RX2 TX2 6, w ∈ wsX2_weightOn := by decide +kernel
set_option maxHeartbeats 4000000 in
set_option maxRecDepth 100000 in
theorem c_X2_weightOn (l : Launch) (G : GT) (a : Nat → Nat) (sz : Nat) (cn : Int32) (wt : Nat → Int32) (sp : Nat → Int32) (p0 : Int32) (hcn : okN 20 cn) : Met l yX2_weightOn wsX2_weightOn ({ frames := 4, cells := 0, slots := 0, locals := 86 }) (GP G [.ref (a 1), .int p0] [wcS a cn, wcI G (a 4) 20 wt, wcI G (a 6) 20 sp] sz) (PQo (.returned (some (.int (f_X2_weightOn cn wt sp p0))))) 0 0 (fun _ => False) := by
  refine bodyM (cc := cX2_weightOn) (maxL := 4) (ret := (some .int)) (by decide) rfl (Nat.le_of_ble_eq_true rfl) ?_
  intro p e s m below meth c ls C
  obtain ⟨hx, hb, hr, hts, hown, hlocks, hml, hsz, hP, hE, hD, hA, hS, hl⟩ := C
  subst hsz
  have hl : lv_has ls 4 [(0, .ref (a 1)), (1, .int p0)] := hl
  obtain ⟨n, hn, hcn2⟩ := id hcn
  have hcl : cn.toNatClampNeg = n := by rw [hcn2]; exact nI_clamp (by omega)
  refine lv_iconst (v := 0) hx hb dX2_weightOn_0 (by decide) ?_
  refine lv_istore_n (lv' := [(2, .int 0), (0, .ref (a 1)), (1, .int p0)]) hx hb dX2_weightOn_1 rfl hl (by decide) rfl (fun ls hl => ?_)
  refine lv_iconst (v := 0) hx hb dX2_weightOn_2 (by decide) ?_
  refine lv_istore_n (lv' := [(3, .int 0), (2, .int 0), (0, .ref (a 1)), (1, .int p0)]) hx hb dX2_weightOn_3 rfl hl (by decide) rfl (fun ls hl => ?_)
  refine k_loopP (α := Int32) (fun (r j : Nat) (x : Int32) (ls : Array Slot) => j + r = n ∧ f_X2_weightOn cn wt sp p0 = f_X2_weightOn_L cn wt sp p0 r j x ∧ lv_has ls 4 [(3, .int (nI j)), (2, .int x), (0, .ref (a 1)), (1, .int p0)]) n 0 0 ⟨by omega, (by rw [f_X2_weightOn, hcl]), lv_sub hl [0, 1, 2, 3] rfl⟩ ?_ ?_
  · intro j x ls hI
    obtain ⟨sum, rfl⟩ : ∃ y, y = x := ⟨_, rfl⟩
    obtain ⟨hj, hf, hl⟩ := hI
    have hl : lv_has ls 4 [(3, .int (nI j)), (2, .int sum), (0, .ref (a 1)), (1, .int p0)] := hl
    have hf : f_X2_weightOn cn wt sp p0 = f_X2_weightOn_L cn wt sp p0 0 j sum := hf
    refine lv_iload_n hx hb dX2_weightOn_4 rfl (lv_at hl 0 rfl) ?_
    refine lv_aload_n hx hb dX2_weightOn_5 rfl (lv_at hl 2 rfl) ?_
    refine va_get (D := G.1) (ci := 2) (v := .int cn) (C := RX2) (T := TX2) (N := 6) hx hb hts iw_X2_weightOn_RX2 hown hE.1 hP 0 rfl rfl 5 (by decide) (hts (.fieldLink RX2 27 "Rackrail$Store" "count" "I") (by decide +kernel)) (fun _ h9 => h9) rfl dX2_weightOn_6 ?_
    refine lv_icmp_ge (tgt := 36) hx hb dX2_weightOn_9 (by decide) (fun c_9 => ?_) (fun c_9 => absurd (lp_a hcn2 (by omega) (by omega)) c_9)
    refine lv_iload_n hx hb dX2_weightOn_36 rfl (lv_at hl 1 rfl) ?_
    have hq : f_X2_weightOn cn wt sp p0 = sum := (hf.trans (by rw [f_X2_weightOn_L]))
    exact W.iret (v := sum) hx hb hr (fun t ht _ => ⟨by rw [hq], ht⟩) (fun _ h => nomatch h) dX2_weightOn_37
  · intro r ih j x ls hI
    obtain ⟨sum, rfl⟩ : ∃ y, y = x := ⟨_, rfl⟩
    obtain ⟨hj, hf, hl⟩ := hI
    have hl : lv_has ls 4 [(3, .int (nI j)), (2, .int sum), (0, .ref (a 1)), (1, .int p0)] := hl
    have hf : f_X2_weightOn cn wt sp p0 = f_X2_weightOn_L cn wt sp p0 (r + 1) j sum := hf
    refine lv_iload_n hx hb dX2_weightOn_4 rfl (lv_at hl 0 rfl) ?_
    refine lv_aload_n hx hb dX2_weightOn_5 rfl (lv_at hl 2 rfl) ?_
    refine va_get (D := G.1) (ci := 2) (v := .int cn) (C := RX2) (T := TX2) (N := 6) hx hb hts iw_X2_weightOn_RX2 hown hE.1 hP 0 rfl rfl 5 (by decide) (hts (.fieldLink RX2 27 "Rackrail$Store" "count" "I") (by decide +kernel)) (fun _ h9 => h9) rfl dX2_weightOn_6 ?_
    refine lv_icmp_ge (tgt := 36) hx hb dX2_weightOn_9 (by decide) (fun c_9 => absurd c_9 (lp_b (r := r) hcn2 (by omega) (by omega))) (fun c_9 => ?_)
    refine lv_aload_n hx hb dX2_weightOn_12 rfl (lv_at hl 2 rfl) ?_
    refine lv_iload_n hx hb dX2_weightOn_13 rfl (lv_at hl 0 rfl) ?_
    refine lv_iload_n hx hb dX2_weightOn_14 rfl (lv_at hl 3 rfl) ?_
    refine k_p (va_runV (As := [.int (nI j), .int p0]) (rest := []) ⟨hx, hb, hml, hown, hts⟩ (c_X2_liesOn l G a s.heap.size cn sp (nI j) p0 hcn) (cwV 2 hts gX2_weightOn_X2_liesOn rfl rfl rfl ⟨rfl, by decide +kernel, by decide +kernel, by decide +kernel⟩ ⟨Nat.le_of_ble_eq_true rfl, Nat.le_of_ble_eq_true rfl⟩) ⟨GP.blind, va_recv hE.1 hP (ci := 2) (q0 := 0) rfl rfl, GP.go (wc := [wcS a cn, wcI G (a 6) 20 sp]) hE hP hD hS hA [0, 2] rfl (by decide) [.ref (a 1), .int (nI j), .int p0]⟩ rfl rfl hl.1 rfl (lv_room (Nat.le_of_ble_eq_true rfl)) dX2_weightOn_15 ⟨Nat.le_of_ble_eq_true rfl, Nat.le_of_ble_eq_true rfl⟩) ?_
    refine lv_if_eq (tgt := 30) hx hb dX2_weightOn_18 (by decide) (fun c_18 => ?_) (fun c_18 => ?_)
    · refine lv_iinc (v := nI (j + 1)) (lv' := [(3, .int (nI (j + 1))), (2, .int sum), (0, .ref (a 1)), (1, .int p0)]) hx hb dX2_weightOn_30 hl (k := 0) rfl (inc1 _) (by decide) rfl (fun ls hl => ?_)
      refine lv_goto (tgt := 4) hx hb dX2_weightOn_33 (by decide) ?_
      exact ih (j + 1) sum _ ⟨by omega, (hf.trans (by rw [f_X2_weightOn_L, if_pos c_18])), lv_sub hl [0, 1, 2, 3] rfl⟩
    · refine lv_iload_n hx hb dX2_weightOn_21 rfl (lv_at hl 1 rfl) ?_
      refine lv_aload_n hx hb dX2_weightOn_22 rfl (lv_at hl 2 rfl) ?_
      refine va_get (D := G.1) (ci := 2) (v := .ref (a 4)) (C := RX2) (T := TX2) (N := 6) hx hb hts iw_X2_weightOn_RX2 hown hE.1 hP 0 rfl rfl 2 (by decide) (hts (.fieldLink RX2 18 "Rackrail$Store" "weights" "[I") (by decide +kernel)) (fun _ h9 => h9) rfl dX2_weightOn_23 ?_
      refine lv_iload_n hx hb dX2_weightOn_26 rfl (lv_at hl 0 rfl) ?_
      refine va_iald hx hb hE.1 hP 1 0 rfl rfl (vp_in_nI (by omega) (by decide)) dX2_weightOn_27 ?_
      refine lv_iadd hx hb dX2_weightOn_28 ?_
      refine lv_istore_n (lv' := [(2, .int (sum + (wt (nI j).toNatClampNeg))), (3, .int (nI j)), (0, .ref (a 1)), (1, .int p0)]) hx hb dX2_weightOn_29 rfl hl (by decide) rfl (fun ls hl => ?_)
      refine lv_iinc (v := nI (j + 1)) (lv' := [(3, .int (nI (j + 1))), (2, .int (sum + (wt (nI j).toNatClampNeg))), (0, .ref (a 1)), (1, .int p0)]) hx hb dX2_weightOn_30 hl (k := 1) rfl (inc1 _) (by decide) rfl (fun ls hl => ?_)
      refine lv_goto (tgt := 4) hx hb dX2_weightOn_33 (by decide) ?_
      exact ih (j + 1) (sum + (wt (nI j).toNatClampNeg)) _ ⟨by omega, (hf.trans (by rw [f_X2_weightOn_L, if_neg c_18])), lv_sub hl [0, 1, 2, 3] rfl⟩

/-! X2_countKin -/
def f_X2_countKin_L (cn : Int32) (kn : Nat → Int32) (sp : Nat → Int32) (p0 : Int32) (p1 : Int32) : Nat → Nat → Int32 → Int32
  | 0, j, fnd => fnd
  | r + 1, j, fnd => if (kn (nI j).toNatClampNeg) = p1 then (if (f_X2_liesOn cn sp (nI j) p0) = 0 then f_X2_countKin_L cn kn sp p0 p1 r (j + 1) fnd
      else f_X2_countKin_L cn kn sp p0 p1 r (j + 1) (fnd + 1))
    else f_X2_countKin_L cn kn sp p0 p1 r (j + 1) fnd
def f_X2_countKin (cn : Int32) (kn : Nat → Int32) (sp : Nat → Int32) (p0 : Int32) (p1 : Int32) : Int32 :=
  f_X2_countKin_L cn kn sp p0 p1 cn.toNatClampNeg 0 0
theorem iw_X2_countKin_RX2 : ∀ w ∈ u_ws RX2 TX2 6, w ∈ wsX2_countKin := by decide +kernel
set_option maxHeartbeats 4000000 in
set_option maxRecDepth 100000 in
theorem c_X2_countKin (l : Launch) (G : GT) (a : Nat → Nat) (sz : Nat) (cn : Int32) (kn : Nat → Int32) (sp : Nat → Int32) (p0 : Int32) (p1 : Int32) (hcn : okN 20 cn) : Met l yX2_countKin wsX2_countKin ({ frames := 4, cells := 0, slots := 0, locals := 86 }) (GP G [.ref (a 1), .int p0, .int p1] [wcS a cn, wcI G (a 5) 20 kn, wcI G (a 6) 20 sp] sz) (PQo (.returned (some (.int (f_X2_countKin cn kn sp p0 p1))))) 0 0 (fun _ => False) := by
  refine bodyM (cc := cX2_countKin) (maxL := 5) (ret := (some .int)) (by decide) rfl (Nat.le_of_ble_eq_true rfl) ?_
  intro p e s m below meth c ls C
  obtain ⟨hx, hb, hr, hts, hown, hlocks, hml, hsz, hP, hE, hD, hA, hS, hl⟩ := C
  subst hsz
  have hl : lv_has ls 5 [(0, .ref (a 1)), (1, .int p0), (2, .int p1)] := hl
  obtain ⟨n, hn, hcn2⟩ := id hcn
  have hcl : cn.toNatClampNeg = n := by rw [hcn2]; exact nI_clamp (by omega)
  refine lv_iconst (v := 0) hx hb dX2_countKin_0 (by decide) ?_
  refine lv_istore_n (lv' := [(3, .int 0), (0, .ref (a 1)), (1, .int p0), (2, .int p1)]) hx hb dX2_countKin_1 rfl hl (by decide) rfl (fun ls hl => ?_)
  refine lv_iconst (v := 0) hx hb dX2_countKin_2 (by decide) ?_
  refine lv_istore (lv' := [(4, .int 0), (3, .int 0), (0, .ref (a 1)), (1, .int p0), (2, .int p1)]) hx hb dX2_countKin_3 hl (by decide) rfl (fun ls hl => ?_)
  refine k_loopP (α := Int32) (fun (r j : Nat) (x : Int32) (ls : Array Slot) => j + r = n ∧ f_X2_countKin cn kn sp p0 p1 = f_X2_countKin_L cn kn sp p0 p1 r j x ∧ lv_has ls 5 [(4, .int (nI j)), (3, .int x), (0, .ref (a 1)), (1, .int p0), (2, .int p1)]) n 0 0 ⟨by omega, (by rw [f_X2_countKin, hcl]), lv_sub hl [0, 1, 2, 3, 4] rfl⟩ ?_ ?_
  · intro j x ls hI
    obtain ⟨fnd, rfl⟩ : ∃ y, y = x := ⟨_, rfl⟩
    obtain ⟨hj, hf, hl⟩ := hI
    have hl : lv_has ls 5 [(4, .int (nI j)), (3, .int fnd), (0, .ref (a 1)), (1, .int p0), (2, .int p1)] := hl
    have hf : f_X2_countKin cn kn sp p0 p1 = f_X2_countKin_L cn kn sp p0 p1 0 j fnd := hf
    refine lv_iload hx hb dX2_countKin_5 (lv_at hl 0 rfl) ?_
    refine lv_aload_n hx hb dX2_countKin_7 rfl (lv_at hl 2 rfl) ?_
    refine va_get (D := G.1) (ci := 2) (v := .int cn) (C := RX2) (T := TX2) (N := 6) hx hb hts iw_X2_countKin_RX2 hown hE.1 hP 0 rfl rfl 5 (by decide) (hts (.fieldLink RX2 27 "Rackrail$Store" "count" "I") (by decide +kernel)) (fun _ h9 => h9) rfl dX2_countKin_8 ?_
    refine lv_icmp_ge (tgt := 44) hx hb dX2_countKin_11 (by decide) (fun c_11 => ?_) (fun c_11 => absurd (lp_a hcn2 (by omega) (by omega)) c_11)
    refine lv_iload_n hx hb dX2_countKin_44 rfl (lv_at hl 1 rfl) ?_
    have hq : f_X2_countKin cn kn sp p0 p1 = fnd := (hf.trans (by rw [f_X2_countKin_L]))
    exact W.iret (v := fnd) hx hb hr (fun t ht _ => ⟨by rw [hq], ht⟩) (fun _ h => nomatch h) dX2_countKin_45
  · intro r ih j x ls hI
    obtain ⟨fnd, rfl⟩ : ∃ y, y = x := ⟨_, rfl⟩
    obtain ⟨hj, hf, hl⟩ := hI
    have hl : lv_has ls 5 [(4, .int (nI j)), (3, .int fnd), (0, .ref (a 1)), (1, .int p0), (2, .int p1)] := hl
    have hf : f_X2_countKin cn kn sp p0 p1 = f_X2_countKin_L cn kn sp p0 p1 (r + 1) j fnd := hf
    refine lv_iload hx hb dX2_countKin_5 (lv_at hl 0 rfl) ?_
    refine lv_aload_n hx hb dX2_countKin_7 rfl (lv_at hl 2 rfl) ?_
    refine va_get (D := G.1) (ci := 2) (v := .int cn) (C := RX2) (T := TX2) (N := 6) hx hb hts iw_X2_countKin_RX2 hown hE.1 hP 0 rfl rfl 5 (by decide) (hts (.fieldLink RX2 27 "Rackrail$Store" "count" "I") (by decide +kernel)) (fun _ h9 => h9) rfl dX2_countKin_8 ?_
    refine lv_icmp_ge (tgt := 44) hx hb dX2_countKin_11 (by decide) (fun c_11 => absurd c_11 (lp_b (r := r) hcn2 (by omega) (by omega))) (fun c_11 => ?_)
    refine lv_aload_n hx hb dX2_countKin_14 rfl (lv_at hl 2 rfl) ?_
    refine va_get (D := G.1) (ci := 2) (v := .ref (a 5)) (C := RX2) (T := TX2) (N := 6) hx hb hts iw_X2_countKin_RX2 hown hE.1 hP 0 rfl rfl 3 (by decide) (hts (.fieldLink RX2 21 "Rackrail$Store" "kins" "[I") (by decide +kernel)) (fun _ h9 => h9) rfl dX2_countKin_15 ?_
    refine lv_iload hx hb dX2_countKin_18 (lv_at hl 0 rfl) ?_
    refine va_iald hx hb hE.1 hP 1 0 rfl rfl (vp_in_nI (by omega) (by decide)) dX2_countKin_20 ?_
    refine lv_iload_n hx hb dX2_countKin_21 rfl (lv_at hl 4 rfl) ?_
    refine lv_icmp_ne (tgt := 38) hx hb dX2_countKin_22 (by decide) (fun c_22 => ?_) (fun c_22 => ?_)
    · refine lv_iinc (v := nI (j + 1)) (lv' := [(4, .int (nI (j + 1))), (3, .int fnd), (0, .ref (a 1)), (1, .int p0), (2, .int p1)]) hx hb dX2_countKin_38 hl (k := 0) rfl (inc1 _) (by decide) rfl (fun ls hl => ?_)
      refine lv_goto (tgt := 5) hx hb dX2_countKin_41 (by decide) ?_
      exact ih (j + 1) fnd _ ⟨by omega, (hf.trans (by rw [f_X2_countKin_L, if_neg c_22])), lv_sub hl [0, 1, 2, 3, 4] rfl⟩
    · refine lv_aload_n hx hb dX2_countKin_25 rfl (lv_at hl 2 rfl) ?_
      refine lv_iload hx hb dX2_countKin_26 (lv_at hl 0 rfl) ?_
      refine lv_iload_n hx hb dX2_countKin_28 rfl (lv_at hl 3 rfl) ?_
      refine k_p (va_runV (As := [.int (nI j), .int p0]) (rest := []) ⟨hx, hb, hml, hown, hts⟩ (c_X2_liesOn l G a s.heap.size cn sp (nI j) p0 hcn) (cwV 2 hts gX2_countKin_X2_liesOn rfl rfl rfl ⟨rfl, by decide +kernel, by decide +kernel, by decide +kernel⟩ ⟨Nat.le_of_ble_eq_true rfl, Nat.le_of_ble_eq_true rfl⟩) ⟨GP.blind, va_recv hE.1 hP (ci := 2) (q0 := 0) rfl rfl, GP.go (wc := [wcS a cn, wcI G (a 6) 20 sp]) hE hP hD hS hA [0, 2] rfl (by decide) [.ref (a 1), .int (nI j), .int p0]⟩ rfl rfl hl.1 rfl (lv_room (Nat.le_of_ble_eq_true rfl)) dX2_countKin_29 ⟨Nat.le_of_ble_eq_true rfl, Nat.le_of_ble_eq_true rfl⟩) ?_
      refine lv_if_eq (tgt := 38) hx hb dX2_countKin_32 (by decide) (fun c_32 => ?_) (fun c_32 => ?_)
      · refine lv_iinc (v := nI (j + 1)) (lv' := [(4, .int (nI (j + 1))), (3, .int fnd), (0, .ref (a 1)), (1, .int p0), (2, .int p1)]) hx hb dX2_countKin_38 hl (k := 0) rfl (inc1 _) (by decide) rfl (fun ls hl => ?_)
        refine lv_goto (tgt := 5) hx hb dX2_countKin_41 (by decide) ?_
        exact ih (j + 1) fnd _ ⟨by omega, (hf.trans (by rw [f_X2_countKin_L, if_pos c_22, if_pos c_32])), lv_sub hl [0, 1, 2, 3, 4] rfl⟩
      · refine lv_iinc (v := fnd + 1) (lv' := [(3, .int (fnd + 1)), (4, .int (nI j)), (0, .ref (a 1)), (1, .int p0), (2, .int p1)]) hx hb dX2_countKin_35 hl (k := 1) rfl rfl (by decide) rfl (fun ls hl => ?_)
        refine lv_iinc (v := nI (j + 1)) (lv' := [(4, .int (nI (j + 1))), (3, .int (fnd + 1)), (0, .ref (a 1)), (1, .int p0), (2, .int p1)]) hx hb dX2_countKin_38 hl (k := 1) rfl (inc1 _) (by decide) rfl (fun ls hl => ?_)
        refine lv_goto (tgt := 5) hx hb dX2_countKin_41 (by decide) ?_
        exact ih (j + 1) (fnd + 1) _ ⟨by omega, (hf.trans (by rw [f_X2_countKin_L, if_pos c_22, if_neg c_32])), lv_sub hl [0, 1, 2, 3, 4] rfl⟩

/-! X2_isWrong -/
def f_X2_isWrong (cn : Int32) (sc : Nat → Int32) (cl : Nat → Int32) (sp : Nat → Int32) (p0 : Int32) : Int32 :=
  if (f_X2_whereIs cn sp p0) = (-1) then 0
    else if (cl p0.toNatClampNeg) = (f_X2_climateOf sc (f_X3_shelfAt (f_X2_whereIs cn sp p0))) then 0
    else 1
theorem b_X2_isWrong (cn : Int32) (sc : Nat → Int32) (cl : Nat → Int32) (sp : Nat → Int32) (p0 : Int32) : f_X2_isWrong cn sc cl sp p0 = 0 ∨ f_X2_isWrong cn sc cl sp p0 = 1 := by
  rw [f_X2_isWrong]
  (repeat' split) <;> first | exact Or.inl rfl | exact Or.inr rfl
theorem iw_X2_isWrong_RX2 : ∀ w ∈ u_ws RX2 TX2 6, w ∈ wsX2_isWrong := by decide +kernel
set_option maxHeartbeats 4000000 in
set_option maxRecDepth 100000 in
theorem c_X2_isWrong (l : Launch) (G : GT) (a : Nat → Nat) (sz : Nat) (cn : Int32) (sc : Nat → Int32) (cl : Nat → Int32) (sp : Nat → Int32) (p0 : Int32) (hcn : okN 20 cn) : Met l yX2_isWrong wsX2_isWrong ({ frames := 3, cells := 0, slots := 0, locals := 63 }) (GP G [.ref (a 1), .int p0] [wcS a cn, wcI G (a 2) 6 sc, wcI G (a 3) 20 cl, wcI G (a 6) 20 sp] sz) (PQo (.returned (some (.int (f_X2_isWrong cn sc cl sp p0))))) 0 0 (fun _ => False) := by
  refine bodyM (cc := cX2_isWrong) (maxL := 3) (ret := (some .boolean)) (by decide) rfl (Nat.le_of_ble_eq_true rfl) ?_
  intro p e s m below meth c ls C
  obtain ⟨hx, hb, hr, hts, hown, hlocks, hml, hsz, hP, hE, hD, hA, hS, hl⟩ := C
  subst hsz
  have hl : lv_has ls 3 [(0, .ref (a 1)), (1, .int p0)] := hl
  refine lv_aload_n hx hb dX2_isWrong_0 rfl (lv_at hl 0 rfl) ?_
  refine lv_iload_n hx hb dX2_isWrong_1 rfl (lv_at hl 1 rfl) ?_
  refine k_p (va_runV (As := [.int p0]) (rest := []) ⟨hx, hb, hml, hown, hts⟩ (c_X2_whereIs l G a s.heap.size cn sp p0 hcn) (cwV 1 hts gX2_isWrong_X2_whereIs rfl rfl rfl ⟨rfl, by decide +kernel, by decide +kernel, by decide +kernel⟩ ⟨Nat.le_of_ble_eq_true rfl, Nat.le_of_ble_eq_true rfl⟩) ⟨GP.blind, va_recv hE.1 hP (ci := 2) (q0 := 0) rfl rfl, GP.go (wc := [wcS a cn, wcI G (a 6) 20 sp]) hE hP hD hS hA [0, 3] rfl (by decide) [.ref (a 1), .int p0]⟩ rfl rfl hl.1 rfl (lv_room (Nat.le_of_ble_eq_true rfl)) dX2_isWrong_2 ⟨Nat.le_of_ble_eq_true rfl, Nat.le_of_ble_eq_true rfl⟩) ?_
  refine lv_istore_n (lv' := [(2, .int (f_X2_whereIs cn sp p0)), (0, .ref (a 1)), (1, .int p0)]) hx hb dX2_isWrong_5 rfl hl (by decide) rfl (fun ls hl => ?_)
  refine lv_iload_n hx hb dX2_isWrong_6 rfl (lv_at hl 0 rfl) ?_
  refine lv_iconst (v := (-1)) hx hb dX2_isWrong_7 (by decide) ?_
  refine lv_icmp_eq (tgt := 32) hx hb dX2_isWrong_8 (by decide) (fun c_8 => ?_) (fun c_8 => ?_)
  · refine lv_iconst (v := 0) hx hb dX2_isWrong_32 (by decide) ?_
    have hq : f_X2_isWrong cn sc cl sp p0 = 0 := (by rw [f_X2_isWrong, if_pos c_8])
    exact W.zret (v := 0) hx hb hr rfl (fun t ht _ => ⟨by rw [hq], ht⟩) (fun _ h => nomatch h) dX2_isWrong_33
  · refine lv_aload_n hx hb dX2_isWrong_11 rfl (lv_at hl 1 rfl) ?_
    refine va_get (D := G.1) (ci := 2) (v := .ref (a 3)) (C := RX2) (T := TX2) (N := 6) hx hb hts iw_X2_isWrong_RX2 hown hE.1 hP 0 rfl rfl 1 (by decide) (hts (.fieldLink RX2 15 "Rackrail$Store" "climates" "[I") (by decide +kernel)) (fun _ h9 => h9) rfl dX2_isWrong_12 ?_
    refine lv_iload_n hx hb dX2_isWrong_15 rfl (lv_at hl 2 rfl) ?_
    refine va_iald hx hb hE.1 hP 2 0 rfl rfl (in_where hcn c_8) dX2_isWrong_16 ?_
    refine lv_aload_n hx hb dX2_isWrong_17 rfl (lv_at hl 1 rfl) ?_
    refine lv_iload_n hx hb dX2_isWrong_18 rfl (lv_at hl 0 rfl) ?_
    refine k_p (va_runSN (As := [.int (f_X2_whereIs cn sp p0)]) (rest := [.ref (a 1), .int (cl p0.toNatClampNeg)]) ⟨hx, hb, hml, hown, hts⟩ (c_X3_shelfAt l G s.heap.size (f_X2_whereIs cn sp p0)) ⟨va_cnB (host := "Rackrail") 1 hts gX2_isWrong_X3_shelfAt_n50 rfl rfl rfl (hE.2.1 (RX2, 50, yX3_shelfAt) (by decide)) (hts (.initialized RX3) (by decide +kernel)) ⟨by decide +kernel, by decide +kernel, by decide +kernel⟩ ⟨Nat.le_of_ble_eq_true rfl, Nat.le_of_ble_eq_true rfl⟩, hts (.static yX3_shelfAt) (by decide +kernel), trivial⟩ ⟨GP.blind, GP.go (wc := []) hE hP hD hS hA [] rfl (by decide) [.int (f_X2_whereIs cn sp p0)]⟩ rfl rfl hl.1 rfl (lv_room (Nat.le_of_ble_eq_true rfl)) dX2_isWrong_19 ⟨Nat.le_of_ble_eq_true rfl, Nat.le_of_ble_eq_true rfl⟩) ?_
    refine k_p (va_runV (As := [.int (f_X3_shelfAt (f_X2_whereIs cn sp p0))]) (rest := [.int (cl p0.toNatClampNeg)]) ⟨hx, hb, hml, hown, hts⟩ (c_X2_climateOf l G a s.heap.size cn sc (f_X3_shelfAt (f_X2_whereIs cn sp p0))) (cwV 1 hts gX2_isWrong_X2_climateOf rfl rfl rfl ⟨rfl, by decide +kernel, by decide +kernel, by decide +kernel⟩ ⟨Nat.le_of_ble_eq_true rfl, Nat.le_of_ble_eq_true rfl⟩) ⟨GP.blind, va_recv hE.1 hP (ci := 2) (q0 := 0) rfl rfl, GP.go (wc := [wcS a cn, wcI G (a 2) 6 sc]) hE hP hD hS hA [0, 1] rfl (by decide) [.ref (a 1), .int (f_X3_shelfAt (f_X2_whereIs cn sp p0))]⟩ rfl rfl hl.1 rfl (lv_room (Nat.le_of_ble_eq_true rfl)) dX2_isWrong_22 ⟨Nat.le_of_ble_eq_true rfl, Nat.le_of_ble_eq_true rfl⟩) ?_
    refine lv_icmp_eq (tgt := 32) hx hb dX2_isWrong_25 (by decide) (fun c_25 => ?_) (fun c_25 => ?_)
    · refine lv_iconst (v := 0) hx hb dX2_isWrong_32 (by decide) ?_
      have hq : f_X2_isWrong cn sc cl sp p0 = 0 := (by rw [f_X2_isWrong, if_neg c_8, if_pos c_25])
      exact W.zret (v := 0) hx hb hr rfl (fun t ht _ => ⟨by rw [hq], ht⟩) (fun _ h => nomatch h) dX2_isWrong_33
    · refine lv_iconst (v := 1) hx hb dX2_isWrong_28 (by decide) ?_
      refine lv_goto (tgt := 33) hx hb dX2_isWrong_29 (by decide) ?_
      have hq : f_X2_isWrong cn sc cl sp p0 = 1 := (by rw [f_X2_isWrong, if_neg c_8, if_neg c_25])
      exact W.zret (v := 1) hx hb hr rfl (fun t ht _ => ⟨by rw [hq], ht⟩) (fun _ h => nomatch h) dX2_isWrong_33

/-! X2_countWrong -/
def f_X2_countWrong_L (cn : Int32) (sc : Nat → Int32) (cl : Nat → Int32) (sp : Nat → Int32) : Nat → Nat → Int32 → Int32
  | 0, j, fnd => fnd
  | r + 1, j, fnd => if (f_X2_isWrong cn sc cl sp (nI j)) = 0 then f_X2_countWrong_L cn sc cl sp r (j + 1) fnd
    else f_X2_countWrong_L cn sc cl sp r (j + 1) (fnd + 1)
def f_X2_countWrong (cn : Int32) (sc : Nat → Int32) (cl : Nat → Int32) (sp : Nat → Int32) : Int32 :=
  f_X2_countWrong_L cn sc cl sp cn.toNatClampNeg 0 0
theorem iw_X2_countWrong_RX2 : ∀ w ∈ u_ws RX2 TX2 6, w ∈ wsX2_countWrong := by decide +kernel
set_option maxHeartbeats 4000000 in
set_option maxRecDepth 100000 in
theorem c_X2_countWrong (l : Launch) (G : GT) (a : Nat → Nat) (sz : Nat) (cn : Int32) (sc : Nat → Int32) (cl : Nat → Int32) (sp : Nat → Int32) (hcn : okN 20 cn) : Met l yX2_countWrong wsX2_countWrong ({ frames := 4, cells := 0, slots := 0, locals := 85 }) (GP G [.ref (a 1)] [wcS a cn, wcI G (a 2) 6 sc, wcI G (a 3) 20 cl, wcI G (a 6) 20 sp] sz) (PQo (.returned (some (.int (f_X2_countWrong cn sc cl sp))))) 0 0 (fun _ => False) := by
  refine bodyM (cc := cX2_countWrong) (maxL := 3) (ret := (some .int)) (by decide) rfl (Nat.le_of_ble_eq_true rfl) ?_
  intro p e s m below meth c ls C
  obtain ⟨hx, hb, hr, hts, hown, hlocks, hml, hsz, hP, hE, hD, hA, hS, hl⟩ := C
  subst hsz
  have hl : lv_has ls 3 [(0, .ref (a 1))] := hl
  obtain ⟨n, hn, hcn2⟩ := id hcn
  have hcl : cn.toNatClampNeg = n := by rw [hcn2]; exact nI_clamp (by omega)
  refine lv_iconst (v := 0) hx hb dX2_countWrong_0 (by decide) ?_
  refine lv_istore_n (lv' := [(1, .int 0), (0, .ref (a 1))]) hx hb dX2_countWrong_1 rfl hl (by decide) rfl (fun ls hl => ?_)
  refine lv_iconst (v := 0) hx hb dX2_countWrong_2 (by decide) ?_
  refine lv_istore_n (lv' := [(2, .int 0), (1, .int 0), (0, .ref (a 1))]) hx hb dX2_countWrong_3 rfl hl (by decide) rfl (fun ls hl => ?_)
  refine k_loopP (α := Int32) (fun (r j : Nat) (x : Int32) (ls : Array Slot) => j + r = n ∧ f_X2_countWrong cn sc cl sp = f_X2_countWrong_L cn sc cl sp r j x ∧ lv_has ls 3 [(2, .int (nI j)), (1, .int x), (0, .ref (a 1))]) n 0 0 ⟨by omega, (by rw [f_X2_countWrong, hcl]), lv_sub hl [0, 1, 2] rfl⟩ ?_ ?_
  · intro j x ls hI
    obtain ⟨fnd, rfl⟩ : ∃ y, y = x := ⟨_, rfl⟩
    obtain ⟨hj, hf, hl⟩ := hI
    have hl : lv_has ls 3 [(2, .int (nI j)), (1, .int fnd), (0, .ref (a 1))] := hl
    have hf : f_X2_countWrong cn sc cl sp = f_X2_countWrong_L cn sc cl sp 0 j fnd := hf
    refine lv_iload_n hx hb dX2_countWrong_4 rfl (lv_at hl 0 rfl) ?_
    refine lv_aload_n hx hb dX2_countWrong_5 rfl (lv_at hl 2 rfl) ?_
    refine va_get (D := G.1) (ci := 2) (v := .int cn) (C := RX2) (T := TX2) (N := 6) hx hb hts iw_X2_countWrong_RX2 hown hE.1 hP 0 rfl rfl 5 (by decide) (hts (.fieldLink RX2 27 "Rackrail$Store" "count" "I") (by decide +kernel)) (fun _ h9 => h9) rfl dX2_countWrong_6 ?_
    refine lv_icmp_ge (tgt := 29) hx hb dX2_countWrong_9 (by decide) (fun c_9 => ?_) (fun c_9 => absurd (lp_a hcn2 (by omega) (by omega)) c_9)
    refine lv_iload_n hx hb dX2_countWrong_29 rfl (lv_at hl 1 rfl) ?_
    have hq : f_X2_countWrong cn sc cl sp = fnd := (hf.trans (by rw [f_X2_countWrong_L]))
    exact W.iret (v := fnd) hx hb hr (fun t ht _ => ⟨by rw [hq], ht⟩) (fun _ h => nomatch h) dX2_countWrong_30
  · intro r ih j x ls hI
    obtain ⟨fnd, rfl⟩ : ∃ y, y = x := ⟨_, rfl⟩
    obtain ⟨hj, hf, hl⟩ := hI
    have hl : lv_has ls 3 [(2, .int (nI j)), (1, .int fnd), (0, .ref (a 1))] := hl
    have hf : f_X2_countWrong cn sc cl sp = f_X2_countWrong_L cn sc cl sp (r + 1) j fnd := hf
    refine lv_iload_n hx hb dX2_countWrong_4 rfl (lv_at hl 0 rfl) ?_
    refine lv_aload_n hx hb dX2_countWrong_5 rfl (lv_at hl 2 rfl) ?_
    refine va_get (D := G.1) (ci := 2) (v := .int cn) (C := RX2) (T := TX2) (N := 6) hx hb hts iw_X2_countWrong_RX2 hown hE.1 hP 0 rfl rfl 5 (by decide) (hts (.fieldLink RX2 27 "Rackrail$Store" "count" "I") (by decide +kernel)) (fun _ h9 => h9) rfl dX2_countWrong_6 ?_
    refine lv_icmp_ge (tgt := 29) hx hb dX2_countWrong_9 (by decide) (fun c_9 => absurd c_9 (lp_b (r := r) hcn2 (by omega) (by omega))) (fun c_9 => ?_)
    refine lv_aload_n hx hb dX2_countWrong_12 rfl (lv_at hl 2 rfl) ?_
    refine lv_iload_n hx hb dX2_countWrong_13 rfl (lv_at hl 0 rfl) ?_
    refine k_p (va_runV (As := [.int (nI j)]) (rest := []) ⟨hx, hb, hml, hown, hts⟩ (c_X2_isWrong l G a s.heap.size cn sc cl sp (nI j) hcn) (cwV 1 hts gX2_countWrong_X2_isWrong rfl rfl rfl ⟨rfl, by decide +kernel, by decide +kernel, by decide +kernel⟩ ⟨Nat.le_of_ble_eq_true rfl, Nat.le_of_ble_eq_true rfl⟩) ⟨GP.blind, va_recv hE.1 hP (ci := 2) (q0 := 0) rfl rfl, GP.go (wc := [wcS a cn, wcI G (a 2) 6 sc, wcI G (a 3) 20 cl, wcI G (a 6) 20 sp]) hE hP hD hS hA [0, 1, 2, 3] rfl (by decide) [.ref (a 1), .int (nI j)]⟩ rfl rfl hl.1 rfl (lv_room (Nat.le_of_ble_eq_true rfl)) dX2_countWrong_14 ⟨Nat.le_of_ble_eq_true rfl, Nat.le_of_ble_eq_true rfl⟩) ?_
    refine lv_if_eq (tgt := 23) hx hb dX2_countWrong_17 (by decide) (fun c_17 => ?_) (fun c_17 => ?_)
    · refine lv_iinc (v := nI (j + 1)) (lv' := [(2, .int (nI (j + 1))), (1, .int fnd), (0, .ref (a 1))]) hx hb dX2_countWrong_23 hl (k := 0) rfl (inc1 _) (by decide) rfl (fun ls hl => ?_)
      refine lv_goto (tgt := 4) hx hb dX2_countWrong_26 (by decide) ?_
      exact ih (j + 1) fnd _ ⟨by omega, (hf.trans (by rw [f_X2_countWrong_L, if_pos c_17])), lv_sub hl [0, 1, 2] rfl⟩
    · refine lv_iinc (v := fnd + 1) (lv' := [(1, .int (fnd + 1)), (2, .int (nI j)), (0, .ref (a 1))]) hx hb dX2_countWrong_20 hl (k := 1) rfl rfl (by decide) rfl (fun ls hl => ?_)
      refine lv_iinc (v := nI (j + 1)) (lv' := [(2, .int (nI (j + 1))), (1, .int (fnd + 1)), (0, .ref (a 1))]) hx hb dX2_countWrong_23 hl (k := 1) rfl (inc1 _) (by decide) rfl (fun ls hl => ?_)
      refine lv_goto (tgt := 4) hx hb dX2_countWrong_26 (by decide) ?_
      exact ih (j + 1) (fnd + 1) _ ⟨by omega, (hf.trans (by rw [f_X2_countWrong_L, if_neg c_17])), lv_sub hl [0, 1, 2] rfl⟩

/-! X2_firstFreeSpot -/
def f_X2_firstFreeSpot (cn : Int32) (sp : Nat → Int32) (p0 : Int32) : Int32 :=
  if (f_X2_boxIn cn sp (f_X3_spotAt p0 0 0)) = (-1) then f_X3_spotAt p0 0 0
    else if (f_X2_boxIn cn sp (f_X3_spotAt p0 0 1)) = (-1) then f_X3_spotAt p0 0 1
    else if (f_X2_boxIn cn sp (f_X3_spotAt p0 0 2)) = (-1) then f_X3_spotAt p0 0 2
    else if (f_X2_boxIn cn sp (f_X3_spotAt p0 1 0)) = (-1) then f_X3_spotAt p0 1 0
    else if (f_X2_boxIn cn sp (f_X3_spotAt p0 1 1)) = (-1) then f_X3_spotAt p0 1 1
    else if (f_X2_boxIn cn sp (f_X3_spotAt p0 1 2)) = (-1) then f_X3_spotAt p0 1 2
    else (-1)
set_option maxHeartbeats 4000000 in
set_option maxRecDepth 100000 in
theorem c_X2_firstFreeSpot (l : Launch) (G : GT) (a : Nat → Nat) (sz : Nat) (cn : Int32) (sp : Nat → Int32) (p0 : Int32) (hcn : okN 20 cn) : Met l yX2_firstFreeSpot wsX2_firstFreeSpot ({ frames := 1, cells := 0, slots := 0, locals := 22 }) (GP G [.ref (a 1), .int p0] [wcS a cn, wcI G (a 6) 20 sp] sz) (PQo (.returned (some (.int (f_X2_firstFreeSpot cn sp p0))))) 0 0 (fun _ => False) := by
  refine bodyM (cc := cX2_firstFreeSpot) (maxL := 5) (ret := (some .int)) (by decide) rfl (Nat.le_of_ble_eq_true rfl) ?_
  intro p e s m below meth c ls C
  obtain ⟨hx, hb, hr, hts, hown, hlocks, hml, hsz, hP, hE, hD, hA, hS, hl⟩ := C
  subst hsz
  have hl : lv_has ls 5 [(0, .ref (a 1)), (1, .int p0)] := hl
  refine lv_iconst (v := 0) hx hb dX2_firstFreeSpot_0 (by decide) ?_
  refine lv_istore_n (lv' := [(2, .int 0), (0, .ref (a 1)), (1, .int p0)]) hx hb dX2_firstFreeSpot_1 rfl hl (by decide) rfl (fun ls hl => ?_)
  refine lv_iload_n hx hb dX2_firstFreeSpot_2 rfl (lv_at hl 0 rfl) ?_
  refine lv_iconst (v := 2) hx hb dX2_firstFreeSpot_3 (by decide) ?_
  refine lv_icmp_ge (tgt := 47) hx hb dX2_firstFreeSpot_4 (by decide) (fun c_4 => absurd c_4 (by decide)) (fun c_4 => ?_)
  refine lv_iconst (v := 0) hx hb dX2_firstFreeSpot_7 (by decide) ?_
  refine lv_istore_n (lv' := [(3, .int 0), (2, .int 0), (0, .ref (a 1)), (1, .int p0)]) hx hb dX2_firstFreeSpot_8 rfl hl (by decide) rfl (fun ls hl => ?_)
  refine lv_iload_n hx hb dX2_firstFreeSpot_9 rfl (lv_at hl 0 rfl) ?_
  refine lv_iconst (v := 3) hx hb dX2_firstFreeSpot_10 (by decide) ?_
  refine lv_icmp_ge (tgt := 41) hx hb dX2_firstFreeSpot_11 (by decide) (fun c_11 => absurd c_11 (by decide)) (fun c_11 => ?_)
  refine lv_iload_n hx hb dX2_firstFreeSpot_14 rfl (lv_at hl 3 rfl) ?_
  refine lv_iload_n hx hb dX2_firstFreeSpot_15 rfl (lv_at hl 1 rfl) ?_
  refine lv_iload_n hx hb dX2_firstFreeSpot_16 rfl (lv_at hl 0 rfl) ?_
  refine k_p (va_runSN (As := [.int p0, .int 0, .int 0]) (rest := []) ⟨hx, hb, hml, hown, hts⟩ (c_X3_spotAt l G s.heap.size p0 0 0) ⟨va_cnB (host := "Rackrail") 3 hts gX2_firstFreeSpot_X3_spotAt_n62 rfl rfl rfl (hE.2.1 (RX2, 62, yX3_spotAt) (by decide)) (hts (.initialized RX3) (by decide +kernel)) ⟨by decide +kernel, by decide +kernel, by decide +kernel⟩ ⟨Nat.le_of_ble_eq_true rfl, Nat.le_of_ble_eq_true rfl⟩, hts (.static yX3_spotAt) (by decide +kernel), trivial⟩ ⟨GP.blind, GP.go (wc := []) hE hP hD hS hA [] rfl (by decide) [.int p0, .int 0, .int 0]⟩ rfl rfl hl.1 rfl (lv_room (Nat.le_of_ble_eq_true rfl)) dX2_firstFreeSpot_17 ⟨Nat.le_of_ble_eq_true rfl, Nat.le_of_ble_eq_true rfl⟩) ?_
  refine lv_istore (lv' := [(4, .int (f_X3_spotAt p0 0 0)), (3, .int 0), (2, .int 0), (0, .ref (a 1)), (1, .int p0)]) hx hb dX2_firstFreeSpot_20 hl (by decide) rfl (fun ls hl => ?_)
  refine lv_aload_n hx hb dX2_firstFreeSpot_22 rfl (lv_at hl 3 rfl) ?_
  refine lv_iload hx hb dX2_firstFreeSpot_23 (lv_at hl 0 rfl) ?_
  refine k_p (va_runV (As := [.int (f_X3_spotAt p0 0 0)]) (rest := []) ⟨hx, hb, hml, hown, hts⟩ (c_X2_boxIn l G a s.heap.size cn sp (f_X3_spotAt p0 0 0) hcn) (cwV 1 hts gX2_firstFreeSpot_X2_boxIn rfl rfl rfl ⟨rfl, by decide +kernel, by decide +kernel, by decide +kernel⟩ ⟨Nat.le_of_ble_eq_true rfl, Nat.le_of_ble_eq_true rfl⟩) ⟨GP.blind, va_recv hE.1 hP (ci := 2) (q0 := 0) rfl rfl, GP.go (wc := [wcS a cn, wcI G (a 6) 20 sp]) hE hP hD hS hA [0, 1] rfl (by decide) [.ref (a 1), .int (f_X3_spotAt p0 0 0)]⟩ rfl rfl hl.1 rfl (lv_room (Nat.le_of_ble_eq_true rfl)) dX2_firstFreeSpot_25 ⟨Nat.le_of_ble_eq_true rfl, Nat.le_of_ble_eq_true rfl⟩) ?_
  refine lv_iconst (v := (-1)) hx hb dX2_firstFreeSpot_28 (by decide) ?_
  refine lv_icmp_ne (tgt := 35) hx hb dX2_firstFreeSpot_29 (by decide) (fun c_29 => ?_) (fun c_29 => ?_)
  · refine lv_iinc (v := 1) (lv' := [(3, .int 1), (4, .int (f_X3_spotAt p0 0 0)), (2, .int 0), (0, .ref (a 1)), (1, .int p0)]) hx hb dX2_firstFreeSpot_35 hl (k := 1) rfl (by decide) (by decide) rfl (fun ls hl => ?_)
    refine lv_goto (tgt := 9) hx hb dX2_firstFreeSpot_38 (by decide) ?_
    refine lv_iload_n hx hb dX2_firstFreeSpot_9 rfl (lv_at hl 0 rfl) ?_
    refine lv_iconst (v := 3) hx hb dX2_firstFreeSpot_10 (by decide) ?_
    refine lv_icmp_ge (tgt := 41) hx hb dX2_firstFreeSpot_11 (by decide) (fun c_11 => absurd c_11 (by decide)) (fun c_11 => ?_)
    refine lv_iload_n hx hb dX2_firstFreeSpot_14 rfl (lv_at hl 4 rfl) ?_
    refine lv_iload_n hx hb dX2_firstFreeSpot_15 rfl (lv_at hl 2 rfl) ?_
    refine lv_iload_n hx hb dX2_firstFreeSpot_16 rfl (lv_at hl 0 rfl) ?_
    refine k_p (va_runSN (As := [.int p0, .int 0, .int 1]) (rest := []) ⟨hx, hb, hml, hown, hts⟩ (c_X3_spotAt l G s.heap.size p0 0 1) ⟨va_cnB (host := "Rackrail") 3 hts gX2_firstFreeSpot_X3_spotAt_n62 rfl rfl rfl (hE.2.1 (RX2, 62, yX3_spotAt) (by decide)) (hts (.initialized RX3) (by decide +kernel)) ⟨by decide +kernel, by decide +kernel, by decide +kernel⟩ ⟨Nat.le_of_ble_eq_true rfl, Nat.le_of_ble_eq_true rfl⟩, hts (.static yX3_spotAt) (by decide +kernel), trivial⟩ ⟨GP.blind, GP.go (wc := []) hE hP hD hS hA [] rfl (by decide) [.int p0, .int 0, .int 1]⟩ rfl rfl hl.1 rfl (lv_room (Nat.le_of_ble_eq_true rfl)) dX2_firstFreeSpot_17 ⟨Nat.le_of_ble_eq_true rfl, Nat.le_of_ble_eq_true rfl⟩) ?_
    refine lv_istore (lv' := [(4, .int (f_X3_spotAt p0 0 1)), (3, .int 1), (2, .int 0), (0, .ref (a 1)), (1, .int p0)]) hx hb dX2_firstFreeSpot_20 hl (by decide) rfl (fun ls hl => ?_)
    refine lv_aload_n hx hb dX2_firstFreeSpot_22 rfl (lv_at hl 3 rfl) ?_
    refine lv_iload hx hb dX2_firstFreeSpot_23 (lv_at hl 0 rfl) ?_
    refine k_p (va_runV (As := [.int (f_X3_spotAt p0 0 1)]) (rest := []) ⟨hx, hb, hml, hown, hts⟩ (c_X2_boxIn l G a s.heap.size cn sp (f_X3_spotAt p0 0 1) hcn) (cwV 1 hts gX2_firstFreeSpot_X2_boxIn rfl rfl rfl ⟨rfl, by decide +kernel, by decide +kernel, by decide +kernel⟩ ⟨Nat.le_of_ble_eq_true rfl, Nat.le_of_ble_eq_true rfl⟩) ⟨GP.blind, va_recv hE.1 hP (ci := 2) (q0 := 0) rfl rfl, GP.go (wc := [wcS a cn, wcI G (a 6) 20 sp]) hE hP hD hS hA [0, 1] rfl (by decide) [.ref (a 1), .int (f_X3_spotAt p0 0 1)]⟩ rfl rfl hl.1 rfl (lv_room (Nat.le_of_ble_eq_true rfl)) dX2_firstFreeSpot_25 ⟨Nat.le_of_ble_eq_true rfl, Nat.le_of_ble_eq_true rfl⟩) ?_
    refine lv_iconst (v := (-1)) hx hb dX2_firstFreeSpot_28 (by decide) ?_
    refine lv_icmp_ne (tgt := 35) hx hb dX2_firstFreeSpot_29 (by decide) (fun c_29_2 => ?_) (fun c_29_2 => ?_)
    · refine lv_iinc (v := 2) (lv' := [(3, .int 2), (4, .int (f_X3_spotAt p0 0 1)), (2, .int 0), (0, .ref (a 1)), (1, .int p0)]) hx hb dX2_firstFreeSpot_35 hl (k := 1) rfl (by decide) (by decide) rfl (fun ls hl => ?_)
      refine lv_goto (tgt := 9) hx hb dX2_firstFreeSpot_38 (by decide) ?_
      refine lv_iload_n hx hb dX2_firstFreeSpot_9 rfl (lv_at hl 0 rfl) ?_
      refine lv_iconst (v := 3) hx hb dX2_firstFreeSpot_10 (by decide) ?_
      refine lv_icmp_ge (tgt := 41) hx hb dX2_firstFreeSpot_11 (by decide) (fun c_11 => absurd c_11 (by decide)) (fun c_11 => ?_)
      refine lv_iload_n hx hb dX2_firstFreeSpot_14 rfl (lv_at hl 4 rfl) ?_
      refine lv_iload_n hx hb dX2_firstFreeSpot_15 rfl (lv_at hl 2 rfl) ?_
      refine lv_iload_n hx hb dX2_firstFreeSpot_16 rfl (lv_at hl 0 rfl) ?_
      refine k_p (va_runSN (As := [.int p0, .int 0, .int 2]) (rest := []) ⟨hx, hb, hml, hown, hts⟩ (c_X3_spotAt l G s.heap.size p0 0 2) ⟨va_cnB (host := "Rackrail") 3 hts gX2_firstFreeSpot_X3_spotAt_n62 rfl rfl rfl (hE.2.1 (RX2, 62, yX3_spotAt) (by decide)) (hts (.initialized RX3) (by decide +kernel)) ⟨by decide +kernel, by decide +kernel, by decide +kernel⟩ ⟨Nat.le_of_ble_eq_true rfl, Nat.le_of_ble_eq_true rfl⟩, hts (.static yX3_spotAt) (by decide +kernel), trivial⟩ ⟨GP.blind, GP.go (wc := []) hE hP hD hS hA [] rfl (by decide) [.int p0, .int 0, .int 2]⟩ rfl rfl hl.1 rfl (lv_room (Nat.le_of_ble_eq_true rfl)) dX2_firstFreeSpot_17 ⟨Nat.le_of_ble_eq_true rfl, Nat.le_of_ble_eq_true rfl⟩) ?_
      refine lv_istore (lv' := [(4, .int (f_X3_spotAt p0 0 2)), (3, .int 2), (2, .int 0), (0, .ref (a 1)), (1, .int p0)]) hx hb dX2_firstFreeSpot_20 hl (by decide) rfl (fun ls hl => ?_)
      refine lv_aload_n hx hb dX2_firstFreeSpot_22 rfl (lv_at hl 3 rfl) ?_
      refine lv_iload hx hb dX2_firstFreeSpot_23 (lv_at hl 0 rfl) ?_
      refine k_p (va_runV (As := [.int (f_X3_spotAt p0 0 2)]) (rest := []) ⟨hx, hb, hml, hown, hts⟩ (c_X2_boxIn l G a s.heap.size cn sp (f_X3_spotAt p0 0 2) hcn) (cwV 1 hts gX2_firstFreeSpot_X2_boxIn rfl rfl rfl ⟨rfl, by decide +kernel, by decide +kernel, by decide +kernel⟩ ⟨Nat.le_of_ble_eq_true rfl, Nat.le_of_ble_eq_true rfl⟩) ⟨GP.blind, va_recv hE.1 hP (ci := 2) (q0 := 0) rfl rfl, GP.go (wc := [wcS a cn, wcI G (a 6) 20 sp]) hE hP hD hS hA [0, 1] rfl (by decide) [.ref (a 1), .int (f_X3_spotAt p0 0 2)]⟩ rfl rfl hl.1 rfl (lv_room (Nat.le_of_ble_eq_true rfl)) dX2_firstFreeSpot_25 ⟨Nat.le_of_ble_eq_true rfl, Nat.le_of_ble_eq_true rfl⟩) ?_
      refine lv_iconst (v := (-1)) hx hb dX2_firstFreeSpot_28 (by decide) ?_
      refine lv_icmp_ne (tgt := 35) hx hb dX2_firstFreeSpot_29 (by decide) (fun c_29_3 => ?_) (fun c_29_3 => ?_)
      · refine lv_iinc (v := 3) (lv' := [(3, .int 3), (4, .int (f_X3_spotAt p0 0 2)), (2, .int 0), (0, .ref (a 1)), (1, .int p0)]) hx hb dX2_firstFreeSpot_35 hl (k := 1) rfl (by decide) (by decide) rfl (fun ls hl => ?_)
        refine lv_goto (tgt := 9) hx hb dX2_firstFreeSpot_38 (by decide) ?_
        refine lv_iload_n hx hb dX2_firstFreeSpot_9 rfl (lv_at hl 0 rfl) ?_
        refine lv_iconst (v := 3) hx hb dX2_firstFreeSpot_10 (by decide) ?_
        refine lv_icmp_ge (tgt := 41) hx hb dX2_firstFreeSpot_11 (by decide) (fun c_11 => ?_) (fun c_11 => absurd (by decide) c_11)
        refine lv_iinc (v := 1) (lv' := [(2, .int 1), (3, .int 3), (4, .int (f_X3_spotAt p0 0 2)), (0, .ref (a 1)), (1, .int p0)]) hx hb dX2_firstFreeSpot_41 hl (k := 2) rfl (by decide) (by decide) rfl (fun ls hl => ?_)
        refine lv_goto (tgt := 2) hx hb dX2_firstFreeSpot_44 (by decide) ?_
        refine lv_iload_n hx hb dX2_firstFreeSpot_2 rfl (lv_at hl 0 rfl) ?_
        refine lv_iconst (v := 2) hx hb dX2_firstFreeSpot_3 (by decide) ?_
        refine lv_icmp_ge (tgt := 47) hx hb dX2_firstFreeSpot_4 (by decide) (fun c_4 => absurd c_4 (by decide)) (fun c_4 => ?_)
        refine lv_iconst (v := 0) hx hb dX2_firstFreeSpot_7 (by decide) ?_
        refine lv_istore_n (lv' := [(3, .int 0), (2, .int 1), (4, .int (f_X3_spotAt p0 0 2)), (0, .ref (a 1)), (1, .int p0)]) hx hb dX2_firstFreeSpot_8 rfl hl (by decide) rfl (fun ls hl => ?_)
        refine lv_iload_n hx hb dX2_firstFreeSpot_9 rfl (lv_at hl 0 rfl) ?_
        refine lv_iconst (v := 3) hx hb dX2_firstFreeSpot_10 (by decide) ?_
        refine lv_icmp_ge (tgt := 41) hx hb dX2_firstFreeSpot_11 (by decide) (fun c_11 => absurd c_11 (by decide)) (fun c_11 => ?_)
        refine lv_iload_n hx hb dX2_firstFreeSpot_14 rfl (lv_at hl 4 rfl) ?_
        refine lv_iload_n hx hb dX2_firstFreeSpot_15 rfl (lv_at hl 1 rfl) ?_
        refine lv_iload_n hx hb dX2_firstFreeSpot_16 rfl (lv_at hl 0 rfl) ?_
        refine k_p (va_runSN (As := [.int p0, .int 1, .int 0]) (rest := []) ⟨hx, hb, hml, hown, hts⟩ (c_X3_spotAt l G s.heap.size p0 1 0) ⟨va_cnB (host := "Rackrail") 3 hts gX2_firstFreeSpot_X3_spotAt_n62 rfl rfl rfl (hE.2.1 (RX2, 62, yX3_spotAt) (by decide)) (hts (.initialized RX3) (by decide +kernel)) ⟨by decide +kernel, by decide +kernel, by decide +kernel⟩ ⟨Nat.le_of_ble_eq_true rfl, Nat.le_of_ble_eq_true rfl⟩, hts (.static yX3_spotAt) (by decide +kernel), trivial⟩ ⟨GP.blind, GP.go (wc := []) hE hP hD hS hA [] rfl (by decide) [.int p0, .int 1, .int 0]⟩ rfl rfl hl.1 rfl (lv_room (Nat.le_of_ble_eq_true rfl)) dX2_firstFreeSpot_17 ⟨Nat.le_of_ble_eq_true rfl, Nat.le_of_ble_eq_true rfl⟩) ?_
        refine lv_istore (lv' := [(4, .int (f_X3_spotAt p0 1 0)), (3, .int 0), (2, .int 1), (0, .ref (a 1)), (1, .int p0)]) hx hb dX2_firstFreeSpot_20 hl (by decide) rfl (fun ls hl => ?_)
        refine lv_aload_n hx hb dX2_firstFreeSpot_22 rfl (lv_at hl 3 rfl) ?_
        refine lv_iload hx hb dX2_firstFreeSpot_23 (lv_at hl 0 rfl) ?_
        refine k_p (va_runV (As := [.int (f_X3_spotAt p0 1 0)]) (rest := []) ⟨hx, hb, hml, hown, hts⟩ (c_X2_boxIn l G a s.heap.size cn sp (f_X3_spotAt p0 1 0) hcn) (cwV 1 hts gX2_firstFreeSpot_X2_boxIn rfl rfl rfl ⟨rfl, by decide +kernel, by decide +kernel, by decide +kernel⟩ ⟨Nat.le_of_ble_eq_true rfl, Nat.le_of_ble_eq_true rfl⟩) ⟨GP.blind, va_recv hE.1 hP (ci := 2) (q0 := 0) rfl rfl, GP.go (wc := [wcS a cn, wcI G (a 6) 20 sp]) hE hP hD hS hA [0, 1] rfl (by decide) [.ref (a 1), .int (f_X3_spotAt p0 1 0)]⟩ rfl rfl hl.1 rfl (lv_room (Nat.le_of_ble_eq_true rfl)) dX2_firstFreeSpot_25 ⟨Nat.le_of_ble_eq_true rfl, Nat.le_of_ble_eq_true rfl⟩) ?_
        refine lv_iconst (v := (-1)) hx hb dX2_firstFreeSpot_28 (by decide) ?_
        refine lv_icmp_ne (tgt := 35) hx hb dX2_firstFreeSpot_29 (by decide) (fun c_29_4 => ?_) (fun c_29_4 => ?_)
        · refine lv_iinc (v := 1) (lv' := [(3, .int 1), (4, .int (f_X3_spotAt p0 1 0)), (2, .int 1), (0, .ref (a 1)), (1, .int p0)]) hx hb dX2_firstFreeSpot_35 hl (k := 1) rfl (by decide) (by decide) rfl (fun ls hl => ?_)
          refine lv_goto (tgt := 9) hx hb dX2_firstFreeSpot_38 (by decide) ?_
          refine lv_iload_n hx hb dX2_firstFreeSpot_9 rfl (lv_at hl 0 rfl) ?_
          refine lv_iconst (v := 3) hx hb dX2_firstFreeSpot_10 (by decide) ?_
          refine lv_icmp_ge (tgt := 41) hx hb dX2_firstFreeSpot_11 (by decide) (fun c_11 => absurd c_11 (by decide)) (fun c_11 => ?_)
          refine lv_iload_n hx hb dX2_firstFreeSpot_14 rfl (lv_at hl 4 rfl) ?_
          refine lv_iload_n hx hb dX2_firstFreeSpot_15 rfl (lv_at hl 2 rfl) ?_
          refine lv_iload_n hx hb dX2_firstFreeSpot_16 rfl (lv_at hl 0 rfl) ?_
          refine k_p (va_runSN (As := [.int p0, .int 1, .int 1]) (rest := []) ⟨hx, hb, hml, hown, hts⟩ (c_X3_spotAt l G s.heap.size p0 1 1) ⟨va_cnB (host := "Rackrail") 3 hts gX2_firstFreeSpot_X3_spotAt_n62 rfl rfl rfl (hE.2.1 (RX2, 62, yX3_spotAt) (by decide)) (hts (.initialized RX3) (by decide +kernel)) ⟨by decide +kernel, by decide +kernel, by decide +kernel⟩ ⟨Nat.le_of_ble_eq_true rfl, Nat.le_of_ble_eq_true rfl⟩, hts (.static yX3_spotAt) (by decide +kernel), trivial⟩ ⟨GP.blind, GP.go (wc := []) hE hP hD hS hA [] rfl (by decide) [.int p0, .int 1, .int 1]⟩ rfl rfl hl.1 rfl (lv_room (Nat.le_of_ble_eq_true rfl)) dX2_firstFreeSpot_17 ⟨Nat.le_of_ble_eq_true rfl, Nat.le_of_ble_eq_true rfl⟩) ?_
          refine lv_istore (lv' := [(4, .int (f_X3_spotAt p0 1 1)), (3, .int 1), (2, .int 1), (0, .ref (a 1)), (1, .int p0)]) hx hb dX2_firstFreeSpot_20 hl (by decide) rfl (fun ls hl => ?_)
          refine lv_aload_n hx hb dX2_firstFreeSpot_22 rfl (lv_at hl 3 rfl) ?_
          refine lv_iload hx hb dX2_firstFreeSpot_23 (lv_at hl 0 rfl) ?_
          refine k_p (va_runV (As := [.int (f_X3_spotAt p0 1 1)]) (rest := []) ⟨hx, hb, hml, hown, hts⟩ (c_X2_boxIn l G a s.heap.size cn sp (f_X3_spotAt p0 1 1) hcn) (cwV 1 hts gX2_firstFreeSpot_X2_boxIn rfl rfl rfl ⟨rfl, by decide +kernel, by decide +kernel, by decide +kernel⟩ ⟨Nat.le_of_ble_eq_true rfl, Nat.le_of_ble_eq_true rfl⟩) ⟨GP.blind, va_recv hE.1 hP (ci := 2) (q0 := 0) rfl rfl, GP.go (wc := [wcS a cn, wcI G (a 6) 20 sp]) hE hP hD hS hA [0, 1] rfl (by decide) [.ref (a 1), .int (f_X3_spotAt p0 1 1)]⟩ rfl rfl hl.1 rfl (lv_room (Nat.le_of_ble_eq_true rfl)) dX2_firstFreeSpot_25 ⟨Nat.le_of_ble_eq_true rfl, Nat.le_of_ble_eq_true rfl⟩) ?_
          refine lv_iconst (v := (-1)) hx hb dX2_firstFreeSpot_28 (by decide) ?_
          refine lv_icmp_ne (tgt := 35) hx hb dX2_firstFreeSpot_29 (by decide) (fun c_29_5 => ?_) (fun c_29_5 => ?_)
          · refine lv_iinc (v := 2) (lv' := [(3, .int 2), (4, .int (f_X3_spotAt p0 1 1)), (2, .int 1), (0, .ref (a 1)), (1, .int p0)]) hx hb dX2_firstFreeSpot_35 hl (k := 1) rfl (by decide) (by decide) rfl (fun ls hl => ?_)
            refine lv_goto (tgt := 9) hx hb dX2_firstFreeSpot_38 (by decide) ?_
            refine lv_iload_n hx hb dX2_firstFreeSpot_9 rfl (lv_at hl 0 rfl) ?_
            refine lv_iconst (v := 3) hx hb dX2_firstFreeSpot_10 (by decide) ?_
            refine lv_icmp_ge (tgt := 41) hx hb dX2_firstFreeSpot_11 (by decide) (fun c_11 => absurd c_11 (by decide)) (fun c_11 => ?_)
            refine lv_iload_n hx hb dX2_firstFreeSpot_14 rfl (lv_at hl 4 rfl) ?_
            refine lv_iload_n hx hb dX2_firstFreeSpot_15 rfl (lv_at hl 2 rfl) ?_
            refine lv_iload_n hx hb dX2_firstFreeSpot_16 rfl (lv_at hl 0 rfl) ?_
            refine k_p (va_runSN (As := [.int p0, .int 1, .int 2]) (rest := []) ⟨hx, hb, hml, hown, hts⟩ (c_X3_spotAt l G s.heap.size p0 1 2) ⟨va_cnB (host := "Rackrail") 3 hts gX2_firstFreeSpot_X3_spotAt_n62 rfl rfl rfl (hE.2.1 (RX2, 62, yX3_spotAt) (by decide)) (hts (.initialized RX3) (by decide +kernel)) ⟨by decide +kernel, by decide +kernel, by decide +kernel⟩ ⟨Nat.le_of_ble_eq_true rfl, Nat.le_of_ble_eq_true rfl⟩, hts (.static yX3_spotAt) (by decide +kernel), trivial⟩ ⟨GP.blind, GP.go (wc := []) hE hP hD hS hA [] rfl (by decide) [.int p0, .int 1, .int 2]⟩ rfl rfl hl.1 rfl (lv_room (Nat.le_of_ble_eq_true rfl)) dX2_firstFreeSpot_17 ⟨Nat.le_of_ble_eq_true rfl, Nat.le_of_ble_eq_true rfl⟩) ?_
            refine lv_istore (lv' := [(4, .int (f_X3_spotAt p0 1 2)), (3, .int 2), (2, .int 1), (0, .ref (a 1)), (1, .int p0)]) hx hb dX2_firstFreeSpot_20 hl (by decide) rfl (fun ls hl => ?_)
            refine lv_aload_n hx hb dX2_firstFreeSpot_22 rfl (lv_at hl 3 rfl) ?_
            refine lv_iload hx hb dX2_firstFreeSpot_23 (lv_at hl 0 rfl) ?_
            refine k_p (va_runV (As := [.int (f_X3_spotAt p0 1 2)]) (rest := []) ⟨hx, hb, hml, hown, hts⟩ (c_X2_boxIn l G a s.heap.size cn sp (f_X3_spotAt p0 1 2) hcn) (cwV 1 hts gX2_firstFreeSpot_X2_boxIn rfl rfl rfl ⟨rfl, by decide +kernel, by decide +kernel, by decide +kernel⟩ ⟨Nat.le_of_ble_eq_true rfl, Nat.le_of_ble_eq_true rfl⟩) ⟨GP.blind, va_recv hE.1 hP (ci := 2) (q0 := 0) rfl rfl, GP.go (wc := [wcS a cn, wcI G (a 6) 20 sp]) hE hP hD hS hA [0, 1] rfl (by decide) [.ref (a 1), .int (f_X3_spotAt p0 1 2)]⟩ rfl rfl hl.1 rfl (lv_room (Nat.le_of_ble_eq_true rfl)) dX2_firstFreeSpot_25 ⟨Nat.le_of_ble_eq_true rfl, Nat.le_of_ble_eq_true rfl⟩) ?_
            refine lv_iconst (v := (-1)) hx hb dX2_firstFreeSpot_28 (by decide) ?_
            refine lv_icmp_ne (tgt := 35) hx hb dX2_firstFreeSpot_29 (by decide) (fun c_29_6 => ?_) (fun c_29_6 => ?_)
            · refine lv_iinc (v := 3) (lv' := [(3, .int 3), (4, .int (f_X3_spotAt p0 1 2)), (2, .int 1), (0, .ref (a 1)), (1, .int p0)]) hx hb dX2_firstFreeSpot_35 hl (k := 1) rfl (by decide) (by decide) rfl (fun ls hl => ?_)
              refine lv_goto (tgt := 9) hx hb dX2_firstFreeSpot_38 (by decide) ?_
              refine lv_iload_n hx hb dX2_firstFreeSpot_9 rfl (lv_at hl 0 rfl) ?_
              refine lv_iconst (v := 3) hx hb dX2_firstFreeSpot_10 (by decide) ?_
              refine lv_icmp_ge (tgt := 41) hx hb dX2_firstFreeSpot_11 (by decide) (fun c_11 => ?_) (fun c_11 => absurd (by decide) c_11)
              refine lv_iinc (v := 2) (lv' := [(2, .int 2), (3, .int 3), (4, .int (f_X3_spotAt p0 1 2)), (0, .ref (a 1)), (1, .int p0)]) hx hb dX2_firstFreeSpot_41 hl (k := 2) rfl (by decide) (by decide) rfl (fun ls hl => ?_)
              refine lv_goto (tgt := 2) hx hb dX2_firstFreeSpot_44 (by decide) ?_
              refine lv_iload_n hx hb dX2_firstFreeSpot_2 rfl (lv_at hl 0 rfl) ?_
              refine lv_iconst (v := 2) hx hb dX2_firstFreeSpot_3 (by decide) ?_
              refine lv_icmp_ge (tgt := 47) hx hb dX2_firstFreeSpot_4 (by decide) (fun c_4 => ?_) (fun c_4 => absurd (by decide) c_4)
              refine lv_iconst (v := (-1)) hx hb dX2_firstFreeSpot_47 (by decide) ?_
              have hq : f_X2_firstFreeSpot cn sp p0 = (-1) := (by rw [f_X2_firstFreeSpot, if_neg c_29, if_neg c_29_2, if_neg c_29_3, if_neg c_29_4, if_neg c_29_5, if_neg c_29_6])
              exact W.iret (v := (-1)) hx hb hr (fun t ht _ => ⟨by rw [hq], ht⟩) (fun _ h => nomatch h) dX2_firstFreeSpot_48
            · refine lv_iload hx hb dX2_firstFreeSpot_32 (lv_at hl 0 rfl) ?_
              have hq : f_X2_firstFreeSpot cn sp p0 = (f_X3_spotAt p0 1 2) := (by rw [f_X2_firstFreeSpot, if_neg c_29, if_neg c_29_2, if_neg c_29_3, if_neg c_29_4, if_neg c_29_5, if_pos c_29_6])
              exact W.iret (v := f_X3_spotAt p0 1 2) hx hb hr (fun t ht _ => ⟨by rw [hq], ht⟩) (fun _ h => nomatch h) dX2_firstFreeSpot_34
          · refine lv_iload hx hb dX2_firstFreeSpot_32 (lv_at hl 0 rfl) ?_
            have hq : f_X2_firstFreeSpot cn sp p0 = (f_X3_spotAt p0 1 1) := (by rw [f_X2_firstFreeSpot, if_neg c_29, if_neg c_29_2, if_neg c_29_3, if_neg c_29_4, if_pos c_29_5])
            exact W.iret (v := f_X3_spotAt p0 1 1) hx hb hr (fun t ht _ => ⟨by rw [hq], ht⟩) (fun _ h => nomatch h) dX2_firstFreeSpot_34
        · refine lv_iload hx hb dX2_firstFreeSpot_32 (lv_at hl 0 rfl) ?_
          have hq : f_X2_firstFreeSpot cn sp p0 = (f_X3_spotAt p0 1 0) := (by rw [f_X2_firstFreeSpot, if_neg c_29, if_neg c_29_2, if_neg c_29_3, if_pos c_29_4])
          exact W.iret (v := f_X3_spotAt p0 1 0) hx hb hr (fun t ht _ => ⟨by rw [hq], ht⟩) (fun _ h => nomatch h) dX2_firstFreeSpot_34
      · refine lv_iload hx hb dX2_firstFreeSpot_32 (lv_at hl 0 rfl) ?_
        have hq : f_X2_firstFreeSpot cn sp p0 = (f_X3_spotAt p0 0 2) := (by rw [f_X2_firstFreeSpot, if_neg c_29, if_neg c_29_2, if_pos c_29_3])
        exact W.iret (v := f_X3_spotAt p0 0 2) hx hb hr (fun t ht _ => ⟨by rw [hq], ht⟩) (fun _ h => nomatch h) dX2_firstFreeSpot_34
    · refine lv_iload hx hb dX2_firstFreeSpot_32 (lv_at hl 0 rfl) ?_
      have hq : f_X2_firstFreeSpot cn sp p0 = (f_X3_spotAt p0 0 1) := (by rw [f_X2_firstFreeSpot, if_neg c_29, if_pos c_29_2])
      exact W.iret (v := f_X3_spotAt p0 0 1) hx hb hr (fun t ht _ => ⟨by rw [hq], ht⟩) (fun _ h => nomatch h) dX2_firstFreeSpot_34
  · refine lv_iload hx hb dX2_firstFreeSpot_32 (lv_at hl 0 rfl) ?_
    have hq : f_X2_firstFreeSpot cn sp p0 = (f_X3_spotAt p0 0 0) := (by rw [f_X2_firstFreeSpot, if_pos c_29])
    exact W.iret (v := f_X3_spotAt p0 0 0) hx hb hr (fun t ht _ => ⟨by rw [hq], ht⟩) (fun _ h => nomatch h) dX2_firstFreeSpot_34

/-! X2_bestSpotFor -/
def f_X2_bestSpotFor_L (cn : Int32) (sc : Nat → Int32) (cl : Nat → Int32) (wt : Nat → Int32) (kn : Nat → Int32) (sp : Nat → Int32) (p0 : Int32) : Nat → Nat → Int32 → Int32 → Int32
  | 0, j, bst, mok => bst
  | r + 1, j, bst, mok => if (sc (nI j).toNatClampNeg) = (cl p0.toNatClampNeg) then (if 100 < ((f_X2_weightOn cn wt sp (nI j)) + (wt p0.toNatClampNeg)) then f_X2_bestSpotFor_L cn sc cl wt kn sp p0 r (j + 1) bst mok
      else if (f_X2_firstFreeSpot cn sp (nI j)) = (-1) then f_X2_bestSpotFor_L cn sc cl wt kn sp p0 r (j + 1) bst mok
      else if (f_X2_countKin cn kn sp (nI j) (kn p0.toNatClampNeg)) ≤ mok then f_X2_bestSpotFor_L cn sc cl wt kn sp p0 r (j + 1) bst mok
      else f_X2_bestSpotFor_L cn sc cl wt kn sp p0 r (j + 1) (f_X2_firstFreeSpot cn sp (nI j)) (f_X2_countKin cn kn sp (nI j) (kn p0.toNatClampNeg)))
    else f_X2_bestSpotFor_L cn sc cl wt kn sp p0 r (j + 1) bst mok
def f_X2_bestSpotFor (cn : Int32) (sc : Nat → Int32) (cl : Nat → Int32) (wt : Nat → Int32) (kn : Nat → Int32) (sp : Nat → Int32) (p0 : Int32) : Int32 :=
  if (f_X2_has cn p0) = 0 then (-1)
    else f_X2_bestSpotFor_L cn sc cl wt kn sp p0 6 0 (-1) (-1)
theorem iw_X2_bestSpotFor_RX2 : ∀ w ∈ u_ws RX2 TX2 6, w ∈ wsX2_bestSpotFor := by decide +kernel
set_option maxHeartbeats 4000000 in
set_option maxRecDepth 100000 in
theorem c_X2_bestSpotFor (l : Launch) (G : GT) (a : Nat → Nat) (sz : Nat) (cn : Int32) (sc : Nat → Int32) (cl : Nat → Int32) (wt : Nat → Int32) (kn : Nat → Int32) (sp : Nat → Int32) (p0 : Int32) (hcn : okN 20 cn) : Met l yX2_bestSpotFor wsX2_bestSpotFor ({ frames := 5, cells := 0, slots := 0, locals := 110 }) (GP G [.ref (a 1), .int p0] [wcS a cn, wcI G (a 2) 6 sc, wcI G (a 3) 20 cl, wcI G (a 4) 20 wt, wcI G (a 5) 20 kn, wcI G (a 6) 20 sp] sz) (PQo (.returned (some (.int (f_X2_bestSpotFor cn sc cl wt kn sp p0))))) 0 0 (fun _ => False) := by
  refine bodyM (cc := cX2_bestSpotFor) (maxL := 8) (ret := (some .int)) (by decide) rfl (Nat.le_of_ble_eq_true rfl) ?_
  intro p e s m below meth c ls C
  obtain ⟨hx, hb, hr, hts, hown, hlocks, hml, hsz, hP, hE, hD, hA, hS, hl⟩ := C
  subst hsz
  have hl : lv_has ls 8 [(0, .ref (a 1)), (1, .int p0)] := hl
  refine lv_aload_n hx hb dX2_bestSpotFor_0 rfl (lv_at hl 0 rfl) ?_
  refine lv_iload_n hx hb dX2_bestSpotFor_1 rfl (lv_at hl 1 rfl) ?_
  refine k_p (va_runV (As := [.int p0]) (rest := []) ⟨hx, hb, hml, hown, hts⟩ (c_X2_has l G a s.heap.size cn p0) (cwV 1 hts gX2_bestSpotFor_X2_has rfl rfl rfl ⟨rfl, by decide +kernel, by decide +kernel, by decide +kernel⟩ ⟨Nat.le_of_ble_eq_true rfl, Nat.le_of_ble_eq_true rfl⟩) ⟨GP.blind, va_recv hE.1 hP (ci := 2) (q0 := 0) rfl rfl, GP.go (wc := [wcS a cn]) hE hP hD hS hA [0] rfl (by decide) [.ref (a 1), .int p0]⟩ rfl rfl hl.1 rfl (lv_room (Nat.le_of_ble_eq_true rfl)) dX2_bestSpotFor_2 ⟨Nat.le_of_ble_eq_true rfl, Nat.le_of_ble_eq_true rfl⟩) ?_
  refine lv_if_ne (tgt := 10) hx hb dX2_bestSpotFor_5 (by decide) (fun c_5 => ?_) (fun c_5 => ?_)
  · refine lv_iconst (v := (-1)) hx hb dX2_bestSpotFor_10 (by decide) ?_
    refine lv_istore_n (lv' := [(2, .int (-1)), (0, .ref (a 1)), (1, .int p0)]) hx hb dX2_bestSpotFor_11 rfl hl (by decide) rfl (fun ls hl => ?_)
    refine lv_iconst (v := (-1)) hx hb dX2_bestSpotFor_12 (by decide) ?_
    refine lv_istore_n (lv' := [(3, .int (-1)), (2, .int (-1)), (0, .ref (a 1)), (1, .int p0)]) hx hb dX2_bestSpotFor_13 rfl hl (by decide) rfl (fun ls hl => ?_)
    refine lv_iconst (v := 0) hx hb dX2_bestSpotFor_14 (by decide) ?_
    refine lv_istore (lv' := [(4, .int 0), (3, .int (-1)), (2, .int (-1)), (0, .ref (a 1)), (1, .int p0)]) hx hb dX2_bestSpotFor_15 hl (by decide) rfl (fun ls hl => ?_)
    have hin0 : vp_in p0 20 := in_has hcn c_5
    refine k_loopP (α := Int32 × Int32) (fun (r j : Nat) (x : Int32 × Int32) (ls : Array Slot) => j + r = 6 ∧ f_X2_bestSpotFor cn sc cl wt kn sp p0 = f_X2_bestSpotFor_L cn sc cl wt kn sp p0 r j x.1 x.2 ∧ lv_has ls 8 [(4, .int (nI j)), (2, .int x.1), (3, .int x.2), (0, .ref (a 1)), (1, .int p0)]) 6 0 ((-1), (-1)) ⟨by omega, (by rw [f_X2_bestSpotFor, if_neg c_5]), lv_sub hl [0, 2, 1, 3, 4] rfl⟩ ?_ ?_
    · intro j x ls hI
      obtain ⟨bst, mok⟩ := x
      obtain ⟨hj, hf, hl⟩ := hI
      have hl : lv_has ls 8 [(4, .int (nI j)), (2, .int bst), (3, .int mok), (0, .ref (a 1)), (1, .int p0)] := hl
      have hf : f_X2_bestSpotFor cn sc cl wt kn sp p0 = f_X2_bestSpotFor_L cn sc cl wt kn sp p0 0 j bst mok := hf
      refine lv_iload hx hb dX2_bestSpotFor_17 (lv_at hl 0 rfl) ?_
      refine lv_bipush (v := 6) hx hb dX2_bestSpotFor_19 (by decide) ?_
      refine lv_icmp_ge (tgt := 116) hx hb dX2_bestSpotFor_21 (by decide) (fun c_21 => ?_) (fun c_21 => absurd (lp_a n6_eq (by omega) (by omega)) c_21)
      refine lv_iload_n hx hb dX2_bestSpotFor_116 rfl (lv_at hl 1 rfl) ?_
      have hq : f_X2_bestSpotFor cn sc cl wt kn sp p0 = bst := (hf.trans (by rw [f_X2_bestSpotFor_L]))
      exact W.iret (v := bst) hx hb hr (fun t ht _ => ⟨by rw [hq], ht⟩) (fun _ h => nomatch h) dX2_bestSpotFor_117
    · intro r ih j x ls hI
      obtain ⟨bst, mok⟩ := x
      obtain ⟨hj, hf, hl⟩ := hI
      have hl : lv_has ls 8 [(4, .int (nI j)), (2, .int bst), (3, .int mok), (0, .ref (a 1)), (1, .int p0)] := hl
      have hf : f_X2_bestSpotFor cn sc cl wt kn sp p0 = f_X2_bestSpotFor_L cn sc cl wt kn sp p0 (r + 1) j bst mok := hf
      refine lv_iload hx hb dX2_bestSpotFor_17 (lv_at hl 0 rfl) ?_
      refine lv_bipush (v := 6) hx hb dX2_bestSpotFor_19 (by decide) ?_
      refine lv_icmp_ge (tgt := 116) hx hb dX2_bestSpotFor_21 (by decide) (fun c_21 => absurd c_21 (lp_b (r := r) n6_eq (by omega) (by omega))) (fun c_21 => ?_)
      refine lv_aload_n hx hb dX2_bestSpotFor_24 rfl (lv_at hl 3 rfl) ?_
      refine va_get (D := G.1) (ci := 2) (v := .ref (a 2)) (C := RX2) (T := TX2) (N := 6) hx hb hts iw_X2_bestSpotFor_RX2 hown hE.1 hP 0 rfl rfl 0 (by decide) (hts (.fieldLink RX2 9 "Rackrail$Store" "shelfClimates" "[I") (by decide +kernel)) (fun _ h9 => h9) rfl dX2_bestSpotFor_25 ?_
      refine lv_iload hx hb dX2_bestSpotFor_28 (lv_at hl 0 rfl) ?_
      refine va_iald hx hb hE.1 hP 1 0 rfl rfl (vp_in_nI (by omega) (by decide)) dX2_bestSpotFor_30 ?_
      refine lv_aload_n hx hb dX2_bestSpotFor_31 rfl (lv_at hl 3 rfl) ?_
      refine va_get (D := G.1) (ci := 2) (v := .ref (a 3)) (C := RX2) (T := TX2) (N := 6) hx hb hts iw_X2_bestSpotFor_RX2 hown hE.1 hP 0 rfl rfl 1 (by decide) (hts (.fieldLink RX2 15 "Rackrail$Store" "climates" "[I") (by decide +kernel)) (fun _ h9 => h9) rfl dX2_bestSpotFor_32 ?_
      refine lv_iload_n hx hb dX2_bestSpotFor_35 rfl (lv_at hl 4 rfl) ?_
      refine va_iald hx hb hE.1 hP 2 0 rfl rfl (hin0) dX2_bestSpotFor_36 ?_
      refine lv_icmp_ne (tgt := 62) hx hb dX2_bestSpotFor_37 (by decide) (fun c_37 => ?_) (fun c_37 => ?_)
      · refine lv_iconst (v := 0) hx hb dX2_bestSpotFor_62 (by decide) ?_
        refine lv_istore (lv' := [(5, .int 0), (4, .int (nI j)), (2, .int bst), (3, .int mok), (0, .ref (a 1)), (1, .int p0)]) hx hb dX2_bestSpotFor_63 hl (by decide) rfl (fun ls hl => ?_)
        refine lv_aload_n hx hb dX2_bestSpotFor_65 rfl (lv_at hl 4 rfl) ?_
        refine lv_iload hx hb dX2_bestSpotFor_66 (lv_at hl 1 rfl) ?_
        refine k_p (va_runV (As := [.int (nI j)]) (rest := []) ⟨hx, hb, hml, hown, hts⟩ (c_X2_firstFreeSpot l G a s.heap.size cn sp (nI j) hcn) (cwV 1 hts gX2_bestSpotFor_X2_firstFreeSpot rfl rfl rfl ⟨rfl, by decide +kernel, by decide +kernel, by decide +kernel⟩ ⟨Nat.le_of_ble_eq_true rfl, Nat.le_of_ble_eq_true rfl⟩) ⟨GP.blind, va_recv hE.1 hP (ci := 2) (q0 := 0) rfl rfl, GP.go (wc := [wcS a cn, wcI G (a 6) 20 sp]) hE hP hD hS hA [0, 5] rfl (by decide) [.ref (a 1), .int (nI j)]⟩ rfl rfl hl.1 rfl (lv_room (Nat.le_of_ble_eq_true rfl)) dX2_bestSpotFor_68 ⟨Nat.le_of_ble_eq_true rfl, Nat.le_of_ble_eq_true rfl⟩) ?_
        refine lv_istore (lv' := [(6, .int (f_X2_firstFreeSpot cn sp (nI j))), (5, .int 0), (4, .int (nI j)), (2, .int bst), (3, .int mok), (0, .ref (a 1)), (1, .int p0)]) hx hb dX2_bestSpotFor_71 hl (by decide) rfl (fun ls hl => ?_)
        refine lv_aload_n hx hb dX2_bestSpotFor_73 rfl (lv_at hl 5 rfl) ?_
        refine lv_iload hx hb dX2_bestSpotFor_74 (lv_at hl 2 rfl) ?_
        refine lv_aload_n hx hb dX2_bestSpotFor_76 rfl (lv_at hl 5 rfl) ?_
        refine va_get (D := G.1) (ci := 2) (v := .ref (a 5)) (C := RX2) (T := TX2) (N := 6) hx hb hts iw_X2_bestSpotFor_RX2 hown hE.1 hP 0 rfl rfl 3 (by decide) (hts (.fieldLink RX2 21 "Rackrail$Store" "kins" "[I") (by decide +kernel)) (fun _ h9 => h9) rfl dX2_bestSpotFor_77 ?_
        refine lv_iload_n hx hb dX2_bestSpotFor_80 rfl (lv_at hl 6 rfl) ?_
        refine va_iald hx hb hE.1 hP 4 0 rfl rfl (hin0) dX2_bestSpotFor_81 ?_
        refine k_p (va_runV (As := [.int (nI j), .int (kn p0.toNatClampNeg)]) (rest := []) ⟨hx, hb, hml, hown, hts⟩ (c_X2_countKin l G a s.heap.size cn kn sp (nI j) (kn p0.toNatClampNeg) hcn) (cwV 2 hts gX2_bestSpotFor_X2_countKin rfl rfl rfl ⟨rfl, by decide +kernel, by decide +kernel, by decide +kernel⟩ ⟨Nat.le_of_ble_eq_true rfl, Nat.le_of_ble_eq_true rfl⟩) ⟨GP.blind, va_recv hE.1 hP (ci := 2) (q0 := 0) rfl rfl, GP.go (wc := [wcS a cn, wcI G (a 5) 20 kn, wcI G (a 6) 20 sp]) hE hP hD hS hA [0, 4, 5] rfl (by decide) [.ref (a 1), .int (nI j), .int (kn p0.toNatClampNeg)]⟩ rfl rfl hl.1 rfl (lv_room (Nat.le_of_ble_eq_true rfl)) dX2_bestSpotFor_82 ⟨Nat.le_of_ble_eq_true rfl, Nat.le_of_ble_eq_true rfl⟩) ?_
        refine lv_istore (lv' := [(7, .int (f_X2_countKin cn kn sp (nI j) (kn p0.toNatClampNeg))), (6, .int (f_X2_firstFreeSpot cn sp (nI j))), (5, .int 0), (4, .int (nI j)), (2, .int bst), (3, .int mok), (0, .ref (a 1)), (1, .int p0)]) hx hb dX2_bestSpotFor_85 hl (by decide) rfl (fun ls hl => ?_)
        refine lv_iload hx hb dX2_bestSpotFor_87 (lv_at hl 2 rfl) ?_
        refine lv_if_eq (tgt := 110) hx hb dX2_bestSpotFor_89 (by decide) (fun c_89 => ?_) (fun c_89 => absurd (by decide) c_89)
        refine lv_iinc (v := nI (j + 1)) (lv' := [(4, .int (nI (j + 1))), (7, .int (f_X2_countKin cn kn sp (nI j) (kn p0.toNatClampNeg))), (6, .int (f_X2_firstFreeSpot cn sp (nI j))), (5, .int 0), (2, .int bst), (3, .int mok), (0, .ref (a 1)), (1, .int p0)]) hx hb dX2_bestSpotFor_110 hl (k := 3) rfl (inc1 _) (by decide) rfl (fun ls hl => ?_)
        refine lv_goto (tgt := 17) hx hb dX2_bestSpotFor_113 (by decide) ?_
        exact ih (j + 1) (bst, mok) _ ⟨by omega, (hf.trans (by rw [f_X2_bestSpotFor_L, if_neg c_37])), lv_sub hl [0, 4, 5, 6, 7] rfl⟩
      · refine lv_aload_n hx hb dX2_bestSpotFor_40 rfl (lv_at hl 3 rfl) ?_
        refine lv_iload hx hb dX2_bestSpotFor_41 (lv_at hl 0 rfl) ?_
        refine k_p (va_runV (As := [.int (nI j)]) (rest := []) ⟨hx, hb, hml, hown, hts⟩ (c_X2_weightOn l G a s.heap.size cn wt sp (nI j) hcn) (cwV 1 hts gX2_bestSpotFor_X2_weightOn rfl rfl rfl ⟨rfl, by decide +kernel, by decide +kernel, by decide +kernel⟩ ⟨Nat.le_of_ble_eq_true rfl, Nat.le_of_ble_eq_true rfl⟩) ⟨GP.blind, va_recv hE.1 hP (ci := 2) (q0 := 0) rfl rfl, GP.go (wc := [wcS a cn, wcI G (a 4) 20 wt, wcI G (a 6) 20 sp]) hE hP hD hS hA [0, 3, 5] rfl (by decide) [.ref (a 1), .int (nI j)]⟩ rfl rfl hl.1 rfl (lv_room (Nat.le_of_ble_eq_true rfl)) dX2_bestSpotFor_43 ⟨Nat.le_of_ble_eq_true rfl, Nat.le_of_ble_eq_true rfl⟩) ?_
        refine lv_aload_n hx hb dX2_bestSpotFor_46 rfl (lv_at hl 3 rfl) ?_
        refine va_get (D := G.1) (ci := 2) (v := .ref (a 4)) (C := RX2) (T := TX2) (N := 6) hx hb hts iw_X2_bestSpotFor_RX2 hown hE.1 hP 0 rfl rfl 2 (by decide) (hts (.fieldLink RX2 18 "Rackrail$Store" "weights" "[I") (by decide +kernel)) (fun _ h9 => h9) rfl dX2_bestSpotFor_47 ?_
        refine lv_iload_n hx hb dX2_bestSpotFor_50 rfl (lv_at hl 4 rfl) ?_
        refine va_iald hx hb hE.1 hP 3 0 rfl rfl (hin0) dX2_bestSpotFor_51 ?_
        refine lv_iadd hx hb dX2_bestSpotFor_52 ?_
        refine lv_bipush (v := 100) hx hb dX2_bestSpotFor_53 (by decide) ?_
        refine lv_icmp_gt (tgt := 62) hx hb dX2_bestSpotFor_55 (by decide) (fun c_55 => ?_) (fun c_55 => ?_)
        · refine lv_iconst (v := 0) hx hb dX2_bestSpotFor_62 (by decide) ?_
          refine lv_istore (lv' := [(5, .int 0), (4, .int (nI j)), (2, .int bst), (3, .int mok), (0, .ref (a 1)), (1, .int p0)]) hx hb dX2_bestSpotFor_63 hl (by decide) rfl (fun ls hl => ?_)
          refine lv_aload_n hx hb dX2_bestSpotFor_65 rfl (lv_at hl 4 rfl) ?_
          refine lv_iload hx hb dX2_bestSpotFor_66 (lv_at hl 1 rfl) ?_
          refine k_p (va_runV (As := [.int (nI j)]) (rest := []) ⟨hx, hb, hml, hown, hts⟩ (c_X2_firstFreeSpot l G a s.heap.size cn sp (nI j) hcn) (cwV 1 hts gX2_bestSpotFor_X2_firstFreeSpot rfl rfl rfl ⟨rfl, by decide +kernel, by decide +kernel, by decide +kernel⟩ ⟨Nat.le_of_ble_eq_true rfl, Nat.le_of_ble_eq_true rfl⟩) ⟨GP.blind, va_recv hE.1 hP (ci := 2) (q0 := 0) rfl rfl, GP.go (wc := [wcS a cn, wcI G (a 6) 20 sp]) hE hP hD hS hA [0, 5] rfl (by decide) [.ref (a 1), .int (nI j)]⟩ rfl rfl hl.1 rfl (lv_room (Nat.le_of_ble_eq_true rfl)) dX2_bestSpotFor_68 ⟨Nat.le_of_ble_eq_true rfl, Nat.le_of_ble_eq_true rfl⟩) ?_
          refine lv_istore (lv' := [(6, .int (f_X2_firstFreeSpot cn sp (nI j))), (5, .int 0), (4, .int (nI j)), (2, .int bst), (3, .int mok), (0, .ref (a 1)), (1, .int p0)]) hx hb dX2_bestSpotFor_71 hl (by decide) rfl (fun ls hl => ?_)
          refine lv_aload_n hx hb dX2_bestSpotFor_73 rfl (lv_at hl 5 rfl) ?_
          refine lv_iload hx hb dX2_bestSpotFor_74 (lv_at hl 2 rfl) ?_
          refine lv_aload_n hx hb dX2_bestSpotFor_76 rfl (lv_at hl 5 rfl) ?_
          refine va_get (D := G.1) (ci := 2) (v := .ref (a 5)) (C := RX2) (T := TX2) (N := 6) hx hb hts iw_X2_bestSpotFor_RX2 hown hE.1 hP 0 rfl rfl 3 (by decide) (hts (.fieldLink RX2 21 "Rackrail$Store" "kins" "[I") (by decide +kernel)) (fun _ h9 => h9) rfl dX2_bestSpotFor_77 ?_
          refine lv_iload_n hx hb dX2_bestSpotFor_80 rfl (lv_at hl 6 rfl) ?_
          refine va_iald hx hb hE.1 hP 4 0 rfl rfl (hin0) dX2_bestSpotFor_81 ?_
          refine k_p (va_runV (As := [.int (nI j), .int (kn p0.toNatClampNeg)]) (rest := []) ⟨hx, hb, hml, hown, hts⟩ (c_X2_countKin l G a s.heap.size cn kn sp (nI j) (kn p0.toNatClampNeg) hcn) (cwV 2 hts gX2_bestSpotFor_X2_countKin rfl rfl rfl ⟨rfl, by decide +kernel, by decide +kernel, by decide +kernel⟩ ⟨Nat.le_of_ble_eq_true rfl, Nat.le_of_ble_eq_true rfl⟩) ⟨GP.blind, va_recv hE.1 hP (ci := 2) (q0 := 0) rfl rfl, GP.go (wc := [wcS a cn, wcI G (a 5) 20 kn, wcI G (a 6) 20 sp]) hE hP hD hS hA [0, 4, 5] rfl (by decide) [.ref (a 1), .int (nI j), .int (kn p0.toNatClampNeg)]⟩ rfl rfl hl.1 rfl (lv_room (Nat.le_of_ble_eq_true rfl)) dX2_bestSpotFor_82 ⟨Nat.le_of_ble_eq_true rfl, Nat.le_of_ble_eq_true rfl⟩) ?_
          refine lv_istore (lv' := [(7, .int (f_X2_countKin cn kn sp (nI j) (kn p0.toNatClampNeg))), (6, .int (f_X2_firstFreeSpot cn sp (nI j))), (5, .int 0), (4, .int (nI j)), (2, .int bst), (3, .int mok), (0, .ref (a 1)), (1, .int p0)]) hx hb dX2_bestSpotFor_85 hl (by decide) rfl (fun ls hl => ?_)
          refine lv_iload hx hb dX2_bestSpotFor_87 (lv_at hl 2 rfl) ?_
          refine lv_if_eq (tgt := 110) hx hb dX2_bestSpotFor_89 (by decide) (fun c_89 => ?_) (fun c_89 => absurd (by decide) c_89)
          refine lv_iinc (v := nI (j + 1)) (lv' := [(4, .int (nI (j + 1))), (7, .int (f_X2_countKin cn kn sp (nI j) (kn p0.toNatClampNeg))), (6, .int (f_X2_firstFreeSpot cn sp (nI j))), (5, .int 0), (2, .int bst), (3, .int mok), (0, .ref (a 1)), (1, .int p0)]) hx hb dX2_bestSpotFor_110 hl (k := 3) rfl (inc1 _) (by decide) rfl (fun ls hl => ?_)
          refine lv_goto (tgt := 17) hx hb dX2_bestSpotFor_113 (by decide) ?_
          exact ih (j + 1) (bst, mok) _ ⟨by omega, (hf.trans (by rw [f_X2_bestSpotFor_L, if_pos c_37, if_pos c_55])), lv_sub hl [0, 4, 5, 6, 7] rfl⟩
        · refine lv_iconst (v := 1) hx hb dX2_bestSpotFor_58 (by decide) ?_
          refine lv_goto (tgt := 63) hx hb dX2_bestSpotFor_59 (by decide) ?_
          refine lv_istore (lv' := [(5, .int 1), (4, .int (nI j)), (2, .int bst), (3, .int mok), (0, .ref (a 1)), (1, .int p0)]) hx hb dX2_bestSpotFor_63 hl (by decide) rfl (fun ls hl => ?_)
          refine lv_aload_n hx hb dX2_bestSpotFor_65 rfl (lv_at hl 4 rfl) ?_
          refine lv_iload hx hb dX2_bestSpotFor_66 (lv_at hl 1 rfl) ?_
          refine k_p (va_runV (As := [.int (nI j)]) (rest := []) ⟨hx, hb, hml, hown, hts⟩ (c_X2_firstFreeSpot l G a s.heap.size cn sp (nI j) hcn) (cwV 1 hts gX2_bestSpotFor_X2_firstFreeSpot rfl rfl rfl ⟨rfl, by decide +kernel, by decide +kernel, by decide +kernel⟩ ⟨Nat.le_of_ble_eq_true rfl, Nat.le_of_ble_eq_true rfl⟩) ⟨GP.blind, va_recv hE.1 hP (ci := 2) (q0 := 0) rfl rfl, GP.go (wc := [wcS a cn, wcI G (a 6) 20 sp]) hE hP hD hS hA [0, 5] rfl (by decide) [.ref (a 1), .int (nI j)]⟩ rfl rfl hl.1 rfl (lv_room (Nat.le_of_ble_eq_true rfl)) dX2_bestSpotFor_68 ⟨Nat.le_of_ble_eq_true rfl, Nat.le_of_ble_eq_true rfl⟩) ?_
          refine lv_istore (lv' := [(6, .int (f_X2_firstFreeSpot cn sp (nI j))), (5, .int 1), (4, .int (nI j)), (2, .int bst), (3, .int mok), (0, .ref (a 1)), (1, .int p0)]) hx hb dX2_bestSpotFor_71 hl (by decide) rfl (fun ls hl => ?_)
          refine lv_aload_n hx hb dX2_bestSpotFor_73 rfl (lv_at hl 5 rfl) ?_
          refine lv_iload hx hb dX2_bestSpotFor_74 (lv_at hl 2 rfl) ?_
          refine lv_aload_n hx hb dX2_bestSpotFor_76 rfl (lv_at hl 5 rfl) ?_
          refine va_get (D := G.1) (ci := 2) (v := .ref (a 5)) (C := RX2) (T := TX2) (N := 6) hx hb hts iw_X2_bestSpotFor_RX2 hown hE.1 hP 0 rfl rfl 3 (by decide) (hts (.fieldLink RX2 21 "Rackrail$Store" "kins" "[I") (by decide +kernel)) (fun _ h9 => h9) rfl dX2_bestSpotFor_77 ?_
          refine lv_iload_n hx hb dX2_bestSpotFor_80 rfl (lv_at hl 6 rfl) ?_
          refine va_iald hx hb hE.1 hP 4 0 rfl rfl (hin0) dX2_bestSpotFor_81 ?_
          refine k_p (va_runV (As := [.int (nI j), .int (kn p0.toNatClampNeg)]) (rest := []) ⟨hx, hb, hml, hown, hts⟩ (c_X2_countKin l G a s.heap.size cn kn sp (nI j) (kn p0.toNatClampNeg) hcn) (cwV 2 hts gX2_bestSpotFor_X2_countKin rfl rfl rfl ⟨rfl, by decide +kernel, by decide +kernel, by decide +kernel⟩ ⟨Nat.le_of_ble_eq_true rfl, Nat.le_of_ble_eq_true rfl⟩) ⟨GP.blind, va_recv hE.1 hP (ci := 2) (q0 := 0) rfl rfl, GP.go (wc := [wcS a cn, wcI G (a 5) 20 kn, wcI G (a 6) 20 sp]) hE hP hD hS hA [0, 4, 5] rfl (by decide) [.ref (a 1), .int (nI j), .int (kn p0.toNatClampNeg)]⟩ rfl rfl hl.1 rfl (lv_room (Nat.le_of_ble_eq_true rfl)) dX2_bestSpotFor_82 ⟨Nat.le_of_ble_eq_true rfl, Nat.le_of_ble_eq_true rfl⟩) ?_
          refine lv_istore (lv' := [(7, .int (f_X2_countKin cn kn sp (nI j) (kn p0.toNatClampNeg))), (6, .int (f_X2_firstFreeSpot cn sp (nI j))), (5, .int 1), (4, .int (nI j)), (2, .int bst), (3, .int mok), (0, .ref (a 1)), (1, .int p0)]) hx hb dX2_bestSpotFor_85 hl (by decide) rfl (fun ls hl => ?_)
          refine lv_iload hx hb dX2_bestSpotFor_87 (lv_at hl 2 rfl) ?_
          refine lv_if_eq (tgt := 110) hx hb dX2_bestSpotFor_89 (by decide) (fun c_89 => absurd c_89 (by decide)) (fun c_89 => ?_)
          refine lv_iload hx hb dX2_bestSpotFor_92 (lv_at hl 1 rfl) ?_
          refine lv_iconst (v := (-1)) hx hb dX2_bestSpotFor_94 (by decide) ?_
          refine lv_icmp_eq (tgt := 110) hx hb dX2_bestSpotFor_95 (by decide) (fun c_95 => ?_) (fun c_95 => ?_)
          · refine lv_iinc (v := nI (j + 1)) (lv' := [(4, .int (nI (j + 1))), (7, .int (f_X2_countKin cn kn sp (nI j) (kn p0.toNatClampNeg))), (6, .int (f_X2_firstFreeSpot cn sp (nI j))), (5, .int 1), (2, .int bst), (3, .int mok), (0, .ref (a 1)), (1, .int p0)]) hx hb dX2_bestSpotFor_110 hl (k := 3) rfl (inc1 _) (by decide) rfl (fun ls hl => ?_)
            refine lv_goto (tgt := 17) hx hb dX2_bestSpotFor_113 (by decide) ?_
            exact ih (j + 1) (bst, mok) _ ⟨by omega, (hf.trans (by rw [f_X2_bestSpotFor_L, if_pos c_37, if_neg c_55, if_pos c_95])), lv_sub hl [0, 4, 5, 6, 7] rfl⟩
          · refine lv_iload hx hb dX2_bestSpotFor_98 (lv_at hl 0 rfl) ?_
            refine lv_iload_n hx hb dX2_bestSpotFor_100 rfl (lv_at hl 5 rfl) ?_
            refine lv_icmp_le (tgt := 110) hx hb dX2_bestSpotFor_101 (by decide) (fun c_101 => ?_) (fun c_101 => ?_)
            · refine lv_iinc (v := nI (j + 1)) (lv' := [(4, .int (nI (j + 1))), (7, .int (f_X2_countKin cn kn sp (nI j) (kn p0.toNatClampNeg))), (6, .int (f_X2_firstFreeSpot cn sp (nI j))), (5, .int 1), (2, .int bst), (3, .int mok), (0, .ref (a 1)), (1, .int p0)]) hx hb dX2_bestSpotFor_110 hl (k := 3) rfl (inc1 _) (by decide) rfl (fun ls hl => ?_)
              refine lv_goto (tgt := 17) hx hb dX2_bestSpotFor_113 (by decide) ?_
              exact ih (j + 1) (bst, mok) _ ⟨by omega, (hf.trans (by rw [f_X2_bestSpotFor_L, if_pos c_37, if_neg c_55, if_neg c_95, if_pos c_101])), lv_sub hl [0, 4, 5, 6, 7] rfl⟩
            · refine lv_iload hx hb dX2_bestSpotFor_104 (lv_at hl 1 rfl) ?_
              refine lv_istore_n (lv' := [(2, .int (f_X2_firstFreeSpot cn sp (nI j))), (7, .int (f_X2_countKin cn kn sp (nI j) (kn p0.toNatClampNeg))), (6, .int (f_X2_firstFreeSpot cn sp (nI j))), (5, .int 1), (4, .int (nI j)), (3, .int mok), (0, .ref (a 1)), (1, .int p0)]) hx hb dX2_bestSpotFor_106 rfl hl (by decide) rfl (fun ls hl => ?_)
              refine lv_iload hx hb dX2_bestSpotFor_107 (lv_at hl 1 rfl) ?_
              refine lv_istore_n (lv' := [(3, .int (f_X2_countKin cn kn sp (nI j) (kn p0.toNatClampNeg))), (2, .int (f_X2_firstFreeSpot cn sp (nI j))), (7, .int (f_X2_countKin cn kn sp (nI j) (kn p0.toNatClampNeg))), (6, .int (f_X2_firstFreeSpot cn sp (nI j))), (5, .int 1), (4, .int (nI j)), (0, .ref (a 1)), (1, .int p0)]) hx hb dX2_bestSpotFor_109 rfl hl (by decide) rfl (fun ls hl => ?_)
              refine lv_iinc (v := nI (j + 1)) (lv' := [(4, .int (nI (j + 1))), (3, .int (f_X2_countKin cn kn sp (nI j) (kn p0.toNatClampNeg))), (2, .int (f_X2_firstFreeSpot cn sp (nI j))), (7, .int (f_X2_countKin cn kn sp (nI j) (kn p0.toNatClampNeg))), (6, .int (f_X2_firstFreeSpot cn sp (nI j))), (5, .int 1), (0, .ref (a 1)), (1, .int p0)]) hx hb dX2_bestSpotFor_110 hl (k := 5) rfl (inc1 _) (by decide) rfl (fun ls hl => ?_)
              refine lv_goto (tgt := 17) hx hb dX2_bestSpotFor_113 (by decide) ?_
              exact ih (j + 1) (f_X2_firstFreeSpot cn sp (nI j), f_X2_countKin cn kn sp (nI j) (kn p0.toNatClampNeg)) _ ⟨by omega, (hf.trans (by rw [f_X2_bestSpotFor_L, if_pos c_37, if_neg c_55, if_neg c_95, if_neg c_101])), lv_sub hl [0, 2, 1, 6, 7] rfl⟩
  · refine lv_iconst (v := (-1)) hx hb dX2_bestSpotFor_8 (by decide) ?_
    have hq : f_X2_bestSpotFor cn sc cl wt kn sp p0 = (-1) := (by rw [f_X2_bestSpotFor, if_pos c_5])
    exact W.iret (v := (-1)) hx hb hr (fun t ht _ => ⟨by rw [hq], ht⟩) (fun _ h => nomatch h) dX2_bestSpotFor_9
end
section
/-! X1_openAisle -/
def f_X1_openAisle (gp : Int32) (tg : Int32) : Int32 :=
  if gp = tg then gp
    else (-1)
theorem iw_X1_openAisle_RX1 : ∀ w ∈ u_ws RX1 TX1 7, w ∈ wsX1_openAisle := by decide +kernel
set_option maxHeartbeats 4000000 in
set_option maxRecDepth 100000 in
theorem c_X1_openAisle (l : Launch) (G : GT) (a : Nat → Nat) (sz : Nat) (gp : Int32) (tg : Int32) (st : Int32) (sm : Int32) : Met l yX1_openAisle wsX1_openAisle ({ frames := 0, cells := 0, slots := 0, locals := 0 }) (GP G [.ref (a 7)] [wcR a gp tg st sm] sz) (PQo (.returned (some (.int (f_X1_openAisle gp tg))))) 0 0 (fun _ => False) := by
  refine bodyM (cc := cX1_openAisle) (maxL := 1) (ret := (some .int)) (by decide) rfl (Nat.le_of_ble_eq_true rfl) ?_
  intro p e s m below meth c ls C
  obtain ⟨hx, hb, hr, hts, hown, hlocks, hml, hsz, hP, hE, hD, hA, hS, hl⟩ := C
  subst hsz
  have hl : lv_has ls 1 [(0, .ref (a 7))] := hl
  refine lv_aload_n hx hb dX1_openAisle_0 rfl (lv_at hl 0 rfl) ?_
  refine va_get (D := G.1) (ci := 1) (v := .int gp) (C := RX1) (T := TX1) (N := 7) hx hb hts iw_X1_openAisle_RX1 hown hE.1 hP 0 rfl rfl 3 (by decide) (hts (.fieldLink RX1 22 "Rackrail$Rail" "gap" "I") (by decide +kernel)) (fun _ h9 => h9) rfl dX1_openAisle_1 ?_
  refine lv_aload_n hx hb dX1_openAisle_4 rfl (lv_at hl 0 rfl) ?_
  refine va_get (D := G.1) (ci := 1) (v := .int tg) (C := RX1) (T := TX1) (N := 7) hx hb hts iw_X1_openAisle_RX1 hown hE.1 hP 0 rfl rfl 4 (by decide) (hts (.fieldLink RX1 26 "Rackrail$Rail" "target" "I") (by decide +kernel)) (fun _ h9 => h9) rfl dX1_openAisle_5 ?_
  refine lv_icmp_ne (tgt := 18) hx hb dX1_openAisle_8 (by decide) (fun c_8 => ?_) (fun c_8 => ?_)
  · refine lv_iconst (v := (-1)) hx hb dX1_openAisle_18 (by decide) ?_
    have hq : f_X1_openAisle gp tg = (-1) := (by rw [f_X1_openAisle, if_neg c_8])
    exact W.iret (v := (-1)) hx hb hr (fun t ht _ => ⟨by rw [hq], ht⟩) (fun _ h => nomatch h) dX1_openAisle_19
  · refine lv_aload_n hx hb dX1_openAisle_11 rfl (lv_at hl 0 rfl) ?_
    refine va_get (D := G.1) (ci := 1) (v := .int gp) (C := RX1) (T := TX1) (N := 7) hx hb hts iw_X1_openAisle_RX1 hown hE.1 hP 0 rfl rfl 3 (by decide) (hts (.fieldLink RX1 22 "Rackrail$Rail" "gap" "I") (by decide +kernel)) (fun _ h9 => h9) rfl dX1_openAisle_12 ?_
    refine lv_goto (tgt := 19) hx hb dX1_openAisle_15 (by decide) ?_
    have hq : f_X1_openAisle gp tg = gp := (by rw [f_X1_openAisle, if_pos c_8])
    exact W.iret (v := gp) hx hb hr (fun t ht _ => ⟨by rw [hq], ht⟩) (fun _ h => nomatch h) dX1_openAisle_19

/-! X1_openAisleByMoves -/
def f_X1_openAisleByMoves_L (tg : Int32) (mv : Nat → Int32) : Nat → Nat → Int32 → Int32
  | 0, j, al => if al = tg then al
    else (-1)
  | r + 1, j, al => if ((mv (nI j).toNatClampNeg) - (mv (nI j).toNatClampNeg) / 2 * 2) = 1 then f_X1_openAisleByMoves_L tg mv r (j + 1) (al + 1)
    else f_X1_openAisleByMoves_L tg mv r (j + 1) al
def f_X1_openAisleByMoves (tg : Int32) (mv : Nat → Int32) : Int32 :=
  f_X1_openAisleByMoves_L tg mv 6 0 0
theorem iw_X1_openAisleByMoves_RX1 : ∀ w ∈ u_ws RX1 TX1 7, w ∈ wsX1_openAisleByMoves := by decide +kernel
set_option maxHeartbeats 4000000 in
set_option maxRecDepth 100000 in
theorem c_X1_openAisleByMoves (l : Launch) (G : GT) (a : Nat → Nat) (sz : Nat) (gp : Int32) (tg : Int32) (st : Int32) (sm : Int32) (mv : Nat → Int32) : Met l yX1_openAisleByMoves wsX1_openAisleByMoves ({ frames := 0, cells := 0, slots := 0, locals := 0 }) (GP G [.ref (a 7)] [wcR a gp tg st sm, wcI G (a 10) 6 mv] sz) (PQo (.returned (some (.int (f_X1_openAisleByMoves tg mv))))) 0 0 (fun _ => False) := by
  refine bodyM (cc := cX1_openAisleByMoves) (maxL := 3) (ret := (some .int)) (by decide) rfl (Nat.le_of_ble_eq_true rfl) ?_
  intro p e s m below meth c ls C
  obtain ⟨hx, hb, hr, hts, hown, hlocks, hml, hsz, hP, hE, hD, hA, hS, hl⟩ := C
  subst hsz
  have hl : lv_has ls 3 [(0, .ref (a 7))] := hl
  refine lv_iconst (v := 0) hx hb dX1_openAisleByMoves_0 (by decide) ?_
  refine lv_istore_n (lv' := [(1, .int 0), (0, .ref (a 7))]) hx hb dX1_openAisleByMoves_1 rfl hl (by decide) rfl (fun ls hl => ?_)
  refine lv_iconst (v := 0) hx hb dX1_openAisleByMoves_2 (by decide) ?_
  refine lv_istore_n (lv' := [(2, .int 0), (1, .int 0), (0, .ref (a 7))]) hx hb dX1_openAisleByMoves_3 rfl hl (by decide) rfl (fun ls hl => ?_)
  refine k_loopP (α := Int32) (fun (r j : Nat) (x : Int32) (ls : Array Slot) => j + r = 6 ∧ f_X1_openAisleByMoves tg mv = f_X1_openAisleByMoves_L tg mv r j x ∧ lv_has ls 3 [(2, .int (nI j)), (1, .int x), (0, .ref (a 7))]) 6 0 0 ⟨by omega, (by rw [f_X1_openAisleByMoves]), lv_sub hl [0, 1, 2] rfl⟩ ?_ ?_
  · intro j x ls hI
    obtain ⟨al, rfl⟩ : ∃ y, y = x := ⟨_, rfl⟩
    obtain ⟨hj, hf, hl⟩ := hI
    have hl : lv_has ls 3 [(2, .int (nI j)), (1, .int al), (0, .ref (a 7))] := hl
    have hf : f_X1_openAisleByMoves tg mv = f_X1_openAisleByMoves_L tg mv 0 j al := hf
    refine lv_iload_n hx hb dX1_openAisleByMoves_4 rfl (lv_at hl 0 rfl) ?_
    refine lv_bipush (v := 6) hx hb dX1_openAisleByMoves_5 (by decide) ?_
    refine lv_icmp_ge (tgt := 31) hx hb dX1_openAisleByMoves_7 (by decide) (fun c_7 => ?_) (fun c_7 => absurd (lp_a n6_eq (by omega) (by omega)) c_7)
    refine lv_iload_n hx hb dX1_openAisleByMoves_31 rfl (lv_at hl 1 rfl) ?_
    refine lv_aload_n hx hb dX1_openAisleByMoves_32 rfl (lv_at hl 2 rfl) ?_
    refine va_get (D := G.1) (ci := 1) (v := .int tg) (C := RX1) (T := TX1) (N := 7) hx hb hts iw_X1_openAisleByMoves_RX1 hown hE.1 hP 0 rfl rfl 4 (by decide) (hts (.fieldLink RX1 26 "Rackrail$Rail" "target" "I") (by decide +kernel)) (fun _ h9 => h9) rfl dX1_openAisleByMoves_33 ?_
    refine lv_icmp_ne (tgt := 43) hx hb dX1_openAisleByMoves_36 (by decide) (fun c_36 => ?_) (fun c_36 => ?_)
    · refine lv_iconst (v := (-1)) hx hb dX1_openAisleByMoves_43 (by decide) ?_
      have hq : f_X1_openAisleByMoves tg mv = (-1) := (hf.trans (by rw [f_X1_openAisleByMoves_L, if_neg c_36]))
      exact W.iret (v := (-1)) hx hb hr (fun t ht _ => ⟨by rw [hq], ht⟩) (fun _ h => nomatch h) dX1_openAisleByMoves_44
    · refine lv_iload_n hx hb dX1_openAisleByMoves_39 rfl (lv_at hl 1 rfl) ?_
      refine lv_goto (tgt := 44) hx hb dX1_openAisleByMoves_40 (by decide) ?_
      have hq : f_X1_openAisleByMoves tg mv = al := (hf.trans (by rw [f_X1_openAisleByMoves_L, if_pos c_36]))
      exact W.iret (v := al) hx hb hr (fun t ht _ => ⟨by rw [hq], ht⟩) (fun _ h => nomatch h) dX1_openAisleByMoves_44
  · intro r ih j x ls hI
    obtain ⟨al, rfl⟩ : ∃ y, y = x := ⟨_, rfl⟩
    obtain ⟨hj, hf, hl⟩ := hI
    have hl : lv_has ls 3 [(2, .int (nI j)), (1, .int al), (0, .ref (a 7))] := hl
    have hf : f_X1_openAisleByMoves tg mv = f_X1_openAisleByMoves_L tg mv (r + 1) j al := hf
    refine lv_iload_n hx hb dX1_openAisleByMoves_4 rfl (lv_at hl 0 rfl) ?_
    refine lv_bipush (v := 6) hx hb dX1_openAisleByMoves_5 (by decide) ?_
    refine lv_icmp_ge (tgt := 31) hx hb dX1_openAisleByMoves_7 (by decide) (fun c_7 => absurd c_7 (lp_b (r := r) n6_eq (by omega) (by omega))) (fun c_7 => ?_)
    refine lv_aload_n hx hb dX1_openAisleByMoves_10 rfl (lv_at hl 2 rfl) ?_
    refine va_get (D := G.1) (ci := 1) (v := .ref (a 10)) (C := RX1) (T := TX1) (N := 7) hx hb hts iw_X1_openAisleByMoves_RX1 hown hE.1 hP 0 rfl rfl 2 (by decide) (hts (.fieldLink RX1 18 "Rackrail$Rail" "moves" "[I") (by decide +kernel)) (fun _ h9 => h9) rfl dX1_openAisleByMoves_11 ?_
    refine lv_iload_n hx hb dX1_openAisleByMoves_14 rfl (lv_at hl 0 rfl) ?_
    refine va_iald hx hb hE.1 hP 1 0 rfl rfl (vp_in_nI (by omega) (by decide)) dX1_openAisleByMoves_15 ?_
    refine lv_iconst (v := 2) hx hb dX1_openAisleByMoves_16 (by decide) ?_
    refine lv_irem hx hb dX1_openAisleByMoves_17 (by decide) ?_
    refine lv_iconst (v := 1) hx hb dX1_openAisleByMoves_18 (by decide) ?_
    refine lv_icmp_ne (tgt := 25) hx hb dX1_openAisleByMoves_19 (by decide) (fun c_19 => ?_) (fun c_19 => ?_)
    · refine lv_iinc (v := nI (j + 1)) (lv' := [(2, .int (nI (j + 1))), (1, .int al), (0, .ref (a 7))]) hx hb dX1_openAisleByMoves_25 hl (k := 0) rfl (inc1 _) (by decide) rfl (fun ls hl => ?_)
      refine lv_goto (tgt := 4) hx hb dX1_openAisleByMoves_28 (by decide) ?_
      exact ih (j + 1) al _ ⟨by omega, (hf.trans (by rw [f_X1_openAisleByMoves_L, if_neg c_19])), lv_sub hl [0, 1, 2] rfl⟩
    · refine lv_iinc (v := al + 1) (lv' := [(1, .int (al + 1)), (2, .int (nI j)), (0, .ref (a 7))]) hx hb dX1_openAisleByMoves_22 hl (k := 1) rfl rfl (by decide) rfl (fun ls hl => ?_)
      refine lv_iinc (v := nI (j + 1)) (lv' := [(2, .int (nI (j + 1))), (1, .int (al + 1)), (0, .ref (a 7))]) hx hb dX1_openAisleByMoves_25 hl (k := 1) rfl (inc1 _) (by decide) rfl (fun ls hl => ?_)
      refine lv_goto (tgt := 4) hx hb dX1_openAisleByMoves_28 (by decide) ?_
      exact ih (j + 1) (al + 1) _ ⟨by omega, (hf.trans (by rw [f_X1_openAisleByMoves_L, if_pos c_19])), lv_sub hl [0, 1, 2] rfl⟩

/-! X1_countInside -/
def f_X1_countInside_L (ins : Nat → Int32) : Nat → Nat → Int32 → Int32
  | 0, j, fnd => fnd
  | r + 1, j, fnd => if (ins (nI j).toNatClampNeg) = 0 then f_X1_countInside_L ins r (j + 1) fnd
    else f_X1_countInside_L ins r (j + 1) (fnd + 1)
def f_X1_countInside (ins : Nat → Int32) : Int32 :=
  f_X1_countInside_L ins 4 0 0
theorem iw_X1_countInside_RX1 : ∀ w ∈ u_ws RX1 TX1 7, w ∈ wsX1_countInside := by decide +kernel
set_option maxHeartbeats 4000000 in
set_option maxRecDepth 100000 in
theorem c_X1_countInside (l : Launch) (G : GT) (a : Nat → Nat) (sz : Nat) (gp : Int32) (tg : Int32) (st : Int32) (sm : Int32) (ins : Nat → Int32) : Met l yX1_countInside wsX1_countInside ({ frames := 0, cells := 0, slots := 0, locals := 0 }) (GP G [.ref (a 7)] [wcR a gp tg st sm, wcZ G (a 9) 4 ins] sz) (PQo (.returned (some (.int (f_X1_countInside ins))))) 0 0 (fun _ => False) := by
  refine bodyM (cc := cX1_countInside) (maxL := 3) (ret := (some .int)) (by decide) rfl (Nat.le_of_ble_eq_true rfl) ?_
  intro p e s m below meth c ls C
  obtain ⟨hx, hb, hr, hts, hown, hlocks, hml, hsz, hP, hE, hD, hA, hS, hl⟩ := C
  subst hsz
  have hl : lv_has ls 3 [(0, .ref (a 7))] := hl
  refine lv_iconst (v := 0) hx hb dX1_countInside_0 (by decide) ?_
  refine lv_istore_n (lv' := [(1, .int 0), (0, .ref (a 7))]) hx hb dX1_countInside_1 rfl hl (by decide) rfl (fun ls hl => ?_)
  refine lv_iconst (v := 0) hx hb dX1_countInside_2 (by decide) ?_
  refine lv_istore_n (lv' := [(2, .int 0), (1, .int 0), (0, .ref (a 7))]) hx hb dX1_countInside_3 rfl hl (by decide) rfl (fun ls hl => ?_)
  refine k_loopP (α := Int32) (fun (r j : Nat) (x : Int32) (ls : Array Slot) => j + r = 4 ∧ f_X1_countInside ins = f_X1_countInside_L ins r j x ∧ lv_has ls 3 [(2, .int (nI j)), (1, .int x), (0, .ref (a 7))]) 4 0 0 ⟨by omega, (by rw [f_X1_countInside]), lv_sub hl [0, 1, 2] rfl⟩ ?_ ?_
  · intro j x ls hI
    obtain ⟨fnd, rfl⟩ : ∃ y, y = x := ⟨_, rfl⟩
    obtain ⟨hj, hf, hl⟩ := hI
    have hl : lv_has ls 3 [(2, .int (nI j)), (1, .int fnd), (0, .ref (a 7))] := hl
    have hf : f_X1_countInside ins = f_X1_countInside_L ins 0 j fnd := hf
    refine lv_iload_n hx hb dX1_countInside_4 rfl (lv_at hl 0 rfl) ?_
    refine lv_iconst (v := 4) hx hb dX1_countInside_5 (by decide) ?_
    refine lv_icmp_ge (tgt := 27) hx hb dX1_countInside_6 (by decide) (fun c_6 => ?_) (fun c_6 => absurd (lp_a n4_eq (by omega) (by omega)) c_6)
    refine lv_iload_n hx hb dX1_countInside_27 rfl (lv_at hl 1 rfl) ?_
    have hq : f_X1_countInside ins = fnd := (hf.trans (by rw [f_X1_countInside_L]))
    exact W.iret (v := fnd) hx hb hr (fun t ht _ => ⟨by rw [hq], ht⟩) (fun _ h => nomatch h) dX1_countInside_28
  · intro r ih j x ls hI
    obtain ⟨fnd, rfl⟩ : ∃ y, y = x := ⟨_, rfl⟩
    obtain ⟨hj, hf, hl⟩ := hI
    have hl : lv_has ls 3 [(2, .int (nI j)), (1, .int fnd), (0, .ref (a 7))] := hl
    have hf : f_X1_countInside ins = f_X1_countInside_L ins (r + 1) j fnd := hf
    refine lv_iload_n hx hb dX1_countInside_4 rfl (lv_at hl 0 rfl) ?_
    refine lv_iconst (v := 4) hx hb dX1_countInside_5 (by decide) ?_
    refine lv_icmp_ge (tgt := 27) hx hb dX1_countInside_6 (by decide) (fun c_6 => absurd c_6 (lp_b (r := r) n4_eq (by omega) (by omega))) (fun c_6 => ?_)
    refine lv_aload_n hx hb dX1_countInside_9 rfl (lv_at hl 2 rfl) ?_
    refine va_get (D := G.1) (ci := 1) (v := .ref (a 9)) (C := RX1) (T := TX1) (N := 7) hx hb hts iw_X1_countInside_RX1 hown hE.1 hP 0 rfl rfl 1 (by decide) (hts (.fieldLink RX1 15 "Rackrail$Rail" "inside" "[Z") (by decide +kernel)) (fun _ h9 => h9) rfl dX1_countInside_10 ?_
    refine lv_iload_n hx hb dX1_countInside_13 rfl (lv_at hl 0 rfl) ?_
    refine va_zald hx hb hE.1 hP 1 1 rfl rfl (vp_in_nI (by omega) (by decide)) dX1_countInside_14 ?_
    refine lv_if_eq (tgt := 21) hx hb dX1_countInside_15 (by decide) (fun c_15 => ?_) (fun c_15 => ?_)
    · refine lv_iinc (v := nI (j + 1)) (lv' := [(2, .int (nI (j + 1))), (1, .int fnd), (0, .ref (a 7))]) hx hb dX1_countInside_21 hl (k := 0) rfl (inc1 _) (by decide) rfl (fun ls hl => ?_)
      refine lv_goto (tgt := 4) hx hb dX1_countInside_24 (by decide) ?_
      exact ih (j + 1) fnd _ ⟨by omega, (hf.trans (by rw [f_X1_countInside_L, if_pos c_15])), lv_sub hl [0, 1, 2] rfl⟩
    · refine lv_iinc (v := fnd + 1) (lv' := [(1, .int (fnd + 1)), (2, .int (nI j)), (0, .ref (a 7))]) hx hb dX1_countInside_18 hl (k := 1) rfl rfl (by decide) rfl (fun ls hl => ?_)
      refine lv_iinc (v := nI (j + 1)) (lv' := [(2, .int (nI (j + 1))), (1, .int (fnd + 1)), (0, .ref (a 7))]) hx hb dX1_countInside_21 hl (k := 1) rfl (inc1 _) (by decide) rfl (fun ls hl => ?_)
      refine lv_goto (tgt := 4) hx hb dX1_countInside_24 (by decide) ?_
      exact ih (j + 1) (fnd + 1) _ ⟨by omega, (hf.trans (by rw [f_X1_countInside_L, if_neg c_15])), lv_sub hl [0, 1, 2] rfl⟩

/-! X1_hasDoubt -/
def f_X1_hasDoubt (db : Nat → Int32) (p0 : Int32) : Int32 :=
  if (f_X3_isBelow p0 7) = 0 then 0
    else if (db p0.toNatClampNeg) = 0 then 0
    else 1
theorem b_X1_hasDoubt (db : Nat → Int32) (p0 : Int32) : f_X1_hasDoubt db p0 = 0 ∨ f_X1_hasDoubt db p0 = 1 := by
  rw [f_X1_hasDoubt]
  (repeat' split) <;> first | exact Or.inl rfl | exact Or.inr rfl | exact b_X3_isBelow _ _
theorem iw_X1_hasDoubt_RX1 : ∀ w ∈ u_ws RX1 TX1 7, w ∈ wsX1_hasDoubt := by decide +kernel
set_option maxHeartbeats 4000000 in
set_option maxRecDepth 100000 in
theorem c_X1_hasDoubt (l : Launch) (G : GT) (a : Nat → Nat) (sz : Nat) (gp : Int32) (tg : Int32) (st : Int32) (sm : Int32) (db : Nat → Int32) (p0 : Int32) : Met l yX1_hasDoubt wsX1_hasDoubt ({ frames := 1, cells := 0, slots := 0, locals := 21 }) (GP G [.ref (a 7), .int p0] [wcR a gp tg st sm, wcZ G (a 8) 7 db] sz) (PQo (.returned (some (.int (f_X1_hasDoubt db p0))))) 0 0 (fun _ => False) := by
  refine bodyM (cc := cX1_hasDoubt) (maxL := 2) (ret := (some .boolean)) (by decide) rfl (Nat.le_of_ble_eq_true rfl) ?_
  intro p e s m below meth c ls C
  obtain ⟨hx, hb, hr, hts, hown, hlocks, hml, hsz, hP, hE, hD, hA, hS, hl⟩ := C
  subst hsz
  have hl : lv_has ls 2 [(0, .ref (a 7)), (1, .int p0)] := hl
  refine lv_iload_n hx hb dX1_hasDoubt_0 rfl (lv_at hl 1 rfl) ?_
  refine lv_bipush (v := 7) hx hb dX1_hasDoubt_1 (by decide) ?_
  refine k_p (va_runSN (As := [.int p0, .int 7]) (rest := []) ⟨hx, hb, hml, hown, hts⟩ (c_X3_isBelow l G s.heap.size p0 7) ⟨va_cnB (host := "Rackrail") 2 hts gX1_hasDoubt_X3_isBelow_n63 rfl rfl rfl (hE.2.1 (RX1, 63, yX3_isBelow) (by decide)) (hts (.initialized RX3) (by decide +kernel)) ⟨by decide +kernel, by decide +kernel, by decide +kernel⟩ ⟨Nat.le_of_ble_eq_true rfl, Nat.le_of_ble_eq_true rfl⟩, hts (.static yX3_isBelow) (by decide +kernel), trivial⟩ ⟨GP.blind, GP.go (wc := []) hE hP hD hS hA [] rfl (by decide) [.int p0, .int 7]⟩ rfl rfl hl.1 rfl (lv_room (Nat.le_of_ble_eq_true rfl)) dX1_hasDoubt_3 ⟨Nat.le_of_ble_eq_true rfl, Nat.le_of_ble_eq_true rfl⟩) ?_
  refine lv_if_eq (tgt := 22) hx hb dX1_hasDoubt_6 (by decide) (fun c_6 => ?_) (fun c_6 => ?_)
  · refine lv_iconst (v := 0) hx hb dX1_hasDoubt_22 (by decide) ?_
    have hq : f_X1_hasDoubt db p0 = 0 := (by rw [f_X1_hasDoubt, if_pos c_6])
    exact W.zret (v := 0) hx hb hr rfl (fun t ht _ => ⟨by rw [hq], ht⟩) (fun _ h => nomatch h) dX1_hasDoubt_23
  · refine lv_aload_n hx hb dX1_hasDoubt_9 rfl (lv_at hl 0 rfl) ?_
    refine va_get (D := G.1) (ci := 1) (v := .ref (a 8)) (C := RX1) (T := TX1) (N := 7) hx hb hts iw_X1_hasDoubt_RX1 hown hE.1 hP 0 rfl rfl 0 (by decide) (hts (.fieldLink RX1 9 "Rackrail$Rail" "doubts" "[Z") (by decide +kernel)) (fun _ h9 => h9) rfl dX1_hasDoubt_10 ?_
    refine lv_iload_n hx hb dX1_hasDoubt_13 rfl (lv_at hl 1 rfl) ?_
    refine va_zald hx hb hE.1 hP 1 1 rfl rfl (in_below rfl (by decide) c_6) dX1_hasDoubt_14 ?_
    refine lv_if_eq (tgt := 22) hx hb dX1_hasDoubt_15 (by decide) (fun c_15 => ?_) (fun c_15 => ?_)
    · refine lv_iconst (v := 0) hx hb dX1_hasDoubt_22 (by decide) ?_
      have hq : f_X1_hasDoubt db p0 = 0 := (by rw [f_X1_hasDoubt, if_neg c_6, if_pos c_15])
      exact W.zret (v := 0) hx hb hr rfl (fun t ht _ => ⟨by rw [hq], ht⟩) (fun _ h => nomatch h) dX1_hasDoubt_23
    · refine lv_iconst (v := 1) hx hb dX1_hasDoubt_18 (by decide) ?_
      refine lv_goto (tgt := 23) hx hb dX1_hasDoubt_19 (by decide) ?_
      have hq : f_X1_hasDoubt db p0 = 1 := (by rw [f_X1_hasDoubt, if_neg c_6, if_neg c_15])
      exact W.zret (v := 1) hx hb hr rfl (fun t ht _ => ⟨by rw [hq], ht⟩) (fun _ h => nomatch h) dX1_hasDoubt_23

/-! X1_mayOpen -/
def f_X1_mayOpen (gp : Int32) (tg : Int32) (st : Int32) (sm : Int32) (db : Nat → Int32) (ins : Nat → Int32) : Int32 :=
  if (f_X1_openAisle gp tg) = (-1) then 0
    else if (f_X1_countInside ins) = 0 then (if (f_X1_hasDoubt db (f_X1_openAisle gp tg)) = 0 then (if st = 0 then (if sm = 0 then 1
          else 0)
        else 0)
      else 0)
    else 0
theorem b_X1_mayOpen (gp : Int32) (tg : Int32) (st : Int32) (sm : Int32) (db : Nat → Int32) (ins : Nat → Int32) : f_X1_mayOpen gp tg st sm db ins = 0 ∨ f_X1_mayOpen gp tg st sm db ins = 1 := by
  rw [f_X1_mayOpen]
  (repeat' split) <;> first | exact Or.inl rfl | exact Or.inr rfl | exact b_X1_hasDoubt _ _
theorem iw_X1_mayOpen_RX1 : ∀ w ∈ u_ws RX1 TX1 7, w ∈ wsX1_mayOpen := by decide +kernel
set_option maxHeartbeats 4000000 in
set_option maxRecDepth 100000 in
theorem c_X1_mayOpen (l : Launch) (G : GT) (a : Nat → Nat) (sz : Nat) (gp : Int32) (tg : Int32) (st : Int32) (sm : Int32) (db : Nat → Int32) (ins : Nat → Int32) : Met l yX1_mayOpen wsX1_mayOpen ({ frames := 2, cells := 0, slots := 0, locals := 42 }) (GP G [.ref (a 7)] [wcR a gp tg st sm, wcZ G (a 8) 7 db, wcZ G (a 9) 4 ins] sz) (PQo (.returned (some (.int (f_X1_mayOpen gp tg st sm db ins))))) 0 0 (fun _ => False) := by
  refine bodyM (cc := cX1_mayOpen) (maxL := 2) (ret := (some .boolean)) (by decide) rfl (Nat.le_of_ble_eq_true rfl) ?_
  intro p e s m below meth c ls C
  obtain ⟨hx, hb, hr, hts, hown, hlocks, hml, hsz, hP, hE, hD, hA, hS, hl⟩ := C
  subst hsz
  have hl : lv_has ls 2 [(0, .ref (a 7))] := hl
  refine lv_aload_n hx hb dX1_mayOpen_0 rfl (lv_at hl 0 rfl) ?_
  refine k_p (va_runV (As := []) (rest := []) ⟨hx, hb, hml, hown, hts⟩ (c_X1_openAisle l G a s.heap.size gp tg st sm) (cwV 0 hts gX1_mayOpen_X1_openAisle rfl rfl rfl ⟨rfl, by decide +kernel, by decide +kernel, by decide +kernel⟩ ⟨Nat.le_of_ble_eq_true rfl, Nat.le_of_ble_eq_true rfl⟩) ⟨GP.blind, va_recv hE.1 hP (ci := 1) (q0 := 0) rfl rfl, GP.go (wc := [wcR a gp tg st sm]) hE hP hD hS hA [0] rfl (by decide) [.ref (a 7)]⟩ rfl rfl hl.1 rfl (lv_room (Nat.le_of_ble_eq_true rfl)) dX1_mayOpen_1 ⟨Nat.le_of_ble_eq_true rfl, Nat.le_of_ble_eq_true rfl⟩) ?_
  refine lv_istore_n (lv' := [(1, .int (f_X1_openAisle gp tg)), (0, .ref (a 7))]) hx hb dX1_mayOpen_4 rfl hl (by decide) rfl (fun ls hl => ?_)
  refine lv_iload_n hx hb dX1_mayOpen_5 rfl (lv_at hl 0 rfl) ?_
  refine lv_iconst (v := (-1)) hx hb dX1_mayOpen_6 (by decide) ?_
  refine lv_icmp_eq (tgt := 43) hx hb dX1_mayOpen_7 (by decide) (fun c_7 => ?_) (fun c_7 => ?_)
  · refine lv_iconst (v := 0) hx hb dX1_mayOpen_43 (by decide) ?_
    have hq : f_X1_mayOpen gp tg st sm db ins = 0 := (by rw [f_X1_mayOpen, if_pos c_7])
    exact W.zret (v := 0) hx hb hr rfl (fun t ht _ => ⟨by rw [hq], ht⟩) (fun _ h => nomatch h) dX1_mayOpen_44
  · refine lv_aload_n hx hb dX1_mayOpen_10 rfl (lv_at hl 1 rfl) ?_
    refine k_p (va_runV (As := []) (rest := []) ⟨hx, hb, hml, hown, hts⟩ (c_X1_countInside l G a s.heap.size gp tg st sm ins) (cwV 0 hts gX1_mayOpen_X1_countInside rfl rfl rfl ⟨rfl, by decide +kernel, by decide +kernel, by decide +kernel⟩ ⟨Nat.le_of_ble_eq_true rfl, Nat.le_of_ble_eq_true rfl⟩) ⟨GP.blind, va_recv hE.1 hP (ci := 1) (q0 := 0) rfl rfl, GP.go (wc := [wcR a gp tg st sm, wcZ G (a 9) 4 ins]) hE hP hD hS hA [0, 2] rfl (by decide) [.ref (a 7)]⟩ rfl rfl hl.1 rfl (lv_room (Nat.le_of_ble_eq_true rfl)) dX1_mayOpen_11 ⟨Nat.le_of_ble_eq_true rfl, Nat.le_of_ble_eq_true rfl⟩) ?_
    refine lv_if_ne (tgt := 43) hx hb dX1_mayOpen_14 (by decide) (fun c_14 => ?_) (fun c_14 => ?_)
    · refine lv_iconst (v := 0) hx hb dX1_mayOpen_43 (by decide) ?_
      have hq : f_X1_mayOpen gp tg st sm db ins = 0 := (by rw [f_X1_mayOpen, if_neg c_7, if_neg c_14])
      exact W.zret (v := 0) hx hb hr rfl (fun t ht _ => ⟨by rw [hq], ht⟩) (fun _ h => nomatch h) dX1_mayOpen_44
    · refine lv_aload_n hx hb dX1_mayOpen_17 rfl (lv_at hl 1 rfl) ?_
      refine lv_iload_n hx hb dX1_mayOpen_18 rfl (lv_at hl 0 rfl) ?_
      refine k_p (va_runV (As := [.int (f_X1_openAisle gp tg)]) (rest := []) ⟨hx, hb, hml, hown, hts⟩ (c_X1_hasDoubt l G a s.heap.size gp tg st sm db (f_X1_openAisle gp tg)) (cwV 1 hts gX1_mayOpen_X1_hasDoubt rfl rfl rfl ⟨rfl, by decide +kernel, by decide +kernel, by decide +kernel⟩ ⟨Nat.le_of_ble_eq_true rfl, Nat.le_of_ble_eq_true rfl⟩) ⟨GP.blind, va_recv hE.1 hP (ci := 1) (q0 := 0) rfl rfl, GP.go (wc := [wcR a gp tg st sm, wcZ G (a 8) 7 db]) hE hP hD hS hA [0, 1] rfl (by decide) [.ref (a 7), .int (f_X1_openAisle gp tg)]⟩ rfl rfl hl.1 rfl (lv_room (Nat.le_of_ble_eq_true rfl)) dX1_mayOpen_19 ⟨Nat.le_of_ble_eq_true rfl, Nat.le_of_ble_eq_true rfl⟩) ?_
      refine lv_if_ne (tgt := 43) hx hb dX1_mayOpen_22 (by decide) (fun c_22 => ?_) (fun c_22 => ?_)
      · refine lv_iconst (v := 0) hx hb dX1_mayOpen_43 (by decide) ?_
        have hq : f_X1_mayOpen gp tg st sm db ins = 0 := (by rw [f_X1_mayOpen, if_neg c_7, if_pos c_14, if_neg c_22])
        exact W.zret (v := 0) hx hb hr rfl (fun t ht _ => ⟨by rw [hq], ht⟩) (fun _ h => nomatch h) dX1_mayOpen_44
      · refine lv_aload_n hx hb dX1_mayOpen_25 rfl (lv_at hl 1 rfl) ?_
        refine va_get (D := G.1) (ci := 1) (v := .int st) (C := RX1) (T := TX1) (N := 7) hx hb hts iw_X1_mayOpen_RX1 hown hE.1 hP 0 rfl rfl 5 (by decide) (hts (.fieldLink RX1 29 "Rackrail$Rail" "stalled" "Z") (by decide +kernel)) (fun _ h9 => h9) rfl dX1_mayOpen_26 ?_
        refine lv_if_ne (tgt := 43) hx hb dX1_mayOpen_29 (by decide) (fun c_29 => ?_) (fun c_29 => ?_)
        · refine lv_iconst (v := 0) hx hb dX1_mayOpen_43 (by decide) ?_
          have hq : f_X1_mayOpen gp tg st sm db ins = 0 := (by rw [f_X1_mayOpen, if_neg c_7, if_pos c_14, if_pos c_22, if_neg c_29])
          exact W.zret (v := 0) hx hb hr rfl (fun t ht _ => ⟨by rw [hq], ht⟩) (fun _ h => nomatch h) dX1_mayOpen_44
        · refine lv_aload_n hx hb dX1_mayOpen_32 rfl (lv_at hl 1 rfl) ?_
          refine va_get (D := G.1) (ci := 1) (v := .int sm) (C := RX1) (T := TX1) (N := 7) hx hb hts iw_X1_mayOpen_RX1 hown hE.1 hP 0 rfl rfl 6 (by decide) (hts (.fieldLink RX1 33 "Rackrail$Rail" "smoky" "Z") (by decide +kernel)) (fun _ h9 => h9) rfl dX1_mayOpen_33 ?_
          refine lv_if_ne (tgt := 43) hx hb dX1_mayOpen_36 (by decide) (fun c_36 => ?_) (fun c_36 => ?_)
          · refine lv_iconst (v := 0) hx hb dX1_mayOpen_43 (by decide) ?_
            have hq : f_X1_mayOpen gp tg st sm db ins = 0 := (by rw [f_X1_mayOpen, if_neg c_7, if_pos c_14, if_pos c_22, if_pos c_29, if_neg c_36])
            exact W.zret (v := 0) hx hb hr rfl (fun t ht _ => ⟨by rw [hq], ht⟩) (fun _ h => nomatch h) dX1_mayOpen_44
          · refine lv_iconst (v := 1) hx hb dX1_mayOpen_39 (by decide) ?_
            refine lv_goto (tgt := 44) hx hb dX1_mayOpen_40 (by decide) ?_
            have hq : f_X1_mayOpen gp tg st sm db ins = 1 := (by rw [f_X1_mayOpen, if_neg c_7, if_pos c_14, if_pos c_22, if_pos c_29, if_pos c_36])
            exact W.zret (v := 1) hx hb hr rfl (fun t ht _ => ⟨by rw [hq], ht⟩) (fun _ h => nomatch h) dX1_mayOpen_44

/-! X1_mayGoIn -/
def f_X1_mayGoIn (gp : Int32) (tg : Int32) (sm : Int32) : Int32 :=
  if (f_X1_openAisle gp tg) = (-1) then 0
    else if sm = 0 then 1
    else 0
theorem b_X1_mayGoIn (gp : Int32) (tg : Int32) (sm : Int32) : f_X1_mayGoIn gp tg sm = 0 ∨ f_X1_mayGoIn gp tg sm = 1 := by
  rw [f_X1_mayGoIn]
  (repeat' split) <;> first | exact Or.inl rfl | exact Or.inr rfl
theorem iw_X1_mayGoIn_RX1 : ∀ w ∈ u_ws RX1 TX1 7, w ∈ wsX1_mayGoIn := by decide +kernel
set_option maxHeartbeats 4000000 in
set_option maxRecDepth 100000 in
theorem c_X1_mayGoIn (l : Launch) (G : GT) (a : Nat → Nat) (sz : Nat) (gp : Int32) (tg : Int32) (st : Int32) (sm : Int32) : Met l yX1_mayGoIn wsX1_mayGoIn ({ frames := 1, cells := 0, slots := 0, locals := 20 }) (GP G [.ref (a 7)] [wcR a gp tg st sm] sz) (PQo (.returned (some (.int (f_X1_mayGoIn gp tg sm))))) 0 0 (fun _ => False) := by
  refine bodyM (cc := cX1_mayGoIn) (maxL := 1) (ret := (some .boolean)) (by decide) rfl (Nat.le_of_ble_eq_true rfl) ?_
  intro p e s m below meth c ls C
  obtain ⟨hx, hb, hr, hts, hown, hlocks, hml, hsz, hP, hE, hD, hA, hS, hl⟩ := C
  subst hsz
  have hl : lv_has ls 1 [(0, .ref (a 7))] := hl
  refine lv_aload_n hx hb dX1_mayGoIn_0 rfl (lv_at hl 0 rfl) ?_
  refine k_p (va_runV (As := []) (rest := []) ⟨hx, hb, hml, hown, hts⟩ (c_X1_openAisle l G a s.heap.size gp tg st sm) (cwV 0 hts gX1_mayGoIn_X1_openAisle rfl rfl rfl ⟨rfl, by decide +kernel, by decide +kernel, by decide +kernel⟩ ⟨Nat.le_of_ble_eq_true rfl, Nat.le_of_ble_eq_true rfl⟩) ⟨GP.blind, va_recv hE.1 hP (ci := 1) (q0 := 0) rfl rfl, GP.go (wc := [wcR a gp tg st sm]) hE hP hD hS hA [0] rfl (by decide) [.ref (a 7)]⟩ rfl rfl hl.1 rfl (lv_room (Nat.le_of_ble_eq_true rfl)) dX1_mayGoIn_1 ⟨Nat.le_of_ble_eq_true rfl, Nat.le_of_ble_eq_true rfl⟩) ?_
  refine lv_iconst (v := (-1)) hx hb dX1_mayGoIn_4 (by decide) ?_
  refine lv_icmp_eq (tgt := 19) hx hb dX1_mayGoIn_5 (by decide) (fun c_5 => ?_) (fun c_5 => ?_)
  · refine lv_iconst (v := 0) hx hb dX1_mayGoIn_19 (by decide) ?_
    have hq : f_X1_mayGoIn gp tg sm = 0 := (by rw [f_X1_mayGoIn, if_pos c_5])
    exact W.zret (v := 0) hx hb hr rfl (fun t ht _ => ⟨by rw [hq], ht⟩) (fun _ h => nomatch h) dX1_mayGoIn_20
  · refine lv_aload_n hx hb dX1_mayGoIn_8 rfl (lv_at hl 0 rfl) ?_
    refine va_get (D := G.1) (ci := 1) (v := .int sm) (C := RX1) (T := TX1) (N := 7) hx hb hts iw_X1_mayGoIn_RX1 hown hE.1 hP 0 rfl rfl 6 (by decide) (hts (.fieldLink RX1 33 "Rackrail$Rail" "smoky" "Z") (by decide +kernel)) (fun _ h9 => h9) rfl dX1_mayGoIn_9 ?_
    refine lv_if_ne (tgt := 19) hx hb dX1_mayGoIn_12 (by decide) (fun c_12 => ?_) (fun c_12 => ?_)
    · refine lv_iconst (v := 0) hx hb dX1_mayGoIn_19 (by decide) ?_
      have hq : f_X1_mayGoIn gp tg sm = 0 := (by rw [f_X1_mayGoIn, if_neg c_5, if_neg c_12])
      exact W.zret (v := 0) hx hb hr rfl (fun t ht _ => ⟨by rw [hq], ht⟩) (fun _ h => nomatch h) dX1_mayGoIn_20
    · refine lv_iconst (v := 1) hx hb dX1_mayGoIn_15 (by decide) ?_
      refine lv_goto (tgt := 20) hx hb dX1_mayGoIn_16 (by decide) ?_
      have hq : f_X1_mayGoIn gp tg sm = 1 := (by rw [f_X1_mayGoIn, if_neg c_5, if_pos c_12])
      exact W.zret (v := 1) hx hb hr rfl (fun t ht _ => ⟨by rw [hq], ht⟩) (fun _ h => nomatch h) dX1_mayGoIn_20

/-! X1_aimAt -/
def f_X1_aimAt (p0 : Int32) : Int32 :=
  p0
theorem iw_X1_aimAt_RX1 : ∀ w ∈ u_ws RX1 TX1 7, w ∈ wsX1_aimAt := by decide +kernel
set_option maxHeartbeats 4000000 in
set_option maxRecDepth 100000 in
theorem c_X1_aimAt (l : Launch) (G : GT) (a : Nat → Nat) (sz : Nat) (gp : Int32) (tg : Int32) (st : Int32) (sm : Int32) (p0 : Int32) : Met l yX1_aimAt wsX1_aimAt ({ frames := 0, cells := 0, slots := 0, locals := 0 }) (GP G [.ref (a 7), .int p0] [wcR a gp tg st sm] sz) (MQo G (.returned none) [wcR a gp (f_X1_aimAt p0) st sm] (va_A [wcR a gp tg st sm] sz)) 0 0 (va_A [wcR a gp tg st sm] sz) := by
  refine bodyM (cc := cX1_aimAt) (maxL := 2) (ret := none) (by decide) rfl (Nat.le_of_ble_eq_true rfl) ?_
  intro p e s m below meth c ls C
  obtain ⟨hx, hb, hr, hts, hown, hlocks, hml, hsz, hP, hE, hD, hA, hS, hl⟩ := C
  subst hsz
  have hl : lv_has ls 2 [(0, .ref (a 7)), (1, .int p0)] := hl
  refine lv_aload_n hx hb dX1_aimAt_0 rfl (lv_at hl 0 rfl) ?_
  refine lv_iload_n hx hb dX1_aimAt_1 rfl (lv_at hl 1 rfl) ?_
  refine va_put (D := G.1) (ci := 1) (v := .int p0) (ty := .int) (C := RX1) (T := TX1) (N := 7) hx hb hts iw_X1_aimAt_RX1 tyX1 tyX1_ok nmX1 hown hE.1 hP hD hS 0 rfl rfl 4 (by decide) (hts (.fieldLink RX1 26 "Rackrail$Rail" "target" "I") (by decide +kernel)) (fun _ h9 => h9) rfl (by decide +kernel) rfl rfl (Nat.le_of_ble_eq_true rfl) dX1_aimAt_2 (fun H locs hP hD hS => ?_)
  have hP : va_P G.1 vwCl [wcR a gp p0 st sm] H := hP
  have hD : va_D _ [wcR a gp p0 st sm] := hD
  have hq : f_X1_aimAt p0 = p0 := (by rw [f_X1_aimAt])
  exact W.vret hx hb hr (fun t ht _ => ⟨rfl, by rw [hq, ht]; exact hP, hS.F ht⟩) hS.2.2 dX1_aimAt_5

/-! X1_movesToCome -/
def f_X1_movesToCome (gp : Int32) (tg : Int32) : Int32 :=
  if 0 ≤ (tg - gp) then (tg - gp) else 0 - (tg - gp)
theorem iw_X1_movesToCome_RX1 : ∀ w ∈ u_ws RX1 TX1 7, w ∈ wsX1_movesToCome := by decide +kernel
set_option maxHeartbeats 4000000 in
set_option maxRecDepth 100000 in
theorem c_X1_movesToCome (l : Launch) (G : GT) (a : Nat → Nat) (sz : Nat) (gp : Int32) (tg : Int32) (st : Int32) (sm : Int32) : Met l yX1_movesToCome wsX1_movesToCome ({ frames := 1, cells := 0, slots := 0, locals := 20 }) (GP G [.ref (a 7)] [wcR a gp tg st sm] sz) (PQo (.returned (some (.int (f_X1_movesToCome gp tg))))) 0 0 (fun _ => False) := by
  refine bodyM (cc := cX1_movesToCome) (maxL := 1) (ret := (some .int)) (by decide) rfl (Nat.le_of_ble_eq_true rfl) ?_
  intro p e s m below meth c ls C
  obtain ⟨hx, hb, hr, hts, hown, hlocks, hml, hsz, hP, hE, hD, hA, hS, hl⟩ := C
  subst hsz
  have hl : lv_has ls 1 [(0, .ref (a 7))] := hl
  refine lv_aload_n hx hb dX1_movesToCome_0 rfl (lv_at hl 0 rfl) ?_
  refine va_get (D := G.1) (ci := 1) (v := .int tg) (C := RX1) (T := TX1) (N := 7) hx hb hts iw_X1_movesToCome_RX1 hown hE.1 hP 0 rfl rfl 4 (by decide) (hts (.fieldLink RX1 26 "Rackrail$Rail" "target" "I") (by decide +kernel)) (fun _ h9 => h9) rfl dX1_movesToCome_1 ?_
  refine lv_aload_n hx hb dX1_movesToCome_4 rfl (lv_at hl 0 rfl) ?_
  refine va_get (D := G.1) (ci := 1) (v := .int gp) (C := RX1) (T := TX1) (N := 7) hx hb hts iw_X1_movesToCome_RX1 hown hE.1 hP 0 rfl rfl 3 (by decide) (hts (.fieldLink RX1 22 "Rackrail$Rail" "gap" "I") (by decide +kernel)) (fun _ h9 => h9) rfl dX1_movesToCome_5 ?_
  refine lv_isub hx hb dX1_movesToCome_8 ?_
  refine va_mabs hx hb (hml.trans hl.1.symm) hown (hts (.methodLink RX1 47 Lib.Math.abs.name) (by decide +kernel)) (hts (.static Lib.Math.abs.name) (by decide +kernel)) (hts (.initialized "java/lang/Math") (by decide +kernel)) (hts (.code Lib.Math.abs.name Lib.Math.abs.code 1 (some .int)) (by decide +kernel)) (Nat.le_of_ble_eq_true rfl) (Nat.le_of_ble_eq_true rfl) (Nat.le_of_ble_eq_true rfl) (Nat.le_of_ble_eq_true rfl) dX1_movesToCome_9 ?_
  have hq : f_X1_movesToCome gp tg = (if 0 ≤ (tg - gp) then (tg - gp) else 0 - (tg - gp)) := (by rw [f_X1_movesToCome])
  exact W.iret (v := if 0 ≤ (tg - gp) then (tg - gp) else 0 - (tg - gp)) hx hb hr (fun t ht _ => ⟨by rw [hq], ht⟩) (fun _ h => nomatch h) dX1_movesToCome_12

/-! X1_moveOne -/
def f_X1_moveOne (gp : Int32) (tg : Int32) (mv : Nat → Int32) : Int32 × (Nat → Int32) :=
  if tg ≤ gp then (if (f_X3_isBelow (gp - 1) 6) = 0 then (gp, mv)
      else (gp - 1, upd mv (gp - 1).toNatClampNeg ((mv (gp - 1).toNatClampNeg) + 1)))
    else if (f_X3_isBelow gp 6) = 0 then (gp, mv)
    else (gp + 1, upd mv gp.toNatClampNeg ((mv gp.toNatClampNeg) + 1))
theorem iw_X1_moveOne_RX1 : ∀ w ∈ u_ws RX1 TX1 7, w ∈ wsX1_moveOne := by decide +kernel
set_option maxHeartbeats 4000000 in
set_option maxRecDepth 100000 in
theorem c_X1_moveOne (l : Launch) (G : GT) (a : Nat → Nat) (sz : Nat) (gp : Int32) (tg : Int32) (st : Int32) (sm : Int32) (mv : Nat → Int32) : Met l yX1_moveOne wsX1_moveOne ({ frames := 1, cells := 0, slots := 0, locals := 21 }) (GP G [.ref (a 7)] [wcR a gp tg st sm, wcI G (a 10) 6 mv] sz) (MQo G (.returned none) [wcR a ((f_X1_moveOne gp tg mv).1) tg st sm, wcI G (a 10) 6 ((f_X1_moveOne gp tg mv).2)] (va_A [wcR a gp tg st sm, wcI G (a 10) 6 mv] sz)) 0 0 (va_A [wcR a gp tg st sm, wcI G (a 10) 6 mv] sz) := by
  refine bodyM (cc := cX1_moveOne) (maxL := 3) (ret := none) (by decide) rfl (Nat.le_of_ble_eq_true rfl) ?_
  intro p e s m below meth c ls C
  obtain ⟨hx, hb, hr, hts, hown, hlocks, hml, hsz, hP, hE, hD, hA, hS, hl⟩ := C
  subst hsz
  have hl : lv_has ls 3 [(0, .ref (a 7))] := hl
  refine lv_aload_n hx hb dX1_moveOne_0 rfl (lv_at hl 0 rfl) ?_
  refine va_get (D := G.1) (ci := 1) (v := .int gp) (C := RX1) (T := TX1) (N := 7) hx hb hts iw_X1_moveOne_RX1 hown hE.1 hP 0 rfl rfl 3 (by decide) (hts (.fieldLink RX1 22 "Rackrail$Rail" "gap" "I") (by decide +kernel)) (fun _ h9 => h9) rfl dX1_moveOne_1 ?_
  refine lv_aload_n hx hb dX1_moveOne_4 rfl (lv_at hl 0 rfl) ?_
  refine va_get (D := G.1) (ci := 1) (v := .int tg) (C := RX1) (T := TX1) (N := 7) hx hb hts iw_X1_moveOne_RX1 hown hE.1 hP 0 rfl rfl 4 (by decide) (hts (.fieldLink RX1 26 "Rackrail$Rail" "target" "I") (by decide +kernel)) (fun _ h9 => h9) rfl dX1_moveOne_5 ?_
  refine lv_icmp_ge (tgt := 15) hx hb dX1_moveOne_8 (by decide) (fun c_8 => ?_) (fun c_8 => ?_)
  · refine lv_iconst (v := 0) hx hb dX1_moveOne_15 (by decide) ?_
    refine lv_istore_n (lv' := [(1, .int 0), (0, .ref (a 7))]) hx hb dX1_moveOne_16 rfl hl (by decide) rfl (fun ls hl => ?_)
    refine lv_iload_n hx hb dX1_moveOne_17 rfl (lv_at hl 0 rfl) ?_
    refine lv_if_eq (tgt := 28) hx hb dX1_moveOne_18 (by decide) (fun c_18 => ?_) (fun c_18 => absurd (by decide) c_18)
    refine lv_aload_n hx hb dX1_moveOne_28 rfl (lv_at hl 1 rfl) ?_
    refine va_get (D := G.1) (ci := 1) (v := .int gp) (C := RX1) (T := TX1) (N := 7) hx hb hts iw_X1_moveOne_RX1 hown hE.1 hP 0 rfl rfl 3 (by decide) (hts (.fieldLink RX1 22 "Rackrail$Rail" "gap" "I") (by decide +kernel)) (fun _ h9 => h9) rfl dX1_moveOne_29 ?_
    refine lv_iconst (v := 1) hx hb dX1_moveOne_32 (by decide) ?_
    refine lv_isub hx hb dX1_moveOne_33 ?_
    refine lv_istore_n (lv' := [(2, .int (gp - 1)), (1, .int 0), (0, .ref (a 7))]) hx hb dX1_moveOne_34 rfl hl (by decide) rfl (fun ls hl => ?_)
    refine lv_iload_n hx hb dX1_moveOne_35 rfl (lv_at hl 0 rfl) ?_
    refine lv_bipush (v := 6) hx hb dX1_moveOne_36 (by decide) ?_
    refine k_p (va_runSN (As := [.int (gp - 1), .int 6]) (rest := []) ⟨hx, hb, hml, hown, hts⟩ (c_X3_isBelow l G s.heap.size (gp - 1) 6) ⟨va_cnB (host := "Rackrail") 2 hts gX1_moveOne_X3_isBelow_n63 rfl rfl rfl (hE.2.1 (RX1, 63, yX3_isBelow) (by decide)) (hts (.initialized RX3) (by decide +kernel)) ⟨by decide +kernel, by decide +kernel, by decide +kernel⟩ ⟨Nat.le_of_ble_eq_true rfl, Nat.le_of_ble_eq_true rfl⟩, hts (.static yX3_isBelow) (by decide +kernel), trivial⟩ ⟨GP.blind, GP.go (wc := []) hE hP hD hS hA [] rfl (by decide) [.int (gp - 1), .int 6]⟩ rfl rfl hl.1 rfl (lv_room (Nat.le_of_ble_eq_true rfl)) dX1_moveOne_38 ⟨Nat.le_of_ble_eq_true rfl, Nat.le_of_ble_eq_true rfl⟩) ?_
    refine lv_if_eq (tgt := 77) hx hb dX1_moveOne_41 (by decide) (fun c_41 => ?_) (fun c_41 => ?_)
    · have hq : f_X1_moveOne gp tg mv = (gp, mv) := (by rw [f_X1_moveOne, if_pos c_8, if_pos c_41])
      exact W.vret hx hb hr (fun t ht _ => ⟨rfl, by rw [hq, ht]; exact hP, hS.F ht⟩) hS.2.2 dX1_moveOne_77
    · refine lv_aload_n hx hb dX1_moveOne_44 rfl (lv_at hl 2 rfl) ?_
      refine va_get (D := G.1) (ci := 1) (v := .ref (a 10)) (C := RX1) (T := TX1) (N := 7) hx hb hts iw_X1_moveOne_RX1 hown hE.1 hP 0 rfl rfl 2 (by decide) (hts (.fieldLink RX1 18 "Rackrail$Rail" "moves" "[I") (by decide +kernel)) (fun _ h9 => h9) rfl dX1_moveOne_45 ?_
      refine lv_iload_n hx hb dX1_moveOne_48 rfl (lv_at hl 0 rfl) ?_
      refine lv_dup2_11 hx hb dX1_moveOne_49 rfl rfl ?_
      refine va_iald hx hb hE.1 hP 1 0 rfl rfl (in_below rfl (by decide) c_41) dX1_moveOne_50 ?_
      refine lv_iconst (v := 1) hx hb dX1_moveOne_51 (by decide) ?_
      refine lv_iadd hx hb dX1_moveOne_52 ?_
      refine va_iast hx hb hE.1 hP hD hS 1 0 rfl rfl (in_below rfl (by decide) c_41) dX1_moveOne_53 (fun H locs hP hD hS => ?_)
      have hP : va_P G.1 vwCl [wcR a gp tg st sm, wcI G (a 10) 6 (upd mv (gp - 1).toNatClampNeg ((mv (gp - 1).toNatClampNeg) + 1))] H := hP
      have hD : va_D _ [wcR a gp tg st sm, wcI G (a 10) 6 (upd mv (gp - 1).toNatClampNeg ((mv (gp - 1).toNatClampNeg) + 1))] := hD
      refine lv_aload_n hx hb dX1_moveOne_54 rfl (lv_at hl 2 rfl) ?_
      refine lv_iload_n hx hb dX1_moveOne_55 rfl (lv_at hl 1 rfl) ?_
      refine lv_if_eq (tgt := 68) hx hb dX1_moveOne_56 (by decide) (fun c_56 => ?_) (fun c_56 => absurd (by decide) c_56)
      refine lv_aload_n hx hb dX1_moveOne_68 rfl (lv_at hl 2 rfl) ?_
      refine va_get (D := G.1) (ci := 1) (v := .int gp) (C := RX1) (T := TX1) (N := 7) hx hb hts iw_X1_moveOne_RX1 hown hE.1 hP 0 rfl rfl 3 (by decide) (hts (.fieldLink RX1 22 "Rackrail$Rail" "gap" "I") (by decide +kernel)) (fun _ h9 => h9) rfl dX1_moveOne_69 ?_
      refine lv_iconst (v := 1) hx hb dX1_moveOne_72 (by decide) ?_
      refine lv_isub hx hb dX1_moveOne_73 ?_
      refine va_put (D := G.1) (ci := 1) (v := .int (gp - 1)) (ty := .int) (C := RX1) (T := TX1) (N := 7) hx hb hts iw_X1_moveOne_RX1 tyX1 tyX1_ok nmX1 hown hE.1 hP hD hS 0 rfl rfl 3 (by decide) (hts (.fieldLink RX1 22 "Rackrail$Rail" "gap" "I") (by decide +kernel)) (fun _ h9 => h9) rfl (by decide +kernel) rfl rfl (Nat.le_of_ble_eq_true rfl) dX1_moveOne_74 (fun H locs hP hD hS => ?_)
      have hP : va_P G.1 vwCl [wcR a (gp - 1) tg st sm, wcI G (a 10) 6 (upd mv (gp - 1).toNatClampNeg ((mv (gp - 1).toNatClampNeg) + 1))] H := hP
      have hD : va_D _ [wcR a (gp - 1) tg st sm, wcI G (a 10) 6 (upd mv (gp - 1).toNatClampNeg ((mv (gp - 1).toNatClampNeg) + 1))] := hD
      have hq : f_X1_moveOne gp tg mv = (gp - 1, upd mv (gp - 1).toNatClampNeg ((mv (gp - 1).toNatClampNeg) + 1)) := (by rw [f_X1_moveOne, if_pos c_8, if_neg c_41])
      exact W.vret hx hb hr (fun t ht _ => ⟨rfl, by rw [hq, ht]; exact hP, hS.F ht⟩) hS.2.2 dX1_moveOne_77
  · refine lv_iconst (v := 1) hx hb dX1_moveOne_11 (by decide) ?_
    refine lv_goto (tgt := 16) hx hb dX1_moveOne_12 (by decide) ?_
    refine lv_istore_n (lv' := [(1, .int 1), (0, .ref (a 7))]) hx hb dX1_moveOne_16 rfl hl (by decide) rfl (fun ls hl => ?_)
    refine lv_iload_n hx hb dX1_moveOne_17 rfl (lv_at hl 0 rfl) ?_
    refine lv_if_eq (tgt := 28) hx hb dX1_moveOne_18 (by decide) (fun c_18 => absurd c_18 (by decide)) (fun c_18 => ?_)
    refine lv_aload_n hx hb dX1_moveOne_21 rfl (lv_at hl 1 rfl) ?_
    refine va_get (D := G.1) (ci := 1) (v := .int gp) (C := RX1) (T := TX1) (N := 7) hx hb hts iw_X1_moveOne_RX1 hown hE.1 hP 0 rfl rfl 3 (by decide) (hts (.fieldLink RX1 22 "Rackrail$Rail" "gap" "I") (by decide +kernel)) (fun _ h9 => h9) rfl dX1_moveOne_22 ?_
    refine lv_goto (tgt := 34) hx hb dX1_moveOne_25 (by decide) ?_
    refine lv_istore_n (lv' := [(2, .int gp), (1, .int 1), (0, .ref (a 7))]) hx hb dX1_moveOne_34 rfl hl (by decide) rfl (fun ls hl => ?_)
    refine lv_iload_n hx hb dX1_moveOne_35 rfl (lv_at hl 0 rfl) ?_
    refine lv_bipush (v := 6) hx hb dX1_moveOne_36 (by decide) ?_
    refine k_p (va_runSN (As := [.int gp, .int 6]) (rest := []) ⟨hx, hb, hml, hown, hts⟩ (c_X3_isBelow l G s.heap.size gp 6) ⟨va_cnB (host := "Rackrail") 2 hts gX1_moveOne_X3_isBelow_n63 rfl rfl rfl (hE.2.1 (RX1, 63, yX3_isBelow) (by decide)) (hts (.initialized RX3) (by decide +kernel)) ⟨by decide +kernel, by decide +kernel, by decide +kernel⟩ ⟨Nat.le_of_ble_eq_true rfl, Nat.le_of_ble_eq_true rfl⟩, hts (.static yX3_isBelow) (by decide +kernel), trivial⟩ ⟨GP.blind, GP.go (wc := []) hE hP hD hS hA [] rfl (by decide) [.int gp, .int 6]⟩ rfl rfl hl.1 rfl (lv_room (Nat.le_of_ble_eq_true rfl)) dX1_moveOne_38 ⟨Nat.le_of_ble_eq_true rfl, Nat.le_of_ble_eq_true rfl⟩) ?_
    refine lv_if_eq (tgt := 77) hx hb dX1_moveOne_41 (by decide) (fun c_41 => ?_) (fun c_41 => ?_)
    · have hq : f_X1_moveOne gp tg mv = (gp, mv) := (by rw [f_X1_moveOne, if_neg c_8, if_pos c_41])
      exact W.vret hx hb hr (fun t ht _ => ⟨rfl, by rw [hq, ht]; exact hP, hS.F ht⟩) hS.2.2 dX1_moveOne_77
    · refine lv_aload_n hx hb dX1_moveOne_44 rfl (lv_at hl 2 rfl) ?_
      refine va_get (D := G.1) (ci := 1) (v := .ref (a 10)) (C := RX1) (T := TX1) (N := 7) hx hb hts iw_X1_moveOne_RX1 hown hE.1 hP 0 rfl rfl 2 (by decide) (hts (.fieldLink RX1 18 "Rackrail$Rail" "moves" "[I") (by decide +kernel)) (fun _ h9 => h9) rfl dX1_moveOne_45 ?_
      refine lv_iload_n hx hb dX1_moveOne_48 rfl (lv_at hl 0 rfl) ?_
      refine lv_dup2_11 hx hb dX1_moveOne_49 rfl rfl ?_
      refine va_iald hx hb hE.1 hP 1 0 rfl rfl (in_below rfl (by decide) c_41) dX1_moveOne_50 ?_
      refine lv_iconst (v := 1) hx hb dX1_moveOne_51 (by decide) ?_
      refine lv_iadd hx hb dX1_moveOne_52 ?_
      refine va_iast hx hb hE.1 hP hD hS 1 0 rfl rfl (in_below rfl (by decide) c_41) dX1_moveOne_53 (fun H locs hP hD hS => ?_)
      have hP : va_P G.1 vwCl [wcR a gp tg st sm, wcI G (a 10) 6 (upd mv gp.toNatClampNeg ((mv gp.toNatClampNeg) + 1))] H := hP
      have hD : va_D _ [wcR a gp tg st sm, wcI G (a 10) 6 (upd mv gp.toNatClampNeg ((mv gp.toNatClampNeg) + 1))] := hD
      refine lv_aload_n hx hb dX1_moveOne_54 rfl (lv_at hl 2 rfl) ?_
      refine lv_iload_n hx hb dX1_moveOne_55 rfl (lv_at hl 1 rfl) ?_
      refine lv_if_eq (tgt := 68) hx hb dX1_moveOne_56 (by decide) (fun c_56 => absurd c_56 (by decide)) (fun c_56 => ?_)
      refine lv_aload_n hx hb dX1_moveOne_59 rfl (lv_at hl 2 rfl) ?_
      refine va_get (D := G.1) (ci := 1) (v := .int gp) (C := RX1) (T := TX1) (N := 7) hx hb hts iw_X1_moveOne_RX1 hown hE.1 hP 0 rfl rfl 3 (by decide) (hts (.fieldLink RX1 22 "Rackrail$Rail" "gap" "I") (by decide +kernel)) (fun _ h9 => h9) rfl dX1_moveOne_60 ?_
      refine lv_iconst (v := 1) hx hb dX1_moveOne_63 (by decide) ?_
      refine lv_iadd hx hb dX1_moveOne_64 ?_
      refine lv_goto (tgt := 74) hx hb dX1_moveOne_65 (by decide) ?_
      refine va_put (D := G.1) (ci := 1) (v := .int (gp + 1)) (ty := .int) (C := RX1) (T := TX1) (N := 7) hx hb hts iw_X1_moveOne_RX1 tyX1 tyX1_ok nmX1 hown hE.1 hP hD hS 0 rfl rfl 3 (by decide) (hts (.fieldLink RX1 22 "Rackrail$Rail" "gap" "I") (by decide +kernel)) (fun _ h9 => h9) rfl (by decide +kernel) rfl rfl (Nat.le_of_ble_eq_true rfl) dX1_moveOne_74 (fun H locs hP hD hS => ?_)
      have hP : va_P G.1 vwCl [wcR a (gp + 1) tg st sm, wcI G (a 10) 6 (upd mv gp.toNatClampNeg ((mv gp.toNatClampNeg) + 1))] H := hP
      have hD : va_D _ [wcR a (gp + 1) tg st sm, wcI G (a 10) 6 (upd mv gp.toNatClampNeg ((mv gp.toNatClampNeg) + 1))] := hD
      have hq : f_X1_moveOne gp tg mv = (gp + 1, upd mv gp.toNatClampNeg ((mv gp.toNatClampNeg) + 1)) := (by rw [f_X1_moveOne, if_neg c_8, if_neg c_41])
      exact W.vret hx hb hr (fun t ht _ => ⟨rfl, by rw [hq, ht]; exact hP, hS.F ht⟩) hS.2.2 dX1_moveOne_77

/-! X1_moveFor -/
def f_X1_moveFor_L (tg : Int32) : Nat → Nat → Int32 → (Nat → Int32) → Int32 × (Nat → Int32)
  | 0, j, gp1, mv1 => (gp1, mv1)
  | r + 1, j, gp1, mv1 => f_X1_moveFor_L tg r (j + 1) ((f_X1_moveOne gp1 tg mv1).1) ((f_X1_moveOne gp1 tg mv1).2)
def f_X1_moveFor (gp : Int32) (tg : Int32) (st : Int32) (sm : Int32) (mv : Nat → Int32) (p0 : Int32) : Int32 × (Nat → Int32) :=
  if st = 0 then (if sm = 0 then f_X1_moveFor_L tg ((if f_X1_movesToCome gp tg < p0 then f_X1_movesToCome gp tg else p0).toNatClampNeg) 0 gp mv
      else (gp, mv))
    else (gp, mv)
theorem pass_hst {gp tg p0 : Int32} (hmv : okN 6 (f_X1_movesToCome gp tg)) (h1 : ¬ p0 < 1) (h2 : p0 ≤ 100) : okN 100 (if f_X1_movesToCome gp tg < p0 then f_X1_movesToCome gp tg else p0) := by
  obtain ⟨q, hq, e⟩ := hmv
  have h0 : ¬ p0 < 0 := fun z => h1 (Int32.lt_trans z (by decide))
  obtain ⟨j, hj, rfl⟩ := nI_of h0
  have h3 : j ≤ 100 := (nI_leI hj (by decide)).mp h2
  by_cases c : f_X1_movesToCome gp tg < nI j
  · rw [if_pos c]; exact ⟨q, by omega, e⟩
  · rw [if_neg c]; exact ⟨j, h3, rfl⟩
theorem iw_X1_moveFor_RX1 : ∀ w ∈ u_ws RX1 TX1 7, w ∈ wsX1_moveFor := by decide +kernel
set_option maxHeartbeats 4000000 in
set_option maxRecDepth 100000 in
theorem c_X1_moveFor (l : Launch) (G : GT) (a : Nat → Nat) (sz : Nat) (gp : Int32) (tg : Int32) (st : Int32) (sm : Int32) (mv : Nat → Int32) (p0 : Int32) (hst : okN 100 (if f_X1_movesToCome gp tg < p0 then f_X1_movesToCome gp tg else p0)) : Met l yX1_moveFor wsX1_moveFor ({ frames := 2, cells := 0, slots := 0, locals := 43 }) (GP G [.ref (a 7), .int p0] [wcR a gp tg st sm, wcI G (a 10) 6 mv] sz) (MQo G (.returned none) [wcR a ((f_X1_moveFor gp tg st sm mv p0).1) tg st sm, wcI G (a 10) 6 ((f_X1_moveFor gp tg st sm mv p0).2)] (va_A [wcR a gp tg st sm, wcI G (a 10) 6 mv] sz)) 0 0 (va_A [wcR a gp tg st sm, wcI G (a 10) 6 mv] sz) := by
  refine bodyM (cc := cX1_moveFor) (maxL := 4) (ret := none) (by decide) rfl (Nat.le_of_ble_eq_true rfl) ?_
  intro p e s m below meth c ls C
  obtain ⟨hx, hb, hr, hts, hown, hlocks, hml, hsz, hP, hE, hD, hA, hS, hl⟩ := C
  subst hsz
  have hl : lv_has ls 4 [(0, .ref (a 7)), (1, .int p0)] := hl
  obtain ⟨n, hn, hst2⟩ := id hst
  have hcl : (if f_X1_movesToCome gp tg < p0 then f_X1_movesToCome gp tg else p0).toNatClampNeg = n := by rw [hst2]; exact nI_clamp (by omega)
  refine lv_aload_n hx hb dX1_moveFor_0 rfl (lv_at hl 0 rfl) ?_
  refine va_get (D := G.1) (ci := 1) (v := .int st) (C := RX1) (T := TX1) (N := 7) hx hb hts iw_X1_moveFor_RX1 hown hE.1 hP 0 rfl rfl 5 (by decide) (hts (.fieldLink RX1 29 "Rackrail$Rail" "stalled" "Z") (by decide +kernel)) (fun _ h9 => h9) rfl dX1_moveFor_1 ?_
  refine lv_if_ne (tgt := 14) hx hb dX1_moveFor_4 (by decide) (fun c_4 => ?_) (fun c_4 => ?_)
  · have hq : f_X1_moveFor gp tg st sm mv p0 = (gp, mv) := (by rw [f_X1_moveFor, if_neg c_4])
    exact W.vret hx hb hr (fun t ht _ => ⟨rfl, by rw [hq, ht]; exact hP, hS.F ht⟩) hS.2.2 dX1_moveFor_14
  · refine lv_aload_n hx hb dX1_moveFor_7 rfl (lv_at hl 0 rfl) ?_
    refine va_get (D := G.1) (ci := 1) (v := .int sm) (C := RX1) (T := TX1) (N := 7) hx hb hts iw_X1_moveFor_RX1 hown hE.1 hP 0 rfl rfl 6 (by decide) (hts (.fieldLink RX1 33 "Rackrail$Rail" "smoky" "Z") (by decide +kernel)) (fun _ h9 => h9) rfl dX1_moveFor_8 ?_
    refine lv_if_eq (tgt := 15) hx hb dX1_moveFor_11 (by decide) (fun c_11 => ?_) (fun c_11 => ?_)
    · refine lv_iload_n hx hb dX1_moveFor_15 rfl (lv_at hl 1 rfl) ?_
      refine lv_aload_n hx hb dX1_moveFor_16 rfl (lv_at hl 0 rfl) ?_
      refine k_p (va_runV (As := []) (rest := [.int p0]) ⟨hx, hb, hml, hown, hts⟩ (c_X1_movesToCome l G a s.heap.size gp tg st sm) (cwV 0 hts gX1_moveFor_X1_movesToCome rfl rfl rfl ⟨rfl, by decide +kernel, by decide +kernel, by decide +kernel⟩ ⟨Nat.le_of_ble_eq_true rfl, Nat.le_of_ble_eq_true rfl⟩) ⟨GP.blind, va_recv hE.1 hP (ci := 1) (q0 := 0) rfl rfl, GP.go (wc := [wcR a gp tg st sm]) hE hP hD hS hA [0] rfl (by decide) [.ref (a 7)]⟩ rfl rfl hl.1 rfl (lv_room (Nat.le_of_ble_eq_true rfl)) dX1_moveFor_17 ⟨Nat.le_of_ble_eq_true rfl, Nat.le_of_ble_eq_true rfl⟩) ?_
      refine va_mmin hx hb (hml.trans hl.1.symm) hown (hts (.methodLink RX1 56 Lib.Math.min.name) (by decide +kernel)) (hts (.static Lib.Math.min.name) (by decide +kernel)) (hts (.initialized "java/lang/Math") (by decide +kernel)) (hts (.code Lib.Math.min.name Lib.Math.min.code 2 (some .int)) (by decide +kernel)) (Nat.le_of_ble_eq_true rfl) (Nat.le_of_ble_eq_true rfl) (Nat.le_of_ble_eq_true rfl) (Nat.le_of_ble_eq_true rfl) dX1_moveFor_20 ?_
      refine lv_istore_n (lv' := [(2, .int (if (f_X1_movesToCome gp tg) < p0 then (f_X1_movesToCome gp tg) else p0)), (0, .ref (a 7)), (1, .int p0)]) hx hb dX1_moveFor_23 rfl hl (by decide) rfl (fun ls hl => ?_)
      refine lv_iconst (v := 0) hx hb dX1_moveFor_24 (by decide) ?_
      refine lv_istore_n (lv' := [(3, .int 0), (2, .int (if (f_X1_movesToCome gp tg) < p0 then (f_X1_movesToCome gp tg) else p0)), (0, .ref (a 7)), (1, .int p0)]) hx hb dX1_moveFor_25 rfl hl (by decide) rfl (fun ls hl => ?_)
      refine k_loopM (α := Int32 × (Nat → Int32)) (fun (r j : Nat) (x : Int32 × (Nat → Int32)) (H : Heap) (locs : List Loc) (ls : Array Slot) => j + r = n ∧ f_X1_moveFor gp tg st sm mv p0 = f_X1_moveFor_L tg r j x.1 x.2 ∧ lv_has ls 4 [(3, .int (nI j)), (2, .int (if (f_X1_movesToCome gp tg) < p0 then (f_X1_movesToCome gp tg) else p0)), (0, .ref (a 7)), (1, .int p0)] ∧ va_P G.1 vwCl [wcR a x.1 tg st sm, wcI G (a 10) 6 x.2] H ∧ va_D (va_A [wcR a gp tg st sm, wcI G (a 10) 6 mv] s.heap.size) [wcR a x.1 tg st sm, wcI G (a 10) 6 x.2] ∧ va_S (va_A [wcR a gp tg st sm, wcI G (a 10) 6 mv] s.heap.size) s.heap H locs) n 0 (gp, mv) ⟨by omega, (by rw [f_X1_moveFor, if_pos c_4, if_pos c_11, hcl]), lv_sub hl [0, 1, 2, 3] rfl, hP, hD, hS⟩ ?_ ?_
      · intro j x H locs ls hI
        obtain ⟨gp1, mv1⟩ := x
        obtain ⟨hj, hf, hl, hP, hD, hS⟩ := hI
        have hl : lv_has ls 4 [(3, .int (nI j)), (2, .int (if (f_X1_movesToCome gp tg) < p0 then (f_X1_movesToCome gp tg) else p0)), (0, .ref (a 7)), (1, .int p0)] := hl
        have hf : f_X1_moveFor gp tg st sm mv p0 = f_X1_moveFor_L tg 0 j gp1 mv1 := hf
        have hP : va_P G.1 vwCl [wcR a gp1 tg st sm, wcI G (a 10) 6 mv1] H := hP
        have hD : va_D _ [wcR a gp1 tg st sm, wcI G (a 10) 6 mv1] := hD
        refine lv_iload_n hx hb dX1_moveFor_26 rfl (lv_at hl 0 rfl) ?_
        refine lv_iload_n hx hb dX1_moveFor_27 rfl (lv_at hl 1 rfl) ?_
        refine lv_icmp_ge (tgt := 41) hx hb dX1_moveFor_28 (by decide) (fun c_28 => ?_) (fun c_28 => absurd (lp_a hst2 (by omega) (by omega)) c_28)
        have hq : f_X1_moveFor gp tg st sm mv p0 = (gp1, mv1) := (hf.trans (by rw [f_X1_moveFor_L]))
        exact W.vret hx hb hr (fun t ht _ => ⟨rfl, by rw [hq, ht]; exact hP, hS.F ht⟩) hS.2.2 dX1_moveFor_41
      · intro r ih j x H locs ls hI
        obtain ⟨gp1, mv1⟩ := x
        obtain ⟨hj, hf, hl, hP, hD, hS⟩ := hI
        have hl : lv_has ls 4 [(3, .int (nI j)), (2, .int (if (f_X1_movesToCome gp tg) < p0 then (f_X1_movesToCome gp tg) else p0)), (0, .ref (a 7)), (1, .int p0)] := hl
        have hf : f_X1_moveFor gp tg st sm mv p0 = f_X1_moveFor_L tg (r + 1) j gp1 mv1 := hf
        have hP : va_P G.1 vwCl [wcR a gp1 tg st sm, wcI G (a 10) 6 mv1] H := hP
        have hD : va_D _ [wcR a gp1 tg st sm, wcI G (a 10) 6 mv1] := hD
        refine lv_iload_n hx hb dX1_moveFor_26 rfl (lv_at hl 0 rfl) ?_
        refine lv_iload_n hx hb dX1_moveFor_27 rfl (lv_at hl 1 rfl) ?_
        refine lv_icmp_ge (tgt := 41) hx hb dX1_moveFor_28 (by decide) (fun c_28 => absurd c_28 (lp_b (r := r) hst2 (by omega) (by omega))) (fun c_28 => ?_)
        refine lv_aload_n hx hb dX1_moveFor_31 rfl (lv_at hl 2 rfl) ?_
        refine k_m (wc := [wcR a gp1 tg st sm, wcI G (a 10) 6 mv1]) (w1 := [wcR a ((f_X1_moveOne gp1 tg mv1).1) tg st sm, wcI G (a 10) 6 ((f_X1_moveOne gp1 tg mv1).2)]) (wn := [wcR a ((f_X1_moveOne gp1 tg mv1).1) tg st sm, wcI G (a 10) 6 ((f_X1_moveOne gp1 tg mv1).2)]) (va_runV (As := []) (rest := []) ⟨hx, hb, hml, hown, hts⟩ (c_X1_moveOne l G a H.size gp1 tg st sm mv1) (cwV 0 hts gX1_moveFor_X1_moveOne rfl rfl rfl ⟨rfl, by decide +kernel, by decide +kernel, by decide +kernel⟩ ⟨Nat.le_of_ble_eq_true rfl, Nat.le_of_ble_eq_true rfl⟩) ⟨GP.blind, va_recv hE.1 hP (ci := 1) (q0 := 0) rfl rfl, GP.go (wc := [wcR a gp1 tg st sm, wcI G (a 10) 6 mv1]) hE hP hD hS hA [0, 1] rfl (by decide) [.ref (a 7)]⟩ rfl rfl hl.1 rfl (lv_room (Nat.le_of_ble_eq_true rfl)) dX1_moveFor_32 ⟨Nat.le_of_ble_eq_true rfl, Nat.le_of_ble_eq_true rfl⟩) hP hD hS hA [0, 1] rfl rfl rfl rfl (fun H locs hP hD hS => ?_)
        refine lv_iinc (v := nI (j + 1)) (lv' := [(3, .int (nI (j + 1))), (2, .int (if (f_X1_movesToCome gp tg) < p0 then (f_X1_movesToCome gp tg) else p0)), (0, .ref (a 7)), (1, .int p0)]) hx hb dX1_moveFor_35 hl (k := 0) rfl (inc1 _) (by decide) rfl (fun ls hl => ?_)
        refine lv_goto (tgt := 26) hx hb dX1_moveFor_38 (by decide) ?_
        exact ih (j + 1) ((f_X1_moveOne gp1 tg mv1).1, (f_X1_moveOne gp1 tg mv1).2) _ _ _ ⟨by omega, (hf.trans (by rw [f_X1_moveFor_L])), lv_sub hl [0, 1, 2, 3] rfl, hP, hD, hS⟩
    · have hq : f_X1_moveFor gp tg st sm mv p0 = (gp, mv) := (by rw [f_X1_moveFor, if_pos c_4, if_neg c_11])
      exact W.vret hx hb hr (fun t ht _ => ⟨rfl, by rw [hq, ht]; exact hP, hS.F ht⟩) hS.2.2 dX1_moveFor_14

/-! X1_setDoubt -/
def f_X1_setDoubt (db : Nat → Int32) (p0 : Int32) (p1 : Int32) : (Nat → Int32) :=
  if (f_X3_isBelow p0 7) = 0 then db
    else upd db p0.toNatClampNeg (vp_nar .boolean p1)
theorem iw_X1_setDoubt_RX1 : ∀ w ∈ u_ws RX1 TX1 7, w ∈ wsX1_setDoubt := by decide +kernel
set_option maxHeartbeats 4000000 in
set_option maxRecDepth 100000 in
theorem c_X1_setDoubt (l : Launch) (G : GT) (a : Nat → Nat) (sz : Nat) (gp : Int32) (tg : Int32) (st : Int32) (sm : Int32) (db : Nat → Int32) (p0 : Int32) (p1 : Int32) : Met l yX1_setDoubt wsX1_setDoubt ({ frames := 1, cells := 0, slots := 0, locals := 21 }) (GP G [.ref (a 7), .int p0, .int p1] [wcR a gp tg st sm, wcZ G (a 8) 7 db] sz) (MQo G (.returned none) [wcR a gp tg st sm, wcZ G (a 8) 7 (f_X1_setDoubt db p0 p1)] (va_A [wcR a gp tg st sm, wcZ G (a 8) 7 db] sz)) 0 0 (va_A [wcR a gp tg st sm, wcZ G (a 8) 7 db] sz) := by
  refine bodyM (cc := cX1_setDoubt) (maxL := 3) (ret := none) (by decide) rfl (Nat.le_of_ble_eq_true rfl) ?_
  intro p e s m below meth c ls C
  obtain ⟨hx, hb, hr, hts, hown, hlocks, hml, hsz, hP, hE, hD, hA, hS, hl⟩ := C
  subst hsz
  have hl : lv_has ls 3 [(0, .ref (a 7)), (1, .int p0), (2, .int p1)] := hl
  refine lv_iload_n hx hb dX1_setDoubt_0 rfl (lv_at hl 1 rfl) ?_
  refine lv_bipush (v := 7) hx hb dX1_setDoubt_1 (by decide) ?_
  refine k_p (va_runSN (As := [.int p0, .int 7]) (rest := []) ⟨hx, hb, hml, hown, hts⟩ (c_X3_isBelow l G s.heap.size p0 7) ⟨va_cnB (host := "Rackrail") 2 hts gX1_setDoubt_X3_isBelow_n63 rfl rfl rfl (hE.2.1 (RX1, 63, yX3_isBelow) (by decide)) (hts (.initialized RX3) (by decide +kernel)) ⟨by decide +kernel, by decide +kernel, by decide +kernel⟩ ⟨Nat.le_of_ble_eq_true rfl, Nat.le_of_ble_eq_true rfl⟩, hts (.static yX3_isBelow) (by decide +kernel), trivial⟩ ⟨GP.blind, GP.go (wc := []) hE hP hD hS hA [] rfl (by decide) [.int p0, .int 7]⟩ rfl rfl hl.1 rfl (lv_room (Nat.le_of_ble_eq_true rfl)) dX1_setDoubt_3 ⟨Nat.le_of_ble_eq_true rfl, Nat.le_of_ble_eq_true rfl⟩) ?_
  refine lv_if_eq (tgt := 16) hx hb dX1_setDoubt_6 (by decide) (fun c_6 => ?_) (fun c_6 => ?_)
  · have hq : f_X1_setDoubt db p0 p1 = db := (by rw [f_X1_setDoubt, if_pos c_6])
    exact W.vret hx hb hr (fun t ht _ => ⟨rfl, by rw [hq, ht]; exact hP, hS.F ht⟩) hS.2.2 dX1_setDoubt_16
  · refine lv_aload_n hx hb dX1_setDoubt_9 rfl (lv_at hl 0 rfl) ?_
    refine va_get (D := G.1) (ci := 1) (v := .ref (a 8)) (C := RX1) (T := TX1) (N := 7) hx hb hts iw_X1_setDoubt_RX1 hown hE.1 hP 0 rfl rfl 0 (by decide) (hts (.fieldLink RX1 9 "Rackrail$Rail" "doubts" "[Z") (by decide +kernel)) (fun _ h9 => h9) rfl dX1_setDoubt_10 ?_
    refine lv_iload_n hx hb dX1_setDoubt_13 rfl (lv_at hl 1 rfl) ?_
    refine lv_iload_n hx hb dX1_setDoubt_14 rfl (lv_at hl 2 rfl) ?_
    refine va_zast hx hb hE.1 hP hD hS 1 1 rfl rfl (in_below rfl (by decide) c_6) dX1_setDoubt_15 (fun H locs hP hD hS => ?_)
    have hP : va_P G.1 vwCl [wcR a gp tg st sm, wcZ G (a 8) 7 (upd db p0.toNatClampNeg (vp_nar .boolean p1))] H := hP
    have hD : va_D _ [wcR a gp tg st sm, wcZ G (a 8) 7 (upd db p0.toNatClampNeg (vp_nar .boolean p1))] := hD
    have hq : f_X1_setDoubt db p0 p1 = upd db p0.toNatClampNeg (vp_nar .boolean p1) := (by rw [f_X1_setDoubt, if_neg c_6])
    exact W.vret hx hb hr (fun t ht _ => ⟨rfl, by rw [hq, ht]; exact hP, hS.F ht⟩) hS.2.2 dX1_setDoubt_16

/-! X1_changeStall -/
def f_X1_changeStall (st : Int32) (p0 : Int32) : Int32 × Int32 :=
  if st = p0 then (0, p0)
    else (1, p0)
theorem b_changeStall (st p0 : Int32) : (f_X1_changeStall st p0).1 = 0 ∨ (f_X1_changeStall st p0).1 = 1 := by
  rw [f_X1_changeStall]
  (repeat' split) <;> first | exact Or.inl rfl | exact Or.inr rfl
theorem iw_X1_changeStall_RX1 : ∀ w ∈ u_ws RX1 TX1 7, w ∈ wsX1_changeStall := by decide +kernel
set_option maxHeartbeats 4000000 in
set_option maxRecDepth 100000 in
theorem c_X1_changeStall (l : Launch) (G : GT) (a : Nat → Nat) (sz : Nat) (gp : Int32) (tg : Int32) (st : Int32) (sm : Int32) (p0 : Int32) (hp : p0 = 0 ∨ p0 = 1) : Met l yX1_changeStall wsX1_changeStall ({ frames := 0, cells := 0, slots := 0, locals := 0 }) (GP G [.ref (a 7), .int p0] [wcR a gp tg st sm] sz) (MQo G (.returned (some (.int ((f_X1_changeStall st p0).1)))) [wcR a gp tg ((f_X1_changeStall st p0).2) sm] (va_A [wcR a gp tg st sm] sz)) 0 0 (va_A [wcR a gp tg st sm] sz) := by
  refine bodyM (cc := cX1_changeStall) (maxL := 3) (ret := (some .boolean)) (by decide) rfl (Nat.le_of_ble_eq_true rfl) ?_
  intro p e s m below meth c ls C
  obtain ⟨hx, hb, hr, hts, hown, hlocks, hml, hsz, hP, hE, hD, hA, hS, hl⟩ := C
  subst hsz
  have hl : lv_has ls 3 [(0, .ref (a 7)), (1, .int p0)] := hl
  refine lv_aload_n hx hb dX1_changeStall_0 rfl (lv_at hl 0 rfl) ?_
  refine va_get (D := G.1) (ci := 1) (v := .int st) (C := RX1) (T := TX1) (N := 7) hx hb hts iw_X1_changeStall_RX1 hown hE.1 hP 0 rfl rfl 5 (by decide) (hts (.fieldLink RX1 29 "Rackrail$Rail" "stalled" "Z") (by decide +kernel)) (fun _ h9 => h9) rfl dX1_changeStall_1 ?_
  refine lv_iload_n hx hb dX1_changeStall_4 rfl (lv_at hl 1 rfl) ?_
  refine lv_icmp_eq (tgt := 12) hx hb dX1_changeStall_5 (by decide) (fun c_5 => ?_) (fun c_5 => ?_)
  · refine lv_iconst (v := 0) hx hb dX1_changeStall_12 (by decide) ?_
    refine lv_istore_n (lv' := [(2, .int 0), (0, .ref (a 7)), (1, .int p0)]) hx hb dX1_changeStall_13 rfl hl (by decide) rfl (fun ls hl => ?_)
    refine lv_aload_n hx hb dX1_changeStall_14 rfl (lv_at hl 1 rfl) ?_
    refine lv_iload_n hx hb dX1_changeStall_15 rfl (lv_at hl 2 rfl) ?_
    refine va_put (D := G.1) (ci := 1) (v := .int p0) (ty := .boolean) (C := RX1) (T := TX1) (N := 7) hx hb hts iw_X1_changeStall_RX1 tyX1 tyX1_ok nmX1 hown hE.1 hP hD hS 0 rfl rfl 5 (by decide) (hts (.fieldLink RX1 29 "Rackrail$Rail" "stalled" "Z") (by decide +kernel)) (fun _ h9 => h9) rfl (by decide +kernel) (bool_nar (hp)) (bool_fits (hp)) (Nat.le_of_ble_eq_true rfl) dX1_changeStall_16 (fun H locs hP hD hS => ?_)
    have hP : va_P G.1 vwCl [wcR a gp tg p0 sm] H := hP
    have hD : va_D _ [wcR a gp tg p0 sm] := hD
    refine lv_iload_n hx hb dX1_changeStall_19 rfl (lv_at hl 0 rfl) ?_
    have hq : f_X1_changeStall st p0 = (0, p0) := (by rw [f_X1_changeStall, if_pos c_5])
    exact W.zret (v := 0) hx hb hr rfl (fun t ht _ => ⟨by rw [hq], by rw [hq, ht]; exact hP, hS.F ht⟩) hS.2.2 dX1_changeStall_20
  · refine lv_iconst (v := 1) hx hb dX1_changeStall_8 (by decide) ?_
    refine lv_goto (tgt := 13) hx hb dX1_changeStall_9 (by decide) ?_
    refine lv_istore_n (lv' := [(2, .int 1), (0, .ref (a 7)), (1, .int p0)]) hx hb dX1_changeStall_13 rfl hl (by decide) rfl (fun ls hl => ?_)
    refine lv_aload_n hx hb dX1_changeStall_14 rfl (lv_at hl 1 rfl) ?_
    refine lv_iload_n hx hb dX1_changeStall_15 rfl (lv_at hl 2 rfl) ?_
    refine va_put (D := G.1) (ci := 1) (v := .int p0) (ty := .boolean) (C := RX1) (T := TX1) (N := 7) hx hb hts iw_X1_changeStall_RX1 tyX1 tyX1_ok nmX1 hown hE.1 hP hD hS 0 rfl rfl 5 (by decide) (hts (.fieldLink RX1 29 "Rackrail$Rail" "stalled" "Z") (by decide +kernel)) (fun _ h9 => h9) rfl (by decide +kernel) (bool_nar (hp)) (bool_fits (hp)) (Nat.le_of_ble_eq_true rfl) dX1_changeStall_16 (fun H locs hP hD hS => ?_)
    have hP : va_P G.1 vwCl [wcR a gp tg p0 sm] H := hP
    have hD : va_D _ [wcR a gp tg p0 sm] := hD
    refine lv_iload_n hx hb dX1_changeStall_19 rfl (lv_at hl 0 rfl) ?_
    have hq : f_X1_changeStall st p0 = (1, p0) := (by rw [f_X1_changeStall, if_neg c_5])
    exact W.zret (v := 1) hx hb hr rfl (fun t ht _ => ⟨by rw [hq], by rw [hq, ht]; exact hP, hS.F ht⟩) hS.2.2 dX1_changeStall_20

/-! X1_changeSmoke -/
def f_X1_changeSmoke (p0 : Int32) : Int32 :=
  p0
theorem iw_X1_changeSmoke_RX1 : ∀ w ∈ u_ws RX1 TX1 7, w ∈ wsX1_changeSmoke := by decide +kernel
set_option maxHeartbeats 4000000 in
set_option maxRecDepth 100000 in
theorem c_X1_changeSmoke (l : Launch) (G : GT) (a : Nat → Nat) (sz : Nat) (gp : Int32) (tg : Int32) (st : Int32) (sm : Int32) (p0 : Int32) (hp : p0 = 0 ∨ p0 = 1) : Met l yX1_changeSmoke wsX1_changeSmoke ({ frames := 0, cells := 0, slots := 0, locals := 0 }) (GP G [.ref (a 7), .int p0] [wcR a gp tg st sm] sz) (MQo G (.returned none) [wcR a gp tg st (f_X1_changeSmoke p0)] (va_A [wcR a gp tg st sm] sz)) 0 0 (va_A [wcR a gp tg st sm] sz) := by
  refine bodyM (cc := cX1_changeSmoke) (maxL := 2) (ret := none) (by decide) rfl (Nat.le_of_ble_eq_true rfl) ?_
  intro p e s m below meth c ls C
  obtain ⟨hx, hb, hr, hts, hown, hlocks, hml, hsz, hP, hE, hD, hA, hS, hl⟩ := C
  subst hsz
  have hl : lv_has ls 2 [(0, .ref (a 7)), (1, .int p0)] := hl
  refine lv_aload_n hx hb dX1_changeSmoke_0 rfl (lv_at hl 0 rfl) ?_
  refine lv_iload_n hx hb dX1_changeSmoke_1 rfl (lv_at hl 1 rfl) ?_
  refine va_put (D := G.1) (ci := 1) (v := .int p0) (ty := .boolean) (C := RX1) (T := TX1) (N := 7) hx hb hts iw_X1_changeSmoke_RX1 tyX1 tyX1_ok nmX1 hown hE.1 hP hD hS 0 rfl rfl 6 (by decide) (hts (.fieldLink RX1 33 "Rackrail$Rail" "smoky" "Z") (by decide +kernel)) (fun _ h9 => h9) rfl (by decide +kernel) (bool_nar (hp)) (bool_fits (hp)) (Nat.le_of_ble_eq_true rfl) dX1_changeSmoke_2 (fun H locs hP hD hS => ?_)
  have hP : va_P G.1 vwCl [wcR a gp tg st p0] H := hP
  have hD : va_D _ [wcR a gp tg st p0] := hD
  have hq : f_X1_changeSmoke p0 = p0 := (by rw [f_X1_changeSmoke])
  exact W.vret hx hb hr (fun t ht _ => ⟨rfl, by rw [hq, ht]; exact hP, hS.F ht⟩) hS.2.2 dX1_changeSmoke_5

/-! X1_isInside -/
def f_X1_isInside (ins : Nat → Int32) (p0 : Int32) : Int32 :=
  if (f_X3_isBelow p0 4) = 0 then 0
    else if (ins p0.toNatClampNeg) = 0 then 0
    else 1
theorem b_X1_isInside (ins : Nat → Int32) (p0 : Int32) : f_X1_isInside ins p0 = 0 ∨ f_X1_isInside ins p0 = 1 := by
  rw [f_X1_isInside]
  (repeat' split) <;> first | exact Or.inl rfl | exact Or.inr rfl | exact b_X3_isBelow _ _
theorem iw_X1_isInside_RX1 : ∀ w ∈ u_ws RX1 TX1 7, w ∈ wsX1_isInside := by decide +kernel
set_option maxHeartbeats 4000000 in
set_option maxRecDepth 100000 in
theorem c_X1_isInside (l : Launch) (G : GT) (a : Nat → Nat) (sz : Nat) (gp : Int32) (tg : Int32) (st : Int32) (sm : Int32) (ins : Nat → Int32) (p0 : Int32) : Met l yX1_isInside wsX1_isInside ({ frames := 1, cells := 0, slots := 0, locals := 21 }) (GP G [.ref (a 7), .int p0] [wcR a gp tg st sm, wcZ G (a 9) 4 ins] sz) (PQo (.returned (some (.int (f_X1_isInside ins p0))))) 0 0 (fun _ => False) := by
  refine bodyM (cc := cX1_isInside) (maxL := 2) (ret := (some .boolean)) (by decide) rfl (Nat.le_of_ble_eq_true rfl) ?_
  intro p e s m below meth c ls C
  obtain ⟨hx, hb, hr, hts, hown, hlocks, hml, hsz, hP, hE, hD, hA, hS, hl⟩ := C
  subst hsz
  have hl : lv_has ls 2 [(0, .ref (a 7)), (1, .int p0)] := hl
  refine lv_iload_n hx hb dX1_isInside_0 rfl (lv_at hl 1 rfl) ?_
  refine lv_iconst (v := 4) hx hb dX1_isInside_1 (by decide) ?_
  refine k_p (va_runSN (As := [.int p0, .int 4]) (rest := []) ⟨hx, hb, hml, hown, hts⟩ (c_X3_isBelow l G s.heap.size p0 4) ⟨va_cnB (host := "Rackrail") 2 hts gX1_isInside_X3_isBelow_n63 rfl rfl rfl (hE.2.1 (RX1, 63, yX3_isBelow) (by decide)) (hts (.initialized RX3) (by decide +kernel)) ⟨by decide +kernel, by decide +kernel, by decide +kernel⟩ ⟨Nat.le_of_ble_eq_true rfl, Nat.le_of_ble_eq_true rfl⟩, hts (.static yX3_isBelow) (by decide +kernel), trivial⟩ ⟨GP.blind, GP.go (wc := []) hE hP hD hS hA [] rfl (by decide) [.int p0, .int 4]⟩ rfl rfl hl.1 rfl (lv_room (Nat.le_of_ble_eq_true rfl)) dX1_isInside_2 ⟨Nat.le_of_ble_eq_true rfl, Nat.le_of_ble_eq_true rfl⟩) ?_
  refine lv_if_eq (tgt := 21) hx hb dX1_isInside_5 (by decide) (fun c_5 => ?_) (fun c_5 => ?_)
  · refine lv_iconst (v := 0) hx hb dX1_isInside_21 (by decide) ?_
    have hq : f_X1_isInside ins p0 = 0 := (by rw [f_X1_isInside, if_pos c_5])
    exact W.zret (v := 0) hx hb hr rfl (fun t ht _ => ⟨by rw [hq], ht⟩) (fun _ h => nomatch h) dX1_isInside_22
  · refine lv_aload_n hx hb dX1_isInside_8 rfl (lv_at hl 0 rfl) ?_
    refine va_get (D := G.1) (ci := 1) (v := .ref (a 9)) (C := RX1) (T := TX1) (N := 7) hx hb hts iw_X1_isInside_RX1 hown hE.1 hP 0 rfl rfl 1 (by decide) (hts (.fieldLink RX1 15 "Rackrail$Rail" "inside" "[Z") (by decide +kernel)) (fun _ h9 => h9) rfl dX1_isInside_9 ?_
    refine lv_iload_n hx hb dX1_isInside_12 rfl (lv_at hl 1 rfl) ?_
    refine va_zald hx hb hE.1 hP 1 1 rfl rfl (in_below rfl (by decide) c_5) dX1_isInside_13 ?_
    refine lv_if_eq (tgt := 21) hx hb dX1_isInside_14 (by decide) (fun c_14 => ?_) (fun c_14 => ?_)
    · refine lv_iconst (v := 0) hx hb dX1_isInside_21 (by decide) ?_
      have hq : f_X1_isInside ins p0 = 0 := (by rw [f_X1_isInside, if_neg c_5, if_pos c_14])
      exact W.zret (v := 0) hx hb hr rfl (fun t ht _ => ⟨by rw [hq], ht⟩) (fun _ h => nomatch h) dX1_isInside_22
    · refine lv_iconst (v := 1) hx hb dX1_isInside_17 (by decide) ?_
      refine lv_goto (tgt := 22) hx hb dX1_isInside_18 (by decide) ?_
      have hq : f_X1_isInside ins p0 = 1 := (by rw [f_X1_isInside, if_neg c_5, if_neg c_14])
      exact W.zret (v := 1) hx hb hr rfl (fun t ht _ => ⟨by rw [hq], ht⟩) (fun _ h => nomatch h) dX1_isInside_22

/-! X1_setInside -/
def f_X1_setInside (ins : Nat → Int32) (p0 : Int32) (p1 : Int32) : (Nat → Int32) :=
  if (f_X3_isBelow p0 4) = 0 then ins
    else upd ins p0.toNatClampNeg (vp_nar .boolean p1)
theorem iw_X1_setInside_RX1 : ∀ w ∈ u_ws RX1 TX1 7, w ∈ wsX1_setInside := by decide +kernel
set_option maxHeartbeats 4000000 in
set_option maxRecDepth 100000 in
theorem c_X1_setInside (l : Launch) (G : GT) (a : Nat → Nat) (sz : Nat) (gp : Int32) (tg : Int32) (st : Int32) (sm : Int32) (ins : Nat → Int32) (p0 : Int32) (p1 : Int32) : Met l yX1_setInside wsX1_setInside ({ frames := 1, cells := 0, slots := 0, locals := 21 }) (GP G [.ref (a 7), .int p0, .int p1] [wcR a gp tg st sm, wcZ G (a 9) 4 ins] sz) (MQo G (.returned none) [wcR a gp tg st sm, wcZ G (a 9) 4 (f_X1_setInside ins p0 p1)] (va_A [wcR a gp tg st sm, wcZ G (a 9) 4 ins] sz)) 0 0 (va_A [wcR a gp tg st sm, wcZ G (a 9) 4 ins] sz) := by
  refine bodyM (cc := cX1_setInside) (maxL := 3) (ret := none) (by decide) rfl (Nat.le_of_ble_eq_true rfl) ?_
  intro p e s m below meth c ls C
  obtain ⟨hx, hb, hr, hts, hown, hlocks, hml, hsz, hP, hE, hD, hA, hS, hl⟩ := C
  subst hsz
  have hl : lv_has ls 3 [(0, .ref (a 7)), (1, .int p0), (2, .int p1)] := hl
  refine lv_iload_n hx hb dX1_setInside_0 rfl (lv_at hl 1 rfl) ?_
  refine lv_iconst (v := 4) hx hb dX1_setInside_1 (by decide) ?_
  refine k_p (va_runSN (As := [.int p0, .int 4]) (rest := []) ⟨hx, hb, hml, hown, hts⟩ (c_X3_isBelow l G s.heap.size p0 4) ⟨va_cnB (host := "Rackrail") 2 hts gX1_setInside_X3_isBelow_n63 rfl rfl rfl (hE.2.1 (RX1, 63, yX3_isBelow) (by decide)) (hts (.initialized RX3) (by decide +kernel)) ⟨by decide +kernel, by decide +kernel, by decide +kernel⟩ ⟨Nat.le_of_ble_eq_true rfl, Nat.le_of_ble_eq_true rfl⟩, hts (.static yX3_isBelow) (by decide +kernel), trivial⟩ ⟨GP.blind, GP.go (wc := []) hE hP hD hS hA [] rfl (by decide) [.int p0, .int 4]⟩ rfl rfl hl.1 rfl (lv_room (Nat.le_of_ble_eq_true rfl)) dX1_setInside_2 ⟨Nat.le_of_ble_eq_true rfl, Nat.le_of_ble_eq_true rfl⟩) ?_
  refine lv_if_eq (tgt := 15) hx hb dX1_setInside_5 (by decide) (fun c_5 => ?_) (fun c_5 => ?_)
  · have hq : f_X1_setInside ins p0 p1 = ins := (by rw [f_X1_setInside, if_pos c_5])
    exact W.vret hx hb hr (fun t ht _ => ⟨rfl, by rw [hq, ht]; exact hP, hS.F ht⟩) hS.2.2 dX1_setInside_15
  · refine lv_aload_n hx hb dX1_setInside_8 rfl (lv_at hl 0 rfl) ?_
    refine va_get (D := G.1) (ci := 1) (v := .ref (a 9)) (C := RX1) (T := TX1) (N := 7) hx hb hts iw_X1_setInside_RX1 hown hE.1 hP 0 rfl rfl 1 (by decide) (hts (.fieldLink RX1 15 "Rackrail$Rail" "inside" "[Z") (by decide +kernel)) (fun _ h9 => h9) rfl dX1_setInside_9 ?_
    refine lv_iload_n hx hb dX1_setInside_12 rfl (lv_at hl 1 rfl) ?_
    refine lv_iload_n hx hb dX1_setInside_13 rfl (lv_at hl 2 rfl) ?_
    refine va_zast hx hb hE.1 hP hD hS 1 1 rfl rfl (in_below rfl (by decide) c_5) dX1_setInside_14 (fun H locs hP hD hS => ?_)
    have hP : va_P G.1 vwCl [wcR a gp tg st sm, wcZ G (a 9) 4 (upd ins p0.toNatClampNeg (vp_nar .boolean p1))] H := hP
    have hD : va_D _ [wcR a gp tg st sm, wcZ G (a 9) 4 (upd ins p0.toNatClampNeg (vp_nar .boolean p1))] := hD
    have hq : f_X1_setInside ins p0 p1 = upd ins p0.toNatClampNeg (vp_nar .boolean p1) := (by rw [f_X1_setInside, if_neg c_5])
    exact W.vret hx hb hr (fun t ht _ => ⟨rfl, by rw [hq, ht]; exact hP, hS.F ht⟩) hS.2.2 dX1_setInside_15

/-! X1_sendAllOut -/
def f_X1_sendAllOut_L (ins : Nat → Int32) : Nat → Nat → (Nat → Int32) → Int32 × (Nat → Int32)
  | 0, j, ins1 => (f_X1_countInside ins, ins1)
  | r + 1, j, ins1 => f_X1_sendAllOut_L ins r (j + 1) (upd ins1 (nI j).toNatClampNeg 0)
def f_X1_sendAllOut (ins : Nat → Int32) : Int32 × (Nat → Int32) :=
  f_X1_sendAllOut_L ins 4 0 ins
theorem iw_X1_sendAllOut_RX1 : ∀ w ∈ u_ws RX1 TX1 7, w ∈ wsX1_sendAllOut := by decide +kernel
set_option maxHeartbeats 4000000 in
set_option maxRecDepth 100000 in
theorem c_X1_sendAllOut (l : Launch) (G : GT) (a : Nat → Nat) (sz : Nat) (gp : Int32) (tg : Int32) (st : Int32) (sm : Int32) (ins : Nat → Int32) : Met l yX1_sendAllOut wsX1_sendAllOut ({ frames := 1, cells := 0, slots := 0, locals := 22 }) (GP G [.ref (a 7)] [wcR a gp tg st sm, wcZ G (a 9) 4 ins] sz) (MQo G (.returned (some (.int ((f_X1_sendAllOut ins).1)))) [wcR a gp tg st sm, wcZ G (a 9) 4 ((f_X1_sendAllOut ins).2)] (va_A [wcR a gp tg st sm, wcZ G (a 9) 4 ins] sz)) 0 0 (va_A [wcR a gp tg st sm, wcZ G (a 9) 4 ins] sz) := by
  refine bodyM (cc := cX1_sendAllOut) (maxL := 3) (ret := (some .int)) (by decide) rfl (Nat.le_of_ble_eq_true rfl) ?_
  intro p e s m below meth c ls C
  obtain ⟨hx, hb, hr, hts, hown, hlocks, hml, hsz, hP, hE, hD, hA, hS, hl⟩ := C
  subst hsz
  have hl : lv_has ls 3 [(0, .ref (a 7))] := hl
  refine lv_aload_n hx hb dX1_sendAllOut_0 rfl (lv_at hl 0 rfl) ?_
  refine k_p (va_runV (As := []) (rest := []) ⟨hx, hb, hml, hown, hts⟩ (c_X1_countInside l G a s.heap.size gp tg st sm ins) (cwV 0 hts gX1_sendAllOut_X1_countInside rfl rfl rfl ⟨rfl, by decide +kernel, by decide +kernel, by decide +kernel⟩ ⟨Nat.le_of_ble_eq_true rfl, Nat.le_of_ble_eq_true rfl⟩) ⟨GP.blind, va_recv hE.1 hP (ci := 1) (q0 := 0) rfl rfl, GP.go (wc := [wcR a gp tg st sm, wcZ G (a 9) 4 ins]) hE hP hD hS hA [0, 1] rfl (by decide) [.ref (a 7)]⟩ rfl rfl hl.1 rfl (lv_room (Nat.le_of_ble_eq_true rfl)) dX1_sendAllOut_1 ⟨Nat.le_of_ble_eq_true rfl, Nat.le_of_ble_eq_true rfl⟩) ?_
  refine lv_istore_n (lv' := [(1, .int (f_X1_countInside ins)), (0, .ref (a 7))]) hx hb dX1_sendAllOut_4 rfl hl (by decide) rfl (fun ls hl => ?_)
  refine lv_iconst (v := 0) hx hb dX1_sendAllOut_5 (by decide) ?_
  refine lv_istore_n (lv' := [(2, .int 0), (1, .int (f_X1_countInside ins)), (0, .ref (a 7))]) hx hb dX1_sendAllOut_6 rfl hl (by decide) rfl (fun ls hl => ?_)
  refine k_loopM (α := (Nat → Int32)) (fun (r j : Nat) (x : (Nat → Int32)) (H : Heap) (locs : List Loc) (ls : Array Slot) => j + r = 4 ∧ f_X1_sendAllOut ins = f_X1_sendAllOut_L ins r j x ∧ lv_has ls 3 [(2, .int (nI j)), (1, .int (f_X1_countInside ins)), (0, .ref (a 7))] ∧ va_P G.1 vwCl [wcR a gp tg st sm, wcZ G (a 9) 4 x] H ∧ va_D (va_A [wcR a gp tg st sm, wcZ G (a 9) 4 ins] s.heap.size) [wcR a gp tg st sm, wcZ G (a 9) 4 x] ∧ va_S (va_A [wcR a gp tg st sm, wcZ G (a 9) 4 ins] s.heap.size) s.heap H locs) 4 0 ins ⟨by omega, (by rw [f_X1_sendAllOut]), lv_sub hl [0, 1, 2] rfl, hP, hD, hS⟩ ?_ ?_
  · intro j x H locs ls hI
    obtain ⟨ins1, rfl⟩ : ∃ y, y = x := ⟨_, rfl⟩
    obtain ⟨hj, hf, hl, hP, hD, hS⟩ := hI
    have hl : lv_has ls 3 [(2, .int (nI j)), (1, .int (f_X1_countInside ins)), (0, .ref (a 7))] := hl
    have hf : f_X1_sendAllOut ins = f_X1_sendAllOut_L ins 0 j ins1 := hf
    have hP : va_P G.1 vwCl [wcR a gp tg st sm, wcZ G (a 9) 4 ins1] H := hP
    have hD : va_D _ [wcR a gp tg st sm, wcZ G (a 9) 4 ins1] := hD
    refine lv_iload_n hx hb dX1_sendAllOut_7 rfl (lv_at hl 0 rfl) ?_
    refine lv_iconst (v := 4) hx hb dX1_sendAllOut_8 (by decide) ?_
    refine lv_icmp_ge (tgt := 25) hx hb dX1_sendAllOut_9 (by decide) (fun c_9 => ?_) (fun c_9 => absurd (lp_a n4_eq (by omega) (by omega)) c_9)
    refine lv_iload_n hx hb dX1_sendAllOut_25 rfl (lv_at hl 1 rfl) ?_
    have hq : f_X1_sendAllOut ins = (f_X1_countInside ins, ins1) := (hf.trans (by rw [f_X1_sendAllOut_L]))
    exact W.iret (v := f_X1_countInside ins) hx hb hr (fun t ht _ => ⟨by rw [hq], by rw [hq, ht]; exact hP, hS.F ht⟩) hS.2.2 dX1_sendAllOut_26
  · intro r ih j x H locs ls hI
    obtain ⟨ins1, rfl⟩ : ∃ y, y = x := ⟨_, rfl⟩
    obtain ⟨hj, hf, hl, hP, hD, hS⟩ := hI
    have hl : lv_has ls 3 [(2, .int (nI j)), (1, .int (f_X1_countInside ins)), (0, .ref (a 7))] := hl
    have hf : f_X1_sendAllOut ins = f_X1_sendAllOut_L ins (r + 1) j ins1 := hf
    have hP : va_P G.1 vwCl [wcR a gp tg st sm, wcZ G (a 9) 4 ins1] H := hP
    have hD : va_D _ [wcR a gp tg st sm, wcZ G (a 9) 4 ins1] := hD
    refine lv_iload_n hx hb dX1_sendAllOut_7 rfl (lv_at hl 0 rfl) ?_
    refine lv_iconst (v := 4) hx hb dX1_sendAllOut_8 (by decide) ?_
    refine lv_icmp_ge (tgt := 25) hx hb dX1_sendAllOut_9 (by decide) (fun c_9 => absurd c_9 (lp_b (r := r) n4_eq (by omega) (by omega))) (fun c_9 => ?_)
    refine lv_aload_n hx hb dX1_sendAllOut_12 rfl (lv_at hl 2 rfl) ?_
    refine va_get (D := G.1) (ci := 1) (v := .ref (a 9)) (C := RX1) (T := TX1) (N := 7) hx hb hts iw_X1_sendAllOut_RX1 hown hE.1 hP 0 rfl rfl 1 (by decide) (hts (.fieldLink RX1 15 "Rackrail$Rail" "inside" "[Z") (by decide +kernel)) (fun _ h9 => h9) rfl dX1_sendAllOut_13 ?_
    refine lv_iload_n hx hb dX1_sendAllOut_16 rfl (lv_at hl 0 rfl) ?_
    refine lv_iconst (v := 0) hx hb dX1_sendAllOut_17 (by decide) ?_
    refine va_zast hx hb hE.1 hP hD hS 1 1 rfl rfl (vp_in_nI (by omega) (by decide)) dX1_sendAllOut_18 (fun H locs hP hD hS => ?_)
    have hP : va_P G.1 vwCl [wcR a gp tg st sm, wcZ G (a 9) 4 (upd ins1 (nI j).toNatClampNeg 0)] H := hP
    have hD : va_D _ [wcR a gp tg st sm, wcZ G (a 9) 4 (upd ins1 (nI j).toNatClampNeg 0)] := hD
    refine lv_iinc (v := nI (j + 1)) (lv' := [(2, .int (nI (j + 1))), (1, .int (f_X1_countInside ins)), (0, .ref (a 7))]) hx hb dX1_sendAllOut_19 hl (k := 0) rfl (inc1 _) (by decide) rfl (fun ls hl => ?_)
    refine lv_goto (tgt := 7) hx hb dX1_sendAllOut_22 (by decide) ?_
    exact ih (j + 1) (upd ins1 (nI j).toNatClampNeg 0) _ _ _ ⟨by omega, (hf.trans (by rw [f_X1_sendAllOut_L])), lv_sub hl [0, 1, 2] rfl, hP, hD, hS⟩
end
section
/-! X0_isFull -/
def f_X0_isFull (oc : Int32) : Int32 :=
  if oc < 30 then 0
    else 1
theorem b_X0_isFull (oc : Int32) : f_X0_isFull oc = 0 ∨ f_X0_isFull oc = 1 := by
  rw [f_X0_isFull]
  (repeat' split) <;> first | exact Or.inl rfl | exact Or.inr rfl
theorem in_fullO {oc : Int32} (hoc : okN 30 oc) (h : f_X0_isFull oc = 0) : vp_in oc 30 := by
  obtain ⟨n, hn, e⟩ := hoc
  refine in_of (by decide) (by rw [e]; exact nI_pos (by omega)) (fun z => ?_)
  have h1 : f_X0_isFull oc = 1 := by
    rw [f_X0_isFull, if_neg]
    intro z2
    rw [e] at z z2
    have h2 := (nI_leI (by decide) (by omega)).mp z
    exact absurd z2 (nI_nlt h2 (by omega))
  rw [h1] at h
  exact absurd h (by decide)
theorem iw_X0_isFull_RX0 : ∀ w ∈ u_ws RX0 TX0 5, w ∈ wsX0_isFull := by decide +kernel
set_option maxHeartbeats 4000000 in
set_option maxRecDepth 100000 in
theorem c_X0_isFull (l : Launch) (G : GT) (a : Nat → Nat) (sz : Nat) (oc : Int32) (lt : Int32) : Met l yX0_isFull wsX0_isFull ({ frames := 0, cells := 0, slots := 0, locals := 0 }) (GP G [.ref (a 11)] [wcO a oc lt] sz) (PQo (.returned (some (.int (f_X0_isFull oc))))) 0 0 (fun _ => False) := by
  refine bodyM (cc := cX0_isFull) (maxL := 1) (ret := (some .boolean)) (by decide) rfl (Nat.le_of_ble_eq_true rfl) ?_
  intro p e s m below meth c ls C
  obtain ⟨hx, hb, hr, hts, hown, hlocks, hml, hsz, hP, hE, hD, hA, hS, hl⟩ := C
  subst hsz
  have hl : lv_has ls 1 [(0, .ref (a 11))] := hl
  refine lv_aload_n hx hb dX0_isFull_0 rfl (lv_at hl 0 rfl) ?_
  refine va_get (D := G.1) (ci := 0) (v := .int oc) (C := RX0) (T := TX0) (N := 5) hx hb hts iw_X0_isFull_RX0 hown hE.1 hP 0 rfl rfl 3 (by decide) (hts (.fieldLink RX0 22 "Rackrail$Orders" "count" "I") (by decide +kernel)) (fun _ h9 => h9) rfl dX0_isFull_1 ?_
  refine lv_bipush (v := 30) hx hb dX0_isFull_4 (by decide) ?_
  refine lv_icmp_lt (tgt := 13) hx hb dX0_isFull_6 (by decide) (fun c_6 => ?_) (fun c_6 => ?_)
  · refine lv_iconst (v := 0) hx hb dX0_isFull_13 (by decide) ?_
    have hq : f_X0_isFull oc = 0 := (by rw [f_X0_isFull, if_pos c_6])
    exact W.zret (v := 0) hx hb hr rfl (fun t ht _ => ⟨by rw [hq], ht⟩) (fun _ h => nomatch h) dX0_isFull_14
  · refine lv_iconst (v := 1) hx hb dX0_isFull_9 (by decide) ?_
    refine lv_goto (tgt := 14) hx hb dX0_isFull_10 (by decide) ?_
    have hq : f_X0_isFull oc = 1 := (by rw [f_X0_isFull, if_neg c_6])
    exact W.zret (v := 1) hx hb hr rfl (fun t ht _ => ⟨by rw [hq], ht⟩) (fun _ h => nomatch h) dX0_isFull_14

/-! X0_enter -/
def f_X0_enter (oc : Int32) (ob : Nat → Int32) (od : Nat → Int32) (p0 : Int32) (p1 : Int32) : Int32 × Int32 × (Nat → Int32) × (Nat → Int32) :=
  if (f_X0_isFull oc) = 0 then (oc, oc + 1, upd ob oc.toNatClampNeg p0, upd od oc.toNatClampNeg p1)
    else ((-1), oc, ob, od)
theorem iw_X0_enter_RX0 : ∀ w ∈ u_ws RX0 TX0 5, w ∈ wsX0_enter := by decide +kernel
set_option maxHeartbeats 4000000 in
set_option maxRecDepth 100000 in
theorem c_X0_enter (l : Launch) (G : GT) (a : Nat → Nat) (sz : Nat) (oc : Int32) (lt : Int32) (ob : Nat → Int32) (od : Nat → Int32) (p0 : Int32) (p1 : Int32) (hoc : okN 30 oc) : Met l yX0_enter wsX0_enter ({ frames := 1, cells := 0, slots := 0, locals := 20 }) (GP G [.ref (a 11), .int p0, .int p1] [wcO a oc lt, wcI G (a 12) 30 ob, wcI G (a 13) 30 od] sz) (MQo G (.returned (some (.int ((f_X0_enter oc ob od p0 p1).1)))) [wcO a ((f_X0_enter oc ob od p0 p1).2.1) lt, wcI G (a 12) 30 ((f_X0_enter oc ob od p0 p1).2.2.1), wcI G (a 13) 30 ((f_X0_enter oc ob od p0 p1).2.2.2)] (va_A [wcO a oc lt, wcI G (a 12) 30 ob, wcI G (a 13) 30 od] sz)) 0 0 (va_A [wcO a oc lt, wcI G (a 12) 30 ob, wcI G (a 13) 30 od] sz) := by
  refine bodyM (cc := cX0_enter) (maxL := 4) (ret := (some .int)) (by decide) rfl (Nat.le_of_ble_eq_true rfl) ?_
  intro p e s m below meth c ls C
  obtain ⟨hx, hb, hr, hts, hown, hlocks, hml, hsz, hP, hE, hD, hA, hS, hl⟩ := C
  subst hsz
  have hl : lv_has ls 4 [(0, .ref (a 11)), (1, .int p0), (2, .int p1)] := hl
  refine lv_aload_n hx hb dX0_enter_0 rfl (lv_at hl 0 rfl) ?_
  refine k_p (va_runV (As := []) (rest := []) ⟨hx, hb, hml, hown, hts⟩ (c_X0_isFull l G a s.heap.size oc lt) (cwV 0 hts gX0_enter_X0_isFull rfl rfl rfl ⟨rfl, by decide +kernel, by decide +kernel, by decide +kernel⟩ ⟨Nat.le_of_ble_eq_true rfl, Nat.le_of_ble_eq_true rfl⟩) ⟨GP.blind, va_recv hE.1 hP (ci := 0) (q0 := 0) rfl rfl, GP.go (wc := [wcO a oc lt]) hE hP hD hS hA [0] rfl (by decide) [.ref (a 11)]⟩ rfl rfl hl.1 rfl (lv_room (Nat.le_of_ble_eq_true rfl)) dX0_enter_1 ⟨Nat.le_of_ble_eq_true rfl, Nat.le_of_ble_eq_true rfl⟩) ?_
  refine lv_if_eq (tgt := 9) hx hb dX0_enter_4 (by decide) (fun c_4 => ?_) (fun c_4 => ?_)
  · refine lv_aload_n hx hb dX0_enter_9 rfl (lv_at hl 0 rfl) ?_
    refine va_get (D := G.1) (ci := 0) (v := .int oc) (C := RX0) (T := TX0) (N := 5) hx hb hts iw_X0_enter_RX0 hown hE.1 hP 0 rfl rfl 3 (by decide) (hts (.fieldLink RX0 22 "Rackrail$Orders" "count" "I") (by decide +kernel)) (fun _ h9 => h9) rfl dX0_enter_10 ?_
    refine lv_istore_n (lv' := [(3, .int oc), (0, .ref (a 11)), (1, .int p0), (2, .int p1)]) hx hb dX0_enter_13 rfl hl (by decide) rfl (fun ls hl => ?_)
    refine lv_aload_n hx hb dX0_enter_14 rfl (lv_at hl 1 rfl) ?_
    refine va_get (D := G.1) (ci := 0) (v := .ref (a 12)) (C := RX0) (T := TX0) (N := 5) hx hb hts iw_X0_enter_RX0 hown hE.1 hP 0 rfl rfl 0 (by decide) (hts (.fieldLink RX0 9 "Rackrail$Orders" "boxes" "[I") (by decide +kernel)) (fun _ h9 => h9) rfl dX0_enter_15 ?_
    refine lv_iload_n hx hb dX0_enter_18 rfl (lv_at hl 0 rfl) ?_
    refine lv_iload_n hx hb dX0_enter_19 rfl (lv_at hl 2 rfl) ?_
    refine va_iast hx hb hE.1 hP hD hS 1 0 rfl rfl (in_fullO hoc c_4) dX0_enter_20 (fun H locs hP hD hS => ?_)
    have hP : va_P G.1 vwCl [wcO a oc lt, wcI G (a 12) 30 (upd ob oc.toNatClampNeg p0), wcI G (a 13) 30 od] H := hP
    have hD : va_D _ [wcO a oc lt, wcI G (a 12) 30 (upd ob oc.toNatClampNeg p0), wcI G (a 13) 30 od] := hD
    refine lv_aload_n hx hb dX0_enter_21 rfl (lv_at hl 1 rfl) ?_
    refine va_get (D := G.1) (ci := 0) (v := .ref (a 13)) (C := RX0) (T := TX0) (N := 5) hx hb hts iw_X0_enter_RX0 hown hE.1 hP 0 rfl rfl 1 (by decide) (hts (.fieldLink RX0 15 "Rackrail$Orders" "deadlines" "[I") (by decide +kernel)) (fun _ h9 => h9) rfl dX0_enter_22 ?_
    refine lv_iload_n hx hb dX0_enter_25 rfl (lv_at hl 0 rfl) ?_
    refine lv_iload_n hx hb dX0_enter_26 rfl (lv_at hl 3 rfl) ?_
    refine va_iast hx hb hE.1 hP hD hS 2 0 rfl rfl (in_fullO hoc c_4) dX0_enter_27 (fun H locs hP hD hS => ?_)
    have hP : va_P G.1 vwCl [wcO a oc lt, wcI G (a 12) 30 (upd ob oc.toNatClampNeg p0), wcI G (a 13) 30 (upd od oc.toNatClampNeg p1)] H := hP
    have hD : va_D _ [wcO a oc lt, wcI G (a 12) 30 (upd ob oc.toNatClampNeg p0), wcI G (a 13) 30 (upd od oc.toNatClampNeg p1)] := hD
    refine lv_aload_n hx hb dX0_enter_28 rfl (lv_at hl 1 rfl) ?_
    refine lv_dup hx hb dX0_enter_29 rfl ?_
    refine va_get (D := G.1) (ci := 0) (v := .int oc) (C := RX0) (T := TX0) (N := 5) hx hb hts iw_X0_enter_RX0 hown hE.1 hP 0 rfl rfl 3 (by decide) (hts (.fieldLink RX0 22 "Rackrail$Orders" "count" "I") (by decide +kernel)) (fun _ h9 => h9) rfl dX0_enter_30 ?_
    refine lv_iconst (v := 1) hx hb dX0_enter_33 (by decide) ?_
    refine lv_iadd hx hb dX0_enter_34 ?_
    refine va_put (D := G.1) (ci := 0) (v := .int (oc + 1)) (ty := .int) (C := RX0) (T := TX0) (N := 5) hx hb hts iw_X0_enter_RX0 tyX0 tyX0_ok nmX0 hown hE.1 hP hD hS 0 rfl rfl 3 (by decide) (hts (.fieldLink RX0 22 "Rackrail$Orders" "count" "I") (by decide +kernel)) (fun _ h9 => h9) rfl (by decide +kernel) rfl rfl (Nat.le_of_ble_eq_true rfl) dX0_enter_35 (fun H locs hP hD hS => ?_)
    have hP : va_P G.1 vwCl [wcO a (oc + 1) lt, wcI G (a 12) 30 (upd ob oc.toNatClampNeg p0), wcI G (a 13) 30 (upd od oc.toNatClampNeg p1)] H := hP
    have hD : va_D _ [wcO a (oc + 1) lt, wcI G (a 12) 30 (upd ob oc.toNatClampNeg p0), wcI G (a 13) 30 (upd od oc.toNatClampNeg p1)] := hD
    refine lv_iload_n hx hb dX0_enter_38 rfl (lv_at hl 0 rfl) ?_
    have hq : f_X0_enter oc ob od p0 p1 = (oc, oc + 1, upd ob oc.toNatClampNeg p0, upd od oc.toNatClampNeg p1) := (by rw [f_X0_enter, if_pos c_4])
    exact W.iret (v := oc) hx hb hr (fun t ht _ => ⟨by rw [hq], by rw [hq, ht]; exact hP, hS.F ht⟩) hS.2.2 dX0_enter_39
  · refine lv_iconst (v := (-1)) hx hb dX0_enter_7 (by decide) ?_
    have hq : f_X0_enter oc ob od p0 p1 = ((-1), oc, ob, od) := (by rw [f_X0_enter, if_neg c_4])
    exact W.iret (v := (-1)) hx hb hr (fun t ht _ => ⟨by rw [hq], by rw [hq, ht]; exact hP, hS.F ht⟩) hS.2.2 dX0_enter_8

/-! X0_boxOf -/
def f_X0_boxOf (oc : Int32) (ob : Nat → Int32) (p0 : Int32) : Int32 :=
  if (f_X3_isBelow p0 oc) = 0 then (-1)
    else ob p0.toNatClampNeg
theorem iw_X0_boxOf_RX0 : ∀ w ∈ u_ws RX0 TX0 5, w ∈ wsX0_boxOf := by decide +kernel
set_option maxHeartbeats 4000000 in
set_option maxRecDepth 100000 in
theorem c_X0_boxOf (l : Launch) (G : GT) (a : Nat → Nat) (sz : Nat) (oc : Int32) (lt : Int32) (ob : Nat → Int32) (p0 : Int32) (hoc : okN 30 oc) : Met l yX0_boxOf wsX0_boxOf ({ frames := 1, cells := 0, slots := 0, locals := 21 }) (GP G [.ref (a 11), .int p0] [wcO a oc lt, wcI G (a 12) 30 ob] sz) (PQo (.returned (some (.int (f_X0_boxOf oc ob p0))))) 0 0 (fun _ => False) := by
  refine bodyM (cc := cX0_boxOf) (maxL := 2) (ret := (some .int)) (by decide) rfl (Nat.le_of_ble_eq_true rfl) ?_
  intro p e s m below meth c ls C
  obtain ⟨hx, hb, hr, hts, hown, hlocks, hml, hsz, hP, hE, hD, hA, hS, hl⟩ := C
  subst hsz
  have hl : lv_has ls 2 [(0, .ref (a 11)), (1, .int p0)] := hl
  refine lv_iload_n hx hb dX0_boxOf_0 rfl (lv_at hl 1 rfl) ?_
  refine lv_aload_n hx hb dX0_boxOf_1 rfl (lv_at hl 0 rfl) ?_
  refine va_get (D := G.1) (ci := 0) (v := .int oc) (C := RX0) (T := TX0) (N := 5) hx hb hts iw_X0_boxOf_RX0 hown hE.1 hP 0 rfl rfl 3 (by decide) (hts (.fieldLink RX0 22 "Rackrail$Orders" "count" "I") (by decide +kernel)) (fun _ h9 => h9) rfl dX0_boxOf_2 ?_
  refine k_p (va_runSN (As := [.int p0, .int oc]) (rest := []) ⟨hx, hb, hml, hown, hts⟩ (c_X3_isBelow l G s.heap.size p0 oc) ⟨va_cnB (host := "Rackrail") 2 hts gX0_boxOf_X3_isBelow_n33 rfl rfl rfl (hE.2.1 (RX0, 33, yX3_isBelow) (by decide)) (hts (.initialized RX3) (by decide +kernel)) ⟨by decide +kernel, by decide +kernel, by decide +kernel⟩ ⟨Nat.le_of_ble_eq_true rfl, Nat.le_of_ble_eq_true rfl⟩, hts (.static yX3_isBelow) (by decide +kernel), trivial⟩ ⟨GP.blind, GP.go (wc := []) hE hP hD hS hA [] rfl (by decide) [.int p0, .int oc]⟩ rfl rfl hl.1 rfl (lv_room (Nat.le_of_ble_eq_true rfl)) dX0_boxOf_5 ⟨Nat.le_of_ble_eq_true rfl, Nat.le_of_ble_eq_true rfl⟩) ?_
  refine lv_if_eq (tgt := 20) hx hb dX0_boxOf_8 (by decide) (fun c_8 => ?_) (fun c_8 => ?_)
  · refine lv_iconst (v := (-1)) hx hb dX0_boxOf_20 (by decide) ?_
    have hq : f_X0_boxOf oc ob p0 = (-1) := (by rw [f_X0_boxOf, if_pos c_8])
    exact W.iret (v := (-1)) hx hb hr (fun t ht _ => ⟨by rw [hq], ht⟩) (fun _ h => nomatch h) dX0_boxOf_21
  · refine lv_aload_n hx hb dX0_boxOf_11 rfl (lv_at hl 0 rfl) ?_
    refine va_get (D := G.1) (ci := 0) (v := .ref (a 12)) (C := RX0) (T := TX0) (N := 5) hx hb hts iw_X0_boxOf_RX0 hown hE.1 hP 0 rfl rfl 0 (by decide) (hts (.fieldLink RX0 9 "Rackrail$Orders" "boxes" "[I") (by decide +kernel)) (fun _ h9 => h9) rfl dX0_boxOf_12 ?_
    refine lv_iload_n hx hb dX0_boxOf_15 rfl (lv_at hl 1 rfl) ?_
    refine va_iald hx hb hE.1 hP 1 0 rfl rfl (in_mo hoc c_8) dX0_boxOf_16 ?_
    refine lv_goto (tgt := 21) hx hb dX0_boxOf_17 (by decide) ?_
    have hq : f_X0_boxOf oc ob p0 = (ob p0.toNatClampNeg) := (by rw [f_X0_boxOf, if_neg c_8])
    exact W.iret (v := ob p0.toNatClampNeg) hx hb hr (fun t ht _ => ⟨by rw [hq], ht⟩) (fun _ h => nomatch h) dX0_boxOf_21

/-! X0_isOpenFor -/
def f_X0_isOpenFor_L (ob : Nat → Int32) (dn : Nat → Int32) (p0 : Int32) : Nat → Nat → Int32
  | 0, j => 0
  | r + 1, j => if (dn (nI j).toNatClampNeg) = 0 then (if (ob (nI j).toNatClampNeg) = p0 then 1
      else f_X0_isOpenFor_L ob dn p0 r (j + 1))
    else f_X0_isOpenFor_L ob dn p0 r (j + 1)
def f_X0_isOpenFor (oc : Int32) (ob : Nat → Int32) (dn : Nat → Int32) (p0 : Int32) : Int32 :=
  f_X0_isOpenFor_L ob dn p0 oc.toNatClampNeg 0
theorem iw_X0_isOpenFor_RX0 : ∀ w ∈ u_ws RX0 TX0 5, w ∈ wsX0_isOpenFor := by decide +kernel
set_option maxHeartbeats 4000000 in
set_option maxRecDepth 100000 in
theorem c_X0_isOpenFor (l : Launch) (G : GT) (a : Nat → Nat) (sz : Nat) (oc : Int32) (lt : Int32) (ob : Nat → Int32) (dn : Nat → Int32) (p0 : Int32) (hoc : okN 30 oc) : Met l yX0_isOpenFor wsX0_isOpenFor ({ frames := 0, cells := 0, slots := 0, locals := 0 }) (GP G [.ref (a 11), .int p0] [wcO a oc lt, wcI G (a 12) 30 ob, wcZ G (a 14) 30 dn] sz) (PQo (.returned (some (.int (f_X0_isOpenFor oc ob dn p0))))) 0 0 (fun _ => False) := by
  refine bodyM (cc := cX0_isOpenFor) (maxL := 3) (ret := (some .boolean)) (by decide) rfl (Nat.le_of_ble_eq_true rfl) ?_
  intro p e s m below meth c ls C
  obtain ⟨hx, hb, hr, hts, hown, hlocks, hml, hsz, hP, hE, hD, hA, hS, hl⟩ := C
  subst hsz
  have hl : lv_has ls 3 [(0, .ref (a 11)), (1, .int p0)] := hl
  obtain ⟨n, hn, hoc2⟩ := id hoc
  have hcl : oc.toNatClampNeg = n := by rw [hoc2]; exact nI_clamp (by omega)
  refine lv_iconst (v := 0) hx hb dX0_isOpenFor_0 (by decide) ?_
  refine lv_istore_n (lv' := [(2, .int 0), (0, .ref (a 11)), (1, .int p0)]) hx hb dX0_isOpenFor_1 rfl hl (by decide) rfl (fun ls hl => ?_)
  refine k_loopP (α := Unit) (fun (r j : Nat) (x : Unit) (ls : Array Slot) => j + r = n ∧ f_X0_isOpenFor oc ob dn p0 = f_X0_isOpenFor_L ob dn p0 r j ∧ lv_has ls 3 [(2, .int (nI j)), (0, .ref (a 11)), (1, .int p0)]) n 0 () ⟨by omega, (by rw [f_X0_isOpenFor, hcl]), lv_sub hl [0, 1, 2] rfl⟩ ?_ ?_
  · intro j x ls hI
    obtain ⟨hj, hf, hl⟩ := hI
    have hl : lv_has ls 3 [(2, .int (nI j)), (0, .ref (a 11)), (1, .int p0)] := hl
    have hf : f_X0_isOpenFor oc ob dn p0 = f_X0_isOpenFor_L ob dn p0 0 j := hf
    refine lv_iload_n hx hb dX0_isOpenFor_2 rfl (lv_at hl 0 rfl) ?_
    refine lv_aload_n hx hb dX0_isOpenFor_3 rfl (lv_at hl 1 rfl) ?_
    refine va_get (D := G.1) (ci := 0) (v := .int oc) (C := RX0) (T := TX0) (N := 5) hx hb hts iw_X0_isOpenFor_RX0 hown hE.1 hP 0 rfl rfl 3 (by decide) (hts (.fieldLink RX0 22 "Rackrail$Orders" "count" "I") (by decide +kernel)) (fun _ h9 => h9) rfl dX0_isOpenFor_4 ?_
    refine lv_icmp_ge (tgt := 37) hx hb dX0_isOpenFor_7 (by decide) (fun c_7 => ?_) (fun c_7 => absurd (lp_a hoc2 (by omega) (by omega)) c_7)
    refine lv_iconst (v := 0) hx hb dX0_isOpenFor_37 (by decide) ?_
    have hq : f_X0_isOpenFor oc ob dn p0 = 0 := (hf.trans (by rw [f_X0_isOpenFor_L]))
    exact W.zret (v := 0) hx hb hr rfl (fun t ht _ => ⟨by rw [hq], ht⟩) (fun _ h => nomatch h) dX0_isOpenFor_38
  · intro r ih j x ls hI
    obtain ⟨hj, hf, hl⟩ := hI
    have hl : lv_has ls 3 [(2, .int (nI j)), (0, .ref (a 11)), (1, .int p0)] := hl
    have hf : f_X0_isOpenFor oc ob dn p0 = f_X0_isOpenFor_L ob dn p0 (r + 1) j := hf
    refine lv_iload_n hx hb dX0_isOpenFor_2 rfl (lv_at hl 0 rfl) ?_
    refine lv_aload_n hx hb dX0_isOpenFor_3 rfl (lv_at hl 1 rfl) ?_
    refine va_get (D := G.1) (ci := 0) (v := .int oc) (C := RX0) (T := TX0) (N := 5) hx hb hts iw_X0_isOpenFor_RX0 hown hE.1 hP 0 rfl rfl 3 (by decide) (hts (.fieldLink RX0 22 "Rackrail$Orders" "count" "I") (by decide +kernel)) (fun _ h9 => h9) rfl dX0_isOpenFor_4 ?_
    refine lv_icmp_ge (tgt := 37) hx hb dX0_isOpenFor_7 (by decide) (fun c_7 => absurd c_7 (lp_b (r := r) hoc2 (by omega) (by omega))) (fun c_7 => ?_)
    refine lv_aload_n hx hb dX0_isOpenFor_10 rfl (lv_at hl 1 rfl) ?_
    refine va_get (D := G.1) (ci := 0) (v := .ref (a 14)) (C := RX0) (T := TX0) (N := 5) hx hb hts iw_X0_isOpenFor_RX0 hown hE.1 hP 0 rfl rfl 2 (by decide) (hts (.fieldLink RX0 18 "Rackrail$Orders" "done" "[Z") (by decide +kernel)) (fun _ h9 => h9) rfl dX0_isOpenFor_11 ?_
    refine lv_iload_n hx hb dX0_isOpenFor_14 rfl (lv_at hl 0 rfl) ?_
    refine va_zald hx hb hE.1 hP 2 1 rfl rfl (vp_in_nI (by omega) (by decide)) dX0_isOpenFor_15 ?_
    refine lv_if_ne (tgt := 31) hx hb dX0_isOpenFor_16 (by decide) (fun c_16 => ?_) (fun c_16 => ?_)
    · refine lv_iinc (v := nI (j + 1)) (lv' := [(2, .int (nI (j + 1))), (0, .ref (a 11)), (1, .int p0)]) hx hb dX0_isOpenFor_31 hl (k := 0) rfl (inc1 _) (by decide) rfl (fun ls hl => ?_)
      refine lv_goto (tgt := 2) hx hb dX0_isOpenFor_34 (by decide) ?_
      exact ih (j + 1) () _ ⟨by omega, (hf.trans (by rw [f_X0_isOpenFor_L, if_neg c_16])), lv_sub hl [0, 1, 2] rfl⟩
    · refine lv_aload_n hx hb dX0_isOpenFor_19 rfl (lv_at hl 1 rfl) ?_
      refine va_get (D := G.1) (ci := 0) (v := .ref (a 12)) (C := RX0) (T := TX0) (N := 5) hx hb hts iw_X0_isOpenFor_RX0 hown hE.1 hP 0 rfl rfl 0 (by decide) (hts (.fieldLink RX0 9 "Rackrail$Orders" "boxes" "[I") (by decide +kernel)) (fun _ h9 => h9) rfl dX0_isOpenFor_20 ?_
      refine lv_iload_n hx hb dX0_isOpenFor_23 rfl (lv_at hl 0 rfl) ?_
      refine va_iald hx hb hE.1 hP 1 0 rfl rfl (vp_in_nI (by omega) (by decide)) dX0_isOpenFor_24 ?_
      refine lv_iload_n hx hb dX0_isOpenFor_25 rfl (lv_at hl 2 rfl) ?_
      refine lv_icmp_ne (tgt := 31) hx hb dX0_isOpenFor_26 (by decide) (fun c_26 => ?_) (fun c_26 => ?_)
      · refine lv_iinc (v := nI (j + 1)) (lv' := [(2, .int (nI (j + 1))), (0, .ref (a 11)), (1, .int p0)]) hx hb dX0_isOpenFor_31 hl (k := 0) rfl (inc1 _) (by decide) rfl (fun ls hl => ?_)
        refine lv_goto (tgt := 2) hx hb dX0_isOpenFor_34 (by decide) ?_
        exact ih (j + 1) () _ ⟨by omega, (hf.trans (by rw [f_X0_isOpenFor_L, if_pos c_16, if_neg c_26])), lv_sub hl [0, 1, 2] rfl⟩
      · refine lv_iconst (v := 1) hx hb dX0_isOpenFor_29 (by decide) ?_
        have hq : f_X0_isOpenFor oc ob dn p0 = 1 := (hf.trans (by rw [f_X0_isOpenFor_L, if_pos c_16, if_pos c_26]))
        exact W.zret (v := 1) hx hb hr rfl (fun t ht _ => ⟨by rw [hq], ht⟩) (fun _ h => nomatch h) dX0_isOpenFor_30

/-! X0_earliest -/
def f_X0_earliest_L (ob : Nat → Int32) (od : Nat → Int32) (dn : Nat → Int32) (cn : Int32) (sp : Nat → Int32) (p0 : Int32) : Nat → Nat → Int32 → Int32 → Int32
  | 0, j, bst, bdl => bst
  | r + 1, j, bst, bdl => if (f_X2_aisleOfBox cn sp (ob (nI j).toNatClampNeg)) = (-1) then (if (dn (nI j).toNatClampNeg) = 0 then f_X0_earliest_L ob od dn cn sp p0 r (j + 1) bst bdl
      else f_X0_earliest_L ob od dn cn sp p0 r (j + 1) bst bdl)
    else if p0 = (-2) then (if (dn (nI j).toNatClampNeg) = 0 then (if bdl ≤ (od (nI j).toNatClampNeg) then f_X0_earliest_L ob od dn cn sp p0 r (j + 1) bst bdl
        else f_X0_earliest_L ob od dn cn sp p0 r (j + 1) (nI j) (od (nI j).toNatClampNeg))
      else f_X0_earliest_L ob od dn cn sp p0 r (j + 1) bst bdl)
    else if (f_X2_aisleOfBox cn sp (ob (nI j).toNatClampNeg)) = p0 then (if (dn (nI j).toNatClampNeg) = 0 then (if bdl ≤ (od (nI j).toNatClampNeg) then f_X0_earliest_L ob od dn cn sp p0 r (j + 1) bst bdl
        else f_X0_earliest_L ob od dn cn sp p0 r (j + 1) (nI j) (od (nI j).toNatClampNeg))
      else f_X0_earliest_L ob od dn cn sp p0 r (j + 1) bst bdl)
    else if (dn (nI j).toNatClampNeg) = 0 then f_X0_earliest_L ob od dn cn sp p0 r (j + 1) bst bdl
    else f_X0_earliest_L ob od dn cn sp p0 r (j + 1) bst bdl
def f_X0_earliest (oc : Int32) (ob : Nat → Int32) (od : Nat → Int32) (dn : Nat → Int32) (cn : Int32) (sp : Nat → Int32) (p0 : Int32) : Int32 :=
  f_X0_earliest_L ob od dn cn sp p0 oc.toNatClampNeg 0 (-1) 10001
theorem iw_X0_earliest_RX0 : ∀ w ∈ u_ws RX0 TX0 5, w ∈ wsX0_earliest := by decide +kernel
set_option maxHeartbeats 4000000 in
set_option maxRecDepth 100000 in
theorem c_X0_earliest (l : Launch) (G : GT) (a : Nat → Nat) (sz : Nat) (oc : Int32) (lt : Int32) (ob : Nat → Int32) (od : Nat → Int32) (dn : Nat → Int32) (cn : Int32) (sp : Nat → Int32) (p0 : Int32) (hcn : okN 20 cn) (hoc : okN 30 oc) : Met l yX0_earliest wsX0_earliest ({ frames := 4, cells := 0, slots := 0, locals := 85 }) (GP G [.ref (a 11), .ref (a 1), .int p0] [wcO a oc lt, wcI G (a 12) 30 ob, wcI G (a 13) 30 od, wcZ G (a 14) 30 dn, wcS a cn, wcI G (a 6) 20 sp] sz) (PQo (.returned (some (.int (f_X0_earliest oc ob od dn cn sp p0))))) 0 0 (fun _ => False) := by
  refine bodyM (cc := cX0_earliest) (maxL := 8) (ret := (some .int)) (by decide) rfl (Nat.le_of_ble_eq_true rfl) ?_
  intro p e s m below meth c ls C
  obtain ⟨hx, hb, hr, hts, hown, hlocks, hml, hsz, hP, hE, hD, hA, hS, hl⟩ := C
  subst hsz
  have hl : lv_has ls 8 [(0, .ref (a 11)), (1, .ref (a 1)), (2, .int p0)] := hl
  obtain ⟨n, hn, hoc2⟩ := id hoc
  have hcl : oc.toNatClampNeg = n := by rw [hoc2]; exact nI_clamp (by omega)
  refine lv_iconst (v := (-1)) hx hb dX0_earliest_0 (by decide) ?_
  refine lv_istore_n (lv' := [(3, .int (-1)), (0, .ref (a 11)), (1, .ref (a 1)), (2, .int p0)]) hx hb dX0_earliest_1 rfl hl (by decide) rfl (fun ls hl => ?_)
  refine lv_sipush (v := 10001) hx hb dX0_earliest_2 (by decide) ?_
  refine lv_istore (lv' := [(4, .int 10001), (3, .int (-1)), (0, .ref (a 11)), (1, .ref (a 1)), (2, .int p0)]) hx hb dX0_earliest_5 hl (by decide) rfl (fun ls hl => ?_)
  refine lv_iconst (v := 0) hx hb dX0_earliest_7 (by decide) ?_
  refine lv_istore (lv' := [(5, .int 0), (4, .int 10001), (3, .int (-1)), (0, .ref (a 11)), (1, .ref (a 1)), (2, .int p0)]) hx hb dX0_earliest_8 hl (by decide) rfl (fun ls hl => ?_)
  refine k_loopP (α := Int32 × Int32) (fun (r j : Nat) (x : Int32 × Int32) (ls : Array Slot) => j + r = n ∧ f_X0_earliest oc ob od dn cn sp p0 = f_X0_earliest_L ob od dn cn sp p0 r j x.1 x.2 ∧ lv_has ls 8 [(5, .int (nI j)), (3, .int x.1), (4, .int x.2), (0, .ref (a 11)), (1, .ref (a 1)), (2, .int p0)]) n 0 ((-1), 10001) ⟨by omega, (by rw [f_X0_earliest, hcl]), lv_sub hl [0, 2, 1, 3, 4, 5] rfl⟩ ?_ ?_
  · intro j x ls hI
    obtain ⟨bst, bdl⟩ := x
    obtain ⟨hj, hf, hl⟩ := hI
    have hl : lv_has ls 8 [(5, .int (nI j)), (3, .int bst), (4, .int bdl), (0, .ref (a 11)), (1, .ref (a 1)), (2, .int p0)] := hl
    have hf : f_X0_earliest oc ob od dn cn sp p0 = f_X0_earliest_L ob od dn cn sp p0 0 j bst bdl := hf
    refine lv_iload hx hb dX0_earliest_10 (lv_at hl 0 rfl) ?_
    refine lv_aload_n hx hb dX0_earliest_12 rfl (lv_at hl 3 rfl) ?_
    refine va_get (D := G.1) (ci := 0) (v := .int oc) (C := RX0) (T := TX0) (N := 5) hx hb hts iw_X0_earliest_RX0 hown hE.1 hP 0 rfl rfl 3 (by decide) (hts (.fieldLink RX0 22 "Rackrail$Orders" "count" "I") (by decide +kernel)) (fun _ h9 => h9) rfl dX0_earliest_13 ?_
    refine lv_icmp_ge (tgt := 102) hx hb dX0_earliest_16 (by decide) (fun c_16 => ?_) (fun c_16 => absurd (lp_a hoc2 (by omega) (by omega)) c_16)
    refine lv_iload_n hx hb dX0_earliest_102 rfl (lv_at hl 1 rfl) ?_
    have hq : f_X0_earliest oc ob od dn cn sp p0 = bst := (hf.trans (by rw [f_X0_earliest_L]))
    exact W.iret (v := bst) hx hb hr (fun t ht _ => ⟨by rw [hq], ht⟩) (fun _ h => nomatch h) dX0_earliest_103
  · intro r ih j x ls hI
    obtain ⟨bst, bdl⟩ := x
    obtain ⟨hj, hf, hl⟩ := hI
    have hl : lv_has ls 8 [(5, .int (nI j)), (3, .int bst), (4, .int bdl), (0, .ref (a 11)), (1, .ref (a 1)), (2, .int p0)] := hl
    have hf : f_X0_earliest oc ob od dn cn sp p0 = f_X0_earliest_L ob od dn cn sp p0 (r + 1) j bst bdl := hf
    refine lv_iload hx hb dX0_earliest_10 (lv_at hl 0 rfl) ?_
    refine lv_aload_n hx hb dX0_earliest_12 rfl (lv_at hl 3 rfl) ?_
    refine va_get (D := G.1) (ci := 0) (v := .int oc) (C := RX0) (T := TX0) (N := 5) hx hb hts iw_X0_earliest_RX0 hown hE.1 hP 0 rfl rfl 3 (by decide) (hts (.fieldLink RX0 22 "Rackrail$Orders" "count" "I") (by decide +kernel)) (fun _ h9 => h9) rfl dX0_earliest_13 ?_
    refine lv_icmp_ge (tgt := 102) hx hb dX0_earliest_16 (by decide) (fun c_16 => absurd c_16 (lp_b (r := r) hoc2 (by omega) (by omega))) (fun c_16 => ?_)
    refine lv_aload_n hx hb dX0_earliest_19 rfl (lv_at hl 4 rfl) ?_
    refine lv_aload_n hx hb dX0_earliest_20 rfl (lv_at hl 3 rfl) ?_
    refine va_get (D := G.1) (ci := 0) (v := .ref (a 12)) (C := RX0) (T := TX0) (N := 5) hx hb hts iw_X0_earliest_RX0 hown hE.1 hP 0 rfl rfl 0 (by decide) (hts (.fieldLink RX0 9 "Rackrail$Orders" "boxes" "[I") (by decide +kernel)) (fun _ h9 => h9) rfl dX0_earliest_21 ?_
    refine lv_iload hx hb dX0_earliest_24 (lv_at hl 0 rfl) ?_
    refine va_iald hx hb hE.1 hP 1 0 rfl rfl (vp_in_nI (by omega) (by decide)) dX0_earliest_26 ?_
    refine k_p (va_runV (As := [.int (ob (nI j).toNatClampNeg)]) (rest := []) ⟨hx, hb, hml, hown, hts⟩ (c_X2_aisleOfBox l G a s.heap.size cn sp (ob (nI j).toNatClampNeg) hcn) (cwV 1 hts gX0_earliest_X2_aisleOfBox rfl rfl rfl ⟨rfl, by decide +kernel, by decide +kernel, by decide +kernel⟩ ⟨Nat.le_of_ble_eq_true rfl, Nat.le_of_ble_eq_true rfl⟩) ⟨GP.blind, va_recv hE.1 hP (ci := 2) (q0 := 4) rfl rfl, GP.go (wc := [wcS a cn, wcI G (a 6) 20 sp]) hE hP hD hS hA [4, 5] rfl (by decide) [.ref (a 1), .int (ob (nI j).toNatClampNeg)]⟩ rfl rfl hl.1 rfl (lv_room (Nat.le_of_ble_eq_true rfl)) dX0_earliest_27 ⟨Nat.le_of_ble_eq_true rfl, Nat.le_of_ble_eq_true rfl⟩) ?_
    refine lv_istore (lv' := [(6, .int (f_X2_aisleOfBox cn sp (ob (nI j).toNatClampNeg))), (5, .int (nI j)), (3, .int bst), (4, .int bdl), (0, .ref (a 11)), (1, .ref (a 1)), (2, .int p0)]) hx hb dX0_earliest_30 hl (by decide) rfl (fun ls hl => ?_)
    refine lv_iload hx hb dX0_earliest_32 (lv_at hl 0 rfl) ?_
    refine lv_iconst (v := (-1)) hx hb dX0_earliest_34 (by decide) ?_
    refine lv_icmp_eq (tgt := 54) hx hb dX0_earliest_35 (by decide) (fun c_35 => ?_) (fun c_35 => ?_)
    · refine lv_iconst (v := 0) hx hb dX0_earliest_54 (by decide) ?_
      refine lv_istore (lv' := [(7, .int 0), (6, .int (f_X2_aisleOfBox cn sp (ob (nI j).toNatClampNeg))), (5, .int (nI j)), (3, .int bst), (4, .int bdl), (0, .ref (a 11)), (1, .ref (a 1)), (2, .int p0)]) hx hb dX0_earliest_55 hl (by decide) rfl (fun ls hl => ?_)
      refine lv_aload_n hx hb dX0_earliest_57 rfl (lv_at hl 5 rfl) ?_
      refine va_get (D := G.1) (ci := 0) (v := .ref (a 14)) (C := RX0) (T := TX0) (N := 5) hx hb hts iw_X0_earliest_RX0 hown hE.1 hP 0 rfl rfl 2 (by decide) (hts (.fieldLink RX0 18 "Rackrail$Orders" "done" "[Z") (by decide +kernel)) (fun _ h9 => h9) rfl dX0_earliest_58 ?_
      refine lv_iload hx hb dX0_earliest_61 (lv_at hl 2 rfl) ?_
      refine va_zald hx hb hE.1 hP 3 1 rfl rfl (vp_in_nI (by omega) (by decide)) dX0_earliest_63 ?_
      refine lv_if_ne (tgt := 96) hx hb dX0_earliest_64 (by decide) (fun c_64 => ?_) (fun c_64 => ?_)
      · refine lv_iinc (v := nI (j + 1)) (lv' := [(5, .int (nI (j + 1))), (7, .int 0), (6, .int (f_X2_aisleOfBox cn sp (ob (nI j).toNatClampNeg))), (3, .int bst), (4, .int bdl), (0, .ref (a 11)), (1, .ref (a 1)), (2, .int p0)]) hx hb dX0_earliest_96 hl (k := 2) rfl (inc1 _) (by decide) rfl (fun ls hl => ?_)
        refine lv_goto (tgt := 10) hx hb dX0_earliest_99 (by decide) ?_
        exact ih (j + 1) (bst, bdl) _ ⟨by omega, (hf.trans (by rw [f_X0_earliest_L, if_pos c_35, if_neg c_64])), lv_sub hl [0, 3, 4, 5, 6, 7] rfl⟩
      · refine lv_iload hx hb dX0_earliest_67 (lv_at hl 0 rfl) ?_
        refine lv_if_eq (tgt := 96) hx hb dX0_earliest_69 (by decide) (fun c_69 => ?_) (fun c_69 => absurd (by decide) c_69)
        refine lv_iinc (v := nI (j + 1)) (lv' := [(5, .int (nI (j + 1))), (7, .int 0), (6, .int (f_X2_aisleOfBox cn sp (ob (nI j).toNatClampNeg))), (3, .int bst), (4, .int bdl), (0, .ref (a 11)), (1, .ref (a 1)), (2, .int p0)]) hx hb dX0_earliest_96 hl (k := 2) rfl (inc1 _) (by decide) rfl (fun ls hl => ?_)
        refine lv_goto (tgt := 10) hx hb dX0_earliest_99 (by decide) ?_
        exact ih (j + 1) (bst, bdl) _ ⟨by omega, (hf.trans (by rw [f_X0_earliest_L, if_pos c_35, if_pos c_64])), lv_sub hl [0, 3, 4, 5, 6, 7] rfl⟩
    · refine lv_iload_n hx hb dX0_earliest_38 rfl (lv_at hl 6 rfl) ?_
      refine lv_bipush (v := (-2)) hx hb dX0_earliest_39 (by decide) ?_
      refine lv_icmp_eq (tgt := 50) hx hb dX0_earliest_41 (by decide) (fun c_41 => ?_) (fun c_41 => ?_)
      · refine lv_iconst (v := 1) hx hb dX0_earliest_50 (by decide) ?_
        refine lv_goto (tgt := 55) hx hb dX0_earliest_51 (by decide) ?_
        refine lv_istore (lv' := [(7, .int 1), (6, .int (f_X2_aisleOfBox cn sp (ob (nI j).toNatClampNeg))), (5, .int (nI j)), (3, .int bst), (4, .int bdl), (0, .ref (a 11)), (1, .ref (a 1)), (2, .int p0)]) hx hb dX0_earliest_55 hl (by decide) rfl (fun ls hl => ?_)
        refine lv_aload_n hx hb dX0_earliest_57 rfl (lv_at hl 5 rfl) ?_
        refine va_get (D := G.1) (ci := 0) (v := .ref (a 14)) (C := RX0) (T := TX0) (N := 5) hx hb hts iw_X0_earliest_RX0 hown hE.1 hP 0 rfl rfl 2 (by decide) (hts (.fieldLink RX0 18 "Rackrail$Orders" "done" "[Z") (by decide +kernel)) (fun _ h9 => h9) rfl dX0_earliest_58 ?_
        refine lv_iload hx hb dX0_earliest_61 (lv_at hl 2 rfl) ?_
        refine va_zald hx hb hE.1 hP 3 1 rfl rfl (vp_in_nI (by omega) (by decide)) dX0_earliest_63 ?_
        refine lv_if_ne (tgt := 96) hx hb dX0_earliest_64 (by decide) (fun c_64 => ?_) (fun c_64 => ?_)
        · refine lv_iinc (v := nI (j + 1)) (lv' := [(5, .int (nI (j + 1))), (7, .int 1), (6, .int (f_X2_aisleOfBox cn sp (ob (nI j).toNatClampNeg))), (3, .int bst), (4, .int bdl), (0, .ref (a 11)), (1, .ref (a 1)), (2, .int p0)]) hx hb dX0_earliest_96 hl (k := 2) rfl (inc1 _) (by decide) rfl (fun ls hl => ?_)
          refine lv_goto (tgt := 10) hx hb dX0_earliest_99 (by decide) ?_
          exact ih (j + 1) (bst, bdl) _ ⟨by omega, (hf.trans (by rw [f_X0_earliest_L, if_neg c_35, if_pos c_41, if_neg c_64])), lv_sub hl [0, 3, 4, 5, 6, 7] rfl⟩
        · refine lv_iload hx hb dX0_earliest_67 (lv_at hl 0 rfl) ?_
          refine lv_if_eq (tgt := 96) hx hb dX0_earliest_69 (by decide) (fun c_69 => absurd c_69 (by decide)) (fun c_69 => ?_)
          refine lv_aload_n hx hb dX0_earliest_72 rfl (lv_at hl 5 rfl) ?_
          refine va_get (D := G.1) (ci := 0) (v := .ref (a 13)) (C := RX0) (T := TX0) (N := 5) hx hb hts iw_X0_earliest_RX0 hown hE.1 hP 0 rfl rfl 1 (by decide) (hts (.fieldLink RX0 15 "Rackrail$Orders" "deadlines" "[I") (by decide +kernel)) (fun _ h9 => h9) rfl dX0_earliest_73 ?_
          refine lv_iload hx hb dX0_earliest_76 (lv_at hl 2 rfl) ?_
          refine va_iald hx hb hE.1 hP 2 0 rfl rfl (vp_in_nI (by omega) (by decide)) dX0_earliest_78 ?_
          refine lv_iload hx hb dX0_earliest_79 (lv_at hl 4 rfl) ?_
          refine lv_icmp_ge (tgt := 96) hx hb dX0_earliest_81 (by decide) (fun c_81 => ?_) (fun c_81 => ?_)
          · refine lv_iinc (v := nI (j + 1)) (lv' := [(5, .int (nI (j + 1))), (7, .int 1), (6, .int (f_X2_aisleOfBox cn sp (ob (nI j).toNatClampNeg))), (3, .int bst), (4, .int bdl), (0, .ref (a 11)), (1, .ref (a 1)), (2, .int p0)]) hx hb dX0_earliest_96 hl (k := 2) rfl (inc1 _) (by decide) rfl (fun ls hl => ?_)
            refine lv_goto (tgt := 10) hx hb dX0_earliest_99 (by decide) ?_
            exact ih (j + 1) (bst, bdl) _ ⟨by omega, (hf.trans (by rw [f_X0_earliest_L, if_neg c_35, if_pos c_41, if_pos c_64, if_pos c_81])), lv_sub hl [0, 3, 4, 5, 6, 7] rfl⟩
          · refine lv_iload hx hb dX0_earliest_84 (lv_at hl 2 rfl) ?_
            refine lv_istore_n (lv' := [(3, .int (nI j)), (7, .int 1), (6, .int (f_X2_aisleOfBox cn sp (ob (nI j).toNatClampNeg))), (5, .int (nI j)), (4, .int bdl), (0, .ref (a 11)), (1, .ref (a 1)), (2, .int p0)]) hx hb dX0_earliest_86 rfl hl (by decide) rfl (fun ls hl => ?_)
            refine lv_aload_n hx hb dX0_earliest_87 rfl (lv_at hl 5 rfl) ?_
            refine va_get (D := G.1) (ci := 0) (v := .ref (a 13)) (C := RX0) (T := TX0) (N := 5) hx hb hts iw_X0_earliest_RX0 hown hE.1 hP 0 rfl rfl 1 (by decide) (hts (.fieldLink RX0 15 "Rackrail$Orders" "deadlines" "[I") (by decide +kernel)) (fun _ h9 => h9) rfl dX0_earliest_88 ?_
            refine lv_iload hx hb dX0_earliest_91 (lv_at hl 3 rfl) ?_
            refine va_iald hx hb hE.1 hP 2 0 rfl rfl (vp_in_nI (by omega) (by decide)) dX0_earliest_93 ?_
            refine lv_istore (lv' := [(4, .int (od (nI j).toNatClampNeg)), (3, .int (nI j)), (7, .int 1), (6, .int (f_X2_aisleOfBox cn sp (ob (nI j).toNatClampNeg))), (5, .int (nI j)), (0, .ref (a 11)), (1, .ref (a 1)), (2, .int p0)]) hx hb dX0_earliest_94 hl (by decide) rfl (fun ls hl => ?_)
            refine lv_iinc (v := nI (j + 1)) (lv' := [(5, .int (nI (j + 1))), (4, .int (od (nI j).toNatClampNeg)), (3, .int (nI j)), (7, .int 1), (6, .int (f_X2_aisleOfBox cn sp (ob (nI j).toNatClampNeg))), (0, .ref (a 11)), (1, .ref (a 1)), (2, .int p0)]) hx hb dX0_earliest_96 hl (k := 4) rfl (inc1 _) (by decide) rfl (fun ls hl => ?_)
            refine lv_goto (tgt := 10) hx hb dX0_earliest_99 (by decide) ?_
            exact ih (j + 1) (nI j, od (nI j).toNatClampNeg) _ ⟨by omega, (hf.trans (by rw [f_X0_earliest_L, if_neg c_35, if_pos c_41, if_pos c_64, if_neg c_81])), lv_sub hl [0, 2, 1, 5, 6, 7] rfl⟩
      · refine lv_iload hx hb dX0_earliest_44 (lv_at hl 0 rfl) ?_
        refine lv_iload_n hx hb dX0_earliest_46 rfl (lv_at hl 6 rfl) ?_
        refine lv_icmp_ne (tgt := 54) hx hb dX0_earliest_47 (by decide) (fun c_47 => ?_) (fun c_47 => ?_)
        · refine lv_iconst (v := 0) hx hb dX0_earliest_54 (by decide) ?_
          refine lv_istore (lv' := [(7, .int 0), (6, .int (f_X2_aisleOfBox cn sp (ob (nI j).toNatClampNeg))), (5, .int (nI j)), (3, .int bst), (4, .int bdl), (0, .ref (a 11)), (1, .ref (a 1)), (2, .int p0)]) hx hb dX0_earliest_55 hl (by decide) rfl (fun ls hl => ?_)
          refine lv_aload_n hx hb dX0_earliest_57 rfl (lv_at hl 5 rfl) ?_
          refine va_get (D := G.1) (ci := 0) (v := .ref (a 14)) (C := RX0) (T := TX0) (N := 5) hx hb hts iw_X0_earliest_RX0 hown hE.1 hP 0 rfl rfl 2 (by decide) (hts (.fieldLink RX0 18 "Rackrail$Orders" "done" "[Z") (by decide +kernel)) (fun _ h9 => h9) rfl dX0_earliest_58 ?_
          refine lv_iload hx hb dX0_earliest_61 (lv_at hl 2 rfl) ?_
          refine va_zald hx hb hE.1 hP 3 1 rfl rfl (vp_in_nI (by omega) (by decide)) dX0_earliest_63 ?_
          refine lv_if_ne (tgt := 96) hx hb dX0_earliest_64 (by decide) (fun c_64 => ?_) (fun c_64 => ?_)
          · refine lv_iinc (v := nI (j + 1)) (lv' := [(5, .int (nI (j + 1))), (7, .int 0), (6, .int (f_X2_aisleOfBox cn sp (ob (nI j).toNatClampNeg))), (3, .int bst), (4, .int bdl), (0, .ref (a 11)), (1, .ref (a 1)), (2, .int p0)]) hx hb dX0_earliest_96 hl (k := 2) rfl (inc1 _) (by decide) rfl (fun ls hl => ?_)
            refine lv_goto (tgt := 10) hx hb dX0_earliest_99 (by decide) ?_
            exact ih (j + 1) (bst, bdl) _ ⟨by omega, (hf.trans (by rw [f_X0_earliest_L, if_neg c_35, if_neg c_41, if_neg c_47, if_neg c_64])), lv_sub hl [0, 3, 4, 5, 6, 7] rfl⟩
          · refine lv_iload hx hb dX0_earliest_67 (lv_at hl 0 rfl) ?_
            refine lv_if_eq (tgt := 96) hx hb dX0_earliest_69 (by decide) (fun c_69 => ?_) (fun c_69 => absurd (by decide) c_69)
            refine lv_iinc (v := nI (j + 1)) (lv' := [(5, .int (nI (j + 1))), (7, .int 0), (6, .int (f_X2_aisleOfBox cn sp (ob (nI j).toNatClampNeg))), (3, .int bst), (4, .int bdl), (0, .ref (a 11)), (1, .ref (a 1)), (2, .int p0)]) hx hb dX0_earliest_96 hl (k := 2) rfl (inc1 _) (by decide) rfl (fun ls hl => ?_)
            refine lv_goto (tgt := 10) hx hb dX0_earliest_99 (by decide) ?_
            exact ih (j + 1) (bst, bdl) _ ⟨by omega, (hf.trans (by rw [f_X0_earliest_L, if_neg c_35, if_neg c_41, if_neg c_47, if_pos c_64])), lv_sub hl [0, 3, 4, 5, 6, 7] rfl⟩
        · refine lv_iconst (v := 1) hx hb dX0_earliest_50 (by decide) ?_
          refine lv_goto (tgt := 55) hx hb dX0_earliest_51 (by decide) ?_
          refine lv_istore (lv' := [(7, .int 1), (6, .int (f_X2_aisleOfBox cn sp (ob (nI j).toNatClampNeg))), (5, .int (nI j)), (3, .int bst), (4, .int bdl), (0, .ref (a 11)), (1, .ref (a 1)), (2, .int p0)]) hx hb dX0_earliest_55 hl (by decide) rfl (fun ls hl => ?_)
          refine lv_aload_n hx hb dX0_earliest_57 rfl (lv_at hl 5 rfl) ?_
          refine va_get (D := G.1) (ci := 0) (v := .ref (a 14)) (C := RX0) (T := TX0) (N := 5) hx hb hts iw_X0_earliest_RX0 hown hE.1 hP 0 rfl rfl 2 (by decide) (hts (.fieldLink RX0 18 "Rackrail$Orders" "done" "[Z") (by decide +kernel)) (fun _ h9 => h9) rfl dX0_earliest_58 ?_
          refine lv_iload hx hb dX0_earliest_61 (lv_at hl 2 rfl) ?_
          refine va_zald hx hb hE.1 hP 3 1 rfl rfl (vp_in_nI (by omega) (by decide)) dX0_earliest_63 ?_
          refine lv_if_ne (tgt := 96) hx hb dX0_earliest_64 (by decide) (fun c_64 => ?_) (fun c_64 => ?_)
          · refine lv_iinc (v := nI (j + 1)) (lv' := [(5, .int (nI (j + 1))), (7, .int 1), (6, .int (f_X2_aisleOfBox cn sp (ob (nI j).toNatClampNeg))), (3, .int bst), (4, .int bdl), (0, .ref (a 11)), (1, .ref (a 1)), (2, .int p0)]) hx hb dX0_earliest_96 hl (k := 2) rfl (inc1 _) (by decide) rfl (fun ls hl => ?_)
            refine lv_goto (tgt := 10) hx hb dX0_earliest_99 (by decide) ?_
            exact ih (j + 1) (bst, bdl) _ ⟨by omega, (hf.trans (by rw [f_X0_earliest_L, if_neg c_35, if_neg c_41, if_pos c_47, if_neg c_64])), lv_sub hl [0, 3, 4, 5, 6, 7] rfl⟩
          · refine lv_iload hx hb dX0_earliest_67 (lv_at hl 0 rfl) ?_
            refine lv_if_eq (tgt := 96) hx hb dX0_earliest_69 (by decide) (fun c_69 => absurd c_69 (by decide)) (fun c_69 => ?_)
            refine lv_aload_n hx hb dX0_earliest_72 rfl (lv_at hl 5 rfl) ?_
            refine va_get (D := G.1) (ci := 0) (v := .ref (a 13)) (C := RX0) (T := TX0) (N := 5) hx hb hts iw_X0_earliest_RX0 hown hE.1 hP 0 rfl rfl 1 (by decide) (hts (.fieldLink RX0 15 "Rackrail$Orders" "deadlines" "[I") (by decide +kernel)) (fun _ h9 => h9) rfl dX0_earliest_73 ?_
            refine lv_iload hx hb dX0_earliest_76 (lv_at hl 2 rfl) ?_
            refine va_iald hx hb hE.1 hP 2 0 rfl rfl (vp_in_nI (by omega) (by decide)) dX0_earliest_78 ?_
            refine lv_iload hx hb dX0_earliest_79 (lv_at hl 4 rfl) ?_
            refine lv_icmp_ge (tgt := 96) hx hb dX0_earliest_81 (by decide) (fun c_81 => ?_) (fun c_81 => ?_)
            · refine lv_iinc (v := nI (j + 1)) (lv' := [(5, .int (nI (j + 1))), (7, .int 1), (6, .int (f_X2_aisleOfBox cn sp (ob (nI j).toNatClampNeg))), (3, .int bst), (4, .int bdl), (0, .ref (a 11)), (1, .ref (a 1)), (2, .int p0)]) hx hb dX0_earliest_96 hl (k := 2) rfl (inc1 _) (by decide) rfl (fun ls hl => ?_)
              refine lv_goto (tgt := 10) hx hb dX0_earliest_99 (by decide) ?_
              exact ih (j + 1) (bst, bdl) _ ⟨by omega, (hf.trans (by rw [f_X0_earliest_L, if_neg c_35, if_neg c_41, if_pos c_47, if_pos c_64, if_pos c_81])), lv_sub hl [0, 3, 4, 5, 6, 7] rfl⟩
            · refine lv_iload hx hb dX0_earliest_84 (lv_at hl 2 rfl) ?_
              refine lv_istore_n (lv' := [(3, .int (nI j)), (7, .int 1), (6, .int (f_X2_aisleOfBox cn sp (ob (nI j).toNatClampNeg))), (5, .int (nI j)), (4, .int bdl), (0, .ref (a 11)), (1, .ref (a 1)), (2, .int p0)]) hx hb dX0_earliest_86 rfl hl (by decide) rfl (fun ls hl => ?_)
              refine lv_aload_n hx hb dX0_earliest_87 rfl (lv_at hl 5 rfl) ?_
              refine va_get (D := G.1) (ci := 0) (v := .ref (a 13)) (C := RX0) (T := TX0) (N := 5) hx hb hts iw_X0_earliest_RX0 hown hE.1 hP 0 rfl rfl 1 (by decide) (hts (.fieldLink RX0 15 "Rackrail$Orders" "deadlines" "[I") (by decide +kernel)) (fun _ h9 => h9) rfl dX0_earliest_88 ?_
              refine lv_iload hx hb dX0_earliest_91 (lv_at hl 3 rfl) ?_
              refine va_iald hx hb hE.1 hP 2 0 rfl rfl (vp_in_nI (by omega) (by decide)) dX0_earliest_93 ?_
              refine lv_istore (lv' := [(4, .int (od (nI j).toNatClampNeg)), (3, .int (nI j)), (7, .int 1), (6, .int (f_X2_aisleOfBox cn sp (ob (nI j).toNatClampNeg))), (5, .int (nI j)), (0, .ref (a 11)), (1, .ref (a 1)), (2, .int p0)]) hx hb dX0_earliest_94 hl (by decide) rfl (fun ls hl => ?_)
              refine lv_iinc (v := nI (j + 1)) (lv' := [(5, .int (nI (j + 1))), (4, .int (od (nI j).toNatClampNeg)), (3, .int (nI j)), (7, .int 1), (6, .int (f_X2_aisleOfBox cn sp (ob (nI j).toNatClampNeg))), (0, .ref (a 11)), (1, .ref (a 1)), (2, .int p0)]) hx hb dX0_earliest_96 hl (k := 4) rfl (inc1 _) (by decide) rfl (fun ls hl => ?_)
              refine lv_goto (tgt := 10) hx hb dX0_earliest_99 (by decide) ?_
              exact ih (j + 1) (nI j, od (nI j).toNatClampNeg) _ ⟨by omega, (hf.trans (by rw [f_X0_earliest_L, if_neg c_35, if_neg c_41, if_pos c_47, if_pos c_64, if_neg c_81])), lv_sub hl [0, 2, 1, 5, 6, 7] rfl⟩

/-! X0_finish -/
def f_X0_finish (oc : Int32) (lt : Int32) (od : Nat → Int32) (dn : Nat → Int32) (p0 : Int32) (p1 : Int32) : Int32 × (Nat → Int32) :=
  if (f_X3_isBelow p0 oc) = 0 then (lt, dn)
    else if p1 ≤ (od p0.toNatClampNeg) then (lt, upd dn p0.toNatClampNeg 1)
    else (lt + 1, upd dn p0.toNatClampNeg 1)
theorem iw_X0_finish_RX0 : ∀ w ∈ u_ws RX0 TX0 5, w ∈ wsX0_finish := by decide +kernel
set_option maxHeartbeats 4000000 in
set_option maxRecDepth 100000 in
theorem c_X0_finish (l : Launch) (G : GT) (a : Nat → Nat) (sz : Nat) (oc : Int32) (lt : Int32) (od : Nat → Int32) (dn : Nat → Int32) (p0 : Int32) (p1 : Int32) (hoc : okN 30 oc) : Met l yX0_finish wsX0_finish ({ frames := 1, cells := 0, slots := 0, locals := 21 }) (GP G [.ref (a 11), .int p0, .int p1] [wcO a oc lt, wcI G (a 13) 30 od, wcZ G (a 14) 30 dn] sz) (MQo G (.returned none) [wcO a oc ((f_X0_finish oc lt od dn p0 p1).1), wcI G (a 13) 30 od, wcZ G (a 14) 30 ((f_X0_finish oc lt od dn p0 p1).2)] (va_A [wcO a oc lt, wcI G (a 13) 30 od, wcZ G (a 14) 30 dn] sz)) 0 0 (va_A [wcO a oc lt, wcI G (a 13) 30 od, wcZ G (a 14) 30 dn] sz) := by
  refine bodyM (cc := cX0_finish) (maxL := 3) (ret := none) (by decide) rfl (Nat.le_of_ble_eq_true rfl) ?_
  intro p e s m below meth c ls C
  obtain ⟨hx, hb, hr, hts, hown, hlocks, hml, hsz, hP, hE, hD, hA, hS, hl⟩ := C
  subst hsz
  have hl : lv_has ls 3 [(0, .ref (a 11)), (1, .int p0), (2, .int p1)] := hl
  refine lv_iload_n hx hb dX0_finish_0 rfl (lv_at hl 1 rfl) ?_
  refine lv_aload_n hx hb dX0_finish_1 rfl (lv_at hl 0 rfl) ?_
  refine va_get (D := G.1) (ci := 0) (v := .int oc) (C := RX0) (T := TX0) (N := 5) hx hb hts iw_X0_finish_RX0 hown hE.1 hP 0 rfl rfl 3 (by decide) (hts (.fieldLink RX0 22 "Rackrail$Orders" "count" "I") (by decide +kernel)) (fun _ h9 => h9) rfl dX0_finish_2 ?_
  refine k_p (va_runSN (As := [.int p0, .int oc]) (rest := []) ⟨hx, hb, hml, hown, hts⟩ (c_X3_isBelow l G s.heap.size p0 oc) ⟨va_cnB (host := "Rackrail") 2 hts gX0_finish_X3_isBelow_n33 rfl rfl rfl (hE.2.1 (RX0, 33, yX3_isBelow) (by decide)) (hts (.initialized RX3) (by decide +kernel)) ⟨by decide +kernel, by decide +kernel, by decide +kernel⟩ ⟨Nat.le_of_ble_eq_true rfl, Nat.le_of_ble_eq_true rfl⟩, hts (.static yX3_isBelow) (by decide +kernel), trivial⟩ ⟨GP.blind, GP.go (wc := []) hE hP hD hS hA [] rfl (by decide) [.int p0, .int oc]⟩ rfl rfl hl.1 rfl (lv_room (Nat.le_of_ble_eq_true rfl)) dX0_finish_5 ⟨Nat.le_of_ble_eq_true rfl, Nat.le_of_ble_eq_true rfl⟩) ?_
  refine lv_if_eq (tgt := 38) hx hb dX0_finish_8 (by decide) (fun c_8 => ?_) (fun c_8 => ?_)
  · have hq : f_X0_finish oc lt od dn p0 p1 = (lt, dn) := (by rw [f_X0_finish, if_pos c_8])
    exact W.vret hx hb hr (fun t ht _ => ⟨rfl, by rw [hq, ht]; exact hP, hS.F ht⟩) hS.2.2 dX0_finish_38
  · refine lv_aload_n hx hb dX0_finish_11 rfl (lv_at hl 0 rfl) ?_
    refine va_get (D := G.1) (ci := 0) (v := .ref (a 14)) (C := RX0) (T := TX0) (N := 5) hx hb hts iw_X0_finish_RX0 hown hE.1 hP 0 rfl rfl 2 (by decide) (hts (.fieldLink RX0 18 "Rackrail$Orders" "done" "[Z") (by decide +kernel)) (fun _ h9 => h9) rfl dX0_finish_12 ?_
    refine lv_iload_n hx hb dX0_finish_15 rfl (lv_at hl 1 rfl) ?_
    refine lv_iconst (v := 1) hx hb dX0_finish_16 (by decide) ?_
    refine va_zast hx hb hE.1 hP hD hS 2 1 rfl rfl (in_mo hoc c_8) dX0_finish_17 (fun H locs hP hD hS => ?_)
    have hP : va_P G.1 vwCl [wcO a oc lt, wcI G (a 13) 30 od, wcZ G (a 14) 30 (upd dn p0.toNatClampNeg 1)] H := hP
    have hD : va_D _ [wcO a oc lt, wcI G (a 13) 30 od, wcZ G (a 14) 30 (upd dn p0.toNatClampNeg 1)] := hD
    refine lv_iload_n hx hb dX0_finish_18 rfl (lv_at hl 2 rfl) ?_
    refine lv_aload_n hx hb dX0_finish_19 rfl (lv_at hl 0 rfl) ?_
    refine va_get (D := G.1) (ci := 0) (v := .ref (a 13)) (C := RX0) (T := TX0) (N := 5) hx hb hts iw_X0_finish_RX0 hown hE.1 hP 0 rfl rfl 1 (by decide) (hts (.fieldLink RX0 15 "Rackrail$Orders" "deadlines" "[I") (by decide +kernel)) (fun _ h9 => h9) rfl dX0_finish_20 ?_
    refine lv_iload_n hx hb dX0_finish_23 rfl (lv_at hl 1 rfl) ?_
    refine va_iald hx hb hE.1 hP 1 0 rfl rfl (in_mo hoc c_8) dX0_finish_24 ?_
    refine lv_icmp_le (tgt := 38) hx hb dX0_finish_25 (by decide) (fun c_25 => ?_) (fun c_25 => ?_)
    · have hq : f_X0_finish oc lt od dn p0 p1 = (lt, upd dn p0.toNatClampNeg 1) := (by rw [f_X0_finish, if_neg c_8, if_pos c_25])
      exact W.vret hx hb hr (fun t ht _ => ⟨rfl, by rw [hq, ht]; exact hP, hS.F ht⟩) hS.2.2 dX0_finish_38
    · refine lv_aload_n hx hb dX0_finish_28 rfl (lv_at hl 0 rfl) ?_
      refine lv_dup hx hb dX0_finish_29 rfl ?_
      refine va_get (D := G.1) (ci := 0) (v := .int lt) (C := RX0) (T := TX0) (N := 5) hx hb hts iw_X0_finish_RX0 hown hE.1 hP 0 rfl rfl 4 (by decide) (hts (.fieldLink RX0 26 "Rackrail$Orders" "lateCount" "I") (by decide +kernel)) (fun _ h9 => h9) rfl dX0_finish_30 ?_
      refine lv_iconst (v := 1) hx hb dX0_finish_33 (by decide) ?_
      refine lv_iadd hx hb dX0_finish_34 ?_
      refine va_put (D := G.1) (ci := 0) (v := .int (lt + 1)) (ty := .int) (C := RX0) (T := TX0) (N := 5) hx hb hts iw_X0_finish_RX0 tyX0 tyX0_ok nmX0 hown hE.1 hP hD hS 0 rfl rfl 4 (by decide) (hts (.fieldLink RX0 26 "Rackrail$Orders" "lateCount" "I") (by decide +kernel)) (fun _ h9 => h9) rfl (by decide +kernel) rfl rfl (Nat.le_of_ble_eq_true rfl) dX0_finish_35 (fun H locs hP hD hS => ?_)
      have hP : va_P G.1 vwCl [wcO a oc (lt + 1), wcI G (a 13) 30 od, wcZ G (a 14) 30 (upd dn p0.toNatClampNeg 1)] H := hP
      have hD : va_D _ [wcO a oc (lt + 1), wcI G (a 13) 30 od, wcZ G (a 14) 30 (upd dn p0.toNatClampNeg 1)] := hD
      have hq : f_X0_finish oc lt od dn p0 p1 = (lt + 1, upd dn p0.toNatClampNeg 1) := (by rw [f_X0_finish, if_neg c_8, if_neg c_25])
      exact W.vret hx hb hr (fun t ht _ => ⟨rfl, by rw [hq, ht]; exact hP, hS.F ht⟩) hS.2.2 dX0_finish_38

/-! X0_countOpen -/
def f_X0_countOpen_L (dn : Nat → Int32) : Nat → Nat → Int32 → Int32
  | 0, j, opn => opn
  | r + 1, j, opn => if (dn (nI j).toNatClampNeg) = 0 then f_X0_countOpen_L dn r (j + 1) (opn + 1)
    else f_X0_countOpen_L dn r (j + 1) opn
def f_X0_countOpen (oc : Int32) (dn : Nat → Int32) : Int32 :=
  f_X0_countOpen_L dn oc.toNatClampNeg 0 0
theorem iw_X0_countOpen_RX0 : ∀ w ∈ u_ws RX0 TX0 5, w ∈ wsX0_countOpen := by decide +kernel
set_option maxHeartbeats 4000000 in
set_option maxRecDepth 100000 in
theorem c_X0_countOpen (l : Launch) (G : GT) (a : Nat → Nat) (sz : Nat) (oc : Int32) (lt : Int32) (dn : Nat → Int32) (hoc : okN 30 oc) : Met l yX0_countOpen wsX0_countOpen ({ frames := 0, cells := 0, slots := 0, locals := 0 }) (GP G [.ref (a 11)] [wcO a oc lt, wcZ G (a 14) 30 dn] sz) (PQo (.returned (some (.int (f_X0_countOpen oc dn))))) 0 0 (fun _ => False) := by
  refine bodyM (cc := cX0_countOpen) (maxL := 3) (ret := (some .int)) (by decide) rfl (Nat.le_of_ble_eq_true rfl) ?_
  intro p e s m below meth c ls C
  obtain ⟨hx, hb, hr, hts, hown, hlocks, hml, hsz, hP, hE, hD, hA, hS, hl⟩ := C
  subst hsz
  have hl : lv_has ls 3 [(0, .ref (a 11))] := hl
  obtain ⟨n, hn, hoc2⟩ := id hoc
  have hcl : oc.toNatClampNeg = n := by rw [hoc2]; exact nI_clamp (by omega)
  refine lv_iconst (v := 0) hx hb dX0_countOpen_0 (by decide) ?_
  refine lv_istore_n (lv' := [(1, .int 0), (0, .ref (a 11))]) hx hb dX0_countOpen_1 rfl hl (by decide) rfl (fun ls hl => ?_)
  refine lv_iconst (v := 0) hx hb dX0_countOpen_2 (by decide) ?_
  refine lv_istore_n (lv' := [(2, .int 0), (1, .int 0), (0, .ref (a 11))]) hx hb dX0_countOpen_3 rfl hl (by decide) rfl (fun ls hl => ?_)
  refine k_loopP (α := Int32) (fun (r j : Nat) (x : Int32) (ls : Array Slot) => j + r = n ∧ f_X0_countOpen oc dn = f_X0_countOpen_L dn r j x ∧ lv_has ls 3 [(2, .int (nI j)), (1, .int x), (0, .ref (a 11))]) n 0 0 ⟨by omega, (by rw [f_X0_countOpen, hcl]), lv_sub hl [0, 1, 2] rfl⟩ ?_ ?_
  · intro j x ls hI
    obtain ⟨opn, rfl⟩ : ∃ y, y = x := ⟨_, rfl⟩
    obtain ⟨hj, hf, hl⟩ := hI
    have hl : lv_has ls 3 [(2, .int (nI j)), (1, .int opn), (0, .ref (a 11))] := hl
    have hf : f_X0_countOpen oc dn = f_X0_countOpen_L dn 0 j opn := hf
    refine lv_iload_n hx hb dX0_countOpen_4 rfl (lv_at hl 0 rfl) ?_
    refine lv_aload_n hx hb dX0_countOpen_5 rfl (lv_at hl 2 rfl) ?_
    refine va_get (D := G.1) (ci := 0) (v := .int oc) (C := RX0) (T := TX0) (N := 5) hx hb hts iw_X0_countOpen_RX0 hown hE.1 hP 0 rfl rfl 3 (by decide) (hts (.fieldLink RX0 22 "Rackrail$Orders" "count" "I") (by decide +kernel)) (fun _ h9 => h9) rfl dX0_countOpen_6 ?_
    refine lv_icmp_ge (tgt := 30) hx hb dX0_countOpen_9 (by decide) (fun c_9 => ?_) (fun c_9 => absurd (lp_a hoc2 (by omega) (by omega)) c_9)
    refine lv_iload_n hx hb dX0_countOpen_30 rfl (lv_at hl 1 rfl) ?_
    have hq : f_X0_countOpen oc dn = opn := (hf.trans (by rw [f_X0_countOpen_L]))
    exact W.iret (v := opn) hx hb hr (fun t ht _ => ⟨by rw [hq], ht⟩) (fun _ h => nomatch h) dX0_countOpen_31
  · intro r ih j x ls hI
    obtain ⟨opn, rfl⟩ : ∃ y, y = x := ⟨_, rfl⟩
    obtain ⟨hj, hf, hl⟩ := hI
    have hl : lv_has ls 3 [(2, .int (nI j)), (1, .int opn), (0, .ref (a 11))] := hl
    have hf : f_X0_countOpen oc dn = f_X0_countOpen_L dn (r + 1) j opn := hf
    refine lv_iload_n hx hb dX0_countOpen_4 rfl (lv_at hl 0 rfl) ?_
    refine lv_aload_n hx hb dX0_countOpen_5 rfl (lv_at hl 2 rfl) ?_
    refine va_get (D := G.1) (ci := 0) (v := .int oc) (C := RX0) (T := TX0) (N := 5) hx hb hts iw_X0_countOpen_RX0 hown hE.1 hP 0 rfl rfl 3 (by decide) (hts (.fieldLink RX0 22 "Rackrail$Orders" "count" "I") (by decide +kernel)) (fun _ h9 => h9) rfl dX0_countOpen_6 ?_
    refine lv_icmp_ge (tgt := 30) hx hb dX0_countOpen_9 (by decide) (fun c_9 => absurd c_9 (lp_b (r := r) hoc2 (by omega) (by omega))) (fun c_9 => ?_)
    refine lv_aload_n hx hb dX0_countOpen_12 rfl (lv_at hl 2 rfl) ?_
    refine va_get (D := G.1) (ci := 0) (v := .ref (a 14)) (C := RX0) (T := TX0) (N := 5) hx hb hts iw_X0_countOpen_RX0 hown hE.1 hP 0 rfl rfl 2 (by decide) (hts (.fieldLink RX0 18 "Rackrail$Orders" "done" "[Z") (by decide +kernel)) (fun _ h9 => h9) rfl dX0_countOpen_13 ?_
    refine lv_iload_n hx hb dX0_countOpen_16 rfl (lv_at hl 0 rfl) ?_
    refine va_zald hx hb hE.1 hP 1 1 rfl rfl (vp_in_nI (by omega) (by decide)) dX0_countOpen_17 ?_
    refine lv_if_ne (tgt := 24) hx hb dX0_countOpen_18 (by decide) (fun c_18 => ?_) (fun c_18 => ?_)
    · refine lv_iinc (v := nI (j + 1)) (lv' := [(2, .int (nI (j + 1))), (1, .int opn), (0, .ref (a 11))]) hx hb dX0_countOpen_24 hl (k := 0) rfl (inc1 _) (by decide) rfl (fun ls hl => ?_)
      refine lv_goto (tgt := 4) hx hb dX0_countOpen_27 (by decide) ?_
      exact ih (j + 1) opn _ ⟨by omega, (hf.trans (by rw [f_X0_countOpen_L, if_neg c_18])), lv_sub hl [0, 1, 2] rfl⟩
    · refine lv_iinc (v := opn + 1) (lv' := [(1, .int (opn + 1)), (2, .int (nI j)), (0, .ref (a 11))]) hx hb dX0_countOpen_21 hl (k := 1) rfl rfl (by decide) rfl (fun ls hl => ?_)
      refine lv_iinc (v := nI (j + 1)) (lv' := [(2, .int (nI (j + 1))), (1, .int (opn + 1)), (0, .ref (a 11))]) hx hb dX0_countOpen_24 hl (k := 1) rfl (inc1 _) (by decide) rfl (fun ls hl => ?_)
      refine lv_goto (tgt := 4) hx hb dX0_countOpen_27 (by decide) ?_
      exact ih (j + 1) (opn + 1) _ ⟨by omega, (hf.trans (by rw [f_X0_countOpen_L, if_pos c_18])), lv_sub hl [0, 1, 2] rfl⟩

/-! X0_countLate -/
def f_X0_countLate (lt : Int32) : Int32 :=
  lt
theorem iw_X0_countLate_RX0 : ∀ w ∈ u_ws RX0 TX0 5, w ∈ wsX0_countLate := by decide +kernel
set_option maxHeartbeats 4000000 in
set_option maxRecDepth 100000 in
theorem c_X0_countLate (l : Launch) (G : GT) (a : Nat → Nat) (sz : Nat) (oc : Int32) (lt : Int32) : Met l yX0_countLate wsX0_countLate ({ frames := 0, cells := 0, slots := 0, locals := 0 }) (GP G [.ref (a 11)] [wcO a oc lt] sz) (PQo (.returned (some (.int (f_X0_countLate lt))))) 0 0 (fun _ => False) := by
  refine bodyM (cc := cX0_countLate) (maxL := 1) (ret := (some .int)) (by decide) rfl (Nat.le_of_ble_eq_true rfl) ?_
  intro p e s m below meth c ls C
  obtain ⟨hx, hb, hr, hts, hown, hlocks, hml, hsz, hP, hE, hD, hA, hS, hl⟩ := C
  subst hsz
  have hl : lv_has ls 1 [(0, .ref (a 11))] := hl
  refine lv_aload_n hx hb dX0_countLate_0 rfl (lv_at hl 0 rfl) ?_
  refine va_get (D := G.1) (ci := 0) (v := .int lt) (C := RX0) (T := TX0) (N := 5) hx hb hts iw_X0_countLate_RX0 hown hE.1 hP 0 rfl rfl 4 (by decide) (hts (.fieldLink RX0 26 "Rackrail$Orders" "lateCount" "I") (by decide +kernel)) (fun _ h9 => h9) rfl dX0_countLate_1 ?_
  have hq : f_X0_countLate lt = lt := (by rw [f_X0_countLate])
  exact W.iret (v := lt) hx hb hr (fun t ht _ => ⟨by rw [hq], ht⟩) (fun _ h => nomatch h) dX0_countLate_4
end
section
/-! X3_requireShelf -/
def k_X3_requireShelf (p0 : Int32) : Nat :=
  if (f_X3_isBelow p0 6) = 0 then 1
    else 0
theorem kr_X3_requireShelf (p0 : Int32) : k_X3_requireShelf p0 = 0 ∨ k_X3_requireShelf p0 = 1 := by
  unfold k_X3_requireShelf
  (repeat' split) <;> decide
set_option maxHeartbeats 4000000 in
set_option maxRecDepth 100000 in
theorem c_X3_requireShelf (l : Launch) (hl9 : l.stackTraces = false) (G : GT) (a : Nat → Nat) (sz : Nat) (p0 : Int32) (h0 : k_X3_requireShelf p0 = 0) : Met l yX3_requireShelf wsX3_requireShelf ({ frames := 1, cells := 0, slots := 0, locals := 21 }) (GP G [.ref (a 0), .int p0] [] sz) (PQo (.returned none)) 0 0 (fun _ => False) := by
  refine bodyM (cc := cX3_requireShelf) (maxL := 2) (ret := none) (by decide) rfl (Nat.le_of_ble_eq_true rfl) ?_
  intro p e s m below meth c ls C
  obtain ⟨hx, hb, hr, hts, hown, hlocks, hml, hsz, hP, hE, hD, hA, hS, hl⟩ := C
  subst hsz
  have hl : lv_has ls 2 [(0, .ref (a 0)), (1, .int p0)] := hl
  refine lv_iload_n hx hb dX3_requireShelf_0 rfl (lv_at hl 1 rfl) ?_
  refine lv_bipush (v := 6) hx hb dX3_requireShelf_1 (by decide) ?_
  refine k_p (va_runS (As := [.int p0, .int 6]) (rest := []) ⟨hx, hb, hml, hown, hts⟩ (c_X3_isBelow l G s.heap.size p0 6) (va_cwS 2 hts gX3_requireShelf_X3_isBelow rfl rfl rfl ⟨by decide +kernel, by decide +kernel, by decide +kernel⟩ ⟨Nat.le_of_ble_eq_true rfl, Nat.le_of_ble_eq_true rfl⟩) ⟨GP.blind, GP.go (wc := []) hE hP hD hS hA [] rfl (by decide) [.int p0, .int 6]⟩ rfl rfl hl.1 rfl (lv_room (Nat.le_of_ble_eq_true rfl)) dX3_requireShelf_3 ⟨Nat.le_of_ble_eq_true rfl, Nat.le_of_ble_eq_true rfl⟩) ?_
  refine lv_if_ne (tgt := 19) hx hb dX3_requireShelf_6 (by decide) (fun c_6 => ?_) (fun c_6 => ?_)
  · exact W.vret hx hb hr (fun t ht _ => ⟨rfl, ht⟩) (fun _ h => nomatch h) dX3_requireShelf_19
  · exact absurd (h0.symm.trans (by rw [k_X3_requireShelf, if_pos c_6])) (by decide)

/-! X3_requireAisle -/
def k_X3_requireAisle (p0 : Int32) : Nat :=
  if (f_X3_isBelow p0 7) = 0 then 1
    else 0
theorem kr_X3_requireAisle (p0 : Int32) : k_X3_requireAisle p0 = 0 ∨ k_X3_requireAisle p0 = 1 := by
  unfold k_X3_requireAisle
  (repeat' split) <;> decide
set_option maxHeartbeats 4000000 in
set_option maxRecDepth 100000 in
theorem c_X3_requireAisle (l : Launch) (hl9 : l.stackTraces = false) (G : GT) (a : Nat → Nat) (sz : Nat) (p0 : Int32) (h0 : k_X3_requireAisle p0 = 0) : Met l yX3_requireAisle wsX3_requireAisle ({ frames := 1, cells := 0, slots := 0, locals := 21 }) (GP G [.ref (a 0), .int p0] [] sz) (PQo (.returned none)) 0 0 (fun _ => False) := by
  refine bodyM (cc := cX3_requireAisle) (maxL := 2) (ret := none) (by decide) rfl (Nat.le_of_ble_eq_true rfl) ?_
  intro p e s m below meth c ls C
  obtain ⟨hx, hb, hr, hts, hown, hlocks, hml, hsz, hP, hE, hD, hA, hS, hl⟩ := C
  subst hsz
  have hl : lv_has ls 2 [(0, .ref (a 0)), (1, .int p0)] := hl
  refine lv_iload_n hx hb dX3_requireAisle_0 rfl (lv_at hl 1 rfl) ?_
  refine lv_bipush (v := 7) hx hb dX3_requireAisle_1 (by decide) ?_
  refine k_p (va_runS (As := [.int p0, .int 7]) (rest := []) ⟨hx, hb, hml, hown, hts⟩ (c_X3_isBelow l G s.heap.size p0 7) (va_cwS 2 hts gX3_requireAisle_X3_isBelow rfl rfl rfl ⟨by decide +kernel, by decide +kernel, by decide +kernel⟩ ⟨Nat.le_of_ble_eq_true rfl, Nat.le_of_ble_eq_true rfl⟩) ⟨GP.blind, GP.go (wc := []) hE hP hD hS hA [] rfl (by decide) [.int p0, .int 7]⟩ rfl rfl hl.1 rfl (lv_room (Nat.le_of_ble_eq_true rfl)) dX3_requireAisle_3 ⟨Nat.le_of_ble_eq_true rfl, Nat.le_of_ble_eq_true rfl⟩) ?_
  refine lv_if_ne (tgt := 19) hx hb dX3_requireAisle_6 (by decide) (fun c_6 => ?_) (fun c_6 => ?_)
  · exact W.vret hx hb hr (fun t ht _ => ⟨rfl, ht⟩) (fun _ h => nomatch h) dX3_requireAisle_19
  · exact absurd (h0.symm.trans (by rw [k_X3_requireAisle, if_pos c_6])) (by decide)

/-! X3_requireSpot -/
def k_X3_requireSpot (p0 : Int32) : Nat :=
  if (f_X3_isSpot p0) = 0 then 1
    else 0
theorem kr_X3_requireSpot (p0 : Int32) : k_X3_requireSpot p0 = 0 ∨ k_X3_requireSpot p0 = 1 := by
  unfold k_X3_requireSpot
  (repeat' split) <;> decide
set_option maxHeartbeats 4000000 in
set_option maxRecDepth 100000 in
theorem c_X3_requireSpot (l : Launch) (hl9 : l.stackTraces = false) (G : GT) (a : Nat → Nat) (sz : Nat) (p0 : Int32) (h0 : k_X3_requireSpot p0 = 0) : Met l yX3_requireSpot wsX3_requireSpot ({ frames := 2, cells := 0, slots := 0, locals := 40 }) (GP G [.ref (a 0), .int p0] [] sz) (PQo (.returned none)) 0 0 (fun _ => False) := by
  refine bodyM (cc := cX3_requireSpot) (maxL := 2) (ret := none) (by decide) rfl (Nat.le_of_ble_eq_true rfl) ?_
  intro p e s m below meth c ls C
  obtain ⟨hx, hb, hr, hts, hown, hlocks, hml, hsz, hP, hE, hD, hA, hS, hl⟩ := C
  subst hsz
  have hl : lv_has ls 2 [(0, .ref (a 0)), (1, .int p0)] := hl
  refine lv_iload_n hx hb dX3_requireSpot_0 rfl (lv_at hl 1 rfl) ?_
  refine k_p (va_runS (As := [.int p0]) (rest := []) ⟨hx, hb, hml, hown, hts⟩ (c_X3_isSpot l G s.heap.size p0) (va_cwS 1 hts gX3_requireSpot_X3_isSpot rfl rfl rfl ⟨by decide +kernel, by decide +kernel, by decide +kernel⟩ ⟨Nat.le_of_ble_eq_true rfl, Nat.le_of_ble_eq_true rfl⟩) ⟨GP.blind, GP.go (wc := []) hE hP hD hS hA [] rfl (by decide) [.int p0]⟩ rfl rfl hl.1 rfl (lv_room (Nat.le_of_ble_eq_true rfl)) dX3_requireSpot_1 ⟨Nat.le_of_ble_eq_true rfl, Nat.le_of_ble_eq_true rfl⟩) ?_
  refine lv_if_ne (tgt := 17) hx hb dX3_requireSpot_4 (by decide) (fun c_4 => ?_) (fun c_4 => ?_)
  · exact W.vret hx hb hr (fun t ht _ => ⟨rfl, ht⟩) (fun _ h => nomatch h) dX3_requireSpot_17
  · exact absurd (h0.symm.trans (by rw [k_X3_requireSpot, if_pos c_4])) (by decide)

/-! X3_requirePerson -/
def k_X3_requirePerson (p0 : Int32) : Nat :=
  if (f_X3_isBelow p0 4) = 0 then 1
    else 0
theorem kr_X3_requirePerson (p0 : Int32) : k_X3_requirePerson p0 = 0 ∨ k_X3_requirePerson p0 = 1 := by
  unfold k_X3_requirePerson
  (repeat' split) <;> decide
set_option maxHeartbeats 4000000 in
set_option maxRecDepth 100000 in
theorem c_X3_requirePerson (l : Launch) (hl9 : l.stackTraces = false) (G : GT) (a : Nat → Nat) (sz : Nat) (p0 : Int32) (h0 : k_X3_requirePerson p0 = 0) : Met l yX3_requirePerson wsX3_requirePerson ({ frames := 1, cells := 0, slots := 0, locals := 21 }) (GP G [.ref (a 0), .int p0] [] sz) (PQo (.returned none)) 0 0 (fun _ => False) := by
  refine bodyM (cc := cX3_requirePerson) (maxL := 2) (ret := none) (by decide) rfl (Nat.le_of_ble_eq_true rfl) ?_
  intro p e s m below meth c ls C
  obtain ⟨hx, hb, hr, hts, hown, hlocks, hml, hsz, hP, hE, hD, hA, hS, hl⟩ := C
  subst hsz
  have hl : lv_has ls 2 [(0, .ref (a 0)), (1, .int p0)] := hl
  refine lv_iload_n hx hb dX3_requirePerson_0 rfl (lv_at hl 1 rfl) ?_
  refine lv_iconst (v := 4) hx hb dX3_requirePerson_1 (by decide) ?_
  refine k_p (va_runS (As := [.int p0, .int 4]) (rest := []) ⟨hx, hb, hml, hown, hts⟩ (c_X3_isBelow l G s.heap.size p0 4) (va_cwS 2 hts gX3_requirePerson_X3_isBelow rfl rfl rfl ⟨by decide +kernel, by decide +kernel, by decide +kernel⟩ ⟨Nat.le_of_ble_eq_true rfl, Nat.le_of_ble_eq_true rfl⟩) ⟨GP.blind, GP.go (wc := []) hE hP hD hS hA [] rfl (by decide) [.int p0, .int 4]⟩ rfl rfl hl.1 rfl (lv_room (Nat.le_of_ble_eq_true rfl)) dX3_requirePerson_2 ⟨Nat.le_of_ble_eq_true rfl, Nat.le_of_ble_eq_true rfl⟩) ?_
  refine lv_if_ne (tgt := 18) hx hb dX3_requirePerson_5 (by decide) (fun c_5 => ?_) (fun c_5 => ?_)
  · exact W.vret hx hb hr (fun t ht _ => ⟨rfl, ht⟩) (fun _ h => nomatch h) dX3_requirePerson_18
  · exact absurd (h0.symm.trans (by rw [k_X3_requirePerson, if_pos c_5])) (by decide)

/-! X3_requireBox -/
def k_X3_requireBox (cn : Int32) (p0 : Int32) : Nat :=
  if (f_X2_has cn p0) = 0 then 1
    else 0
theorem kr_X3_requireBox (cn : Int32) (p0 : Int32) : k_X3_requireBox cn p0 = 0 ∨ k_X3_requireBox cn p0 = 1 := by
  unfold k_X3_requireBox
  (repeat' split) <;> decide
theorem iw_X3_requireBox_RX3 : ∀ w ∈ u_ws RX3 TX3 4, w ∈ wsX3_requireBox := by decide +kernel
set_option maxHeartbeats 4000000 in
set_option maxRecDepth 100000 in
theorem c_X3_requireBox (l : Launch) (hl9 : l.stackTraces = false) (G : GT) (a : Nat → Nat) (sz : Nat) (ck : Int32) (cn : Int32) (p0 : Int32) (h0 : k_X3_requireBox cn p0 = 0) : Met l yX3_requireBox wsX3_requireBox ({ frames := 2, cells := 0, slots := 0, locals := 42 }) (GP G [.ref (a 0), .int p0] [wcA a ck, wcS a cn] sz) (PQo (.returned none)) 0 0 (fun _ => False) := by
  refine bodyM (cc := cX3_requireBox) (maxL := 2) (ret := none) (by decide) rfl (Nat.le_of_ble_eq_true rfl) ?_
  intro p e s m below meth c ls C
  obtain ⟨hx, hb, hr, hts, hown, hlocks, hml, hsz, hP, hE, hD, hA, hS, hl⟩ := C
  subst hsz
  have hl : lv_has ls 2 [(0, .ref (a 0)), (1, .int p0)] := hl
  refine lv_aload_n hx hb dX3_requireBox_0 rfl (lv_at hl 0 rfl) ?_
  refine va_get (D := G.1) (ci := 3) (v := .ref (a 1)) (C := RX3) (T := TX3) (N := 4) hx hb hts iw_X3_requireBox_RX3 hown hE.1 hP 0 rfl rfl 0 (by decide) (hts (.fieldLink RX3 12 "Rackrail" "store" "LRackrail$Store;") (by decide +kernel)) (fun _ h9 => h9) rfl dX3_requireBox_1 ?_
  refine lv_iload_n hx hb dX3_requireBox_4 rfl (lv_at hl 1 rfl) ?_
  refine k_p (va_runV (As := [.int p0]) (rest := []) ⟨hx, hb, hml, hown, hts⟩ (c_X2_has l G a s.heap.size cn p0) (cwV 1 hts gX3_requireBox_X2_has rfl rfl rfl ⟨rfl, by decide +kernel, by decide +kernel, by decide +kernel⟩ ⟨Nat.le_of_ble_eq_true rfl, Nat.le_of_ble_eq_true rfl⟩) ⟨GP.blind, va_recv hE.1 hP (ci := 2) (q0 := 1) rfl rfl, GP.go (wc := [wcS a cn]) hE hP hD hS hA [1] rfl (by decide) [.ref (a 1), .int p0]⟩ rfl rfl hl.1 rfl (lv_room (Nat.le_of_ble_eq_true rfl)) dX3_requireBox_5 ⟨Nat.le_of_ble_eq_true rfl, Nat.le_of_ble_eq_true rfl⟩) ?_
  refine lv_if_ne (tgt := 21) hx hb dX3_requireBox_8 (by decide) (fun c_8 => ?_) (fun c_8 => ?_)
  · exact W.vret hx hb hr (fun t ht _ => ⟨rfl, ht⟩) (fun _ h => nomatch h) dX3_requireBox_21
  · exact absurd (h0.symm.trans (by rw [k_X3_requireBox, if_pos c_8])) (by decide)

/-! X3_requireOut -/
def k_X3_requireOut (cn : Int32) (sp : Nat → Int32) (p0 : Int32) : Nat :=
  if (f_X2_whereIs cn sp p0) = (-1) then 0
    else 3
theorem kr_X3_requireOut (cn : Int32) (sp : Nat → Int32) (p0 : Int32) : k_X3_requireOut cn sp p0 = 0 ∨ k_X3_requireOut cn sp p0 = 3 := by
  unfold k_X3_requireOut
  (repeat' split) <;> decide
theorem iw_X3_requireOut_RX3 : ∀ w ∈ u_ws RX3 TX3 4, w ∈ wsX3_requireOut := by decide +kernel
set_option maxHeartbeats 4000000 in
set_option maxRecDepth 100000 in
theorem c_X3_requireOut (l : Launch) (hl9 : l.stackTraces = false) (G : GT) (a : Nat → Nat) (sz : Nat) (ck : Int32) (cn : Int32) (sp : Nat → Int32) (p0 : Int32) (hcn : okN 20 cn) (h0 : k_X3_requireOut cn sp p0 = 0) : Met l yX3_requireOut wsX3_requireOut ({ frames := 3, cells := 0, slots := 0, locals := 63 }) (GP G [.ref (a 0), .int p0] [wcA a ck, wcS a cn, wcI G (a 6) 20 sp] sz) (PQo (.returned none)) 0 0 (fun _ => False) := by
  refine bodyM (cc := cX3_requireOut) (maxL := 2) (ret := none) (by decide) rfl (Nat.le_of_ble_eq_true rfl) ?_
  intro p e s m below meth c ls C
  obtain ⟨hx, hb, hr, hts, hown, hlocks, hml, hsz, hP, hE, hD, hA, hS, hl⟩ := C
  subst hsz
  have hl : lv_has ls 2 [(0, .ref (a 0)), (1, .int p0)] := hl
  refine lv_aload_n hx hb dX3_requireOut_0 rfl (lv_at hl 0 rfl) ?_
  refine va_get (D := G.1) (ci := 3) (v := .ref (a 1)) (C := RX3) (T := TX3) (N := 4) hx hb hts iw_X3_requireOut_RX3 hown hE.1 hP 0 rfl rfl 0 (by decide) (hts (.fieldLink RX3 12 "Rackrail" "store" "LRackrail$Store;") (by decide +kernel)) (fun _ h9 => h9) rfl dX3_requireOut_1 ?_
  refine lv_iload_n hx hb dX3_requireOut_4 rfl (lv_at hl 1 rfl) ?_
  refine k_p (va_runV (As := [.int p0]) (rest := []) ⟨hx, hb, hml, hown, hts⟩ (c_X2_whereIs l G a s.heap.size cn sp p0 hcn) (cwV 1 hts gX3_requireOut_X2_whereIs rfl rfl rfl ⟨rfl, by decide +kernel, by decide +kernel, by decide +kernel⟩ ⟨Nat.le_of_ble_eq_true rfl, Nat.le_of_ble_eq_true rfl⟩) ⟨GP.blind, va_recv hE.1 hP (ci := 2) (q0 := 1) rfl rfl, GP.go (wc := [wcS a cn, wcI G (a 6) 20 sp]) hE hP hD hS hA [1, 2] rfl (by decide) [.ref (a 1), .int p0]⟩ rfl rfl hl.1 rfl (lv_room (Nat.le_of_ble_eq_true rfl)) dX3_requireOut_5 ⟨Nat.le_of_ble_eq_true rfl, Nat.le_of_ble_eq_true rfl⟩) ?_
  refine lv_iconst (v := (-1)) hx hb dX3_requireOut_8 (by decide) ?_
  refine lv_icmp_eq (tgt := 22) hx hb dX3_requireOut_9 (by decide) (fun c_9 => ?_) (fun c_9 => ?_)
  · exact W.vret hx hb hr (fun t ht _ => ⟨rfl, ht⟩) (fun _ h => nomatch h) dX3_requireOut_22
  · exact absurd (h0.symm.trans (by rw [k_X3_requireOut, if_neg c_9])) (by decide)

/-! X3_requireInside -/
def k_X3_requireInside (ins : Nat → Int32) (p0 : Int32) : Nat :=
  if (f_X1_isInside ins p0) = 0 then 3
    else 0
theorem kr_X3_requireInside (ins : Nat → Int32) (p0 : Int32) : k_X3_requireInside ins p0 = 0 ∨ k_X3_requireInside ins p0 = 3 := by
  unfold k_X3_requireInside
  (repeat' split) <;> decide
theorem iw_X3_requireInside_RX3 : ∀ w ∈ u_ws RX3 TX3 4, w ∈ wsX3_requireInside := by decide +kernel
set_option maxHeartbeats 4000000 in
set_option maxRecDepth 100000 in
theorem c_X3_requireInside (l : Launch) (hl9 : l.stackTraces = false) (G : GT) (a : Nat → Nat) (sz : Nat) (ck : Int32) (gp : Int32) (tg : Int32) (st : Int32) (sm : Int32) (ins : Nat → Int32) (p0 : Int32) (h0 : k_X3_requireInside ins p0 = 0) : Met l yX3_requireInside wsX3_requireInside ({ frames := 2, cells := 0, slots := 0, locals := 42 }) (GP G [.ref (a 0), .int p0] [wcA a ck, wcR a gp tg st sm, wcZ G (a 9) 4 ins] sz) (PQo (.returned none)) 0 0 (fun _ => False) := by
  refine bodyM (cc := cX3_requireInside) (maxL := 2) (ret := none) (by decide) rfl (Nat.le_of_ble_eq_true rfl) ?_
  intro p e s m below meth c ls C
  obtain ⟨hx, hb, hr, hts, hown, hlocks, hml, hsz, hP, hE, hD, hA, hS, hl⟩ := C
  subst hsz
  have hl : lv_has ls 2 [(0, .ref (a 0)), (1, .int p0)] := hl
  refine lv_aload_n hx hb dX3_requireInside_0 rfl (lv_at hl 0 rfl) ?_
  refine va_get (D := G.1) (ci := 3) (v := .ref (a 7)) (C := RX3) (T := TX3) (N := 4) hx hb hts iw_X3_requireInside_RX3 hown hE.1 hP 0 rfl rfl 1 (by decide) (hts (.fieldLink RX3 19 "Rackrail" "rail" "LRackrail$Rail;") (by decide +kernel)) (fun _ h9 => h9) rfl dX3_requireInside_1 ?_
  refine lv_iload_n hx hb dX3_requireInside_4 rfl (lv_at hl 1 rfl) ?_
  refine k_p (va_runV (As := [.int p0]) (rest := []) ⟨hx, hb, hml, hown, hts⟩ (c_X1_isInside l G a s.heap.size gp tg st sm ins p0) (cwV 1 hts gX3_requireInside_X1_isInside rfl rfl rfl ⟨rfl, by decide +kernel, by decide +kernel, by decide +kernel⟩ ⟨Nat.le_of_ble_eq_true rfl, Nat.le_of_ble_eq_true rfl⟩) ⟨GP.blind, va_recv hE.1 hP (ci := 1) (q0 := 1) rfl rfl, GP.go (wc := [wcR a gp tg st sm, wcZ G (a 9) 4 ins]) hE hP hD hS hA [1, 2] rfl (by decide) [.ref (a 7), .int p0]⟩ rfl rfl hl.1 rfl (lv_room (Nat.le_of_ble_eq_true rfl)) dX3_requireInside_5 ⟨Nat.le_of_ble_eq_true rfl, Nat.le_of_ble_eq_true rfl⟩) ?_
  refine lv_if_ne (tgt := 21) hx hb dX3_requireInside_8 (by decide) (fun c_8 => ?_) (fun c_8 => ?_)
  · exact W.vret hx hb hr (fun t ht _ => ⟨rfl, ht⟩) (fun _ h => nomatch h) dX3_requireInside_21
  · exact absurd (h0.symm.trans (by rw [k_X3_requireInside, if_pos c_8])) (by decide)

/-! X3_setClimate -/
def f_X3_setClimate (sc : Nat → Int32) (p0 : Int32) (p1 : Int32) : Int32 × (Nat → Int32) :=
  if k_X3_requireShelf p0 = 0 then (if (f_X3_isBelow p1 3) = 0 then (0, sc)
      else (f_X2_climateOf sc p0, f_X2_changeClimate sc p0 p1))
    else (0, sc)
def k_X3_setClimate (p0 : Int32) (p1 : Int32) : Nat :=
  if k_X3_requireShelf p0 = 0 then (if (f_X3_isBelow p1 3) = 0 then 2
      else 0)
    else 1
theorem kr_X3_setClimate (p0 : Int32) (p1 : Int32) : k_X3_setClimate p0 p1 = 0 ∨ k_X3_setClimate p0 p1 = 1 ∨ k_X3_setClimate p0 p1 = 2 := by
  unfold k_X3_setClimate
  (repeat' split) <;> decide
theorem iw_X3_setClimate_RX3 : ∀ w ∈ u_ws RX3 TX3 4, w ∈ wsX3_setClimate := by decide +kernel
set_option maxHeartbeats 4000000 in
set_option maxRecDepth 100000 in
theorem c_X3_setClimate (l : Launch) (hl9 : l.stackTraces = false) (G : GT) (a : Nat → Nat) (sz : Nat) (ck : Int32) (cn : Int32) (sc : Nat → Int32) (p0 : Int32) (p1 : Int32) (h0 : k_X3_setClimate p0 p1 = 0) : Met l yX3_setClimate wsX3_setClimate ({ frames := 2, cells := 0, slots := 0, locals := 43 }) (GP G [.ref (a 0), .int p0, .int p1] [wcA a ck, wcS a cn, wcI G (a 2) 6 sc] sz) (MQo G (.returned (some (.int ((f_X3_setClimate sc p0 p1).1)))) [wcA a ck, wcS a cn, wcI G (a 2) 6 ((f_X3_setClimate sc p0 p1).2)] (va_A [wcA a ck, wcS a cn, wcI G (a 2) 6 sc] sz)) 0 0 (va_A [wcA a ck, wcS a cn, wcI G (a 2) 6 sc] sz) := by
  refine bodyM (cc := cX3_setClimate) (maxL := 4) (ret := (some .int)) (by decide) rfl (Nat.le_of_ble_eq_true rfl) ?_
  intro p e s m below meth c ls C
  obtain ⟨hx, hb, hr, hts, hown, hlocks, hml, hsz, hP, hE, hD, hA, hS, hl⟩ := C
  subst hsz
  have hl : lv_has ls 4 [(0, .ref (a 0)), (1, .int p0), (2, .int p1)] := hl
  refine lv_aload_n hx hb dX3_setClimate_0 rfl (lv_at hl 0 rfl) ?_
  refine lv_iload_n hx hb dX3_setClimate_1 rfl (lv_at hl 1 rfl) ?_
  have c_2 : k_X3_requireShelf p0 = 0 := Decidable.byContradiction (fun c_2 => absurd (h0.symm.trans (by rw [k_X3_setClimate, if_neg c_2])) (by decide))
  refine k_p (va_runV (As := [.int p0]) (rest := []) ⟨hx, hb, hml, hown, hts⟩ (c_X3_requireShelf l hl9 G a s.heap.size p0 c_2) (cwV 1 hts gX3_setClimate_X3_requireShelf rfl rfl rfl ⟨rfl, by decide +kernel, by decide +kernel, by decide +kernel⟩ ⟨Nat.le_of_ble_eq_true rfl, Nat.le_of_ble_eq_true rfl⟩) ⟨GP.blind, va_recv hE.1 hP (ci := 3) (q0 := 0) rfl rfl, GP.go (wc := []) hE hP hD hS hA [] rfl (by decide) [.ref (a 0), .int p0]⟩ rfl rfl hl.1 rfl (lv_room (Nat.le_of_ble_eq_true rfl)) dX3_setClimate_2 ⟨Nat.le_of_ble_eq_true rfl, Nat.le_of_ble_eq_true rfl⟩) ?_
  refine lv_iload_n hx hb dX3_setClimate_5 rfl (lv_at hl 2 rfl) ?_
  refine lv_iconst (v := 3) hx hb dX3_setClimate_6 (by decide) ?_
  refine k_p (va_runS (As := [.int p1, .int 3]) (rest := []) ⟨hx, hb, hml, hown, hts⟩ (c_X3_isBelow l G s.heap.size p1 3) (va_cwS 2 hts gX3_setClimate_X3_isBelow rfl rfl rfl ⟨by decide +kernel, by decide +kernel, by decide +kernel⟩ ⟨Nat.le_of_ble_eq_true rfl, Nat.le_of_ble_eq_true rfl⟩) ⟨GP.blind, GP.go (wc := []) hE hP hD hS hA [] rfl (by decide) [.int p1, .int 3]⟩ rfl rfl hl.1 rfl (lv_room (Nat.le_of_ble_eq_true rfl)) dX3_setClimate_7 ⟨Nat.le_of_ble_eq_true rfl, Nat.le_of_ble_eq_true rfl⟩) ?_
  refine lv_if_ne (tgt := 23) hx hb dX3_setClimate_10 (by decide) (fun c_10 => ?_) (fun c_10 => ?_)
  · refine lv_aload_n hx hb dX3_setClimate_23 rfl (lv_at hl 0 rfl) ?_
    refine va_get (D := G.1) (ci := 3) (v := .ref (a 1)) (C := RX3) (T := TX3) (N := 4) hx hb hts iw_X3_setClimate_RX3 hown hE.1 hP 0 rfl rfl 0 (by decide) (hts (.fieldLink RX3 12 "Rackrail" "store" "LRackrail$Store;") (by decide +kernel)) (fun _ h9 => h9) rfl dX3_setClimate_24 ?_
    refine lv_iload_n hx hb dX3_setClimate_27 rfl (lv_at hl 1 rfl) ?_
    refine k_p (va_runV (As := [.int p0]) (rest := []) ⟨hx, hb, hml, hown, hts⟩ (c_X2_climateOf l G a s.heap.size cn sc p0) (cwV 1 hts gX3_setClimate_X2_climateOf rfl rfl rfl ⟨rfl, by decide +kernel, by decide +kernel, by decide +kernel⟩ ⟨Nat.le_of_ble_eq_true rfl, Nat.le_of_ble_eq_true rfl⟩) ⟨GP.blind, va_recv hE.1 hP (ci := 2) (q0 := 1) rfl rfl, GP.go (wc := [wcS a cn, wcI G (a 2) 6 sc]) hE hP hD hS hA [1, 2] rfl (by decide) [.ref (a 1), .int p0]⟩ rfl rfl hl.1 rfl (lv_room (Nat.le_of_ble_eq_true rfl)) dX3_setClimate_28 ⟨Nat.le_of_ble_eq_true rfl, Nat.le_of_ble_eq_true rfl⟩) ?_
    refine lv_istore_n (lv' := [(3, .int (f_X2_climateOf sc p0)), (0, .ref (a 0)), (1, .int p0), (2, .int p1)]) hx hb dX3_setClimate_31 rfl hl (by decide) rfl (fun ls hl => ?_)
    refine lv_aload_n hx hb dX3_setClimate_32 rfl (lv_at hl 1 rfl) ?_
    refine va_get (D := G.1) (ci := 3) (v := .ref (a 1)) (C := RX3) (T := TX3) (N := 4) hx hb hts iw_X3_setClimate_RX3 hown hE.1 hP 0 rfl rfl 0 (by decide) (hts (.fieldLink RX3 12 "Rackrail" "store" "LRackrail$Store;") (by decide +kernel)) (fun _ h9 => h9) rfl dX3_setClimate_33 ?_
    refine lv_iload_n hx hb dX3_setClimate_36 rfl (lv_at hl 2 rfl) ?_
    refine lv_iload_n hx hb dX3_setClimate_37 rfl (lv_at hl 3 rfl) ?_
    refine k_m (wc := [wcS a cn, wcI G (a 2) 6 sc]) (w1 := [wcS a cn, wcI G (a 2) 6 (f_X2_changeClimate sc p0 p1)]) (wn := [wcA a ck, wcS a cn, wcI G (a 2) 6 (f_X2_changeClimate sc p0 p1)]) (va_runV (As := [.int p0, .int p1]) (rest := []) ⟨hx, hb, hml, hown, hts⟩ (c_X2_changeClimate l G a s.heap.size cn sc p0 p1) (cwV 2 hts gX3_setClimate_X2_changeClimate rfl rfl rfl ⟨rfl, by decide +kernel, by decide +kernel, by decide +kernel⟩ ⟨Nat.le_of_ble_eq_true rfl, Nat.le_of_ble_eq_true rfl⟩) ⟨GP.blind, va_recv hE.1 hP (ci := 2) (q0 := 1) rfl rfl, GP.go (wc := [wcS a cn, wcI G (a 2) 6 sc]) hE hP hD hS hA [1, 2] rfl (by decide) [.ref (a 1), .int p0, .int p1]⟩ rfl rfl hl.1 rfl (lv_room (Nat.le_of_ble_eq_true rfl)) dX3_setClimate_38 ⟨Nat.le_of_ble_eq_true rfl, Nat.le_of_ble_eq_true rfl⟩) hP hD hS hA [1, 2] rfl rfl rfl rfl (fun H locs hP hD hS => ?_)
    refine lv_iload_n hx hb dX3_setClimate_41 rfl (lv_at hl 0 rfl) ?_
    have hq : f_X3_setClimate sc p0 p1 = (f_X2_climateOf sc p0, f_X2_changeClimate sc p0 p1) := (by rw [f_X3_setClimate, if_pos c_2, if_neg c_10])
    exact W.iret (v := f_X2_climateOf sc p0) hx hb hr (fun t ht _ => ⟨by rw [hq], by rw [hq, ht]; exact hP, hS.F ht⟩) hS.2.2 dX3_setClimate_42
  · exact absurd (h0.symm.trans (by rw [k_X3_setClimate, if_pos c_2, if_pos c_10])) (by decide)

/-! X3_addBox -/
def f_X3_addBox (cn : Int32) (cl : Nat → Int32) (wt : Nat → Int32) (kn : Nat → Int32) (sp : Nat → Int32) (p0 : Int32) (p1 : Int32) (p2 : Int32) : Int32 × Int32 × (Nat → Int32) × (Nat → Int32) × (Nat → Int32) × (Nat → Int32) :=
  if (f_X3_isBelow p0 3) = 0 then (0, cn, cl, wt, kn, sp)
    else if p1 < 1 then (0, cn, cl, wt, kn, sp)
    else if p1 ≤ 60 then (if (f_X3_isBelow p2 10) = 0 then (0, cn, cl, wt, kn, sp)
      else if (f_X2_isFull cn) = 0 then ((f_X2_enter cn cl wt kn sp p0 p1 p2).1, (f_X2_enter cn cl wt kn sp p0 p1 p2).2.1, (f_X2_enter cn cl wt kn sp p0 p1 p2).2.2.1, (f_X2_enter cn cl wt kn sp p0 p1 p2).2.2.2.1, (f_X2_enter cn cl wt kn sp p0 p1 p2).2.2.2.2.1, (f_X2_enter cn cl wt kn sp p0 p1 p2).2.2.2.2.2)
      else (0, cn, cl, wt, kn, sp))
    else (0, cn, cl, wt, kn, sp)
def k_X3_addBox (cn : Int32) (p0 : Int32) (p1 : Int32) (p2 : Int32) : Nat :=
  if (f_X3_isBelow p0 3) = 0 then 2
    else if p1 < 1 then 2
    else if p1 ≤ 60 then (if (f_X3_isBelow p2 10) = 0 then 2
      else if (f_X2_isFull cn) = 0 then 0
      else 3)
    else 2
theorem kr_X3_addBox (cn : Int32) (p0 : Int32) (p1 : Int32) (p2 : Int32) : k_X3_addBox cn p0 p1 p2 = 0 ∨ k_X3_addBox cn p0 p1 p2 = 2 ∨ k_X3_addBox cn p0 p1 p2 = 3 := by
  unfold k_X3_addBox
  (repeat' split) <;> decide
theorem iw_X3_addBox_RX3 : ∀ w ∈ u_ws RX3 TX3 4, w ∈ wsX3_addBox := by decide +kernel
set_option maxHeartbeats 4000000 in
set_option maxRecDepth 100000 in
theorem c_X3_addBox (l : Launch) (hl9 : l.stackTraces = false) (G : GT) (a : Nat → Nat) (sz : Nat) (ck : Int32) (cn : Int32) (cl : Nat → Int32) (wt : Nat → Int32) (kn : Nat → Int32) (sp : Nat → Int32) (p0 : Int32) (p1 : Int32) (p2 : Int32) (hcn : okN 20 cn) (h0 : k_X3_addBox cn p0 p1 p2 = 0) : Met l yX3_addBox wsX3_addBox ({ frames := 2, cells := 0, slots := 0, locals := 44 }) (GP G [.ref (a 0), .int p0, .int p1, .int p2] [wcA a ck, wcS a cn, wcI G (a 3) 20 cl, wcI G (a 4) 20 wt, wcI G (a 5) 20 kn, wcI G (a 6) 20 sp] sz) (MQo G (.returned (some (.int ((f_X3_addBox cn cl wt kn sp p0 p1 p2).1)))) [wcA a ck, wcS a ((f_X3_addBox cn cl wt kn sp p0 p1 p2).2.1), wcI G (a 3) 20 ((f_X3_addBox cn cl wt kn sp p0 p1 p2).2.2.1), wcI G (a 4) 20 ((f_X3_addBox cn cl wt kn sp p0 p1 p2).2.2.2.1), wcI G (a 5) 20 ((f_X3_addBox cn cl wt kn sp p0 p1 p2).2.2.2.2.1), wcI G (a 6) 20 ((f_X3_addBox cn cl wt kn sp p0 p1 p2).2.2.2.2.2)] (va_A [wcA a ck, wcS a cn, wcI G (a 3) 20 cl, wcI G (a 4) 20 wt, wcI G (a 5) 20 kn, wcI G (a 6) 20 sp] sz)) 0 0 (va_A [wcA a ck, wcS a cn, wcI G (a 3) 20 cl, wcI G (a 4) 20 wt, wcI G (a 5) 20 kn, wcI G (a 6) 20 sp] sz) := by
  refine bodyM (cc := cX3_addBox) (maxL := 4) (ret := (some .int)) (by decide) rfl (Nat.le_of_ble_eq_true rfl) ?_
  intro p e s m below meth c ls C
  obtain ⟨hx, hb, hr, hts, hown, hlocks, hml, hsz, hP, hE, hD, hA, hS, hl⟩ := C
  subst hsz
  have hl : lv_has ls 4 [(0, .ref (a 0)), (1, .int p0), (2, .int p1), (3, .int p2)] := hl
  refine lv_iload_n hx hb dX3_addBox_0 rfl (lv_at hl 1 rfl) ?_
  refine lv_iconst (v := 3) hx hb dX3_addBox_1 (by decide) ?_
  refine k_p (va_runS (As := [.int p0, .int 3]) (rest := []) ⟨hx, hb, hml, hown, hts⟩ (c_X3_isBelow l G s.heap.size p0 3) (va_cwS 2 hts gX3_addBox_X3_isBelow rfl rfl rfl ⟨by decide +kernel, by decide +kernel, by decide +kernel⟩ ⟨Nat.le_of_ble_eq_true rfl, Nat.le_of_ble_eq_true rfl⟩) ⟨GP.blind, GP.go (wc := []) hE hP hD hS hA [] rfl (by decide) [.int p0, .int 3]⟩ rfl rfl hl.1 rfl (lv_room (Nat.le_of_ble_eq_true rfl)) dX3_addBox_2 ⟨Nat.le_of_ble_eq_true rfl, Nat.le_of_ble_eq_true rfl⟩) ?_
  refine lv_if_ne (tgt := 18) hx hb dX3_addBox_5 (by decide) (fun c_5 => ?_) (fun c_5 => ?_)
  · refine lv_iload_n hx hb dX3_addBox_18 rfl (lv_at hl 2 rfl) ?_
    refine lv_iconst (v := 1) hx hb dX3_addBox_19 (by decide) ?_
    refine lv_icmp_lt (tgt := 29) hx hb dX3_addBox_20 (by decide) (fun c_20 => ?_) (fun c_20 => ?_)
    · exact absurd (h0.symm.trans (by rw [k_X3_addBox, if_neg c_5, if_pos c_20])) (by decide)
    · refine lv_iload_n hx hb dX3_addBox_23 rfl (lv_at hl 2 rfl) ?_
      refine lv_bipush (v := 60) hx hb dX3_addBox_24 (by decide) ?_
      refine lv_icmp_le (tgt := 39) hx hb dX3_addBox_26 (by decide) (fun c_26 => ?_) (fun c_26 => ?_)
      · refine lv_iload_n hx hb dX3_addBox_39 rfl (lv_at hl 3 rfl) ?_
        refine lv_bipush (v := 10) hx hb dX3_addBox_40 (by decide) ?_
        refine k_p (va_runS (As := [.int p2, .int 10]) (rest := []) ⟨hx, hb, hml, hown, hts⟩ (c_X3_isBelow l G s.heap.size p2 10) (va_cwS 2 hts gX3_addBox_X3_isBelow rfl rfl rfl ⟨by decide +kernel, by decide +kernel, by decide +kernel⟩ ⟨Nat.le_of_ble_eq_true rfl, Nat.le_of_ble_eq_true rfl⟩) ⟨GP.blind, GP.go (wc := []) hE hP hD hS hA [] rfl (by decide) [.int p2, .int 10]⟩ rfl rfl hl.1 rfl (lv_room (Nat.le_of_ble_eq_true rfl)) dX3_addBox_42 ⟨Nat.le_of_ble_eq_true rfl, Nat.le_of_ble_eq_true rfl⟩) ?_
        refine lv_if_ne (tgt := 58) hx hb dX3_addBox_45 (by decide) (fun c_45 => ?_) (fun c_45 => ?_)
        · refine lv_aload_n hx hb dX3_addBox_58 rfl (lv_at hl 0 rfl) ?_
          refine va_get (D := G.1) (ci := 3) (v := .ref (a 1)) (C := RX3) (T := TX3) (N := 4) hx hb hts iw_X3_addBox_RX3 hown hE.1 hP 0 rfl rfl 0 (by decide) (hts (.fieldLink RX3 12 "Rackrail" "store" "LRackrail$Store;") (by decide +kernel)) (fun _ h9 => h9) rfl dX3_addBox_59 ?_
          refine k_p (va_runV (As := []) (rest := []) ⟨hx, hb, hml, hown, hts⟩ (c_X2_isFull l G a s.heap.size cn) (cwV 0 hts gX3_addBox_X2_isFull rfl rfl rfl ⟨rfl, by decide +kernel, by decide +kernel, by decide +kernel⟩ ⟨Nat.le_of_ble_eq_true rfl, Nat.le_of_ble_eq_true rfl⟩) ⟨GP.blind, va_recv hE.1 hP (ci := 2) (q0 := 1) rfl rfl, GP.go (wc := [wcS a cn]) hE hP hD hS hA [1] rfl (by decide) [.ref (a 1)]⟩ rfl rfl hl.1 rfl (lv_room (Nat.le_of_ble_eq_true rfl)) dX3_addBox_62 ⟨Nat.le_of_ble_eq_true rfl, Nat.le_of_ble_eq_true rfl⟩) ?_
          refine lv_if_eq (tgt := 78) hx hb dX3_addBox_65 (by decide) (fun c_65 => ?_) (fun c_65 => ?_)
          · refine lv_aload_n hx hb dX3_addBox_78 rfl (lv_at hl 0 rfl) ?_
            refine va_get (D := G.1) (ci := 3) (v := .ref (a 1)) (C := RX3) (T := TX3) (N := 4) hx hb hts iw_X3_addBox_RX3 hown hE.1 hP 0 rfl rfl 0 (by decide) (hts (.fieldLink RX3 12 "Rackrail" "store" "LRackrail$Store;") (by decide +kernel)) (fun _ h9 => h9) rfl dX3_addBox_79 ?_
            refine lv_iload_n hx hb dX3_addBox_82 rfl (lv_at hl 1 rfl) ?_
            refine lv_iload_n hx hb dX3_addBox_83 rfl (lv_at hl 2 rfl) ?_
            refine lv_iload_n hx hb dX3_addBox_84 rfl (lv_at hl 3 rfl) ?_
            refine k_m (wc := [wcS a cn, wcI G (a 3) 20 cl, wcI G (a 4) 20 wt, wcI G (a 5) 20 kn, wcI G (a 6) 20 sp]) (w1 := [wcS a ((f_X2_enter cn cl wt kn sp p0 p1 p2).2.1), wcI G (a 3) 20 ((f_X2_enter cn cl wt kn sp p0 p1 p2).2.2.1), wcI G (a 4) 20 ((f_X2_enter cn cl wt kn sp p0 p1 p2).2.2.2.1), wcI G (a 5) 20 ((f_X2_enter cn cl wt kn sp p0 p1 p2).2.2.2.2.1), wcI G (a 6) 20 ((f_X2_enter cn cl wt kn sp p0 p1 p2).2.2.2.2.2)]) (wn := [wcA a ck, wcS a ((f_X2_enter cn cl wt kn sp p0 p1 p2).2.1), wcI G (a 3) 20 ((f_X2_enter cn cl wt kn sp p0 p1 p2).2.2.1), wcI G (a 4) 20 ((f_X2_enter cn cl wt kn sp p0 p1 p2).2.2.2.1), wcI G (a 5) 20 ((f_X2_enter cn cl wt kn sp p0 p1 p2).2.2.2.2.1), wcI G (a 6) 20 ((f_X2_enter cn cl wt kn sp p0 p1 p2).2.2.2.2.2)]) (va_runV (As := [.int p0, .int p1, .int p2]) (rest := []) ⟨hx, hb, hml, hown, hts⟩ (c_X2_enter l G a s.heap.size cn cl wt kn sp p0 p1 p2 hcn) (cwV 3 hts gX3_addBox_X2_enter rfl rfl rfl ⟨rfl, by decide +kernel, by decide +kernel, by decide +kernel⟩ ⟨Nat.le_of_ble_eq_true rfl, Nat.le_of_ble_eq_true rfl⟩) ⟨GP.blind, va_recv hE.1 hP (ci := 2) (q0 := 1) rfl rfl, GP.go (wc := [wcS a cn, wcI G (a 3) 20 cl, wcI G (a 4) 20 wt, wcI G (a 5) 20 kn, wcI G (a 6) 20 sp]) hE hP hD hS hA [1, 2, 3, 4, 5] rfl (by decide) [.ref (a 1), .int p0, .int p1, .int p2]⟩ rfl rfl hl.1 rfl (lv_room (Nat.le_of_ble_eq_true rfl)) dX3_addBox_85 ⟨Nat.le_of_ble_eq_true rfl, Nat.le_of_ble_eq_true rfl⟩) hP hD hS hA [1, 2, 3, 4, 5] rfl rfl rfl rfl (fun H locs hP hD hS => ?_)
            have hq : f_X3_addBox cn cl wt kn sp p0 p1 p2 = ((f_X2_enter cn cl wt kn sp p0 p1 p2).1, (f_X2_enter cn cl wt kn sp p0 p1 p2).2.1, (f_X2_enter cn cl wt kn sp p0 p1 p2).2.2.1, (f_X2_enter cn cl wt kn sp p0 p1 p2).2.2.2.1, (f_X2_enter cn cl wt kn sp p0 p1 p2).2.2.2.2.1, (f_X2_enter cn cl wt kn sp p0 p1 p2).2.2.2.2.2) := (by rw [f_X3_addBox, if_neg c_5, if_neg c_20, if_pos c_26, if_neg c_45, if_pos c_65])
            exact W.iret (v := (f_X2_enter cn cl wt kn sp p0 p1 p2).1) hx hb hr (fun t ht _ => ⟨by rw [hq], by rw [hq, ht]; exact hP, hS.F ht⟩) hS.2.2 dX3_addBox_88
          · exact absurd (h0.symm.trans (by rw [k_X3_addBox, if_neg c_5, if_neg c_20, if_pos c_26, if_neg c_45, if_neg c_65])) (by decide)
        · exact absurd (h0.symm.trans (by rw [k_X3_addBox, if_neg c_5, if_neg c_20, if_pos c_26, if_pos c_45])) (by decide)
      · exact absurd (h0.symm.trans (by rw [k_X3_addBox, if_neg c_5, if_neg c_20, if_neg c_26])) (by decide)
  · exact absurd (h0.symm.trans (by rw [k_X3_addBox, if_pos c_5])) (by decide)

/-! X3_bestSpot -/
def f_X3_bestSpot (cn : Int32) (sc : Nat → Int32) (cl : Nat → Int32) (wt : Nat → Int32) (kn : Nat → Int32) (sp : Nat → Int32) (p0 : Int32) : Int32 :=
  if k_X3_requireBox cn p0 = 0 then (if k_X3_requireOut cn sp p0 = 0 then f_X2_bestSpotFor cn sc cl wt kn sp p0
      else 0)
    else 0
def k_X3_bestSpot (cn : Int32) (sp : Nat → Int32) (p0 : Int32) : Nat :=
  if k_X3_requireBox cn p0 = 0 then (if k_X3_requireOut cn sp p0 = 0 then 0
      else 3)
    else 1
theorem kr_X3_bestSpot (cn : Int32) (sp : Nat → Int32) (p0 : Int32) : k_X3_bestSpot cn sp p0 = 0 ∨ k_X3_bestSpot cn sp p0 = 1 ∨ k_X3_bestSpot cn sp p0 = 3 := by
  unfold k_X3_bestSpot
  (repeat' split) <;> decide
theorem iw_X3_bestSpot_RX3 : ∀ w ∈ u_ws RX3 TX3 4, w ∈ wsX3_bestSpot := by decide +kernel
set_option maxHeartbeats 4000000 in
set_option maxRecDepth 100000 in
theorem c_X3_bestSpot (l : Launch) (hl9 : l.stackTraces = false) (G : GT) (a : Nat → Nat) (sz : Nat) (ck : Int32) (cn : Int32) (sc : Nat → Int32) (cl : Nat → Int32) (wt : Nat → Int32) (kn : Nat → Int32) (sp : Nat → Int32) (p0 : Int32) (hcn : okN 20 cn) (h0 : k_X3_bestSpot cn sp p0 = 0) : Met l yX3_bestSpot wsX3_bestSpot ({ frames := 6, cells := 0, slots := 0, locals := 137 }) (GP G [.ref (a 0), .int p0] [wcA a ck, wcS a cn, wcI G (a 2) 6 sc, wcI G (a 3) 20 cl, wcI G (a 4) 20 wt, wcI G (a 5) 20 kn, wcI G (a 6) 20 sp] sz) (PQo (.returned (some (.int (f_X3_bestSpot cn sc cl wt kn sp p0))))) 0 0 (fun _ => False) := by
  refine bodyM (cc := cX3_bestSpot) (maxL := 2) (ret := (some .int)) (by decide) rfl (Nat.le_of_ble_eq_true rfl) ?_
  intro p e s m below meth c ls C
  obtain ⟨hx, hb, hr, hts, hown, hlocks, hml, hsz, hP, hE, hD, hA, hS, hl⟩ := C
  subst hsz
  have hl : lv_has ls 2 [(0, .ref (a 0)), (1, .int p0)] := hl
  refine lv_aload_n hx hb dX3_bestSpot_0 rfl (lv_at hl 0 rfl) ?_
  refine lv_iload_n hx hb dX3_bestSpot_1 rfl (lv_at hl 1 rfl) ?_
  have c_2 : k_X3_requireBox cn p0 = 0 := Decidable.byContradiction (fun c_2 => absurd (h0.symm.trans (by rw [k_X3_bestSpot, if_neg c_2])) (by decide))
  refine k_p (va_runV (As := [.int p0]) (rest := []) ⟨hx, hb, hml, hown, hts⟩ (c_X3_requireBox l hl9 G a s.heap.size ck cn p0 c_2) (cwV 1 hts gX3_bestSpot_X3_requireBox rfl rfl rfl ⟨rfl, by decide +kernel, by decide +kernel, by decide +kernel⟩ ⟨Nat.le_of_ble_eq_true rfl, Nat.le_of_ble_eq_true rfl⟩) ⟨GP.blind, va_recv hE.1 hP (ci := 3) (q0 := 0) rfl rfl, GP.go (wc := [wcA a ck, wcS a cn]) hE hP hD hS hA [0, 1] rfl (by decide) [.ref (a 0), .int p0]⟩ rfl rfl hl.1 rfl (lv_room (Nat.le_of_ble_eq_true rfl)) dX3_bestSpot_2 ⟨Nat.le_of_ble_eq_true rfl, Nat.le_of_ble_eq_true rfl⟩) ?_
  refine lv_aload_n hx hb dX3_bestSpot_5 rfl (lv_at hl 0 rfl) ?_
  refine lv_iload_n hx hb dX3_bestSpot_6 rfl (lv_at hl 1 rfl) ?_
  have c_7 : k_X3_requireOut cn sp p0 = 0 := Decidable.byContradiction (fun c_7 => absurd (h0.symm.trans (by rw [k_X3_bestSpot, if_pos c_2, if_neg c_7])) (by decide))
  refine k_p (va_runV (As := [.int p0]) (rest := []) ⟨hx, hb, hml, hown, hts⟩ (c_X3_requireOut l hl9 G a s.heap.size ck cn sp p0 hcn c_7) (cwV 1 hts gX3_bestSpot_X3_requireOut rfl rfl rfl ⟨rfl, by decide +kernel, by decide +kernel, by decide +kernel⟩ ⟨Nat.le_of_ble_eq_true rfl, Nat.le_of_ble_eq_true rfl⟩) ⟨GP.blind, va_recv hE.1 hP (ci := 3) (q0 := 0) rfl rfl, GP.go (wc := [wcA a ck, wcS a cn, wcI G (a 6) 20 sp]) hE hP hD hS hA [0, 1, 6] rfl (by decide) [.ref (a 0), .int p0]⟩ rfl rfl hl.1 rfl (lv_room (Nat.le_of_ble_eq_true rfl)) dX3_bestSpot_7 ⟨Nat.le_of_ble_eq_true rfl, Nat.le_of_ble_eq_true rfl⟩) ?_
  refine lv_aload_n hx hb dX3_bestSpot_10 rfl (lv_at hl 0 rfl) ?_
  refine va_get (D := G.1) (ci := 3) (v := .ref (a 1)) (C := RX3) (T := TX3) (N := 4) hx hb hts iw_X3_bestSpot_RX3 hown hE.1 hP 0 rfl rfl 0 (by decide) (hts (.fieldLink RX3 12 "Rackrail" "store" "LRackrail$Store;") (by decide +kernel)) (fun _ h9 => h9) rfl dX3_bestSpot_11 ?_
  refine lv_iload_n hx hb dX3_bestSpot_14 rfl (lv_at hl 1 rfl) ?_
  refine k_p (va_runV (As := [.int p0]) (rest := []) ⟨hx, hb, hml, hown, hts⟩ (c_X2_bestSpotFor l G a s.heap.size cn sc cl wt kn sp p0 hcn) (cwV 1 hts gX3_bestSpot_X2_bestSpotFor rfl rfl rfl ⟨rfl, by decide +kernel, by decide +kernel, by decide +kernel⟩ ⟨Nat.le_of_ble_eq_true rfl, Nat.le_of_ble_eq_true rfl⟩) ⟨GP.blind, va_recv hE.1 hP (ci := 2) (q0 := 1) rfl rfl, GP.go (wc := [wcS a cn, wcI G (a 2) 6 sc, wcI G (a 3) 20 cl, wcI G (a 4) 20 wt, wcI G (a 5) 20 kn, wcI G (a 6) 20 sp]) hE hP hD hS hA [1, 2, 3, 4, 5, 6] rfl (by decide) [.ref (a 1), .int p0]⟩ rfl rfl hl.1 rfl (lv_room (Nat.le_of_ble_eq_true rfl)) dX3_bestSpot_15 ⟨Nat.le_of_ble_eq_true rfl, Nat.le_of_ble_eq_true rfl⟩) ?_
  have hq : f_X3_bestSpot cn sc cl wt kn sp p0 = (f_X2_bestSpotFor cn sc cl wt kn sp p0) := (by rw [f_X3_bestSpot, if_pos c_2, if_pos c_7])
  exact W.iret (v := f_X2_bestSpotFor cn sc cl wt kn sp p0) hx hb hr (fun t ht _ => ⟨by rw [hq], ht⟩) (fun _ h => nomatch h) dX3_bestSpot_18

/-! X3_lay -/
def f_X3_lay (cn : Int32) (sc : Nat → Int32) (cl : Nat → Int32) (wt : Nat → Int32) (kn : Nat → Int32) (sp : Nat → Int32) (p0 : Int32) : Int32 × (Nat → Int32) :=
  if k_X3_requireBox cn p0 = 0 then (if k_X3_requireOut cn sp p0 = 0 then (if (f_X2_bestSpotFor cn sc cl wt kn sp p0) = (-1) then (0, sp)
        else (f_X2_bestSpotFor cn sc cl wt kn sp p0, f_X2_put cn sp p0 (f_X2_bestSpotFor cn sc cl wt kn sp p0)))
      else (0, sp))
    else (0, sp)
def k_X3_lay (cn : Int32) (sc : Nat → Int32) (cl : Nat → Int32) (wt : Nat → Int32) (kn : Nat → Int32) (sp : Nat → Int32) (p0 : Int32) : Nat :=
  if k_X3_requireBox cn p0 = 0 then (if k_X3_requireOut cn sp p0 = 0 then (if (f_X2_bestSpotFor cn sc cl wt kn sp p0) = (-1) then 3
        else 0)
      else 3)
    else 1
theorem kr_X3_lay (cn : Int32) (sc : Nat → Int32) (cl : Nat → Int32) (wt : Nat → Int32) (kn : Nat → Int32) (sp : Nat → Int32) (p0 : Int32) : k_X3_lay cn sc cl wt kn sp p0 = 0 ∨ k_X3_lay cn sc cl wt kn sp p0 = 1 ∨ k_X3_lay cn sc cl wt kn sp p0 = 3 := by
  unfold k_X3_lay
  (repeat' split) <;> decide
theorem iw_X3_lay_RX3 : ∀ w ∈ u_ws RX3 TX3 4, w ∈ wsX3_lay := by decide +kernel
set_option maxHeartbeats 4000000 in
set_option maxRecDepth 100000 in
theorem c_X3_lay (l : Launch) (hl9 : l.stackTraces = false) (G : GT) (a : Nat → Nat) (sz : Nat) (ck : Int32) (cn : Int32) (sc : Nat → Int32) (cl : Nat → Int32) (wt : Nat → Int32) (kn : Nat → Int32) (sp : Nat → Int32) (p0 : Int32) (hcn : okN 20 cn) (h0 : k_X3_lay cn sc cl wt kn sp p0 = 0) : Met l yX3_lay wsX3_lay ({ frames := 6, cells := 0, slots := 0, locals := 137 }) (GP G [.ref (a 0), .int p0] [wcA a ck, wcS a cn, wcI G (a 2) 6 sc, wcI G (a 3) 20 cl, wcI G (a 4) 20 wt, wcI G (a 5) 20 kn, wcI G (a 6) 20 sp] sz) (MQo G (.returned (some (.int ((f_X3_lay cn sc cl wt kn sp p0).1)))) [wcA a ck, wcS a cn, wcI G (a 2) 6 sc, wcI G (a 3) 20 cl, wcI G (a 4) 20 wt, wcI G (a 5) 20 kn, wcI G (a 6) 20 ((f_X3_lay cn sc cl wt kn sp p0).2)] (va_A [wcA a ck, wcS a cn, wcI G (a 2) 6 sc, wcI G (a 3) 20 cl, wcI G (a 4) 20 wt, wcI G (a 5) 20 kn, wcI G (a 6) 20 sp] sz)) 0 0 (va_A [wcA a ck, wcS a cn, wcI G (a 2) 6 sc, wcI G (a 3) 20 cl, wcI G (a 4) 20 wt, wcI G (a 5) 20 kn, wcI G (a 6) 20 sp] sz) := by
  refine bodyM (cc := cX3_lay) (maxL := 3) (ret := (some .int)) (by decide) rfl (Nat.le_of_ble_eq_true rfl) ?_
  intro p e s m below meth c ls C
  obtain ⟨hx, hb, hr, hts, hown, hlocks, hml, hsz, hP, hE, hD, hA, hS, hl⟩ := C
  subst hsz
  have hl : lv_has ls 3 [(0, .ref (a 0)), (1, .int p0)] := hl
  refine lv_aload_n hx hb dX3_lay_0 rfl (lv_at hl 0 rfl) ?_
  refine lv_iload_n hx hb dX3_lay_1 rfl (lv_at hl 1 rfl) ?_
  have c_2 : k_X3_requireBox cn p0 = 0 := Decidable.byContradiction (fun c_2 => absurd (h0.symm.trans (by rw [k_X3_lay, if_neg c_2])) (by decide))
  refine k_p (va_runV (As := [.int p0]) (rest := []) ⟨hx, hb, hml, hown, hts⟩ (c_X3_requireBox l hl9 G a s.heap.size ck cn p0 c_2) (cwV 1 hts gX3_lay_X3_requireBox rfl rfl rfl ⟨rfl, by decide +kernel, by decide +kernel, by decide +kernel⟩ ⟨Nat.le_of_ble_eq_true rfl, Nat.le_of_ble_eq_true rfl⟩) ⟨GP.blind, va_recv hE.1 hP (ci := 3) (q0 := 0) rfl rfl, GP.go (wc := [wcA a ck, wcS a cn]) hE hP hD hS hA [0, 1] rfl (by decide) [.ref (a 0), .int p0]⟩ rfl rfl hl.1 rfl (lv_room (Nat.le_of_ble_eq_true rfl)) dX3_lay_2 ⟨Nat.le_of_ble_eq_true rfl, Nat.le_of_ble_eq_true rfl⟩) ?_
  refine lv_aload_n hx hb dX3_lay_5 rfl (lv_at hl 0 rfl) ?_
  refine lv_iload_n hx hb dX3_lay_6 rfl (lv_at hl 1 rfl) ?_
  have c_7 : k_X3_requireOut cn sp p0 = 0 := Decidable.byContradiction (fun c_7 => absurd (h0.symm.trans (by rw [k_X3_lay, if_pos c_2, if_neg c_7])) (by decide))
  refine k_p (va_runV (As := [.int p0]) (rest := []) ⟨hx, hb, hml, hown, hts⟩ (c_X3_requireOut l hl9 G a s.heap.size ck cn sp p0 hcn c_7) (cwV 1 hts gX3_lay_X3_requireOut rfl rfl rfl ⟨rfl, by decide +kernel, by decide +kernel, by decide +kernel⟩ ⟨Nat.le_of_ble_eq_true rfl, Nat.le_of_ble_eq_true rfl⟩) ⟨GP.blind, va_recv hE.1 hP (ci := 3) (q0 := 0) rfl rfl, GP.go (wc := [wcA a ck, wcS a cn, wcI G (a 6) 20 sp]) hE hP hD hS hA [0, 1, 6] rfl (by decide) [.ref (a 0), .int p0]⟩ rfl rfl hl.1 rfl (lv_room (Nat.le_of_ble_eq_true rfl)) dX3_lay_7 ⟨Nat.le_of_ble_eq_true rfl, Nat.le_of_ble_eq_true rfl⟩) ?_
  refine lv_aload_n hx hb dX3_lay_10 rfl (lv_at hl 0 rfl) ?_
  refine va_get (D := G.1) (ci := 3) (v := .ref (a 1)) (C := RX3) (T := TX3) (N := 4) hx hb hts iw_X3_lay_RX3 hown hE.1 hP 0 rfl rfl 0 (by decide) (hts (.fieldLink RX3 12 "Rackrail" "store" "LRackrail$Store;") (by decide +kernel)) (fun _ h9 => h9) rfl dX3_lay_11 ?_
  refine lv_iload_n hx hb dX3_lay_14 rfl (lv_at hl 1 rfl) ?_
  refine k_p (va_runV (As := [.int p0]) (rest := []) ⟨hx, hb, hml, hown, hts⟩ (c_X2_bestSpotFor l G a s.heap.size cn sc cl wt kn sp p0 hcn) (cwV 1 hts gX3_lay_X2_bestSpotFor rfl rfl rfl ⟨rfl, by decide +kernel, by decide +kernel, by decide +kernel⟩ ⟨Nat.le_of_ble_eq_true rfl, Nat.le_of_ble_eq_true rfl⟩) ⟨GP.blind, va_recv hE.1 hP (ci := 2) (q0 := 1) rfl rfl, GP.go (wc := [wcS a cn, wcI G (a 2) 6 sc, wcI G (a 3) 20 cl, wcI G (a 4) 20 wt, wcI G (a 5) 20 kn, wcI G (a 6) 20 sp]) hE hP hD hS hA [1, 2, 3, 4, 5, 6] rfl (by decide) [.ref (a 1), .int p0]⟩ rfl rfl hl.1 rfl (lv_room (Nat.le_of_ble_eq_true rfl)) dX3_lay_15 ⟨Nat.le_of_ble_eq_true rfl, Nat.le_of_ble_eq_true rfl⟩) ?_
  refine lv_istore_n (lv' := [(2, .int (f_X2_bestSpotFor cn sc cl wt kn sp p0)), (0, .ref (a 0)), (1, .int p0)]) hx hb dX3_lay_18 rfl hl (by decide) rfl (fun ls hl => ?_)
  refine lv_iload_n hx hb dX3_lay_19 rfl (lv_at hl 0 rfl) ?_
  refine lv_iconst (v := (-1)) hx hb dX3_lay_20 (by decide) ?_
  refine lv_icmp_ne (tgt := 34) hx hb dX3_lay_21 (by decide) (fun c_21 => ?_) (fun c_21 => ?_)
  · refine lv_aload_n hx hb dX3_lay_34 rfl (lv_at hl 1 rfl) ?_
    refine va_get (D := G.1) (ci := 3) (v := .ref (a 1)) (C := RX3) (T := TX3) (N := 4) hx hb hts iw_X3_lay_RX3 hown hE.1 hP 0 rfl rfl 0 (by decide) (hts (.fieldLink RX3 12 "Rackrail" "store" "LRackrail$Store;") (by decide +kernel)) (fun _ h9 => h9) rfl dX3_lay_35 ?_
    refine lv_iload_n hx hb dX3_lay_38 rfl (lv_at hl 2 rfl) ?_
    refine lv_iload_n hx hb dX3_lay_39 rfl (lv_at hl 0 rfl) ?_
    refine k_m (wc := [wcS a cn, wcI G (a 6) 20 sp]) (w1 := [wcS a cn, wcI G (a 6) 20 (f_X2_put cn sp p0 (f_X2_bestSpotFor cn sc cl wt kn sp p0))]) (wn := [wcA a ck, wcS a cn, wcI G (a 2) 6 sc, wcI G (a 3) 20 cl, wcI G (a 4) 20 wt, wcI G (a 5) 20 kn, wcI G (a 6) 20 (f_X2_put cn sp p0 (f_X2_bestSpotFor cn sc cl wt kn sp p0))]) (va_runV (As := [.int p0, .int (f_X2_bestSpotFor cn sc cl wt kn sp p0)]) (rest := []) ⟨hx, hb, hml, hown, hts⟩ (c_X2_put l G a s.heap.size cn sp p0 (f_X2_bestSpotFor cn sc cl wt kn sp p0) hcn) (cwV 2 hts gX3_lay_X2_put rfl rfl rfl ⟨rfl, by decide +kernel, by decide +kernel, by decide +kernel⟩ ⟨Nat.le_of_ble_eq_true rfl, Nat.le_of_ble_eq_true rfl⟩) ⟨GP.blind, va_recv hE.1 hP (ci := 2) (q0 := 1) rfl rfl, GP.go (wc := [wcS a cn, wcI G (a 6) 20 sp]) hE hP hD hS hA [1, 6] rfl (by decide) [.ref (a 1), .int p0, .int (f_X2_bestSpotFor cn sc cl wt kn sp p0)]⟩ rfl rfl hl.1 rfl (lv_room (Nat.le_of_ble_eq_true rfl)) dX3_lay_40 ⟨Nat.le_of_ble_eq_true rfl, Nat.le_of_ble_eq_true rfl⟩) hP hD hS hA [1, 6] rfl rfl rfl rfl (fun H locs hP hD hS => ?_)
    refine lv_iload_n hx hb dX3_lay_43 rfl (lv_at hl 0 rfl) ?_
    have hq : f_X3_lay cn sc cl wt kn sp p0 = (f_X2_bestSpotFor cn sc cl wt kn sp p0, f_X2_put cn sp p0 (f_X2_bestSpotFor cn sc cl wt kn sp p0)) := (by rw [f_X3_lay, if_pos c_2, if_pos c_7, if_neg c_21])
    exact W.iret (v := f_X2_bestSpotFor cn sc cl wt kn sp p0) hx hb hr (fun t ht _ => ⟨by rw [hq], by rw [hq, ht]; exact hP, hS.F ht⟩) hS.2.2 dX3_lay_44
  · exact absurd (h0.symm.trans (by rw [k_X3_lay, if_pos c_2, if_pos c_7, if_pos c_21])) (by decide)

/-! X3_spotOf -/
def f_X3_spotOf (cn : Int32) (sp : Nat → Int32) (p0 : Int32) : Int32 :=
  if k_X3_requireBox cn p0 = 0 then f_X2_whereIs cn sp p0
    else 0
def k_X3_spotOf (cn : Int32) (p0 : Int32) : Nat :=
  if k_X3_requireBox cn p0 = 0 then 0
    else 1
theorem kr_X3_spotOf (cn : Int32) (p0 : Int32) : k_X3_spotOf cn p0 = 0 ∨ k_X3_spotOf cn p0 = 1 := by
  unfold k_X3_spotOf
  (repeat' split) <;> decide
theorem iw_X3_spotOf_RX3 : ∀ w ∈ u_ws RX3 TX3 4, w ∈ wsX3_spotOf := by decide +kernel
set_option maxHeartbeats 4000000 in
set_option maxRecDepth 100000 in
theorem c_X3_spotOf (l : Launch) (hl9 : l.stackTraces = false) (G : GT) (a : Nat → Nat) (sz : Nat) (ck : Int32) (cn : Int32) (sp : Nat → Int32) (p0 : Int32) (hcn : okN 20 cn) (h0 : k_X3_spotOf cn p0 = 0) : Met l yX3_spotOf wsX3_spotOf ({ frames := 3, cells := 0, slots := 0, locals := 63 }) (GP G [.ref (a 0), .int p0] [wcA a ck, wcS a cn, wcI G (a 6) 20 sp] sz) (PQo (.returned (some (.int (f_X3_spotOf cn sp p0))))) 0 0 (fun _ => False) := by
  refine bodyM (cc := cX3_spotOf) (maxL := 2) (ret := (some .int)) (by decide) rfl (Nat.le_of_ble_eq_true rfl) ?_
  intro p e s m below meth c ls C
  obtain ⟨hx, hb, hr, hts, hown, hlocks, hml, hsz, hP, hE, hD, hA, hS, hl⟩ := C
  subst hsz
  have hl : lv_has ls 2 [(0, .ref (a 0)), (1, .int p0)] := hl
  refine lv_aload_n hx hb dX3_spotOf_0 rfl (lv_at hl 0 rfl) ?_
  refine lv_iload_n hx hb dX3_spotOf_1 rfl (lv_at hl 1 rfl) ?_
  have c_2 : k_X3_requireBox cn p0 = 0 := Decidable.byContradiction (fun c_2 => absurd (h0.symm.trans (by rw [k_X3_spotOf, if_neg c_2])) (by decide))
  refine k_p (va_runV (As := [.int p0]) (rest := []) ⟨hx, hb, hml, hown, hts⟩ (c_X3_requireBox l hl9 G a s.heap.size ck cn p0 c_2) (cwV 1 hts gX3_spotOf_X3_requireBox rfl rfl rfl ⟨rfl, by decide +kernel, by decide +kernel, by decide +kernel⟩ ⟨Nat.le_of_ble_eq_true rfl, Nat.le_of_ble_eq_true rfl⟩) ⟨GP.blind, va_recv hE.1 hP (ci := 3) (q0 := 0) rfl rfl, GP.go (wc := [wcA a ck, wcS a cn]) hE hP hD hS hA [0, 1] rfl (by decide) [.ref (a 0), .int p0]⟩ rfl rfl hl.1 rfl (lv_room (Nat.le_of_ble_eq_true rfl)) dX3_spotOf_2 ⟨Nat.le_of_ble_eq_true rfl, Nat.le_of_ble_eq_true rfl⟩) ?_
  refine lv_aload_n hx hb dX3_spotOf_5 rfl (lv_at hl 0 rfl) ?_
  refine va_get (D := G.1) (ci := 3) (v := .ref (a 1)) (C := RX3) (T := TX3) (N := 4) hx hb hts iw_X3_spotOf_RX3 hown hE.1 hP 0 rfl rfl 0 (by decide) (hts (.fieldLink RX3 12 "Rackrail" "store" "LRackrail$Store;") (by decide +kernel)) (fun _ h9 => h9) rfl dX3_spotOf_6 ?_
  refine lv_iload_n hx hb dX3_spotOf_9 rfl (lv_at hl 1 rfl) ?_
  refine k_p (va_runV (As := [.int p0]) (rest := []) ⟨hx, hb, hml, hown, hts⟩ (c_X2_whereIs l G a s.heap.size cn sp p0 hcn) (cwV 1 hts gX3_spotOf_X2_whereIs rfl rfl rfl ⟨rfl, by decide +kernel, by decide +kernel, by decide +kernel⟩ ⟨Nat.le_of_ble_eq_true rfl, Nat.le_of_ble_eq_true rfl⟩) ⟨GP.blind, va_recv hE.1 hP (ci := 2) (q0 := 1) rfl rfl, GP.go (wc := [wcS a cn, wcI G (a 6) 20 sp]) hE hP hD hS hA [1, 2] rfl (by decide) [.ref (a 1), .int p0]⟩ rfl rfl hl.1 rfl (lv_room (Nat.le_of_ble_eq_true rfl)) dX3_spotOf_10 ⟨Nat.le_of_ble_eq_true rfl, Nat.le_of_ble_eq_true rfl⟩) ?_
  have hq : f_X3_spotOf cn sp p0 = (f_X2_whereIs cn sp p0) := (by rw [f_X3_spotOf, if_pos c_2])
  exact W.iret (v := f_X2_whereIs cn sp p0) hx hb hr (fun t ht _ => ⟨by rw [hq], ht⟩) (fun _ h => nomatch h) dX3_spotOf_13

/-! X3_boxAt -/
def f_X3_boxAt (cn : Int32) (sp : Nat → Int32) (p0 : Int32) : Int32 :=
  if k_X3_requireSpot p0 = 0 then f_X2_boxIn cn sp p0
    else 0
def k_X3_boxAt (p0 : Int32) : Nat :=
  if k_X3_requireSpot p0 = 0 then 0
    else 1
theorem kr_X3_boxAt (p0 : Int32) : k_X3_boxAt p0 = 0 ∨ k_X3_boxAt p0 = 1 := by
  unfold k_X3_boxAt
  (repeat' split) <;> decide
theorem iw_X3_boxAt_RX3 : ∀ w ∈ u_ws RX3 TX3 4, w ∈ wsX3_boxAt := by decide +kernel
set_option maxHeartbeats 4000000 in
set_option maxRecDepth 100000 in
theorem c_X3_boxAt (l : Launch) (hl9 : l.stackTraces = false) (G : GT) (a : Nat → Nat) (sz : Nat) (ck : Int32) (cn : Int32) (sp : Nat → Int32) (p0 : Int32) (hcn : okN 20 cn) (h0 : k_X3_boxAt p0 = 0) : Met l yX3_boxAt wsX3_boxAt ({ frames := 3, cells := 0, slots := 0, locals := 61 }) (GP G [.ref (a 0), .int p0] [wcA a ck, wcS a cn, wcI G (a 6) 20 sp] sz) (PQo (.returned (some (.int (f_X3_boxAt cn sp p0))))) 0 0 (fun _ => False) := by
  refine bodyM (cc := cX3_boxAt) (maxL := 2) (ret := (some .int)) (by decide) rfl (Nat.le_of_ble_eq_true rfl) ?_
  intro p e s m below meth c ls C
  obtain ⟨hx, hb, hr, hts, hown, hlocks, hml, hsz, hP, hE, hD, hA, hS, hl⟩ := C
  subst hsz
  have hl : lv_has ls 2 [(0, .ref (a 0)), (1, .int p0)] := hl
  refine lv_aload_n hx hb dX3_boxAt_0 rfl (lv_at hl 0 rfl) ?_
  refine lv_iload_n hx hb dX3_boxAt_1 rfl (lv_at hl 1 rfl) ?_
  have c_2 : k_X3_requireSpot p0 = 0 := Decidable.byContradiction (fun c_2 => absurd (h0.symm.trans (by rw [k_X3_boxAt, if_neg c_2])) (by decide))
  refine k_p (va_runV (As := [.int p0]) (rest := []) ⟨hx, hb, hml, hown, hts⟩ (c_X3_requireSpot l hl9 G a s.heap.size p0 c_2) (cwV 1 hts gX3_boxAt_X3_requireSpot rfl rfl rfl ⟨rfl, by decide +kernel, by decide +kernel, by decide +kernel⟩ ⟨Nat.le_of_ble_eq_true rfl, Nat.le_of_ble_eq_true rfl⟩) ⟨GP.blind, va_recv hE.1 hP (ci := 3) (q0 := 0) rfl rfl, GP.go (wc := []) hE hP hD hS hA [] rfl (by decide) [.ref (a 0), .int p0]⟩ rfl rfl hl.1 rfl (lv_room (Nat.le_of_ble_eq_true rfl)) dX3_boxAt_2 ⟨Nat.le_of_ble_eq_true rfl, Nat.le_of_ble_eq_true rfl⟩) ?_
  refine lv_aload_n hx hb dX3_boxAt_5 rfl (lv_at hl 0 rfl) ?_
  refine va_get (D := G.1) (ci := 3) (v := .ref (a 1)) (C := RX3) (T := TX3) (N := 4) hx hb hts iw_X3_boxAt_RX3 hown hE.1 hP 0 rfl rfl 0 (by decide) (hts (.fieldLink RX3 12 "Rackrail" "store" "LRackrail$Store;") (by decide +kernel)) (fun _ h9 => h9) rfl dX3_boxAt_6 ?_
  refine lv_iload_n hx hb dX3_boxAt_9 rfl (lv_at hl 1 rfl) ?_
  refine k_p (va_runV (As := [.int p0]) (rest := []) ⟨hx, hb, hml, hown, hts⟩ (c_X2_boxIn l G a s.heap.size cn sp p0 hcn) (cwV 1 hts gX3_boxAt_X2_boxIn rfl rfl rfl ⟨rfl, by decide +kernel, by decide +kernel, by decide +kernel⟩ ⟨Nat.le_of_ble_eq_true rfl, Nat.le_of_ble_eq_true rfl⟩) ⟨GP.blind, va_recv hE.1 hP (ci := 2) (q0 := 1) rfl rfl, GP.go (wc := [wcS a cn, wcI G (a 6) 20 sp]) hE hP hD hS hA [1, 2] rfl (by decide) [.ref (a 1), .int p0]⟩ rfl rfl hl.1 rfl (lv_room (Nat.le_of_ble_eq_true rfl)) dX3_boxAt_10 ⟨Nat.le_of_ble_eq_true rfl, Nat.le_of_ble_eq_true rfl⟩) ?_
  have hq : f_X3_boxAt cn sp p0 = (f_X2_boxIn cn sp p0) := (by rw [f_X3_boxAt, if_pos c_2])
  exact W.iret (v := f_X2_boxIn cn sp p0) hx hb hr (fun t ht _ => ⟨by rw [hq], ht⟩) (fun _ h => nomatch h) dX3_boxAt_13

/-! X3_weight -/
def f_X3_weight (cn : Int32) (wt : Nat → Int32) (sp : Nat → Int32) (p0 : Int32) : Int32 :=
  if k_X3_requireShelf p0 = 0 then f_X2_weightOn cn wt sp p0
    else 0
def k_X3_weight (p0 : Int32) : Nat :=
  if k_X3_requireShelf p0 = 0 then 0
    else 1
theorem kr_X3_weight (p0 : Int32) : k_X3_weight p0 = 0 ∨ k_X3_weight p0 = 1 := by
  unfold k_X3_weight
  (repeat' split) <;> decide
theorem iw_X3_weight_RX3 : ∀ w ∈ u_ws RX3 TX3 4, w ∈ wsX3_weight := by decide +kernel
set_option maxHeartbeats 4000000 in
set_option maxRecDepth 100000 in
theorem c_X3_weight (l : Launch) (hl9 : l.stackTraces = false) (G : GT) (a : Nat → Nat) (sz : Nat) (ck : Int32) (cn : Int32) (wt : Nat → Int32) (sp : Nat → Int32) (p0 : Int32) (hcn : okN 20 cn) (h0 : k_X3_weight p0 = 0) : Met l yX3_weight wsX3_weight ({ frames := 5, cells := 0, slots := 0, locals := 109 }) (GP G [.ref (a 0), .int p0] [wcA a ck, wcS a cn, wcI G (a 4) 20 wt, wcI G (a 6) 20 sp] sz) (PQo (.returned (some (.int (f_X3_weight cn wt sp p0))))) 0 0 (fun _ => False) := by
  refine bodyM (cc := cX3_weight) (maxL := 2) (ret := (some .int)) (by decide) rfl (Nat.le_of_ble_eq_true rfl) ?_
  intro p e s m below meth c ls C
  obtain ⟨hx, hb, hr, hts, hown, hlocks, hml, hsz, hP, hE, hD, hA, hS, hl⟩ := C
  subst hsz
  have hl : lv_has ls 2 [(0, .ref (a 0)), (1, .int p0)] := hl
  refine lv_aload_n hx hb dX3_weight_0 rfl (lv_at hl 0 rfl) ?_
  refine lv_iload_n hx hb dX3_weight_1 rfl (lv_at hl 1 rfl) ?_
  have c_2 : k_X3_requireShelf p0 = 0 := Decidable.byContradiction (fun c_2 => absurd (h0.symm.trans (by rw [k_X3_weight, if_neg c_2])) (by decide))
  refine k_p (va_runV (As := [.int p0]) (rest := []) ⟨hx, hb, hml, hown, hts⟩ (c_X3_requireShelf l hl9 G a s.heap.size p0 c_2) (cwV 1 hts gX3_weight_X3_requireShelf rfl rfl rfl ⟨rfl, by decide +kernel, by decide +kernel, by decide +kernel⟩ ⟨Nat.le_of_ble_eq_true rfl, Nat.le_of_ble_eq_true rfl⟩) ⟨GP.blind, va_recv hE.1 hP (ci := 3) (q0 := 0) rfl rfl, GP.go (wc := []) hE hP hD hS hA [] rfl (by decide) [.ref (a 0), .int p0]⟩ rfl rfl hl.1 rfl (lv_room (Nat.le_of_ble_eq_true rfl)) dX3_weight_2 ⟨Nat.le_of_ble_eq_true rfl, Nat.le_of_ble_eq_true rfl⟩) ?_
  refine lv_aload_n hx hb dX3_weight_5 rfl (lv_at hl 0 rfl) ?_
  refine va_get (D := G.1) (ci := 3) (v := .ref (a 1)) (C := RX3) (T := TX3) (N := 4) hx hb hts iw_X3_weight_RX3 hown hE.1 hP 0 rfl rfl 0 (by decide) (hts (.fieldLink RX3 12 "Rackrail" "store" "LRackrail$Store;") (by decide +kernel)) (fun _ h9 => h9) rfl dX3_weight_6 ?_
  refine lv_iload_n hx hb dX3_weight_9 rfl (lv_at hl 1 rfl) ?_
  refine k_p (va_runV (As := [.int p0]) (rest := []) ⟨hx, hb, hml, hown, hts⟩ (c_X2_weightOn l G a s.heap.size cn wt sp p0 hcn) (cwV 1 hts gX3_weight_X2_weightOn rfl rfl rfl ⟨rfl, by decide +kernel, by decide +kernel, by decide +kernel⟩ ⟨Nat.le_of_ble_eq_true rfl, Nat.le_of_ble_eq_true rfl⟩) ⟨GP.blind, va_recv hE.1 hP (ci := 2) (q0 := 1) rfl rfl, GP.go (wc := [wcS a cn, wcI G (a 4) 20 wt, wcI G (a 6) 20 sp]) hE hP hD hS hA [1, 2, 3] rfl (by decide) [.ref (a 1), .int p0]⟩ rfl rfl hl.1 rfl (lv_room (Nat.le_of_ble_eq_true rfl)) dX3_weight_10 ⟨Nat.le_of_ble_eq_true rfl, Nat.le_of_ble_eq_true rfl⟩) ?_
  have hq : f_X3_weight cn wt sp p0 = (f_X2_weightOn cn wt sp p0) := (by rw [f_X3_weight, if_pos c_2])
  exact W.iret (v := f_X2_weightOn cn wt sp p0) hx hb hr (fun t ht _ => ⟨by rw [hq], ht⟩) (fun _ h => nomatch h) dX3_weight_13

/-! X3_wrong -/
def f_X3_wrong (cn : Int32) (sc : Nat → Int32) (cl : Nat → Int32) (sp : Nat → Int32) : Int32 :=
  f_X2_countWrong cn sc cl sp
theorem iw_X3_wrong_RX3 : ∀ w ∈ u_ws RX3 TX3 4, w ∈ wsX3_wrong := by decide +kernel
set_option maxHeartbeats 4000000 in
set_option maxRecDepth 100000 in
theorem c_X3_wrong (l : Launch) (G : GT) (a : Nat → Nat) (sz : Nat) (ck : Int32) (cn : Int32) (sc : Nat → Int32) (cl : Nat → Int32) (sp : Nat → Int32) (hcn : okN 20 cn) : Met l yX3_wrong wsX3_wrong ({ frames := 5, cells := 0, slots := 0, locals := 107 }) (GP G [.ref (a 0)] [wcA a ck, wcS a cn, wcI G (a 2) 6 sc, wcI G (a 3) 20 cl, wcI G (a 6) 20 sp] sz) (PQo (.returned (some (.int (f_X3_wrong cn sc cl sp))))) 0 0 (fun _ => False) := by
  refine bodyM (cc := cX3_wrong) (maxL := 1) (ret := (some .int)) (by decide) rfl (Nat.le_of_ble_eq_true rfl) ?_
  intro p e s m below meth c ls C
  obtain ⟨hx, hb, hr, hts, hown, hlocks, hml, hsz, hP, hE, hD, hA, hS, hl⟩ := C
  subst hsz
  have hl : lv_has ls 1 [(0, .ref (a 0))] := hl
  refine lv_aload_n hx hb dX3_wrong_0 rfl (lv_at hl 0 rfl) ?_
  refine va_get (D := G.1) (ci := 3) (v := .ref (a 1)) (C := RX3) (T := TX3) (N := 4) hx hb hts iw_X3_wrong_RX3 hown hE.1 hP 0 rfl rfl 0 (by decide) (hts (.fieldLink RX3 12 "Rackrail" "store" "LRackrail$Store;") (by decide +kernel)) (fun _ h9 => h9) rfl dX3_wrong_1 ?_
  refine k_p (va_runV (As := []) (rest := []) ⟨hx, hb, hml, hown, hts⟩ (c_X2_countWrong l G a s.heap.size cn sc cl sp hcn) (cwV 0 hts gX3_wrong_X2_countWrong rfl rfl rfl ⟨rfl, by decide +kernel, by decide +kernel, by decide +kernel⟩ ⟨Nat.le_of_ble_eq_true rfl, Nat.le_of_ble_eq_true rfl⟩) ⟨GP.blind, va_recv hE.1 hP (ci := 2) (q0 := 1) rfl rfl, GP.go (wc := [wcS a cn, wcI G (a 2) 6 sc, wcI G (a 3) 20 cl, wcI G (a 6) 20 sp]) hE hP hD hS hA [1, 2, 3, 4] rfl (by decide) [.ref (a 1)]⟩ rfl rfl hl.1 rfl (lv_room (Nat.le_of_ble_eq_true rfl)) dX3_wrong_4 ⟨Nat.le_of_ble_eq_true rfl, Nat.le_of_ble_eq_true rfl⟩) ?_
  have hq : f_X3_wrong cn sc cl sp = (f_X2_countWrong cn sc cl sp) := (by rw [f_X3_wrong])
  exact W.iret (v := f_X2_countWrong cn sc cl sp) hx hb hr (fun t ht _ => ⟨by rw [hq], ht⟩) (fun _ h => nomatch h) dX3_wrong_7
end
section
/-! X3_open -/
def f_X3_open (gp : Int32) (tg : Int32) (st : Int32) (sm : Int32) (db : Nat → Int32) (ins : Nat → Int32) (p0 : Int32) : Int32 × Int32 :=
  if k_X3_requireAisle p0 = 0 then (if (f_X1_mayOpen gp tg st sm db ins) = 0 then (0, tg)
      else (f_X1_movesToCome gp (f_X1_aimAt p0), f_X1_aimAt p0))
    else (0, tg)
def k_X3_open (gp : Int32) (tg : Int32) (st : Int32) (sm : Int32) (db : Nat → Int32) (ins : Nat → Int32) (p0 : Int32) : Nat :=
  if k_X3_requireAisle p0 = 0 then (if (f_X1_mayOpen gp tg st sm db ins) = 0 then 3
      else 0)
    else 1
theorem kr_X3_open (gp : Int32) (tg : Int32) (st : Int32) (sm : Int32) (db : Nat → Int32) (ins : Nat → Int32) (p0 : Int32) : k_X3_open gp tg st sm db ins p0 = 0 ∨ k_X3_open gp tg st sm db ins p0 = 1 ∨ k_X3_open gp tg st sm db ins p0 = 3 := by
  unfold k_X3_open
  (repeat' split) <;> decide
theorem iw_X3_open_RX3 : ∀ w ∈ u_ws RX3 TX3 4, w ∈ wsX3_open := by decide +kernel
set_option maxHeartbeats 4000000 in
set_option maxRecDepth 100000 in
theorem c_X3_open (l : Launch) (hl9 : l.stackTraces = false) (G : GT) (a : Nat → Nat) (sz : Nat) (ck : Int32) (gp : Int32) (tg : Int32) (st : Int32) (sm : Int32) (db : Nat → Int32) (ins : Nat → Int32) (p0 : Int32) (h0 : k_X3_open gp tg st sm db ins p0 = 0) : Met l yX3_open wsX3_open ({ frames := 3, cells := 0, slots := 0, locals := 63 }) (GP G [.ref (a 0), .int p0] [wcA a ck, wcR a gp tg st sm, wcZ G (a 8) 7 db, wcZ G (a 9) 4 ins] sz) (MQo G (.returned (some (.int ((f_X3_open gp tg st sm db ins p0).1)))) [wcA a ck, wcR a gp ((f_X3_open gp tg st sm db ins p0).2) st sm, wcZ G (a 8) 7 db, wcZ G (a 9) 4 ins] (va_A [wcA a ck, wcR a gp tg st sm, wcZ G (a 8) 7 db, wcZ G (a 9) 4 ins] sz)) 0 0 (va_A [wcA a ck, wcR a gp tg st sm, wcZ G (a 8) 7 db, wcZ G (a 9) 4 ins] sz) := by
  refine bodyM (cc := cX3_open) (maxL := 2) (ret := (some .int)) (by decide) rfl (Nat.le_of_ble_eq_true rfl) ?_
  intro p e s m below meth c ls C
  obtain ⟨hx, hb, hr, hts, hown, hlocks, hml, hsz, hP, hE, hD, hA, hS, hl⟩ := C
  subst hsz
  have hl : lv_has ls 2 [(0, .ref (a 0)), (1, .int p0)] := hl
  refine lv_aload_n hx hb dX3_open_0 rfl (lv_at hl 0 rfl) ?_
  refine lv_iload_n hx hb dX3_open_1 rfl (lv_at hl 1 rfl) ?_
  have c_2 : k_X3_requireAisle p0 = 0 := Decidable.byContradiction (fun c_2 => absurd (h0.symm.trans (by rw [k_X3_open, if_neg c_2])) (by decide))
  refine k_p (va_runV (As := [.int p0]) (rest := []) ⟨hx, hb, hml, hown, hts⟩ (c_X3_requireAisle l hl9 G a s.heap.size p0 c_2) (cwV 1 hts gX3_open_X3_requireAisle rfl rfl rfl ⟨rfl, by decide +kernel, by decide +kernel, by decide +kernel⟩ ⟨Nat.le_of_ble_eq_true rfl, Nat.le_of_ble_eq_true rfl⟩) ⟨GP.blind, va_recv hE.1 hP (ci := 3) (q0 := 0) rfl rfl, GP.go (wc := []) hE hP hD hS hA [] rfl (by decide) [.ref (a 0), .int p0]⟩ rfl rfl hl.1 rfl (lv_room (Nat.le_of_ble_eq_true rfl)) dX3_open_2 ⟨Nat.le_of_ble_eq_true rfl, Nat.le_of_ble_eq_true rfl⟩) ?_
  refine lv_aload_n hx hb dX3_open_5 rfl (lv_at hl 0 rfl) ?_
  refine va_get (D := G.1) (ci := 3) (v := .ref (a 7)) (C := RX3) (T := TX3) (N := 4) hx hb hts iw_X3_open_RX3 hown hE.1 hP 0 rfl rfl 1 (by decide) (hts (.fieldLink RX3 19 "Rackrail" "rail" "LRackrail$Rail;") (by decide +kernel)) (fun _ h9 => h9) rfl dX3_open_6 ?_
  refine k_p (va_runV (As := []) (rest := []) ⟨hx, hb, hml, hown, hts⟩ (c_X1_mayOpen l G a s.heap.size gp tg st sm db ins) (cwV 0 hts gX3_open_X1_mayOpen rfl rfl rfl ⟨rfl, by decide +kernel, by decide +kernel, by decide +kernel⟩ ⟨Nat.le_of_ble_eq_true rfl, Nat.le_of_ble_eq_true rfl⟩) ⟨GP.blind, va_recv hE.1 hP (ci := 1) (q0 := 1) rfl rfl, GP.go (wc := [wcR a gp tg st sm, wcZ G (a 8) 7 db, wcZ G (a 9) 4 ins]) hE hP hD hS hA [1, 2, 3] rfl (by decide) [.ref (a 7)]⟩ rfl rfl hl.1 rfl (lv_room (Nat.le_of_ble_eq_true rfl)) dX3_open_9 ⟨Nat.le_of_ble_eq_true rfl, Nat.le_of_ble_eq_true rfl⟩) ?_
  refine lv_if_ne (tgt := 25) hx hb dX3_open_12 (by decide) (fun c_12 => ?_) (fun c_12 => ?_)
  · refine lv_aload_n hx hb dX3_open_25 rfl (lv_at hl 0 rfl) ?_
    refine va_get (D := G.1) (ci := 3) (v := .ref (a 7)) (C := RX3) (T := TX3) (N := 4) hx hb hts iw_X3_open_RX3 hown hE.1 hP 0 rfl rfl 1 (by decide) (hts (.fieldLink RX3 19 "Rackrail" "rail" "LRackrail$Rail;") (by decide +kernel)) (fun _ h9 => h9) rfl dX3_open_26 ?_
    refine lv_iload_n hx hb dX3_open_29 rfl (lv_at hl 1 rfl) ?_
    refine k_m (wc := [wcR a gp tg st sm]) (w1 := [wcR a gp (f_X1_aimAt p0) st sm]) (wn := [wcA a ck, wcR a gp (f_X1_aimAt p0) st sm, wcZ G (a 8) 7 db, wcZ G (a 9) 4 ins]) (va_runV (As := [.int p0]) (rest := []) ⟨hx, hb, hml, hown, hts⟩ (c_X1_aimAt l G a s.heap.size gp tg st sm p0) (cwV 1 hts gX3_open_X1_aimAt rfl rfl rfl ⟨rfl, by decide +kernel, by decide +kernel, by decide +kernel⟩ ⟨Nat.le_of_ble_eq_true rfl, Nat.le_of_ble_eq_true rfl⟩) ⟨GP.blind, va_recv hE.1 hP (ci := 1) (q0 := 1) rfl rfl, GP.go (wc := [wcR a gp tg st sm]) hE hP hD hS hA [1] rfl (by decide) [.ref (a 7), .int p0]⟩ rfl rfl hl.1 rfl (lv_room (Nat.le_of_ble_eq_true rfl)) dX3_open_30 ⟨Nat.le_of_ble_eq_true rfl, Nat.le_of_ble_eq_true rfl⟩) hP hD hS hA [1] rfl rfl rfl rfl (fun H locs hP hD hS => ?_)
    refine lv_aload_n hx hb dX3_open_33 rfl (lv_at hl 0 rfl) ?_
    refine va_get (D := G.1) (ci := 3) (v := .ref (a 7)) (C := RX3) (T := TX3) (N := 4) hx hb hts iw_X3_open_RX3 hown hE.1 hP 0 rfl rfl 1 (by decide) (hts (.fieldLink RX3 19 "Rackrail" "rail" "LRackrail$Rail;") (by decide +kernel)) (fun _ h9 => h9) rfl dX3_open_34 ?_
    refine k_p (va_runV (As := []) (rest := []) ⟨hx, hb, hml, hown, hts⟩ (c_X1_movesToCome l G a H.size gp (f_X1_aimAt p0) st sm) (cwV 0 hts gX3_open_X1_movesToCome rfl rfl rfl ⟨rfl, by decide +kernel, by decide +kernel, by decide +kernel⟩ ⟨Nat.le_of_ble_eq_true rfl, Nat.le_of_ble_eq_true rfl⟩) ⟨GP.blind, va_recv hE.1 hP (ci := 1) (q0 := 1) rfl rfl, GP.go (wc := [wcR a gp (f_X1_aimAt p0) st sm]) hE hP hD hS hA [1] rfl (by decide) [.ref (a 7)]⟩ rfl rfl hl.1 rfl (lv_room (Nat.le_of_ble_eq_true rfl)) dX3_open_37 ⟨Nat.le_of_ble_eq_true rfl, Nat.le_of_ble_eq_true rfl⟩) ?_
    have hq : f_X3_open gp tg st sm db ins p0 = (f_X1_movesToCome gp (f_X1_aimAt p0), f_X1_aimAt p0) := (by rw [f_X3_open, if_pos c_2, if_neg c_12])
    exact W.iret (v := f_X1_movesToCome gp (f_X1_aimAt p0)) hx hb hr (fun t ht _ => ⟨by rw [hq], by rw [hq, ht]; exact hP, hS.F ht⟩) hS.2.2 dX3_open_40
  · exact absurd (h0.symm.trans (by rw [k_X3_open, if_pos c_2, if_pos c_12])) (by decide)

/-! X3_opened -/
def f_X3_opened (gp : Int32) (tg : Int32) : Int32 :=
  f_X1_openAisle gp tg
theorem iw_X3_opened_RX3 : ∀ w ∈ u_ws RX3 TX3 4, w ∈ wsX3_opened := by decide +kernel
set_option maxHeartbeats 4000000 in
set_option maxRecDepth 100000 in
theorem c_X3_opened (l : Launch) (G : GT) (a : Nat → Nat) (sz : Nat) (ck : Int32) (gp : Int32) (tg : Int32) (st : Int32) (sm : Int32) : Met l yX3_opened wsX3_opened ({ frames := 1, cells := 0, slots := 0, locals := 20 }) (GP G [.ref (a 0)] [wcA a ck, wcR a gp tg st sm] sz) (PQo (.returned (some (.int (f_X3_opened gp tg))))) 0 0 (fun _ => False) := by
  refine bodyM (cc := cX3_opened) (maxL := 1) (ret := (some .int)) (by decide) rfl (Nat.le_of_ble_eq_true rfl) ?_
  intro p e s m below meth c ls C
  obtain ⟨hx, hb, hr, hts, hown, hlocks, hml, hsz, hP, hE, hD, hA, hS, hl⟩ := C
  subst hsz
  have hl : lv_has ls 1 [(0, .ref (a 0))] := hl
  refine lv_aload_n hx hb dX3_opened_0 rfl (lv_at hl 0 rfl) ?_
  refine va_get (D := G.1) (ci := 3) (v := .ref (a 7)) (C := RX3) (T := TX3) (N := 4) hx hb hts iw_X3_opened_RX3 hown hE.1 hP 0 rfl rfl 1 (by decide) (hts (.fieldLink RX3 19 "Rackrail" "rail" "LRackrail$Rail;") (by decide +kernel)) (fun _ h9 => h9) rfl dX3_opened_1 ?_
  refine k_p (va_runV (As := []) (rest := []) ⟨hx, hb, hml, hown, hts⟩ (c_X1_openAisle l G a s.heap.size gp tg st sm) (cwV 0 hts gX3_opened_X1_openAisle rfl rfl rfl ⟨rfl, by decide +kernel, by decide +kernel, by decide +kernel⟩ ⟨Nat.le_of_ble_eq_true rfl, Nat.le_of_ble_eq_true rfl⟩) ⟨GP.blind, va_recv hE.1 hP (ci := 1) (q0 := 1) rfl rfl, GP.go (wc := [wcR a gp tg st sm]) hE hP hD hS hA [1] rfl (by decide) [.ref (a 7)]⟩ rfl rfl hl.1 rfl (lv_room (Nat.le_of_ble_eq_true rfl)) dX3_opened_4 ⟨Nat.le_of_ble_eq_true rfl, Nat.le_of_ble_eq_true rfl⟩) ?_
  have hq : f_X3_opened gp tg = (f_X1_openAisle gp tg) := (by rw [f_X3_opened])
  exact W.iret (v := f_X1_openAisle gp tg) hx hb hr (fun t ht _ => ⟨by rw [hq], ht⟩) (fun _ h => nomatch h) dX3_opened_7

/-! X3_openedByMoves -/
def f_X3_openedByMoves (tg : Int32) (mv : Nat → Int32) : Int32 :=
  f_X1_openAisleByMoves tg mv
theorem iw_X3_openedByMoves_RX3 : ∀ w ∈ u_ws RX3 TX3 4, w ∈ wsX3_openedByMoves := by decide +kernel
set_option maxHeartbeats 4000000 in
set_option maxRecDepth 100000 in
theorem c_X3_openedByMoves (l : Launch) (G : GT) (a : Nat → Nat) (sz : Nat) (ck : Int32) (gp : Int32) (tg : Int32) (st : Int32) (sm : Int32) (mv : Nat → Int32) : Met l yX3_openedByMoves wsX3_openedByMoves ({ frames := 1, cells := 0, slots := 0, locals := 22 }) (GP G [.ref (a 0)] [wcA a ck, wcR a gp tg st sm, wcI G (a 10) 6 mv] sz) (PQo (.returned (some (.int (f_X3_openedByMoves tg mv))))) 0 0 (fun _ => False) := by
  refine bodyM (cc := cX3_openedByMoves) (maxL := 1) (ret := (some .int)) (by decide) rfl (Nat.le_of_ble_eq_true rfl) ?_
  intro p e s m below meth c ls C
  obtain ⟨hx, hb, hr, hts, hown, hlocks, hml, hsz, hP, hE, hD, hA, hS, hl⟩ := C
  subst hsz
  have hl : lv_has ls 1 [(0, .ref (a 0))] := hl
  refine lv_aload_n hx hb dX3_openedByMoves_0 rfl (lv_at hl 0 rfl) ?_
  refine va_get (D := G.1) (ci := 3) (v := .ref (a 7)) (C := RX3) (T := TX3) (N := 4) hx hb hts iw_X3_openedByMoves_RX3 hown hE.1 hP 0 rfl rfl 1 (by decide) (hts (.fieldLink RX3 19 "Rackrail" "rail" "LRackrail$Rail;") (by decide +kernel)) (fun _ h9 => h9) rfl dX3_openedByMoves_1 ?_
  refine k_p (va_runV (As := []) (rest := []) ⟨hx, hb, hml, hown, hts⟩ (c_X1_openAisleByMoves l G a s.heap.size gp tg st sm mv) (cwV 0 hts gX3_openedByMoves_X1_openAisleByMoves rfl rfl rfl ⟨rfl, by decide +kernel, by decide +kernel, by decide +kernel⟩ ⟨Nat.le_of_ble_eq_true rfl, Nat.le_of_ble_eq_true rfl⟩) ⟨GP.blind, va_recv hE.1 hP (ci := 1) (q0 := 1) rfl rfl, GP.go (wc := [wcR a gp tg st sm, wcI G (a 10) 6 mv]) hE hP hD hS hA [1, 2] rfl (by decide) [.ref (a 7)]⟩ rfl rfl hl.1 rfl (lv_room (Nat.le_of_ble_eq_true rfl)) dX3_openedByMoves_4 ⟨Nat.le_of_ble_eq_true rfl, Nat.le_of_ble_eq_true rfl⟩) ?_
  have hq : f_X3_openedByMoves tg mv = (f_X1_openAisleByMoves tg mv) := (by rw [f_X3_openedByMoves])
  exact W.iret (v := f_X1_openAisleByMoves tg mv) hx hb hr (fun t ht _ => ⟨by rw [hq], ht⟩) (fun _ h => nomatch h) dX3_openedByMoves_7

/-! X3_goIn -/
def f_X3_goIn (gp : Int32) (tg : Int32) (sm : Int32) (ins : Nat → Int32) (p0 : Int32) : Int32 × (Nat → Int32) :=
  if k_X3_requirePerson p0 = 0 then (if (f_X1_isInside ins p0) = 0 then (if (f_X1_mayGoIn gp tg sm) = 0 then (0, ins)
        else (f_X1_countInside (f_X1_setInside ins p0 1), f_X1_setInside ins p0 1))
      else (0, ins))
    else (0, ins)
def k_X3_goIn (gp : Int32) (tg : Int32) (sm : Int32) (ins : Nat → Int32) (p0 : Int32) : Nat :=
  if k_X3_requirePerson p0 = 0 then (if (f_X1_isInside ins p0) = 0 then (if (f_X1_mayGoIn gp tg sm) = 0 then 3
        else 0)
      else 3)
    else 1
theorem kr_X3_goIn (gp : Int32) (tg : Int32) (sm : Int32) (ins : Nat → Int32) (p0 : Int32) : k_X3_goIn gp tg sm ins p0 = 0 ∨ k_X3_goIn gp tg sm ins p0 = 1 ∨ k_X3_goIn gp tg sm ins p0 = 3 := by
  unfold k_X3_goIn
  (repeat' split) <;> decide
theorem iw_X3_goIn_RX3 : ∀ w ∈ u_ws RX3 TX3 4, w ∈ wsX3_goIn := by decide +kernel
set_option maxHeartbeats 4000000 in
set_option maxRecDepth 100000 in
theorem c_X3_goIn (l : Launch) (hl9 : l.stackTraces = false) (G : GT) (a : Nat → Nat) (sz : Nat) (ck : Int32) (gp : Int32) (tg : Int32) (st : Int32) (sm : Int32) (ins : Nat → Int32) (p0 : Int32) (h0 : k_X3_goIn gp tg sm ins p0 = 0) : Met l yX3_goIn wsX3_goIn ({ frames := 2, cells := 0, slots := 0, locals := 43 }) (GP G [.ref (a 0), .int p0] [wcA a ck, wcR a gp tg st sm, wcZ G (a 9) 4 ins] sz) (MQo G (.returned (some (.int ((f_X3_goIn gp tg sm ins p0).1)))) [wcA a ck, wcR a gp tg st sm, wcZ G (a 9) 4 ((f_X3_goIn gp tg sm ins p0).2)] (va_A [wcA a ck, wcR a gp tg st sm, wcZ G (a 9) 4 ins] sz)) 0 0 (va_A [wcA a ck, wcR a gp tg st sm, wcZ G (a 9) 4 ins] sz) := by
  refine bodyM (cc := cX3_goIn) (maxL := 2) (ret := (some .int)) (by decide) rfl (Nat.le_of_ble_eq_true rfl) ?_
  intro p e s m below meth c ls C
  obtain ⟨hx, hb, hr, hts, hown, hlocks, hml, hsz, hP, hE, hD, hA, hS, hl⟩ := C
  subst hsz
  have hl : lv_has ls 2 [(0, .ref (a 0)), (1, .int p0)] := hl
  refine lv_aload_n hx hb dX3_goIn_0 rfl (lv_at hl 0 rfl) ?_
  refine lv_iload_n hx hb dX3_goIn_1 rfl (lv_at hl 1 rfl) ?_
  have c_2 : k_X3_requirePerson p0 = 0 := Decidable.byContradiction (fun c_2 => absurd (h0.symm.trans (by rw [k_X3_goIn, if_neg c_2])) (by decide))
  refine k_p (va_runV (As := [.int p0]) (rest := []) ⟨hx, hb, hml, hown, hts⟩ (c_X3_requirePerson l hl9 G a s.heap.size p0 c_2) (cwV 1 hts gX3_goIn_X3_requirePerson rfl rfl rfl ⟨rfl, by decide +kernel, by decide +kernel, by decide +kernel⟩ ⟨Nat.le_of_ble_eq_true rfl, Nat.le_of_ble_eq_true rfl⟩) ⟨GP.blind, va_recv hE.1 hP (ci := 3) (q0 := 0) rfl rfl, GP.go (wc := []) hE hP hD hS hA [] rfl (by decide) [.ref (a 0), .int p0]⟩ rfl rfl hl.1 rfl (lv_room (Nat.le_of_ble_eq_true rfl)) dX3_goIn_2 ⟨Nat.le_of_ble_eq_true rfl, Nat.le_of_ble_eq_true rfl⟩) ?_
  refine lv_aload_n hx hb dX3_goIn_5 rfl (lv_at hl 0 rfl) ?_
  refine va_get (D := G.1) (ci := 3) (v := .ref (a 7)) (C := RX3) (T := TX3) (N := 4) hx hb hts iw_X3_goIn_RX3 hown hE.1 hP 0 rfl rfl 1 (by decide) (hts (.fieldLink RX3 19 "Rackrail" "rail" "LRackrail$Rail;") (by decide +kernel)) (fun _ h9 => h9) rfl dX3_goIn_6 ?_
  refine lv_iload_n hx hb dX3_goIn_9 rfl (lv_at hl 1 rfl) ?_
  refine k_p (va_runV (As := [.int p0]) (rest := []) ⟨hx, hb, hml, hown, hts⟩ (c_X1_isInside l G a s.heap.size gp tg st sm ins p0) (cwV 1 hts gX3_goIn_X1_isInside rfl rfl rfl ⟨rfl, by decide +kernel, by decide +kernel, by decide +kernel⟩ ⟨Nat.le_of_ble_eq_true rfl, Nat.le_of_ble_eq_true rfl⟩) ⟨GP.blind, va_recv hE.1 hP (ci := 1) (q0 := 1) rfl rfl, GP.go (wc := [wcR a gp tg st sm, wcZ G (a 9) 4 ins]) hE hP hD hS hA [1, 2] rfl (by decide) [.ref (a 7), .int p0]⟩ rfl rfl hl.1 rfl (lv_room (Nat.le_of_ble_eq_true rfl)) dX3_goIn_10 ⟨Nat.le_of_ble_eq_true rfl, Nat.le_of_ble_eq_true rfl⟩) ?_
  refine lv_if_eq (tgt := 26) hx hb dX3_goIn_13 (by decide) (fun c_13 => ?_) (fun c_13 => ?_)
  · refine lv_aload_n hx hb dX3_goIn_26 rfl (lv_at hl 0 rfl) ?_
    refine va_get (D := G.1) (ci := 3) (v := .ref (a 7)) (C := RX3) (T := TX3) (N := 4) hx hb hts iw_X3_goIn_RX3 hown hE.1 hP 0 rfl rfl 1 (by decide) (hts (.fieldLink RX3 19 "Rackrail" "rail" "LRackrail$Rail;") (by decide +kernel)) (fun _ h9 => h9) rfl dX3_goIn_27 ?_
    refine k_p (va_runV (As := []) (rest := []) ⟨hx, hb, hml, hown, hts⟩ (c_X1_mayGoIn l G a s.heap.size gp tg st sm) (cwV 0 hts gX3_goIn_X1_mayGoIn rfl rfl rfl ⟨rfl, by decide +kernel, by decide +kernel, by decide +kernel⟩ ⟨Nat.le_of_ble_eq_true rfl, Nat.le_of_ble_eq_true rfl⟩) ⟨GP.blind, va_recv hE.1 hP (ci := 1) (q0 := 1) rfl rfl, GP.go (wc := [wcR a gp tg st sm]) hE hP hD hS hA [1] rfl (by decide) [.ref (a 7)]⟩ rfl rfl hl.1 rfl (lv_room (Nat.le_of_ble_eq_true rfl)) dX3_goIn_30 ⟨Nat.le_of_ble_eq_true rfl, Nat.le_of_ble_eq_true rfl⟩) ?_
    refine lv_if_ne (tgt := 46) hx hb dX3_goIn_33 (by decide) (fun c_33 => ?_) (fun c_33 => ?_)
    · refine lv_aload_n hx hb dX3_goIn_46 rfl (lv_at hl 0 rfl) ?_
      refine va_get (D := G.1) (ci := 3) (v := .ref (a 7)) (C := RX3) (T := TX3) (N := 4) hx hb hts iw_X3_goIn_RX3 hown hE.1 hP 0 rfl rfl 1 (by decide) (hts (.fieldLink RX3 19 "Rackrail" "rail" "LRackrail$Rail;") (by decide +kernel)) (fun _ h9 => h9) rfl dX3_goIn_47 ?_
      refine lv_iload_n hx hb dX3_goIn_50 rfl (lv_at hl 1 rfl) ?_
      refine lv_iconst (v := 1) hx hb dX3_goIn_51 (by decide) ?_
      refine k_m (wc := [wcR a gp tg st sm, wcZ G (a 9) 4 ins]) (w1 := [wcR a gp tg st sm, wcZ G (a 9) 4 (f_X1_setInside ins p0 1)]) (wn := [wcA a ck, wcR a gp tg st sm, wcZ G (a 9) 4 (f_X1_setInside ins p0 1)]) (va_runV (As := [.int p0, .int 1]) (rest := []) ⟨hx, hb, hml, hown, hts⟩ (c_X1_setInside l G a s.heap.size gp tg st sm ins p0 1) (cwV 2 hts gX3_goIn_X1_setInside rfl rfl rfl ⟨rfl, by decide +kernel, by decide +kernel, by decide +kernel⟩ ⟨Nat.le_of_ble_eq_true rfl, Nat.le_of_ble_eq_true rfl⟩) ⟨GP.blind, va_recv hE.1 hP (ci := 1) (q0 := 1) rfl rfl, GP.go (wc := [wcR a gp tg st sm, wcZ G (a 9) 4 ins]) hE hP hD hS hA [1, 2] rfl (by decide) [.ref (a 7), .int p0, .int 1]⟩ rfl rfl hl.1 rfl (lv_room (Nat.le_of_ble_eq_true rfl)) dX3_goIn_52 ⟨Nat.le_of_ble_eq_true rfl, Nat.le_of_ble_eq_true rfl⟩) hP hD hS hA [1, 2] rfl rfl rfl rfl (fun H locs hP hD hS => ?_)
      refine lv_aload_n hx hb dX3_goIn_55 rfl (lv_at hl 0 rfl) ?_
      refine va_get (D := G.1) (ci := 3) (v := .ref (a 7)) (C := RX3) (T := TX3) (N := 4) hx hb hts iw_X3_goIn_RX3 hown hE.1 hP 0 rfl rfl 1 (by decide) (hts (.fieldLink RX3 19 "Rackrail" "rail" "LRackrail$Rail;") (by decide +kernel)) (fun _ h9 => h9) rfl dX3_goIn_56 ?_
      refine k_p (va_runV (As := []) (rest := []) ⟨hx, hb, hml, hown, hts⟩ (c_X1_countInside l G a H.size gp tg st sm (f_X1_setInside ins p0 1)) (cwV 0 hts gX3_goIn_X1_countInside rfl rfl rfl ⟨rfl, by decide +kernel, by decide +kernel, by decide +kernel⟩ ⟨Nat.le_of_ble_eq_true rfl, Nat.le_of_ble_eq_true rfl⟩) ⟨GP.blind, va_recv hE.1 hP (ci := 1) (q0 := 1) rfl rfl, GP.go (wc := [wcR a gp tg st sm, wcZ G (a 9) 4 (f_X1_setInside ins p0 1)]) hE hP hD hS hA [1, 2] rfl (by decide) [.ref (a 7)]⟩ rfl rfl hl.1 rfl (lv_room (Nat.le_of_ble_eq_true rfl)) dX3_goIn_59 ⟨Nat.le_of_ble_eq_true rfl, Nat.le_of_ble_eq_true rfl⟩) ?_
      have hq : f_X3_goIn gp tg sm ins p0 = (f_X1_countInside (f_X1_setInside ins p0 1), f_X1_setInside ins p0 1) := (by rw [f_X3_goIn, if_pos c_2, if_pos c_13, if_neg c_33])
      exact W.iret (v := f_X1_countInside (f_X1_setInside ins p0 1)) hx hb hr (fun t ht _ => ⟨by rw [hq], by rw [hq, ht]; exact hP, hS.F ht⟩) hS.2.2 dX3_goIn_62
    · exact absurd (h0.symm.trans (by rw [k_X3_goIn, if_pos c_2, if_pos c_13, if_pos c_33])) (by decide)
  · exact absurd (h0.symm.trans (by rw [k_X3_goIn, if_pos c_2, if_neg c_13])) (by decide)

/-! X3_goOut -/
def f_X3_goOut (ins : Nat → Int32) (p0 : Int32) : Int32 × (Nat → Int32) :=
  if k_X3_requirePerson p0 = 0 then (if k_X3_requireInside ins p0 = 0 then (f_X1_countInside (f_X1_setInside ins p0 0), f_X1_setInside ins p0 0)
      else (0, ins))
    else (0, ins)
def k_X3_goOut (ins : Nat → Int32) (p0 : Int32) : Nat :=
  if k_X3_requirePerson p0 = 0 then (if k_X3_requireInside ins p0 = 0 then 0
      else 3)
    else 1
theorem kr_X3_goOut (ins : Nat → Int32) (p0 : Int32) : k_X3_goOut ins p0 = 0 ∨ k_X3_goOut ins p0 = 1 ∨ k_X3_goOut ins p0 = 3 := by
  unfold k_X3_goOut
  (repeat' split) <;> decide
theorem iw_X3_goOut_RX3 : ∀ w ∈ u_ws RX3 TX3 4, w ∈ wsX3_goOut := by decide +kernel
set_option maxHeartbeats 4000000 in
set_option maxRecDepth 100000 in
theorem c_X3_goOut (l : Launch) (hl9 : l.stackTraces = false) (G : GT) (a : Nat → Nat) (sz : Nat) (ck : Int32) (gp : Int32) (tg : Int32) (st : Int32) (sm : Int32) (ins : Nat → Int32) (p0 : Int32) (h0 : k_X3_goOut ins p0 = 0) : Met l yX3_goOut wsX3_goOut ({ frames := 3, cells := 0, slots := 0, locals := 63 }) (GP G [.ref (a 0), .int p0] [wcA a ck, wcR a gp tg st sm, wcZ G (a 9) 4 ins] sz) (MQo G (.returned (some (.int ((f_X3_goOut ins p0).1)))) [wcA a ck, wcR a gp tg st sm, wcZ G (a 9) 4 ((f_X3_goOut ins p0).2)] (va_A [wcA a ck, wcR a gp tg st sm, wcZ G (a 9) 4 ins] sz)) 0 0 (va_A [wcA a ck, wcR a gp tg st sm, wcZ G (a 9) 4 ins] sz) := by
  refine bodyM (cc := cX3_goOut) (maxL := 2) (ret := (some .int)) (by decide) rfl (Nat.le_of_ble_eq_true rfl) ?_
  intro p e s m below meth c ls C
  obtain ⟨hx, hb, hr, hts, hown, hlocks, hml, hsz, hP, hE, hD, hA, hS, hl⟩ := C
  subst hsz
  have hl : lv_has ls 2 [(0, .ref (a 0)), (1, .int p0)] := hl
  refine lv_aload_n hx hb dX3_goOut_0 rfl (lv_at hl 0 rfl) ?_
  refine lv_iload_n hx hb dX3_goOut_1 rfl (lv_at hl 1 rfl) ?_
  have c_2 : k_X3_requirePerson p0 = 0 := Decidable.byContradiction (fun c_2 => absurd (h0.symm.trans (by rw [k_X3_goOut, if_neg c_2])) (by decide))
  refine k_p (va_runV (As := [.int p0]) (rest := []) ⟨hx, hb, hml, hown, hts⟩ (c_X3_requirePerson l hl9 G a s.heap.size p0 c_2) (cwV 1 hts gX3_goOut_X3_requirePerson rfl rfl rfl ⟨rfl, by decide +kernel, by decide +kernel, by decide +kernel⟩ ⟨Nat.le_of_ble_eq_true rfl, Nat.le_of_ble_eq_true rfl⟩) ⟨GP.blind, va_recv hE.1 hP (ci := 3) (q0 := 0) rfl rfl, GP.go (wc := []) hE hP hD hS hA [] rfl (by decide) [.ref (a 0), .int p0]⟩ rfl rfl hl.1 rfl (lv_room (Nat.le_of_ble_eq_true rfl)) dX3_goOut_2 ⟨Nat.le_of_ble_eq_true rfl, Nat.le_of_ble_eq_true rfl⟩) ?_
  refine lv_aload_n hx hb dX3_goOut_5 rfl (lv_at hl 0 rfl) ?_
  refine lv_iload_n hx hb dX3_goOut_6 rfl (lv_at hl 1 rfl) ?_
  have c_7 : k_X3_requireInside ins p0 = 0 := Decidable.byContradiction (fun c_7 => absurd (h0.symm.trans (by rw [k_X3_goOut, if_pos c_2, if_neg c_7])) (by decide))
  refine k_p (va_runV (As := [.int p0]) (rest := []) ⟨hx, hb, hml, hown, hts⟩ (c_X3_requireInside l hl9 G a s.heap.size ck gp tg st sm ins p0 c_7) (cwV 1 hts gX3_goOut_X3_requireInside rfl rfl rfl ⟨rfl, by decide +kernel, by decide +kernel, by decide +kernel⟩ ⟨Nat.le_of_ble_eq_true rfl, Nat.le_of_ble_eq_true rfl⟩) ⟨GP.blind, va_recv hE.1 hP (ci := 3) (q0 := 0) rfl rfl, GP.go (wc := [wcA a ck, wcR a gp tg st sm, wcZ G (a 9) 4 ins]) hE hP hD hS hA [0, 1, 2] rfl (by decide) [.ref (a 0), .int p0]⟩ rfl rfl hl.1 rfl (lv_room (Nat.le_of_ble_eq_true rfl)) dX3_goOut_7 ⟨Nat.le_of_ble_eq_true rfl, Nat.le_of_ble_eq_true rfl⟩) ?_
  refine lv_aload_n hx hb dX3_goOut_10 rfl (lv_at hl 0 rfl) ?_
  refine va_get (D := G.1) (ci := 3) (v := .ref (a 7)) (C := RX3) (T := TX3) (N := 4) hx hb hts iw_X3_goOut_RX3 hown hE.1 hP 0 rfl rfl 1 (by decide) (hts (.fieldLink RX3 19 "Rackrail" "rail" "LRackrail$Rail;") (by decide +kernel)) (fun _ h9 => h9) rfl dX3_goOut_11 ?_
  refine lv_iload_n hx hb dX3_goOut_14 rfl (lv_at hl 1 rfl) ?_
  refine lv_iconst (v := 0) hx hb dX3_goOut_15 (by decide) ?_
  refine k_m (wc := [wcR a gp tg st sm, wcZ G (a 9) 4 ins]) (w1 := [wcR a gp tg st sm, wcZ G (a 9) 4 (f_X1_setInside ins p0 0)]) (wn := [wcA a ck, wcR a gp tg st sm, wcZ G (a 9) 4 (f_X1_setInside ins p0 0)]) (va_runV (As := [.int p0, .int 0]) (rest := []) ⟨hx, hb, hml, hown, hts⟩ (c_X1_setInside l G a s.heap.size gp tg st sm ins p0 0) (cwV 2 hts gX3_goOut_X1_setInside rfl rfl rfl ⟨rfl, by decide +kernel, by decide +kernel, by decide +kernel⟩ ⟨Nat.le_of_ble_eq_true rfl, Nat.le_of_ble_eq_true rfl⟩) ⟨GP.blind, va_recv hE.1 hP (ci := 1) (q0 := 1) rfl rfl, GP.go (wc := [wcR a gp tg st sm, wcZ G (a 9) 4 ins]) hE hP hD hS hA [1, 2] rfl (by decide) [.ref (a 7), .int p0, .int 0]⟩ rfl rfl hl.1 rfl (lv_room (Nat.le_of_ble_eq_true rfl)) dX3_goOut_16 ⟨Nat.le_of_ble_eq_true rfl, Nat.le_of_ble_eq_true rfl⟩) hP hD hS hA [1, 2] rfl rfl rfl rfl (fun H locs hP hD hS => ?_)
  refine lv_aload_n hx hb dX3_goOut_19 rfl (lv_at hl 0 rfl) ?_
  refine va_get (D := G.1) (ci := 3) (v := .ref (a 7)) (C := RX3) (T := TX3) (N := 4) hx hb hts iw_X3_goOut_RX3 hown hE.1 hP 0 rfl rfl 1 (by decide) (hts (.fieldLink RX3 19 "Rackrail" "rail" "LRackrail$Rail;") (by decide +kernel)) (fun _ h9 => h9) rfl dX3_goOut_20 ?_
  refine k_p (va_runV (As := []) (rest := []) ⟨hx, hb, hml, hown, hts⟩ (c_X1_countInside l G a H.size gp tg st sm (f_X1_setInside ins p0 0)) (cwV 0 hts gX3_goOut_X1_countInside rfl rfl rfl ⟨rfl, by decide +kernel, by decide +kernel, by decide +kernel⟩ ⟨Nat.le_of_ble_eq_true rfl, Nat.le_of_ble_eq_true rfl⟩) ⟨GP.blind, va_recv hE.1 hP (ci := 1) (q0 := 1) rfl rfl, GP.go (wc := [wcR a gp tg st sm, wcZ G (a 9) 4 (f_X1_setInside ins p0 0)]) hE hP hD hS hA [1, 2] rfl (by decide) [.ref (a 7)]⟩ rfl rfl hl.1 rfl (lv_room (Nat.le_of_ble_eq_true rfl)) dX3_goOut_23 ⟨Nat.le_of_ble_eq_true rfl, Nat.le_of_ble_eq_true rfl⟩) ?_
  have hq : f_X3_goOut ins p0 = (f_X1_countInside (f_X1_setInside ins p0 0), f_X1_setInside ins p0 0) := (by rw [f_X3_goOut, if_pos c_2, if_pos c_7])
  exact W.iret (v := f_X1_countInside (f_X1_setInside ins p0 0)) hx hb hr (fun t ht _ => ⟨by rw [hq], by rw [hq, ht]; exact hP, hS.F ht⟩) hS.2.2 dX3_goOut_26

/-! X3_doubt -/
def f_X3_doubt (db : Nat → Int32) (p0 : Int32) : Int32 × (Nat → Int32) :=
  if k_X3_requireAisle p0 = 0 then (if (f_X1_hasDoubt db p0) = 0 then (1, f_X1_setDoubt db p0 1)
      else (0, f_X1_setDoubt db p0 1))
    else (0, db)
def k_X3_doubt (p0 : Int32) : Nat :=
  if k_X3_requireAisle p0 = 0 then 0
    else 1
theorem kr_X3_doubt (p0 : Int32) : k_X3_doubt p0 = 0 ∨ k_X3_doubt p0 = 1 := by
  unfold k_X3_doubt
  (repeat' split) <;> decide
theorem iw_X3_doubt_RX3 : ∀ w ∈ u_ws RX3 TX3 4, w ∈ wsX3_doubt := by decide +kernel
set_option maxHeartbeats 4000000 in
set_option maxRecDepth 100000 in
theorem c_X3_doubt (l : Launch) (hl9 : l.stackTraces = false) (G : GT) (a : Nat → Nat) (sz : Nat) (ck : Int32) (gp : Int32) (tg : Int32) (st : Int32) (sm : Int32) (db : Nat → Int32) (p0 : Int32) (h0 : k_X3_doubt p0 = 0) : Met l yX3_doubt wsX3_doubt ({ frames := 2, cells := 0, slots := 0, locals := 43 }) (GP G [.ref (a 0), .int p0] [wcA a ck, wcR a gp tg st sm, wcZ G (a 8) 7 db] sz) (MQo G (.returned (some (.int ((f_X3_doubt db p0).1)))) [wcA a ck, wcR a gp tg st sm, wcZ G (a 8) 7 ((f_X3_doubt db p0).2)] (va_A [wcA a ck, wcR a gp tg st sm, wcZ G (a 8) 7 db] sz)) 0 0 (va_A [wcA a ck, wcR a gp tg st sm, wcZ G (a 8) 7 db] sz) := by
  refine bodyM (cc := cX3_doubt) (maxL := 3) (ret := (some .boolean)) (by decide) rfl (Nat.le_of_ble_eq_true rfl) ?_
  intro p e s m below meth c ls C
  obtain ⟨hx, hb, hr, hts, hown, hlocks, hml, hsz, hP, hE, hD, hA, hS, hl⟩ := C
  subst hsz
  have hl : lv_has ls 3 [(0, .ref (a 0)), (1, .int p0)] := hl
  refine lv_aload_n hx hb dX3_doubt_0 rfl (lv_at hl 0 rfl) ?_
  refine lv_iload_n hx hb dX3_doubt_1 rfl (lv_at hl 1 rfl) ?_
  have c_2 : k_X3_requireAisle p0 = 0 := Decidable.byContradiction (fun c_2 => absurd (h0.symm.trans (by rw [k_X3_doubt, if_neg c_2])) (by decide))
  refine k_p (va_runV (As := [.int p0]) (rest := []) ⟨hx, hb, hml, hown, hts⟩ (c_X3_requireAisle l hl9 G a s.heap.size p0 c_2) (cwV 1 hts gX3_doubt_X3_requireAisle rfl rfl rfl ⟨rfl, by decide +kernel, by decide +kernel, by decide +kernel⟩ ⟨Nat.le_of_ble_eq_true rfl, Nat.le_of_ble_eq_true rfl⟩) ⟨GP.blind, va_recv hE.1 hP (ci := 3) (q0 := 0) rfl rfl, GP.go (wc := []) hE hP hD hS hA [] rfl (by decide) [.ref (a 0), .int p0]⟩ rfl rfl hl.1 rfl (lv_room (Nat.le_of_ble_eq_true rfl)) dX3_doubt_2 ⟨Nat.le_of_ble_eq_true rfl, Nat.le_of_ble_eq_true rfl⟩) ?_
  refine lv_aload_n hx hb dX3_doubt_5 rfl (lv_at hl 0 rfl) ?_
  refine va_get (D := G.1) (ci := 3) (v := .ref (a 7)) (C := RX3) (T := TX3) (N := 4) hx hb hts iw_X3_doubt_RX3 hown hE.1 hP 0 rfl rfl 1 (by decide) (hts (.fieldLink RX3 19 "Rackrail" "rail" "LRackrail$Rail;") (by decide +kernel)) (fun _ h9 => h9) rfl dX3_doubt_6 ?_
  refine lv_iload_n hx hb dX3_doubt_9 rfl (lv_at hl 1 rfl) ?_
  refine k_p (va_runV (As := [.int p0]) (rest := []) ⟨hx, hb, hml, hown, hts⟩ (c_X1_hasDoubt l G a s.heap.size gp tg st sm db p0) (cwV 1 hts gX3_doubt_X1_hasDoubt rfl rfl rfl ⟨rfl, by decide +kernel, by decide +kernel, by decide +kernel⟩ ⟨Nat.le_of_ble_eq_true rfl, Nat.le_of_ble_eq_true rfl⟩) ⟨GP.blind, va_recv hE.1 hP (ci := 1) (q0 := 1) rfl rfl, GP.go (wc := [wcR a gp tg st sm, wcZ G (a 8) 7 db]) hE hP hD hS hA [1, 2] rfl (by decide) [.ref (a 7), .int p0]⟩ rfl rfl hl.1 rfl (lv_room (Nat.le_of_ble_eq_true rfl)) dX3_doubt_10 ⟨Nat.le_of_ble_eq_true rfl, Nat.le_of_ble_eq_true rfl⟩) ?_
  refine lv_istore_n (lv' := [(2, .int (f_X1_hasDoubt db p0)), (0, .ref (a 0)), (1, .int p0)]) hx hb dX3_doubt_13 rfl hl (by decide) rfl (fun ls hl => ?_)
  refine lv_aload_n hx hb dX3_doubt_14 rfl (lv_at hl 1 rfl) ?_
  refine va_get (D := G.1) (ci := 3) (v := .ref (a 7)) (C := RX3) (T := TX3) (N := 4) hx hb hts iw_X3_doubt_RX3 hown hE.1 hP 0 rfl rfl 1 (by decide) (hts (.fieldLink RX3 19 "Rackrail" "rail" "LRackrail$Rail;") (by decide +kernel)) (fun _ h9 => h9) rfl dX3_doubt_15 ?_
  refine lv_iload_n hx hb dX3_doubt_18 rfl (lv_at hl 2 rfl) ?_
  refine lv_iconst (v := 1) hx hb dX3_doubt_19 (by decide) ?_
  refine k_m (wc := [wcR a gp tg st sm, wcZ G (a 8) 7 db]) (w1 := [wcR a gp tg st sm, wcZ G (a 8) 7 (f_X1_setDoubt db p0 1)]) (wn := [wcA a ck, wcR a gp tg st sm, wcZ G (a 8) 7 (f_X1_setDoubt db p0 1)]) (va_runV (As := [.int p0, .int 1]) (rest := []) ⟨hx, hb, hml, hown, hts⟩ (c_X1_setDoubt l G a s.heap.size gp tg st sm db p0 1) (cwV 2 hts gX3_doubt_X1_setDoubt rfl rfl rfl ⟨rfl, by decide +kernel, by decide +kernel, by decide +kernel⟩ ⟨Nat.le_of_ble_eq_true rfl, Nat.le_of_ble_eq_true rfl⟩) ⟨GP.blind, va_recv hE.1 hP (ci := 1) (q0 := 1) rfl rfl, GP.go (wc := [wcR a gp tg st sm, wcZ G (a 8) 7 db]) hE hP hD hS hA [1, 2] rfl (by decide) [.ref (a 7), .int p0, .int 1]⟩ rfl rfl hl.1 rfl (lv_room (Nat.le_of_ble_eq_true rfl)) dX3_doubt_20 ⟨Nat.le_of_ble_eq_true rfl, Nat.le_of_ble_eq_true rfl⟩) hP hD hS hA [1, 2] rfl rfl rfl rfl (fun H locs hP hD hS => ?_)
  refine lv_iload_n hx hb dX3_doubt_23 rfl (lv_at hl 0 rfl) ?_
  refine lv_if_ne (tgt := 31) hx hb dX3_doubt_24 (by decide) (fun c_24 => ?_) (fun c_24 => ?_)
  · refine lv_iconst (v := 0) hx hb dX3_doubt_31 (by decide) ?_
    have hq : f_X3_doubt db p0 = (0, f_X1_setDoubt db p0 1) := (by rw [f_X3_doubt, if_pos c_2, if_neg c_24])
    exact W.zret (v := 0) hx hb hr rfl (fun t ht _ => ⟨by rw [hq], by rw [hq, ht]; exact hP, hS.F ht⟩) hS.2.2 dX3_doubt_32
  · refine lv_iconst (v := 1) hx hb dX3_doubt_27 (by decide) ?_
    refine lv_goto (tgt := 32) hx hb dX3_doubt_28 (by decide) ?_
    have hq : f_X3_doubt db p0 = (1, f_X1_setDoubt db p0 1) := (by rw [f_X3_doubt, if_pos c_2, if_pos c_24])
    exact W.zret (v := 1) hx hb hr rfl (fun t ht _ => ⟨by rw [hq], by rw [hq, ht]; exact hP, hS.F ht⟩) hS.2.2 dX3_doubt_32

/-! X3_look -/
def f_X3_look (gp : Int32) (tg : Int32) (db : Nat → Int32) : Int32 × (Nat → Int32) :=
  if (f_X1_openAisle gp tg) = (-1) then (0, db)
    else (f_X1_hasDoubt db (f_X1_openAisle gp tg), f_X1_setDoubt db (f_X1_openAisle gp tg) 0)
def k_X3_look (gp : Int32) (tg : Int32) : Nat :=
  if (f_X1_openAisle gp tg) = (-1) then 3
    else 0
theorem kr_X3_look (gp : Int32) (tg : Int32) : k_X3_look gp tg = 0 ∨ k_X3_look gp tg = 3 := by
  unfold k_X3_look
  (repeat' split) <;> decide
theorem iw_X3_look_RX3 : ∀ w ∈ u_ws RX3 TX3 4, w ∈ wsX3_look := by decide +kernel
set_option maxHeartbeats 4000000 in
set_option maxRecDepth 100000 in
theorem c_X3_look (l : Launch) (hl9 : l.stackTraces = false) (G : GT) (a : Nat → Nat) (sz : Nat) (ck : Int32) (gp : Int32) (tg : Int32) (st : Int32) (sm : Int32) (db : Nat → Int32) (h0 : k_X3_look gp tg = 0) : Met l yX3_look wsX3_look ({ frames := 2, cells := 0, slots := 0, locals := 43 }) (GP G [.ref (a 0)] [wcA a ck, wcR a gp tg st sm, wcZ G (a 8) 7 db] sz) (MQo G (.returned (some (.int ((f_X3_look gp tg db).1)))) [wcA a ck, wcR a gp tg st sm, wcZ G (a 8) 7 ((f_X3_look gp tg db).2)] (va_A [wcA a ck, wcR a gp tg st sm, wcZ G (a 8) 7 db] sz)) 0 0 (va_A [wcA a ck, wcR a gp tg st sm, wcZ G (a 8) 7 db] sz) := by
  refine bodyM (cc := cX3_look) (maxL := 3) (ret := (some .boolean)) (by decide) rfl (Nat.le_of_ble_eq_true rfl) ?_
  intro p e s m below meth c ls C
  obtain ⟨hx, hb, hr, hts, hown, hlocks, hml, hsz, hP, hE, hD, hA, hS, hl⟩ := C
  subst hsz
  have hl : lv_has ls 3 [(0, .ref (a 0))] := hl
  refine lv_aload_n hx hb dX3_look_0 rfl (lv_at hl 0 rfl) ?_
  refine va_get (D := G.1) (ci := 3) (v := .ref (a 7)) (C := RX3) (T := TX3) (N := 4) hx hb hts iw_X3_look_RX3 hown hE.1 hP 0 rfl rfl 1 (by decide) (hts (.fieldLink RX3 19 "Rackrail" "rail" "LRackrail$Rail;") (by decide +kernel)) (fun _ h9 => h9) rfl dX3_look_1 ?_
  refine k_p (va_runV (As := []) (rest := []) ⟨hx, hb, hml, hown, hts⟩ (c_X1_openAisle l G a s.heap.size gp tg st sm) (cwV 0 hts gX3_look_X1_openAisle rfl rfl rfl ⟨rfl, by decide +kernel, by decide +kernel, by decide +kernel⟩ ⟨Nat.le_of_ble_eq_true rfl, Nat.le_of_ble_eq_true rfl⟩) ⟨GP.blind, va_recv hE.1 hP (ci := 1) (q0 := 1) rfl rfl, GP.go (wc := [wcR a gp tg st sm]) hE hP hD hS hA [1] rfl (by decide) [.ref (a 7)]⟩ rfl rfl hl.1 rfl (lv_room (Nat.le_of_ble_eq_true rfl)) dX3_look_4 ⟨Nat.le_of_ble_eq_true rfl, Nat.le_of_ble_eq_true rfl⟩) ?_
  refine lv_istore_n (lv' := [(1, .int (f_X1_openAisle gp tg)), (0, .ref (a 0))]) hx hb dX3_look_7 rfl hl (by decide) rfl (fun ls hl => ?_)
  refine lv_iload_n hx hb dX3_look_8 rfl (lv_at hl 0 rfl) ?_
  refine lv_iconst (v := (-1)) hx hb dX3_look_9 (by decide) ?_
  refine lv_icmp_ne (tgt := 23) hx hb dX3_look_10 (by decide) (fun c_10 => ?_) (fun c_10 => ?_)
  · refine lv_aload_n hx hb dX3_look_23 rfl (lv_at hl 1 rfl) ?_
    refine va_get (D := G.1) (ci := 3) (v := .ref (a 7)) (C := RX3) (T := TX3) (N := 4) hx hb hts iw_X3_look_RX3 hown hE.1 hP 0 rfl rfl 1 (by decide) (hts (.fieldLink RX3 19 "Rackrail" "rail" "LRackrail$Rail;") (by decide +kernel)) (fun _ h9 => h9) rfl dX3_look_24 ?_
    refine lv_iload_n hx hb dX3_look_27 rfl (lv_at hl 0 rfl) ?_
    refine k_p (va_runV (As := [.int (f_X1_openAisle gp tg)]) (rest := []) ⟨hx, hb, hml, hown, hts⟩ (c_X1_hasDoubt l G a s.heap.size gp tg st sm db (f_X1_openAisle gp tg)) (cwV 1 hts gX3_look_X1_hasDoubt rfl rfl rfl ⟨rfl, by decide +kernel, by decide +kernel, by decide +kernel⟩ ⟨Nat.le_of_ble_eq_true rfl, Nat.le_of_ble_eq_true rfl⟩) ⟨GP.blind, va_recv hE.1 hP (ci := 1) (q0 := 1) rfl rfl, GP.go (wc := [wcR a gp tg st sm, wcZ G (a 8) 7 db]) hE hP hD hS hA [1, 2] rfl (by decide) [.ref (a 7), .int (f_X1_openAisle gp tg)]⟩ rfl rfl hl.1 rfl (lv_room (Nat.le_of_ble_eq_true rfl)) dX3_look_28 ⟨Nat.le_of_ble_eq_true rfl, Nat.le_of_ble_eq_true rfl⟩) ?_
    refine lv_istore_n (lv' := [(2, .int (f_X1_hasDoubt db (f_X1_openAisle gp tg))), (1, .int (f_X1_openAisle gp tg)), (0, .ref (a 0))]) hx hb dX3_look_31 rfl hl (by decide) rfl (fun ls hl => ?_)
    refine lv_aload_n hx hb dX3_look_32 rfl (lv_at hl 2 rfl) ?_
    refine va_get (D := G.1) (ci := 3) (v := .ref (a 7)) (C := RX3) (T := TX3) (N := 4) hx hb hts iw_X3_look_RX3 hown hE.1 hP 0 rfl rfl 1 (by decide) (hts (.fieldLink RX3 19 "Rackrail" "rail" "LRackrail$Rail;") (by decide +kernel)) (fun _ h9 => h9) rfl dX3_look_33 ?_
    refine lv_iload_n hx hb dX3_look_36 rfl (lv_at hl 1 rfl) ?_
    refine lv_iconst (v := 0) hx hb dX3_look_37 (by decide) ?_
    refine k_m (wc := [wcR a gp tg st sm, wcZ G (a 8) 7 db]) (w1 := [wcR a gp tg st sm, wcZ G (a 8) 7 (f_X1_setDoubt db (f_X1_openAisle gp tg) 0)]) (wn := [wcA a ck, wcR a gp tg st sm, wcZ G (a 8) 7 (f_X1_setDoubt db (f_X1_openAisle gp tg) 0)]) (va_runV (As := [.int (f_X1_openAisle gp tg), .int 0]) (rest := []) ⟨hx, hb, hml, hown, hts⟩ (c_X1_setDoubt l G a s.heap.size gp tg st sm db (f_X1_openAisle gp tg) 0) (cwV 2 hts gX3_look_X1_setDoubt rfl rfl rfl ⟨rfl, by decide +kernel, by decide +kernel, by decide +kernel⟩ ⟨Nat.le_of_ble_eq_true rfl, Nat.le_of_ble_eq_true rfl⟩) ⟨GP.blind, va_recv hE.1 hP (ci := 1) (q0 := 1) rfl rfl, GP.go (wc := [wcR a gp tg st sm, wcZ G (a 8) 7 db]) hE hP hD hS hA [1, 2] rfl (by decide) [.ref (a 7), .int (f_X1_openAisle gp tg), .int 0]⟩ rfl rfl hl.1 rfl (lv_room (Nat.le_of_ble_eq_true rfl)) dX3_look_38 ⟨Nat.le_of_ble_eq_true rfl, Nat.le_of_ble_eq_true rfl⟩) hP hD hS hA [1, 2] rfl rfl rfl rfl (fun H locs hP hD hS => ?_)
    refine lv_iload_n hx hb dX3_look_41 rfl (lv_at hl 0 rfl) ?_
    have hq : f_X3_look gp tg db = (f_X1_hasDoubt db (f_X1_openAisle gp tg), f_X1_setDoubt db (f_X1_openAisle gp tg) 0) := (by rw [f_X3_look, if_neg c_10])
    exact W.zret (v := f_X1_hasDoubt db (f_X1_openAisle gp tg)) hx hb hr (bool_nar (b_X1_hasDoubt _ _)) (fun t ht _ => ⟨by rw [hq], by rw [hq, ht]; exact hP, hS.F ht⟩) hS.2.2 dX3_look_42
  · exact absurd (h0.symm.trans (by rw [k_X3_look, if_pos c_10])) (by decide)

/-! X3_stall -/
def f_X3_stall (st : Int32) (p0 : Int32) : Int32 × Int32 :=
  ((f_X1_changeStall st p0).1, (f_X1_changeStall st p0).2)
theorem iw_X3_stall_RX3 : ∀ w ∈ u_ws RX3 TX3 4, w ∈ wsX3_stall := by decide +kernel
set_option maxHeartbeats 4000000 in
set_option maxRecDepth 100000 in
theorem c_X3_stall (l : Launch) (G : GT) (a : Nat → Nat) (sz : Nat) (ck : Int32) (gp : Int32) (tg : Int32) (st : Int32) (sm : Int32) (p0 : Int32) (hp : p0 = 0 ∨ p0 = 1) : Met l yX3_stall wsX3_stall ({ frames := 1, cells := 0, slots := 0, locals := 22 }) (GP G [.ref (a 0), .int p0] [wcA a ck, wcR a gp tg st sm] sz) (MQo G (.returned (some (.int ((f_X3_stall st p0).1)))) [wcA a ck, wcR a gp tg ((f_X3_stall st p0).2) sm] (va_A [wcA a ck, wcR a gp tg st sm] sz)) 0 0 (va_A [wcA a ck, wcR a gp tg st sm] sz) := by
  refine bodyM (cc := cX3_stall) (maxL := 2) (ret := (some .boolean)) (by decide) rfl (Nat.le_of_ble_eq_true rfl) ?_
  intro p e s m below meth c ls C
  obtain ⟨hx, hb, hr, hts, hown, hlocks, hml, hsz, hP, hE, hD, hA, hS, hl⟩ := C
  subst hsz
  have hl : lv_has ls 2 [(0, .ref (a 0)), (1, .int p0)] := hl
  refine lv_aload_n hx hb dX3_stall_0 rfl (lv_at hl 0 rfl) ?_
  refine va_get (D := G.1) (ci := 3) (v := .ref (a 7)) (C := RX3) (T := TX3) (N := 4) hx hb hts iw_X3_stall_RX3 hown hE.1 hP 0 rfl rfl 1 (by decide) (hts (.fieldLink RX3 19 "Rackrail" "rail" "LRackrail$Rail;") (by decide +kernel)) (fun _ h9 => h9) rfl dX3_stall_1 ?_
  refine lv_iload_n hx hb dX3_stall_4 rfl (lv_at hl 1 rfl) ?_
  refine k_m (wc := [wcR a gp tg st sm]) (w1 := [wcR a gp tg ((f_X1_changeStall st p0).2) sm]) (wn := [wcA a ck, wcR a gp tg ((f_X1_changeStall st p0).2) sm]) (va_runV (As := [.int p0]) (rest := []) ⟨hx, hb, hml, hown, hts⟩ (c_X1_changeStall l G a s.heap.size gp tg st sm p0 (hp)) (cwV 1 hts gX3_stall_X1_changeStall rfl rfl rfl ⟨rfl, by decide +kernel, by decide +kernel, by decide +kernel⟩ ⟨Nat.le_of_ble_eq_true rfl, Nat.le_of_ble_eq_true rfl⟩) ⟨GP.blind, va_recv hE.1 hP (ci := 1) (q0 := 1) rfl rfl, GP.go (wc := [wcR a gp tg st sm]) hE hP hD hS hA [1] rfl (by decide) [.ref (a 7), .int p0]⟩ rfl rfl hl.1 rfl (lv_room (Nat.le_of_ble_eq_true rfl)) dX3_stall_5 ⟨Nat.le_of_ble_eq_true rfl, Nat.le_of_ble_eq_true rfl⟩) hP hD hS hA [1] rfl rfl rfl rfl (fun H locs hP hD hS => ?_)
  have hq : f_X3_stall st p0 = ((f_X1_changeStall st p0).1, (f_X1_changeStall st p0).2) := (by rw [f_X3_stall])
  exact W.zret (v := (f_X1_changeStall st p0).1) hx hb hr (bool_nar (b_changeStall _ _)) (fun t ht _ => ⟨by rw [hq], by rw [hq, ht]; exact hP, hS.F ht⟩) hS.2.2 dX3_stall_8

/-! X3_smoke -/
def f_X3_smoke (ins : Nat → Int32) (p0 : Int32) : Int32 × Int32 × (Nat → Int32) :=
  if p0 = 0 then (0, f_X1_changeSmoke p0, ins)
    else ((f_X1_sendAllOut ins).1, f_X1_changeSmoke p0, (f_X1_sendAllOut ins).2)
theorem iw_X3_smoke_RX3 : ∀ w ∈ u_ws RX3 TX3 4, w ∈ wsX3_smoke := by decide +kernel
set_option maxHeartbeats 4000000 in
set_option maxRecDepth 100000 in
theorem c_X3_smoke (l : Launch) (G : GT) (a : Nat → Nat) (sz : Nat) (ck : Int32) (gp : Int32) (tg : Int32) (st : Int32) (sm : Int32) (ins : Nat → Int32) (p0 : Int32) (hp : p0 = 0 ∨ p0 = 1) : Met l yX3_smoke wsX3_smoke ({ frames := 2, cells := 0, slots := 0, locals := 44 }) (GP G [.ref (a 0), .int p0] [wcA a ck, wcR a gp tg st sm, wcZ G (a 9) 4 ins] sz) (MQo G (.returned (some (.int ((f_X3_smoke ins p0).1)))) [wcA a ck, wcR a gp tg st ((f_X3_smoke ins p0).2.1), wcZ G (a 9) 4 ((f_X3_smoke ins p0).2.2)] (va_A [wcA a ck, wcR a gp tg st sm, wcZ G (a 9) 4 ins] sz)) 0 0 (va_A [wcA a ck, wcR a gp tg st sm, wcZ G (a 9) 4 ins] sz) := by
  refine bodyM (cc := cX3_smoke) (maxL := 2) (ret := (some .int)) (by decide) rfl (Nat.le_of_ble_eq_true rfl) ?_
  intro p e s m below meth c ls C
  obtain ⟨hx, hb, hr, hts, hown, hlocks, hml, hsz, hP, hE, hD, hA, hS, hl⟩ := C
  subst hsz
  have hl : lv_has ls 2 [(0, .ref (a 0)), (1, .int p0)] := hl
  refine lv_aload_n hx hb dX3_smoke_0 rfl (lv_at hl 0 rfl) ?_
  refine va_get (D := G.1) (ci := 3) (v := .ref (a 7)) (C := RX3) (T := TX3) (N := 4) hx hb hts iw_X3_smoke_RX3 hown hE.1 hP 0 rfl rfl 1 (by decide) (hts (.fieldLink RX3 19 "Rackrail" "rail" "LRackrail$Rail;") (by decide +kernel)) (fun _ h9 => h9) rfl dX3_smoke_1 ?_
  refine lv_iload_n hx hb dX3_smoke_4 rfl (lv_at hl 1 rfl) ?_
  refine k_m (wc := [wcR a gp tg st sm]) (w1 := [wcR a gp tg st (f_X1_changeSmoke p0)]) (wn := [wcA a ck, wcR a gp tg st (f_X1_changeSmoke p0), wcZ G (a 9) 4 ins]) (va_runV (As := [.int p0]) (rest := []) ⟨hx, hb, hml, hown, hts⟩ (c_X1_changeSmoke l G a s.heap.size gp tg st sm p0 (hp)) (cwV 1 hts gX3_smoke_X1_changeSmoke rfl rfl rfl ⟨rfl, by decide +kernel, by decide +kernel, by decide +kernel⟩ ⟨Nat.le_of_ble_eq_true rfl, Nat.le_of_ble_eq_true rfl⟩) ⟨GP.blind, va_recv hE.1 hP (ci := 1) (q0 := 1) rfl rfl, GP.go (wc := [wcR a gp tg st sm]) hE hP hD hS hA [1] rfl (by decide) [.ref (a 7), .int p0]⟩ rfl rfl hl.1 rfl (lv_room (Nat.le_of_ble_eq_true rfl)) dX3_smoke_5 ⟨Nat.le_of_ble_eq_true rfl, Nat.le_of_ble_eq_true rfl⟩) hP hD hS hA [1] rfl rfl rfl rfl (fun H locs hP hD hS => ?_)
  refine lv_iload_n hx hb dX3_smoke_8 rfl (lv_at hl 1 rfl) ?_
  refine lv_if_eq (tgt := 22) hx hb dX3_smoke_9 (by decide) (fun c_9 => ?_) (fun c_9 => ?_)
  · refine lv_iconst (v := 0) hx hb dX3_smoke_22 (by decide) ?_
    have hq : f_X3_smoke ins p0 = (0, f_X1_changeSmoke p0, ins) := (by rw [f_X3_smoke, if_pos c_9])
    exact W.iret (v := 0) hx hb hr (fun t ht _ => ⟨by rw [hq], by rw [hq, ht]; exact hP, hS.F ht⟩) hS.2.2 dX3_smoke_23
  · refine lv_aload_n hx hb dX3_smoke_12 rfl (lv_at hl 0 rfl) ?_
    refine va_get (D := G.1) (ci := 3) (v := .ref (a 7)) (C := RX3) (T := TX3) (N := 4) hx hb hts iw_X3_smoke_RX3 hown hE.1 hP 0 rfl rfl 1 (by decide) (hts (.fieldLink RX3 19 "Rackrail" "rail" "LRackrail$Rail;") (by decide +kernel)) (fun _ h9 => h9) rfl dX3_smoke_13 ?_
    refine k_m (wc := [wcR a gp tg st (f_X1_changeSmoke p0), wcZ G (a 9) 4 ins]) (w1 := [wcR a gp tg st (f_X1_changeSmoke p0), wcZ G (a 9) 4 ((f_X1_sendAllOut ins).2)]) (wn := [wcA a ck, wcR a gp tg st (f_X1_changeSmoke p0), wcZ G (a 9) 4 ((f_X1_sendAllOut ins).2)]) (va_runV (As := []) (rest := []) ⟨hx, hb, hml, hown, hts⟩ (c_X1_sendAllOut l G a H.size gp tg st (f_X1_changeSmoke p0) ins) (cwV 0 hts gX3_smoke_X1_sendAllOut rfl rfl rfl ⟨rfl, by decide +kernel, by decide +kernel, by decide +kernel⟩ ⟨Nat.le_of_ble_eq_true rfl, Nat.le_of_ble_eq_true rfl⟩) ⟨GP.blind, va_recv hE.1 hP (ci := 1) (q0 := 1) rfl rfl, GP.go (wc := [wcR a gp tg st (f_X1_changeSmoke p0), wcZ G (a 9) 4 ins]) hE hP hD hS hA [1, 2] rfl (by decide) [.ref (a 7)]⟩ rfl rfl hl.1 rfl (lv_room (Nat.le_of_ble_eq_true rfl)) dX3_smoke_16 ⟨Nat.le_of_ble_eq_true rfl, Nat.le_of_ble_eq_true rfl⟩) hP hD hS hA [1, 2] rfl rfl rfl rfl (fun H locs hP hD hS => ?_)
    refine lv_goto (tgt := 23) hx hb dX3_smoke_19 (by decide) ?_
    have hq : f_X3_smoke ins p0 = ((f_X1_sendAllOut ins).1, f_X1_changeSmoke p0, (f_X1_sendAllOut ins).2) := (by rw [f_X3_smoke, if_neg c_9])
    exact W.iret (v := (f_X1_sendAllOut ins).1) hx hb hr (fun t ht _ => ⟨by rw [hq], by rw [hq, ht]; exact hP, hS.F ht⟩) hS.2.2 dX3_smoke_23

/-! X3_pass -/
def f_X3_pass (ck : Int32) (gp : Int32) (tg : Int32) (st : Int32) (sm : Int32) (mv : Nat → Int32) (p0 : Int32) : Int32 × Int32 × Int32 × (Nat → Int32) :=
  if p0 < 1 then (0, ck, gp, mv)
    else if p0 ≤ 100 then (if (ck + p0) ≤ 10000 then (ck + p0, ck + p0, (f_X1_moveFor gp tg st sm mv p0).1, (f_X1_moveFor gp tg st sm mv p0).2)
      else (0, ck, gp, mv))
    else (0, ck, gp, mv)
def k_X3_pass (ck : Int32) (p0 : Int32) : Nat :=
  if p0 < 1 then 2
    else if p0 ≤ 100 then (if (ck + p0) ≤ 10000 then 0
      else 3)
    else 2
theorem kr_X3_pass (ck : Int32) (p0 : Int32) : k_X3_pass ck p0 = 0 ∨ k_X3_pass ck p0 = 2 ∨ k_X3_pass ck p0 = 3 := by
  unfold k_X3_pass
  (repeat' split) <;> decide
theorem iw_X3_pass_RX3 : ∀ w ∈ u_ws RX3 TX3 4, w ∈ wsX3_pass := by decide +kernel
set_option maxHeartbeats 4000000 in
set_option maxRecDepth 100000 in
theorem c_X3_pass (l : Launch) (hl9 : l.stackTraces = false) (G : GT) (a : Nat → Nat) (sz : Nat) (ck : Int32) (gp : Int32) (tg : Int32) (st : Int32) (sm : Int32) (mv : Nat → Int32) (p0 : Int32) (hmv : okN 6 (f_X1_movesToCome gp tg)) (h0 : k_X3_pass ck p0 = 0) : Met l yX3_pass wsX3_pass ({ frames := 3, cells := 0, slots := 0, locals := 66 }) (GP G [.ref (a 0), .int p0] [wcA a ck, wcR a gp tg st sm, wcI G (a 10) 6 mv] sz) (MQo G (.returned (some (.int ((f_X3_pass ck gp tg st sm mv p0).1)))) [wcA a ((f_X3_pass ck gp tg st sm mv p0).2.1), wcR a ((f_X3_pass ck gp tg st sm mv p0).2.2.1) tg st sm, wcI G (a 10) 6 ((f_X3_pass ck gp tg st sm mv p0).2.2.2)] (va_A [wcA a ck, wcR a gp tg st sm, wcI G (a 10) 6 mv] sz)) 0 0 (va_A [wcA a ck, wcR a gp tg st sm, wcI G (a 10) 6 mv] sz) := by
  refine bodyM (cc := cX3_pass) (maxL := 2) (ret := (some .int)) (by decide) rfl (Nat.le_of_ble_eq_true rfl) ?_
  intro p e s m below meth c ls C
  obtain ⟨hx, hb, hr, hts, hown, hlocks, hml, hsz, hP, hE, hD, hA, hS, hl⟩ := C
  subst hsz
  have hl : lv_has ls 2 [(0, .ref (a 0)), (1, .int p0)] := hl
  refine lv_iload_n hx hb dX3_pass_0 rfl (lv_at hl 1 rfl) ?_
  refine lv_iconst (v := 1) hx hb dX3_pass_1 (by decide) ?_
  refine lv_icmp_lt (tgt := 11) hx hb dX3_pass_2 (by decide) (fun c_2 => ?_) (fun c_2 => ?_)
  · exact absurd (h0.symm.trans (by rw [k_X3_pass, if_pos c_2])) (by decide)
  · refine lv_iload_n hx hb dX3_pass_5 rfl (lv_at hl 1 rfl) ?_
    refine lv_bipush (v := 100) hx hb dX3_pass_6 (by decide) ?_
    refine lv_icmp_le (tgt := 21) hx hb dX3_pass_8 (by decide) (fun c_8 => ?_) (fun c_8 => ?_)
    · refine lv_aload_n hx hb dX3_pass_21 rfl (lv_at hl 0 rfl) ?_
      refine va_get (D := G.1) (ci := 3) (v := .int ck) (C := RX3) (T := TX3) (N := 4) hx hb hts iw_X3_pass_RX3 hown hE.1 hP 0 rfl rfl 3 (by decide) (hts (.fieldLink RX3 30 "Rackrail" "clock" "I") (by decide +kernel)) (fun _ h9 => h9) rfl dX3_pass_22 ?_
      refine lv_iload_n hx hb dX3_pass_25 rfl (lv_at hl 1 rfl) ?_
      refine lv_iadd hx hb dX3_pass_26 ?_
      refine lv_sipush (v := 10000) hx hb dX3_pass_27 (by decide) ?_
      refine lv_icmp_le (tgt := 43) hx hb dX3_pass_30 (by decide) (fun c_30 => ?_) (fun c_30 => ?_)
      · refine lv_aload_n hx hb dX3_pass_43 rfl (lv_at hl 0 rfl) ?_
        refine lv_dup hx hb dX3_pass_44 rfl ?_
        refine va_get (D := G.1) (ci := 3) (v := .int ck) (C := RX3) (T := TX3) (N := 4) hx hb hts iw_X3_pass_RX3 hown hE.1 hP 0 rfl rfl 3 (by decide) (hts (.fieldLink RX3 30 "Rackrail" "clock" "I") (by decide +kernel)) (fun _ h9 => h9) rfl dX3_pass_45 ?_
        refine lv_iload_n hx hb dX3_pass_48 rfl (lv_at hl 1 rfl) ?_
        refine lv_iadd hx hb dX3_pass_49 ?_
        refine va_put (D := G.1) (ci := 3) (v := .int (ck + p0)) (ty := .int) (C := RX3) (T := TX3) (N := 4) hx hb hts iw_X3_pass_RX3 tyX3 tyX3_ok nmX3 hown hE.1 hP hD hS 0 rfl rfl 3 (by decide) (hts (.fieldLink RX3 30 "Rackrail" "clock" "I") (by decide +kernel)) (fun _ h9 => h9) rfl (by decide +kernel) rfl rfl (Nat.le_of_ble_eq_true rfl) dX3_pass_50 (fun H locs hP hD hS => ?_)
        have hP : va_P G.1 vwCl [wcA a (ck + p0), wcR a gp tg st sm, wcI G (a 10) 6 mv] H := hP
        have hD : va_D _ [wcA a (ck + p0), wcR a gp tg st sm, wcI G (a 10) 6 mv] := hD
        refine lv_aload_n hx hb dX3_pass_53 rfl (lv_at hl 0 rfl) ?_
        refine va_get (D := G.1) (ci := 3) (v := .ref (a 7)) (C := RX3) (T := TX3) (N := 4) hx hb hts iw_X3_pass_RX3 hown hE.1 hP 0 rfl rfl 1 (by decide) (hts (.fieldLink RX3 19 "Rackrail" "rail" "LRackrail$Rail;") (by decide +kernel)) (fun _ h9 => h9) rfl dX3_pass_54 ?_
        refine lv_iload_n hx hb dX3_pass_57 rfl (lv_at hl 1 rfl) ?_
        refine k_m (wc := [wcR a gp tg st sm, wcI G (a 10) 6 mv]) (w1 := [wcR a ((f_X1_moveFor gp tg st sm mv p0).1) tg st sm, wcI G (a 10) 6 ((f_X1_moveFor gp tg st sm mv p0).2)]) (wn := [wcA a (ck + p0), wcR a ((f_X1_moveFor gp tg st sm mv p0).1) tg st sm, wcI G (a 10) 6 ((f_X1_moveFor gp tg st sm mv p0).2)]) (va_runV (As := [.int p0]) (rest := []) ⟨hx, hb, hml, hown, hts⟩ (c_X1_moveFor l G a H.size gp tg st sm mv p0 (pass_hst hmv c_2 c_8)) (cwV 1 hts gX3_pass_X1_moveFor rfl rfl rfl ⟨rfl, by decide +kernel, by decide +kernel, by decide +kernel⟩ ⟨Nat.le_of_ble_eq_true rfl, Nat.le_of_ble_eq_true rfl⟩) ⟨GP.blind, va_recv hE.1 hP (ci := 1) (q0 := 1) rfl rfl, GP.go (wc := [wcR a gp tg st sm, wcI G (a 10) 6 mv]) hE hP hD hS hA [1, 2] rfl (by decide) [.ref (a 7), .int p0]⟩ rfl rfl hl.1 rfl (lv_room (Nat.le_of_ble_eq_true rfl)) dX3_pass_58 ⟨Nat.le_of_ble_eq_true rfl, Nat.le_of_ble_eq_true rfl⟩) hP hD hS hA [1, 2] rfl rfl rfl rfl (fun H locs hP hD hS => ?_)
        refine lv_aload_n hx hb dX3_pass_61 rfl (lv_at hl 0 rfl) ?_
        refine va_get (D := G.1) (ci := 3) (v := .int (ck + p0)) (C := RX3) (T := TX3) (N := 4) hx hb hts iw_X3_pass_RX3 hown hE.1 hP 0 rfl rfl 3 (by decide) (hts (.fieldLink RX3 30 "Rackrail" "clock" "I") (by decide +kernel)) (fun _ h9 => h9) rfl dX3_pass_62 ?_
        have hq : f_X3_pass ck gp tg st sm mv p0 = (ck + p0, ck + p0, (f_X1_moveFor gp tg st sm mv p0).1, (f_X1_moveFor gp tg st sm mv p0).2) := (by rw [f_X3_pass, if_neg c_2, if_pos c_8, if_pos c_30])
        exact W.iret (v := ck + p0) hx hb hr (fun t ht _ => ⟨by rw [hq], by rw [hq, ht]; exact hP, hS.F ht⟩) hS.2.2 dX3_pass_65
      · exact absurd (h0.symm.trans (by rw [k_X3_pass, if_neg c_2, if_pos c_8, if_neg c_30])) (by decide)
    · exact absurd (h0.symm.trans (by rw [k_X3_pass, if_neg c_2, if_neg c_8])) (by decide)
end
section
/-! X3_order -/
def f_X3_order (cn : Int32) (oc : Int32) (ob : Nat → Int32) (od : Nat → Int32) (dn : Nat → Int32) (p0 : Int32) (p1 : Int32) : Int32 × Int32 × (Nat → Int32) × (Nat → Int32) :=
  if k_X3_requireBox cn p0 = 0 then (if p1 < 0 then (0, oc, ob, od)
      else if p1 ≤ 10000 then (if (f_X0_isOpenFor oc ob dn p0) = 0 then (if (f_X0_isFull oc) = 0 then ((f_X0_enter oc ob od p0 p1).1, (f_X0_enter oc ob od p0 p1).2.1, (f_X0_enter oc ob od p0 p1).2.2.1, (f_X0_enter oc ob od p0 p1).2.2.2)
          else (0, oc, ob, od))
        else (0, oc, ob, od))
      else (0, oc, ob, od))
    else (0, oc, ob, od)
def k_X3_order (cn : Int32) (oc : Int32) (ob : Nat → Int32) (dn : Nat → Int32) (p0 : Int32) (p1 : Int32) : Nat :=
  if k_X3_requireBox cn p0 = 0 then (if p1 < 0 then 2
      else if p1 ≤ 10000 then (if (f_X0_isOpenFor oc ob dn p0) = 0 then (if (f_X0_isFull oc) = 0 then 0
          else 3)
        else 3)
      else 2)
    else 1
theorem kr_X3_order (cn : Int32) (oc : Int32) (ob : Nat → Int32) (dn : Nat → Int32) (p0 : Int32) (p1 : Int32) : k_X3_order cn oc ob dn p0 p1 = 0 ∨ k_X3_order cn oc ob dn p0 p1 = 1 ∨ k_X3_order cn oc ob dn p0 p1 = 2 ∨ k_X3_order cn oc ob dn p0 p1 = 3 := by
  unfold k_X3_order
  (repeat' split) <;> decide
theorem iw_X3_order_RX3 : ∀ w ∈ u_ws RX3 TX3 4, w ∈ wsX3_order := by decide +kernel
set_option maxHeartbeats 4000000 in
set_option maxRecDepth 100000 in
theorem c_X3_order (l : Launch) (hl9 : l.stackTraces = false) (G : GT) (a : Nat → Nat) (sz : Nat) (ck : Int32) (cn : Int32) (oc : Int32) (lt : Int32) (ob : Nat → Int32) (od : Nat → Int32) (dn : Nat → Int32) (p0 : Int32) (p1 : Int32) (hoc : okN 30 oc) (h0 : k_X3_order cn oc ob dn p0 p1 = 0) : Met l yX3_order wsX3_order ({ frames := 3, cells := 0, slots := 0, locals := 63 }) (GP G [.ref (a 0), .int p0, .int p1] [wcA a ck, wcS a cn, wcO a oc lt, wcI G (a 12) 30 ob, wcI G (a 13) 30 od, wcZ G (a 14) 30 dn] sz) (MQo G (.returned (some (.int ((f_X3_order cn oc ob od dn p0 p1).1)))) [wcA a ck, wcS a cn, wcO a ((f_X3_order cn oc ob od dn p0 p1).2.1) lt, wcI G (a 12) 30 ((f_X3_order cn oc ob od dn p0 p1).2.2.1), wcI G (a 13) 30 ((f_X3_order cn oc ob od dn p0 p1).2.2.2), wcZ G (a 14) 30 dn] (va_A [wcA a ck, wcS a cn, wcO a oc lt, wcI G (a 12) 30 ob, wcI G (a 13) 30 od, wcZ G (a 14) 30 dn] sz)) 0 0 (va_A [wcA a ck, wcS a cn, wcO a oc lt, wcI G (a 12) 30 ob, wcI G (a 13) 30 od, wcZ G (a 14) 30 dn] sz) := by
  refine bodyM (cc := cX3_order) (maxL := 3) (ret := (some .int)) (by decide) rfl (Nat.le_of_ble_eq_true rfl) ?_
  intro p e s m below meth c ls C
  obtain ⟨hx, hb, hr, hts, hown, hlocks, hml, hsz, hP, hE, hD, hA, hS, hl⟩ := C
  subst hsz
  have hl : lv_has ls 3 [(0, .ref (a 0)), (1, .int p0), (2, .int p1)] := hl
  refine lv_aload_n hx hb dX3_order_0 rfl (lv_at hl 0 rfl) ?_
  refine lv_iload_n hx hb dX3_order_1 rfl (lv_at hl 1 rfl) ?_
  have c_2 : k_X3_requireBox cn p0 = 0 := Decidable.byContradiction (fun c_2 => absurd (h0.symm.trans (by rw [k_X3_order, if_neg c_2])) (by decide))
  refine k_p (va_runV (As := [.int p0]) (rest := []) ⟨hx, hb, hml, hown, hts⟩ (c_X3_requireBox l hl9 G a s.heap.size ck cn p0 c_2) (cwV 1 hts gX3_order_X3_requireBox rfl rfl rfl ⟨rfl, by decide +kernel, by decide +kernel, by decide +kernel⟩ ⟨Nat.le_of_ble_eq_true rfl, Nat.le_of_ble_eq_true rfl⟩) ⟨GP.blind, va_recv hE.1 hP (ci := 3) (q0 := 0) rfl rfl, GP.go (wc := [wcA a ck, wcS a cn]) hE hP hD hS hA [0, 1] rfl (by decide) [.ref (a 0), .int p0]⟩ rfl rfl hl.1 rfl (lv_room (Nat.le_of_ble_eq_true rfl)) dX3_order_2 ⟨Nat.le_of_ble_eq_true rfl, Nat.le_of_ble_eq_true rfl⟩) ?_
  refine lv_iload_n hx hb dX3_order_5 rfl (lv_at hl 2 rfl) ?_
  refine lv_if_lt (tgt := 16) hx hb dX3_order_6 (by decide) (fun c_6 => ?_) (fun c_6 => ?_)
  · exact absurd (h0.symm.trans (by rw [k_X3_order, if_pos c_2, if_pos c_6])) (by decide)
  · refine lv_iload_n hx hb dX3_order_9 rfl (lv_at hl 2 rfl) ?_
    refine lv_sipush (v := 10000) hx hb dX3_order_10 (by decide) ?_
    refine lv_icmp_le (tgt := 26) hx hb dX3_order_13 (by decide) (fun c_13 => ?_) (fun c_13 => ?_)
    · refine lv_aload_n hx hb dX3_order_26 rfl (lv_at hl 0 rfl) ?_
      refine va_get (D := G.1) (ci := 3) (v := .ref (a 11)) (C := RX3) (T := TX3) (N := 4) hx hb hts iw_X3_order_RX3 hown hE.1 hP 0 rfl rfl 2 (by decide) (hts (.fieldLink RX3 26 "Rackrail" "orders" "LRackrail$Orders;") (by decide +kernel)) (fun _ h9 => h9) rfl dX3_order_27 ?_
      refine lv_iload_n hx hb dX3_order_30 rfl (lv_at hl 1 rfl) ?_
      refine k_p (va_runV (As := [.int p0]) (rest := []) ⟨hx, hb, hml, hown, hts⟩ (c_X0_isOpenFor l G a s.heap.size oc lt ob dn p0 hoc) (cwV 1 hts gX3_order_X0_isOpenFor rfl rfl rfl ⟨rfl, by decide +kernel, by decide +kernel, by decide +kernel⟩ ⟨Nat.le_of_ble_eq_true rfl, Nat.le_of_ble_eq_true rfl⟩) ⟨GP.blind, va_recv hE.1 hP (ci := 0) (q0 := 2) rfl rfl, GP.go (wc := [wcO a oc lt, wcI G (a 12) 30 ob, wcZ G (a 14) 30 dn]) hE hP hD hS hA [2, 3, 5] rfl (by decide) [.ref (a 11), .int p0]⟩ rfl rfl hl.1 rfl (lv_room (Nat.le_of_ble_eq_true rfl)) dX3_order_31 ⟨Nat.le_of_ble_eq_true rfl, Nat.le_of_ble_eq_true rfl⟩) ?_
      refine lv_if_eq (tgt := 47) hx hb dX3_order_34 (by decide) (fun c_34 => ?_) (fun c_34 => ?_)
      · refine lv_aload_n hx hb dX3_order_47 rfl (lv_at hl 0 rfl) ?_
        refine va_get (D := G.1) (ci := 3) (v := .ref (a 11)) (C := RX3) (T := TX3) (N := 4) hx hb hts iw_X3_order_RX3 hown hE.1 hP 0 rfl rfl 2 (by decide) (hts (.fieldLink RX3 26 "Rackrail" "orders" "LRackrail$Orders;") (by decide +kernel)) (fun _ h9 => h9) rfl dX3_order_48 ?_
        refine k_p (va_runV (As := []) (rest := []) ⟨hx, hb, hml, hown, hts⟩ (c_X0_isFull l G a s.heap.size oc lt) (cwV 0 hts gX3_order_X0_isFull rfl rfl rfl ⟨rfl, by decide +kernel, by decide +kernel, by decide +kernel⟩ ⟨Nat.le_of_ble_eq_true rfl, Nat.le_of_ble_eq_true rfl⟩) ⟨GP.blind, va_recv hE.1 hP (ci := 0) (q0 := 2) rfl rfl, GP.go (wc := [wcO a oc lt]) hE hP hD hS hA [2] rfl (by decide) [.ref (a 11)]⟩ rfl rfl hl.1 rfl (lv_room (Nat.le_of_ble_eq_true rfl)) dX3_order_51 ⟨Nat.le_of_ble_eq_true rfl, Nat.le_of_ble_eq_true rfl⟩) ?_
        refine lv_if_eq (tgt := 67) hx hb dX3_order_54 (by decide) (fun c_54 => ?_) (fun c_54 => ?_)
        · refine lv_aload_n hx hb dX3_order_67 rfl (lv_at hl 0 rfl) ?_
          refine va_get (D := G.1) (ci := 3) (v := .ref (a 11)) (C := RX3) (T := TX3) (N := 4) hx hb hts iw_X3_order_RX3 hown hE.1 hP 0 rfl rfl 2 (by decide) (hts (.fieldLink RX3 26 "Rackrail" "orders" "LRackrail$Orders;") (by decide +kernel)) (fun _ h9 => h9) rfl dX3_order_68 ?_
          refine lv_iload_n hx hb dX3_order_71 rfl (lv_at hl 1 rfl) ?_
          refine lv_iload_n hx hb dX3_order_72 rfl (lv_at hl 2 rfl) ?_
          refine k_m (wc := [wcO a oc lt, wcI G (a 12) 30 ob, wcI G (a 13) 30 od]) (w1 := [wcO a ((f_X0_enter oc ob od p0 p1).2.1) lt, wcI G (a 12) 30 ((f_X0_enter oc ob od p0 p1).2.2.1), wcI G (a 13) 30 ((f_X0_enter oc ob od p0 p1).2.2.2)]) (wn := [wcA a ck, wcS a cn, wcO a ((f_X0_enter oc ob od p0 p1).2.1) lt, wcI G (a 12) 30 ((f_X0_enter oc ob od p0 p1).2.2.1), wcI G (a 13) 30 ((f_X0_enter oc ob od p0 p1).2.2.2), wcZ G (a 14) 30 dn]) (va_runV (As := [.int p0, .int p1]) (rest := []) ⟨hx, hb, hml, hown, hts⟩ (c_X0_enter l G a s.heap.size oc lt ob od p0 p1 hoc) (cwV 2 hts gX3_order_X0_enter rfl rfl rfl ⟨rfl, by decide +kernel, by decide +kernel, by decide +kernel⟩ ⟨Nat.le_of_ble_eq_true rfl, Nat.le_of_ble_eq_true rfl⟩) ⟨GP.blind, va_recv hE.1 hP (ci := 0) (q0 := 2) rfl rfl, GP.go (wc := [wcO a oc lt, wcI G (a 12) 30 ob, wcI G (a 13) 30 od]) hE hP hD hS hA [2, 3, 4] rfl (by decide) [.ref (a 11), .int p0, .int p1]⟩ rfl rfl hl.1 rfl (lv_room (Nat.le_of_ble_eq_true rfl)) dX3_order_73 ⟨Nat.le_of_ble_eq_true rfl, Nat.le_of_ble_eq_true rfl⟩) hP hD hS hA [2, 3, 4] rfl rfl rfl rfl (fun H locs hP hD hS => ?_)
          have hq : f_X3_order cn oc ob od dn p0 p1 = ((f_X0_enter oc ob od p0 p1).1, (f_X0_enter oc ob od p0 p1).2.1, (f_X0_enter oc ob od p0 p1).2.2.1, (f_X0_enter oc ob od p0 p1).2.2.2) := (by rw [f_X3_order, if_pos c_2, if_neg c_6, if_pos c_13, if_pos c_34, if_pos c_54])
          exact W.iret (v := (f_X0_enter oc ob od p0 p1).1) hx hb hr (fun t ht _ => ⟨by rw [hq], by rw [hq, ht]; exact hP, hS.F ht⟩) hS.2.2 dX3_order_76
        · exact absurd (h0.symm.trans (by rw [k_X3_order, if_pos c_2, if_neg c_6, if_pos c_13, if_pos c_34, if_neg c_54])) (by decide)
      · exact absurd (h0.symm.trans (by rw [k_X3_order, if_pos c_2, if_neg c_6, if_pos c_13, if_neg c_34])) (by decide)
    · exact absurd (h0.symm.trans (by rw [k_X3_order, if_pos c_2, if_neg c_6, if_neg c_13])) (by decide)

/-! X3_nextAisle -/
def f_X3_nextAisle (cn : Int32) (sp : Nat → Int32) (oc : Int32) (ob : Nat → Int32) (od : Nat → Int32) (dn : Nat → Int32) : Int32 :=
  f_X2_aisleOfBox cn sp (f_X0_boxOf oc ob (f_X0_earliest oc ob od dn cn sp (-2)))
theorem iw_X3_nextAisle_RX3 : ∀ w ∈ u_ws RX3 TX3 4, w ∈ wsX3_nextAisle := by decide +kernel
set_option maxHeartbeats 4000000 in
set_option maxRecDepth 100000 in
theorem c_X3_nextAisle (l : Launch) (G : GT) (a : Nat → Nat) (sz : Nat) (ck : Int32) (cn : Int32) (sp : Nat → Int32) (oc : Int32) (lt : Int32) (ob : Nat → Int32) (od : Nat → Int32) (dn : Nat → Int32) (hcn : okN 20 cn) (hoc : okN 30 oc) : Met l yX3_nextAisle wsX3_nextAisle ({ frames := 5, cells := 0, slots := 0, locals := 112 }) (GP G [.ref (a 0)] [wcA a ck, wcS a cn, wcI G (a 6) 20 sp, wcO a oc lt, wcI G (a 12) 30 ob, wcI G (a 13) 30 od, wcZ G (a 14) 30 dn] sz) (PQo (.returned (some (.int (f_X3_nextAisle cn sp oc ob od dn))))) 0 0 (fun _ => False) := by
  refine bodyM (cc := cX3_nextAisle) (maxL := 2) (ret := (some .int)) (by decide) rfl (Nat.le_of_ble_eq_true rfl) ?_
  intro p e s m below meth c ls C
  obtain ⟨hx, hb, hr, hts, hown, hlocks, hml, hsz, hP, hE, hD, hA, hS, hl⟩ := C
  subst hsz
  have hl : lv_has ls 2 [(0, .ref (a 0))] := hl
  refine lv_aload_n hx hb dX3_nextAisle_0 rfl (lv_at hl 0 rfl) ?_
  refine va_get (D := G.1) (ci := 3) (v := .ref (a 11)) (C := RX3) (T := TX3) (N := 4) hx hb hts iw_X3_nextAisle_RX3 hown hE.1 hP 0 rfl rfl 2 (by decide) (hts (.fieldLink RX3 26 "Rackrail" "orders" "LRackrail$Orders;") (by decide +kernel)) (fun _ h9 => h9) rfl dX3_nextAisle_1 ?_
  refine lv_aload_n hx hb dX3_nextAisle_4 rfl (lv_at hl 0 rfl) ?_
  refine va_get (D := G.1) (ci := 3) (v := .ref (a 1)) (C := RX3) (T := TX3) (N := 4) hx hb hts iw_X3_nextAisle_RX3 hown hE.1 hP 0 rfl rfl 0 (by decide) (hts (.fieldLink RX3 12 "Rackrail" "store" "LRackrail$Store;") (by decide +kernel)) (fun _ h9 => h9) rfl dX3_nextAisle_5 ?_
  refine lv_bipush (v := (-2)) hx hb dX3_nextAisle_8 (by decide) ?_
  refine k_p (va_runV (As := [.ref (a 1), .int (-2)]) (rest := []) ⟨hx, hb, hml, hown, hts⟩ (c_X0_earliest l G a s.heap.size oc lt ob od dn cn sp (-2) hcn hoc) (cwV 2 hts gX3_nextAisle_X0_earliest rfl rfl rfl ⟨rfl, by decide +kernel, by decide +kernel, by decide +kernel⟩ ⟨Nat.le_of_ble_eq_true rfl, Nat.le_of_ble_eq_true rfl⟩) ⟨GP.blind, va_recv hE.1 hP (ci := 0) (q0 := 3) rfl rfl, GP.go (wc := [wcO a oc lt, wcI G (a 12) 30 ob, wcI G (a 13) 30 od, wcZ G (a 14) 30 dn, wcS a cn, wcI G (a 6) 20 sp]) hE hP hD hS hA [3, 4, 5, 6, 1, 2] rfl (by decide) [.ref (a 11), .ref (a 1), .int (-2)]⟩ rfl rfl hl.1 rfl (lv_room (Nat.le_of_ble_eq_true rfl)) dX3_nextAisle_10 ⟨Nat.le_of_ble_eq_true rfl, Nat.le_of_ble_eq_true rfl⟩) ?_
  refine lv_istore_n (lv' := [(1, .int (f_X0_earliest oc ob od dn cn sp (-2))), (0, .ref (a 0))]) hx hb dX3_nextAisle_13 rfl hl (by decide) rfl (fun ls hl => ?_)
  refine lv_aload_n hx hb dX3_nextAisle_14 rfl (lv_at hl 1 rfl) ?_
  refine va_get (D := G.1) (ci := 3) (v := .ref (a 1)) (C := RX3) (T := TX3) (N := 4) hx hb hts iw_X3_nextAisle_RX3 hown hE.1 hP 0 rfl rfl 0 (by decide) (hts (.fieldLink RX3 12 "Rackrail" "store" "LRackrail$Store;") (by decide +kernel)) (fun _ h9 => h9) rfl dX3_nextAisle_15 ?_
  refine lv_aload_n hx hb dX3_nextAisle_18 rfl (lv_at hl 1 rfl) ?_
  refine va_get (D := G.1) (ci := 3) (v := .ref (a 11)) (C := RX3) (T := TX3) (N := 4) hx hb hts iw_X3_nextAisle_RX3 hown hE.1 hP 0 rfl rfl 2 (by decide) (hts (.fieldLink RX3 26 "Rackrail" "orders" "LRackrail$Orders;") (by decide +kernel)) (fun _ h9 => h9) rfl dX3_nextAisle_19 ?_
  refine lv_iload_n hx hb dX3_nextAisle_22 rfl (lv_at hl 0 rfl) ?_
  refine k_p (va_runV (As := [.int (f_X0_earliest oc ob od dn cn sp (-2))]) (rest := [.ref (a 1)]) ⟨hx, hb, hml, hown, hts⟩ (c_X0_boxOf l G a s.heap.size oc lt ob (f_X0_earliest oc ob od dn cn sp (-2)) hoc) (cwV 1 hts gX3_nextAisle_X0_boxOf rfl rfl rfl ⟨rfl, by decide +kernel, by decide +kernel, by decide +kernel⟩ ⟨Nat.le_of_ble_eq_true rfl, Nat.le_of_ble_eq_true rfl⟩) ⟨GP.blind, va_recv hE.1 hP (ci := 0) (q0 := 3) rfl rfl, GP.go (wc := [wcO a oc lt, wcI G (a 12) 30 ob]) hE hP hD hS hA [3, 4] rfl (by decide) [.ref (a 11), .int (f_X0_earliest oc ob od dn cn sp (-2))]⟩ rfl rfl hl.1 rfl (lv_room (Nat.le_of_ble_eq_true rfl)) dX3_nextAisle_23 ⟨Nat.le_of_ble_eq_true rfl, Nat.le_of_ble_eq_true rfl⟩) ?_
  refine k_p (va_runV (As := [.int (f_X0_boxOf oc ob (f_X0_earliest oc ob od dn cn sp (-2)))]) (rest := []) ⟨hx, hb, hml, hown, hts⟩ (c_X2_aisleOfBox l G a s.heap.size cn sp (f_X0_boxOf oc ob (f_X0_earliest oc ob od dn cn sp (-2))) hcn) (cwV 1 hts gX3_nextAisle_X2_aisleOfBox rfl rfl rfl ⟨rfl, by decide +kernel, by decide +kernel, by decide +kernel⟩ ⟨Nat.le_of_ble_eq_true rfl, Nat.le_of_ble_eq_true rfl⟩) ⟨GP.blind, va_recv hE.1 hP (ci := 2) (q0 := 1) rfl rfl, GP.go (wc := [wcS a cn, wcI G (a 6) 20 sp]) hE hP hD hS hA [1, 2] rfl (by decide) [.ref (a 1), .int (f_X0_boxOf oc ob (f_X0_earliest oc ob od dn cn sp (-2)))]⟩ rfl rfl hl.1 rfl (lv_room (Nat.le_of_ble_eq_true rfl)) dX3_nextAisle_26 ⟨Nat.le_of_ble_eq_true rfl, Nat.le_of_ble_eq_true rfl⟩) ?_
  have hq : f_X3_nextAisle cn sp oc ob od dn = (f_X2_aisleOfBox cn sp (f_X0_boxOf oc ob (f_X0_earliest oc ob od dn cn sp (-2)))) := (by rw [f_X3_nextAisle])
  exact W.iret (v := f_X2_aisleOfBox cn sp (f_X0_boxOf oc ob (f_X0_earliest oc ob od dn cn sp (-2)))) hx hb hr (fun t ht _ => ⟨by rw [hq], ht⟩) (fun _ h => nomatch h) dX3_nextAisle_29

/-! X3_fetch -/
def f_X3_fetch (ck : Int32) (cn : Int32) (sp : Nat → Int32) (gp : Int32) (tg : Int32) (ins : Nat → Int32) (oc : Int32) (lt : Int32) (ob : Nat → Int32) (od : Nat → Int32) (dn : Nat → Int32) (p0 : Int32) : Int32 × (Nat → Int32) × Int32 × (Nat → Int32) :=
  if k_X3_requirePerson p0 = 0 then (if k_X3_requireInside ins p0 = 0 then (if (f_X0_earliest oc ob od dn cn sp (f_X1_openAisle gp tg)) = (-1) then (0, sp, lt, dn)
        else (f_X0_earliest oc ob od dn cn sp (f_X1_openAisle gp tg), f_X2_put cn sp (f_X0_boxOf oc ob (f_X0_earliest oc ob od dn cn sp (f_X1_openAisle gp tg))) (-1), (f_X0_finish oc lt od dn (f_X0_earliest oc ob od dn cn sp (f_X1_openAisle gp tg)) ck).1, (f_X0_finish oc lt od dn (f_X0_earliest oc ob od dn cn sp (f_X1_openAisle gp tg)) ck).2))
      else (0, sp, lt, dn))
    else (0, sp, lt, dn)
def k_X3_fetch (cn : Int32) (sp : Nat → Int32) (gp : Int32) (tg : Int32) (ins : Nat → Int32) (oc : Int32) (ob : Nat → Int32) (od : Nat → Int32) (dn : Nat → Int32) (p0 : Int32) : Nat :=
  if k_X3_requirePerson p0 = 0 then (if k_X3_requireInside ins p0 = 0 then (if (f_X0_earliest oc ob od dn cn sp (f_X1_openAisle gp tg)) = (-1) then 3
        else 0)
      else 3)
    else 1
theorem kr_X3_fetch (cn : Int32) (sp : Nat → Int32) (gp : Int32) (tg : Int32) (ins : Nat → Int32) (oc : Int32) (ob : Nat → Int32) (od : Nat → Int32) (dn : Nat → Int32) (p0 : Int32) : k_X3_fetch cn sp gp tg ins oc ob od dn p0 = 0 ∨ k_X3_fetch cn sp gp tg ins oc ob od dn p0 = 1 ∨ k_X3_fetch cn sp gp tg ins oc ob od dn p0 = 3 := by
  unfold k_X3_fetch
  (repeat' split) <;> decide
theorem iw_X3_fetch_RX3 : ∀ w ∈ u_ws RX3 TX3 4, w ∈ wsX3_fetch := by decide +kernel
set_option maxHeartbeats 4000000 in
set_option maxRecDepth 100000 in
theorem c_X3_fetch (l : Launch) (hl9 : l.stackTraces = false) (G : GT) (a : Nat → Nat) (sz : Nat) (ck : Int32) (cn : Int32) (sp : Nat → Int32) (gp : Int32) (tg : Int32) (st : Int32) (sm : Int32) (ins : Nat → Int32) (oc : Int32) (lt : Int32) (ob : Nat → Int32) (od : Nat → Int32) (dn : Nat → Int32) (p0 : Int32) (hcn : okN 20 cn) (hoc : okN 30 oc) (h0 : k_X3_fetch cn sp gp tg ins oc ob od dn p0 = 0) : Met l yX3_fetch wsX3_fetch ({ frames := 5, cells := 0, slots := 0, locals := 112 }) (GP G [.ref (a 0), .int p0] [wcA a ck, wcS a cn, wcI G (a 6) 20 sp, wcR a gp tg st sm, wcZ G (a 9) 4 ins, wcO a oc lt, wcI G (a 12) 30 ob, wcI G (a 13) 30 od, wcZ G (a 14) 30 dn] sz) (MQo G (.returned (some (.int ((f_X3_fetch ck cn sp gp tg ins oc lt ob od dn p0).1)))) [wcA a ck, wcS a cn, wcI G (a 6) 20 ((f_X3_fetch ck cn sp gp tg ins oc lt ob od dn p0).2.1), wcR a gp tg st sm, wcZ G (a 9) 4 ins, wcO a oc ((f_X3_fetch ck cn sp gp tg ins oc lt ob od dn p0).2.2.1), wcI G (a 12) 30 ob, wcI G (a 13) 30 od, wcZ G (a 14) 30 ((f_X3_fetch ck cn sp gp tg ins oc lt ob od dn p0).2.2.2)] (va_A [wcA a ck, wcS a cn, wcI G (a 6) 20 sp, wcR a gp tg st sm, wcZ G (a 9) 4 ins, wcO a oc lt, wcI G (a 12) 30 ob, wcI G (a 13) 30 od, wcZ G (a 14) 30 dn] sz)) 0 0 (va_A [wcA a ck, wcS a cn, wcI G (a 6) 20 sp, wcR a gp tg st sm, wcZ G (a 9) 4 ins, wcO a oc lt, wcI G (a 12) 30 ob, wcI G (a 13) 30 od, wcZ G (a 14) 30 dn] sz) := by
  refine bodyM (cc := cX3_fetch) (maxL := 3) (ret := (some .int)) (by decide) rfl (Nat.le_of_ble_eq_true rfl) ?_
  intro p e s m below meth c ls C
  obtain ⟨hx, hb, hr, hts, hown, hlocks, hml, hsz, hP, hE, hD, hA, hS, hl⟩ := C
  subst hsz
  have hl : lv_has ls 3 [(0, .ref (a 0)), (1, .int p0)] := hl
  refine lv_aload_n hx hb dX3_fetch_0 rfl (lv_at hl 0 rfl) ?_
  refine lv_iload_n hx hb dX3_fetch_1 rfl (lv_at hl 1 rfl) ?_
  have c_2 : k_X3_requirePerson p0 = 0 := Decidable.byContradiction (fun c_2 => absurd (h0.symm.trans (by rw [k_X3_fetch, if_neg c_2])) (by decide))
  refine k_p (va_runV (As := [.int p0]) (rest := []) ⟨hx, hb, hml, hown, hts⟩ (c_X3_requirePerson l hl9 G a s.heap.size p0 c_2) (cwV 1 hts gX3_fetch_X3_requirePerson rfl rfl rfl ⟨rfl, by decide +kernel, by decide +kernel, by decide +kernel⟩ ⟨Nat.le_of_ble_eq_true rfl, Nat.le_of_ble_eq_true rfl⟩) ⟨GP.blind, va_recv hE.1 hP (ci := 3) (q0 := 0) rfl rfl, GP.go (wc := []) hE hP hD hS hA [] rfl (by decide) [.ref (a 0), .int p0]⟩ rfl rfl hl.1 rfl (lv_room (Nat.le_of_ble_eq_true rfl)) dX3_fetch_2 ⟨Nat.le_of_ble_eq_true rfl, Nat.le_of_ble_eq_true rfl⟩) ?_
  refine lv_aload_n hx hb dX3_fetch_5 rfl (lv_at hl 0 rfl) ?_
  refine lv_iload_n hx hb dX3_fetch_6 rfl (lv_at hl 1 rfl) ?_
  have c_7 : k_X3_requireInside ins p0 = 0 := Decidable.byContradiction (fun c_7 => absurd (h0.symm.trans (by rw [k_X3_fetch, if_pos c_2, if_neg c_7])) (by decide))
  refine k_p (va_runV (As := [.int p0]) (rest := []) ⟨hx, hb, hml, hown, hts⟩ (c_X3_requireInside l hl9 G a s.heap.size ck gp tg st sm ins p0 c_7) (cwV 1 hts gX3_fetch_X3_requireInside rfl rfl rfl ⟨rfl, by decide +kernel, by decide +kernel, by decide +kernel⟩ ⟨Nat.le_of_ble_eq_true rfl, Nat.le_of_ble_eq_true rfl⟩) ⟨GP.blind, va_recv hE.1 hP (ci := 3) (q0 := 0) rfl rfl, GP.go (wc := [wcA a ck, wcR a gp tg st sm, wcZ G (a 9) 4 ins]) hE hP hD hS hA [0, 3, 4] rfl (by decide) [.ref (a 0), .int p0]⟩ rfl rfl hl.1 rfl (lv_room (Nat.le_of_ble_eq_true rfl)) dX3_fetch_7 ⟨Nat.le_of_ble_eq_true rfl, Nat.le_of_ble_eq_true rfl⟩) ?_
  refine lv_aload_n hx hb dX3_fetch_10 rfl (lv_at hl 0 rfl) ?_
  refine va_get (D := G.1) (ci := 3) (v := .ref (a 11)) (C := RX3) (T := TX3) (N := 4) hx hb hts iw_X3_fetch_RX3 hown hE.1 hP 0 rfl rfl 2 (by decide) (hts (.fieldLink RX3 26 "Rackrail" "orders" "LRackrail$Orders;") (by decide +kernel)) (fun _ h9 => h9) rfl dX3_fetch_11 ?_
  refine lv_aload_n hx hb dX3_fetch_14 rfl (lv_at hl 0 rfl) ?_
  refine va_get (D := G.1) (ci := 3) (v := .ref (a 1)) (C := RX3) (T := TX3) (N := 4) hx hb hts iw_X3_fetch_RX3 hown hE.1 hP 0 rfl rfl 0 (by decide) (hts (.fieldLink RX3 12 "Rackrail" "store" "LRackrail$Store;") (by decide +kernel)) (fun _ h9 => h9) rfl dX3_fetch_15 ?_
  refine lv_aload_n hx hb dX3_fetch_18 rfl (lv_at hl 0 rfl) ?_
  refine va_get (D := G.1) (ci := 3) (v := .ref (a 7)) (C := RX3) (T := TX3) (N := 4) hx hb hts iw_X3_fetch_RX3 hown hE.1 hP 0 rfl rfl 1 (by decide) (hts (.fieldLink RX3 19 "Rackrail" "rail" "LRackrail$Rail;") (by decide +kernel)) (fun _ h9 => h9) rfl dX3_fetch_19 ?_
  refine k_p (va_runV (As := []) (rest := [.ref (a 1), .ref (a 11)]) ⟨hx, hb, hml, hown, hts⟩ (c_X1_openAisle l G a s.heap.size gp tg st sm) (cwV 0 hts gX3_fetch_X1_openAisle rfl rfl rfl ⟨rfl, by decide +kernel, by decide +kernel, by decide +kernel⟩ ⟨Nat.le_of_ble_eq_true rfl, Nat.le_of_ble_eq_true rfl⟩) ⟨GP.blind, va_recv hE.1 hP (ci := 1) (q0 := 3) rfl rfl, GP.go (wc := [wcR a gp tg st sm]) hE hP hD hS hA [3] rfl (by decide) [.ref (a 7)]⟩ rfl rfl hl.1 rfl (lv_room (Nat.le_of_ble_eq_true rfl)) dX3_fetch_22 ⟨Nat.le_of_ble_eq_true rfl, Nat.le_of_ble_eq_true rfl⟩) ?_
  refine k_p (va_runV (As := [.ref (a 1), .int (f_X1_openAisle gp tg)]) (rest := []) ⟨hx, hb, hml, hown, hts⟩ (c_X0_earliest l G a s.heap.size oc lt ob od dn cn sp (f_X1_openAisle gp tg) hcn hoc) (cwV 2 hts gX3_fetch_X0_earliest rfl rfl rfl ⟨rfl, by decide +kernel, by decide +kernel, by decide +kernel⟩ ⟨Nat.le_of_ble_eq_true rfl, Nat.le_of_ble_eq_true rfl⟩) ⟨GP.blind, va_recv hE.1 hP (ci := 0) (q0 := 5) rfl rfl, GP.go (wc := [wcO a oc lt, wcI G (a 12) 30 ob, wcI G (a 13) 30 od, wcZ G (a 14) 30 dn, wcS a cn, wcI G (a 6) 20 sp]) hE hP hD hS hA [5, 6, 7, 8, 1, 2] rfl (by decide) [.ref (a 11), .ref (a 1), .int (f_X1_openAisle gp tg)]⟩ rfl rfl hl.1 rfl (lv_room (Nat.le_of_ble_eq_true rfl)) dX3_fetch_25 ⟨Nat.le_of_ble_eq_true rfl, Nat.le_of_ble_eq_true rfl⟩) ?_
  refine lv_istore_n (lv' := [(2, .int (f_X0_earliest oc ob od dn cn sp (f_X1_openAisle gp tg))), (0, .ref (a 0)), (1, .int p0)]) hx hb dX3_fetch_28 rfl hl (by decide) rfl (fun ls hl => ?_)
  refine lv_iload_n hx hb dX3_fetch_29 rfl (lv_at hl 0 rfl) ?_
  refine lv_iconst (v := (-1)) hx hb dX3_fetch_30 (by decide) ?_
  refine lv_icmp_ne (tgt := 44) hx hb dX3_fetch_31 (by decide) (fun c_31 => ?_) (fun c_31 => ?_)
  · refine lv_aload_n hx hb dX3_fetch_44 rfl (lv_at hl 1 rfl) ?_
    refine va_get (D := G.1) (ci := 3) (v := .ref (a 11)) (C := RX3) (T := TX3) (N := 4) hx hb hts iw_X3_fetch_RX3 hown hE.1 hP 0 rfl rfl 2 (by decide) (hts (.fieldLink RX3 26 "Rackrail" "orders" "LRackrail$Orders;") (by decide +kernel)) (fun _ h9 => h9) rfl dX3_fetch_45 ?_
    refine lv_iload_n hx hb dX3_fetch_48 rfl (lv_at hl 0 rfl) ?_
    refine lv_aload_n hx hb dX3_fetch_49 rfl (lv_at hl 1 rfl) ?_
    refine va_get (D := G.1) (ci := 3) (v := .int ck) (C := RX3) (T := TX3) (N := 4) hx hb hts iw_X3_fetch_RX3 hown hE.1 hP 0 rfl rfl 3 (by decide) (hts (.fieldLink RX3 30 "Rackrail" "clock" "I") (by decide +kernel)) (fun _ h9 => h9) rfl dX3_fetch_50 ?_
    refine k_m (wc := [wcO a oc lt, wcI G (a 13) 30 od, wcZ G (a 14) 30 dn]) (w1 := [wcO a oc ((f_X0_finish oc lt od dn (f_X0_earliest oc ob od dn cn sp (f_X1_openAisle gp tg)) ck).1), wcI G (a 13) 30 od, wcZ G (a 14) 30 ((f_X0_finish oc lt od dn (f_X0_earliest oc ob od dn cn sp (f_X1_openAisle gp tg)) ck).2)]) (wn := [wcA a ck, wcS a cn, wcI G (a 6) 20 sp, wcR a gp tg st sm, wcZ G (a 9) 4 ins, wcO a oc ((f_X0_finish oc lt od dn (f_X0_earliest oc ob od dn cn sp (f_X1_openAisle gp tg)) ck).1), wcI G (a 12) 30 ob, wcI G (a 13) 30 od, wcZ G (a 14) 30 ((f_X0_finish oc lt od dn (f_X0_earliest oc ob od dn cn sp (f_X1_openAisle gp tg)) ck).2)]) (va_runV (As := [.int (f_X0_earliest oc ob od dn cn sp (f_X1_openAisle gp tg)), .int ck]) (rest := []) ⟨hx, hb, hml, hown, hts⟩ (c_X0_finish l G a s.heap.size oc lt od dn (f_X0_earliest oc ob od dn cn sp (f_X1_openAisle gp tg)) ck hoc) (cwV 2 hts gX3_fetch_X0_finish rfl rfl rfl ⟨rfl, by decide +kernel, by decide +kernel, by decide +kernel⟩ ⟨Nat.le_of_ble_eq_true rfl, Nat.le_of_ble_eq_true rfl⟩) ⟨GP.blind, va_recv hE.1 hP (ci := 0) (q0 := 5) rfl rfl, GP.go (wc := [wcO a oc lt, wcI G (a 13) 30 od, wcZ G (a 14) 30 dn]) hE hP hD hS hA [5, 7, 8] rfl (by decide) [.ref (a 11), .int (f_X0_earliest oc ob od dn cn sp (f_X1_openAisle gp tg)), .int ck]⟩ rfl rfl hl.1 rfl (lv_room (Nat.le_of_ble_eq_true rfl)) dX3_fetch_53 ⟨Nat.le_of_ble_eq_true rfl, Nat.le_of_ble_eq_true rfl⟩) hP hD hS hA [5, 7, 8] rfl rfl rfl rfl (fun H locs hP hD hS => ?_)
    refine lv_aload_n hx hb dX3_fetch_56 rfl (lv_at hl 1 rfl) ?_
    refine va_get (D := G.1) (ci := 3) (v := .ref (a 1)) (C := RX3) (T := TX3) (N := 4) hx hb hts iw_X3_fetch_RX3 hown hE.1 hP 0 rfl rfl 0 (by decide) (hts (.fieldLink RX3 12 "Rackrail" "store" "LRackrail$Store;") (by decide +kernel)) (fun _ h9 => h9) rfl dX3_fetch_57 ?_
    refine lv_aload_n hx hb dX3_fetch_60 rfl (lv_at hl 1 rfl) ?_
    refine va_get (D := G.1) (ci := 3) (v := .ref (a 11)) (C := RX3) (T := TX3) (N := 4) hx hb hts iw_X3_fetch_RX3 hown hE.1 hP 0 rfl rfl 2 (by decide) (hts (.fieldLink RX3 26 "Rackrail" "orders" "LRackrail$Orders;") (by decide +kernel)) (fun _ h9 => h9) rfl dX3_fetch_61 ?_
    refine lv_iload_n hx hb dX3_fetch_64 rfl (lv_at hl 0 rfl) ?_
    refine k_p (va_runV (As := [.int (f_X0_earliest oc ob od dn cn sp (f_X1_openAisle gp tg))]) (rest := [.ref (a 1)]) ⟨hx, hb, hml, hown, hts⟩ (c_X0_boxOf l G a H.size oc ((f_X0_finish oc lt od dn (f_X0_earliest oc ob od dn cn sp (f_X1_openAisle gp tg)) ck).1) ob (f_X0_earliest oc ob od dn cn sp (f_X1_openAisle gp tg)) hoc) (cwV 1 hts gX3_fetch_X0_boxOf rfl rfl rfl ⟨rfl, by decide +kernel, by decide +kernel, by decide +kernel⟩ ⟨Nat.le_of_ble_eq_true rfl, Nat.le_of_ble_eq_true rfl⟩) ⟨GP.blind, va_recv hE.1 hP (ci := 0) (q0 := 5) rfl rfl, GP.go (wc := [wcO a oc ((f_X0_finish oc lt od dn (f_X0_earliest oc ob od dn cn sp (f_X1_openAisle gp tg)) ck).1), wcI G (a 12) 30 ob]) hE hP hD hS hA [5, 6] rfl (by decide) [.ref (a 11), .int (f_X0_earliest oc ob od dn cn sp (f_X1_openAisle gp tg))]⟩ rfl rfl hl.1 rfl (lv_room (Nat.le_of_ble_eq_true rfl)) dX3_fetch_65 ⟨Nat.le_of_ble_eq_true rfl, Nat.le_of_ble_eq_true rfl⟩) ?_
    refine lv_iconst (v := (-1)) hx hb dX3_fetch_68 (by decide) ?_
    refine k_m (wc := [wcS a cn, wcI G (a 6) 20 sp]) (w1 := [wcS a cn, wcI G (a 6) 20 (f_X2_put cn sp (f_X0_boxOf oc ob (f_X0_earliest oc ob od dn cn sp (f_X1_openAisle gp tg))) (-1))]) (wn := [wcA a ck, wcS a cn, wcI G (a 6) 20 (f_X2_put cn sp (f_X0_boxOf oc ob (f_X0_earliest oc ob od dn cn sp (f_X1_openAisle gp tg))) (-1)), wcR a gp tg st sm, wcZ G (a 9) 4 ins, wcO a oc ((f_X0_finish oc lt od dn (f_X0_earliest oc ob od dn cn sp (f_X1_openAisle gp tg)) ck).1), wcI G (a 12) 30 ob, wcI G (a 13) 30 od, wcZ G (a 14) 30 ((f_X0_finish oc lt od dn (f_X0_earliest oc ob od dn cn sp (f_X1_openAisle gp tg)) ck).2)]) (va_runV (As := [.int (f_X0_boxOf oc ob (f_X0_earliest oc ob od dn cn sp (f_X1_openAisle gp tg))), .int (-1)]) (rest := []) ⟨hx, hb, hml, hown, hts⟩ (c_X2_put l G a H.size cn sp (f_X0_boxOf oc ob (f_X0_earliest oc ob od dn cn sp (f_X1_openAisle gp tg))) (-1) hcn) (cwV 2 hts gX3_fetch_X2_put rfl rfl rfl ⟨rfl, by decide +kernel, by decide +kernel, by decide +kernel⟩ ⟨Nat.le_of_ble_eq_true rfl, Nat.le_of_ble_eq_true rfl⟩) ⟨GP.blind, va_recv hE.1 hP (ci := 2) (q0 := 1) rfl rfl, GP.go (wc := [wcS a cn, wcI G (a 6) 20 sp]) hE hP hD hS hA [1, 2] rfl (by decide) [.ref (a 1), .int (f_X0_boxOf oc ob (f_X0_earliest oc ob od dn cn sp (f_X1_openAisle gp tg))), .int (-1)]⟩ rfl rfl hl.1 rfl (lv_room (Nat.le_of_ble_eq_true rfl)) dX3_fetch_69 ⟨Nat.le_of_ble_eq_true rfl, Nat.le_of_ble_eq_true rfl⟩) hP hD hS hA [1, 2] rfl rfl rfl rfl (fun H locs hP hD hS => ?_)
    refine lv_iload_n hx hb dX3_fetch_72 rfl (lv_at hl 0 rfl) ?_
    have hq : f_X3_fetch ck cn sp gp tg ins oc lt ob od dn p0 = (f_X0_earliest oc ob od dn cn sp (f_X1_openAisle gp tg), f_X2_put cn sp (f_X0_boxOf oc ob (f_X0_earliest oc ob od dn cn sp (f_X1_openAisle gp tg))) (-1), (f_X0_finish oc lt od dn (f_X0_earliest oc ob od dn cn sp (f_X1_openAisle gp tg)) ck).1, (f_X0_finish oc lt od dn (f_X0_earliest oc ob od dn cn sp (f_X1_openAisle gp tg)) ck).2) := (by rw [f_X3_fetch, if_pos c_2, if_pos c_7, if_neg c_31])
    exact W.iret (v := f_X0_earliest oc ob od dn cn sp (f_X1_openAisle gp tg)) hx hb hr (fun t ht _ => ⟨by rw [hq], by rw [hq, ht]; exact hP, hS.F ht⟩) hS.2.2 dX3_fetch_73
  · exact absurd (h0.symm.trans (by rw [k_X3_fetch, if_pos c_2, if_pos c_7, if_pos c_31])) (by decide)

/-! X3_waiting -/
def f_X3_waiting (oc : Int32) (dn : Nat → Int32) : Int32 :=
  f_X0_countOpen oc dn
theorem iw_X3_waiting_RX3 : ∀ w ∈ u_ws RX3 TX3 4, w ∈ wsX3_waiting := by decide +kernel
set_option maxHeartbeats 4000000 in
set_option maxRecDepth 100000 in
theorem c_X3_waiting (l : Launch) (G : GT) (a : Nat → Nat) (sz : Nat) (ck : Int32) (oc : Int32) (lt : Int32) (dn : Nat → Int32) (hoc : okN 30 oc) : Met l yX3_waiting wsX3_waiting ({ frames := 1, cells := 0, slots := 0, locals := 22 }) (GP G [.ref (a 0)] [wcA a ck, wcO a oc lt, wcZ G (a 14) 30 dn] sz) (PQo (.returned (some (.int (f_X3_waiting oc dn))))) 0 0 (fun _ => False) := by
  refine bodyM (cc := cX3_waiting) (maxL := 1) (ret := (some .int)) (by decide) rfl (Nat.le_of_ble_eq_true rfl) ?_
  intro p e s m below meth c ls C
  obtain ⟨hx, hb, hr, hts, hown, hlocks, hml, hsz, hP, hE, hD, hA, hS, hl⟩ := C
  subst hsz
  have hl : lv_has ls 1 [(0, .ref (a 0))] := hl
  refine lv_aload_n hx hb dX3_waiting_0 rfl (lv_at hl 0 rfl) ?_
  refine va_get (D := G.1) (ci := 3) (v := .ref (a 11)) (C := RX3) (T := TX3) (N := 4) hx hb hts iw_X3_waiting_RX3 hown hE.1 hP 0 rfl rfl 2 (by decide) (hts (.fieldLink RX3 26 "Rackrail" "orders" "LRackrail$Orders;") (by decide +kernel)) (fun _ h9 => h9) rfl dX3_waiting_1 ?_
  refine k_p (va_runV (As := []) (rest := []) ⟨hx, hb, hml, hown, hts⟩ (c_X0_countOpen l G a s.heap.size oc lt dn hoc) (cwV 0 hts gX3_waiting_X0_countOpen rfl rfl rfl ⟨rfl, by decide +kernel, by decide +kernel, by decide +kernel⟩ ⟨Nat.le_of_ble_eq_true rfl, Nat.le_of_ble_eq_true rfl⟩) ⟨GP.blind, va_recv hE.1 hP (ci := 0) (q0 := 1) rfl rfl, GP.go (wc := [wcO a oc lt, wcZ G (a 14) 30 dn]) hE hP hD hS hA [1, 2] rfl (by decide) [.ref (a 11)]⟩ rfl rfl hl.1 rfl (lv_room (Nat.le_of_ble_eq_true rfl)) dX3_waiting_4 ⟨Nat.le_of_ble_eq_true rfl, Nat.le_of_ble_eq_true rfl⟩) ?_
  have hq : f_X3_waiting oc dn = (f_X0_countOpen oc dn) := (by rw [f_X3_waiting])
  exact W.iret (v := f_X0_countOpen oc dn) hx hb hr (fun t ht _ => ⟨by rw [hq], ht⟩) (fun _ h => nomatch h) dX3_waiting_7

/-! X3_late -/
def f_X3_late (lt : Int32) : Int32 :=
  f_X0_countLate lt
theorem iw_X3_late_RX3 : ∀ w ∈ u_ws RX3 TX3 4, w ∈ wsX3_late := by decide +kernel
set_option maxHeartbeats 4000000 in
set_option maxRecDepth 100000 in
theorem c_X3_late (l : Launch) (G : GT) (a : Nat → Nat) (sz : Nat) (ck : Int32) (oc : Int32) (lt : Int32) : Met l yX3_late wsX3_late ({ frames := 1, cells := 0, slots := 0, locals := 20 }) (GP G [.ref (a 0)] [wcA a ck, wcO a oc lt] sz) (PQo (.returned (some (.int (f_X3_late lt))))) 0 0 (fun _ => False) := by
  refine bodyM (cc := cX3_late) (maxL := 1) (ret := (some .int)) (by decide) rfl (Nat.le_of_ble_eq_true rfl) ?_
  intro p e s m below meth c ls C
  obtain ⟨hx, hb, hr, hts, hown, hlocks, hml, hsz, hP, hE, hD, hA, hS, hl⟩ := C
  subst hsz
  have hl : lv_has ls 1 [(0, .ref (a 0))] := hl
  refine lv_aload_n hx hb dX3_late_0 rfl (lv_at hl 0 rfl) ?_
  refine va_get (D := G.1) (ci := 3) (v := .ref (a 11)) (C := RX3) (T := TX3) (N := 4) hx hb hts iw_X3_late_RX3 hown hE.1 hP 0 rfl rfl 2 (by decide) (hts (.fieldLink RX3 26 "Rackrail" "orders" "LRackrail$Orders;") (by decide +kernel)) (fun _ h9 => h9) rfl dX3_late_1 ?_
  refine k_p (va_runV (As := []) (rest := []) ⟨hx, hb, hml, hown, hts⟩ (c_X0_countLate l G a s.heap.size oc lt) (cwV 0 hts gX3_late_X0_countLate rfl rfl rfl ⟨rfl, by decide +kernel, by decide +kernel, by decide +kernel⟩ ⟨Nat.le_of_ble_eq_true rfl, Nat.le_of_ble_eq_true rfl⟩) ⟨GP.blind, va_recv hE.1 hP (ci := 0) (q0 := 1) rfl rfl, GP.go (wc := [wcO a oc lt]) hE hP hD hS hA [1] rfl (by decide) [.ref (a 11)]⟩ rfl rfl hl.1 rfl (lv_room (Nat.le_of_ble_eq_true rfl)) dX3_late_4 ⟨Nat.le_of_ble_eq_true rfl, Nat.le_of_ble_eq_true rfl⟩) ?_
  have hq : f_X3_late lt = (f_X0_countLate lt) := (by rw [f_X3_late])
  exact W.iret (v := f_X0_countLate lt) hx hb hr (fun t ht _ => ⟨by rw [hq], ht⟩) (fun _ h => nomatch h) dX3_late_7
end
section
/-! the constructors -/
theorem arr_of {ty : FieldType} {args : Array Value} {s : State} (h : (Cond.arrayClass ty).before args s = true) : ∃ cA : ClassId, ArrOfT s cA ty ∧ s.vm.findClass ("[" ++ ty.toString) = some cA := by
  obtain ⟨cA, kA, comp, h1, h2, h3⟩ := Cond.arrayClass_spec h
  exact ⟨cA, fun n z => ⟨fun k h => (by cases h), kA, h2, comp, h3⟩, h1⟩
/-- a constructor's end: its cells, and those that it made -/
def IQ (G : GT) (Wd : va_W → Prop) (A : Nat → Prop) : Array Value → State → Outcome → State → Prop := fun _ st o t => o = .returned none ∧ (∃ w1, Wd w1 ∧ va_P G.1 vwCl w1 t.heap ∧ va_D A w1) ∧ va_F A st t
section INITS
variable {p : Program} {l : Launch} {e : Env} {R : Room} {s : State} {m : MethodId} {args : Array Value} {below : List Frame} {meth : Method} {c : Code} {H H0 : Heap} {locs : List Loc} {cells slots mc ms : Nat} {Q : State → Prop} {pc : Nat} {ls : Array Slot} {rest st0 : List Value} {a : Array Value}
theorem k_newa {cc : ByteArray} {G : GT} {A : Nat → Prop} {ws : va_W} (hx : p.tables.exec = Jvm.exec) (hb : c.code = cc) {atype : ArrayType} (harr : (Cond.arrayClass (newarray.typeOf atype)).before args s = true) {ty : FieldType} (hty : newarray.typeOf atype = ty) (hE : Ev G s) (t0 : Nat) {c0 : ClassId} (ht0 : (tysG G)[t0]? = some (c0, ty))
    (hra : ∀ (U : State) (k : ClassId), va_RA U k ty → U.vm.findClass ("[" ++ ty.toString) = some k) (hP : va_P G.1 vwCl ws H) (hD : va_D A ws) (hS : va_S A H0 H locs) (hA : ∀ q, H0.size ≤ q → A q)
    {n : Int32} {N' : Nat} {a0 : vp_A} (ha : ∀ cA : ClassId, vp_cell cA a0 = arrV cA N' (fun _ => defaultValue ty)) (hn : ¬ n < 0) (hN : n.toNatClampNeg = N') (hbytes : N' * componentBytes ty ≤ 536870912) (hcells : cells + 1 ≤ R.cells) (hslots : slots + N' ≤ R.slots) (hdg : decode cc pc = .ok (.newarray atype, 2))
    (kk : ∀ (q : Nat) (H1 : Heap), va_P G.1 vwCl (ws ++ [(q, .inl (c0, a0))]) H1 → va_D A (ws ++ [(q, .inl (c0, a0))]) → va_S A H0 H1 locs → W p l e R s m args below meth c H1 locs (cells + 1) (slots + N') Q (F0 m (pc + 2) ls (.ref q :: rest))) : W p l e R s m args below meth c H locs cells slots Q (F0 m pc ls (.int n :: rest)) := by
  refine va_newa hx hb harr hty hE.1 hP hD hS hA ha hn hN hbytes hcells hslots hdg (fun q cA H1 hK hP hD hS => ?_)
  have e1 := hra s cA (hK.2 2 (cA, ty) rfl).2
  have e2 := hra s c0 (hE.1.2 t0 _ ht0).2
  have e3 : cA = c0 := Option.some.inj (e1.symm.trans e2)
  subst e3
  exact kk q H1 hP hD hS
/-- a call of a constructor -/
theorem k_i {G : GT} {Wd : va_W → Prop} {A0 : Nat → Prop} {ws wc wr : va_W} (hr : va_Run p l e R s m args below meth c H locs cells slots mc ms (F0 m pc ls st0) rest (IQ G Wd (va_A wc H.size) a) (va_A wc H.size))
    (hP : va_P G.1 vwCl ws H) (hD : va_D A0 ws) (hS : va_S A0 H0 H locs) (hA : ∀ q, H0.size ≤ q → A0 q) (isC isR : List Nat) (hC : isC.map (fun i => ws[i]?) = wc.map some) (hR : isR.map (fun i => ws[i]?) = wr.map some) (hn : va_nd isR = true) (hdis : ∀ i ∈ isR, i ∉ isC)
    (kk : ∀ (H1 : Heap) (locs1 : List Loc) (w1 : va_W), Wd w1 → va_P G.1 vwCl (wr ++ w1) H1 → va_D A0 (wr ++ w1) → va_S A0 H0 H1 locs1 → W p l e R s m args below meth c H1 locs1 (cells + mc) (slots + ms) Q (F0 m (pc + 3) ls rest)) : W p l e R s m args below meth c H locs cells slots Q (F0 m pc ls st0) := by
  intro T hT X
  have hF := va_free hD hS hA isC hC
  obtain ⟨v, st₀, t, T', L, h0, X', hL, e1, -, ⟨hv, ⟨w1, hw1, hP1, hD1⟩, hz, hk⟩, st⟩ := hr T hT X
  cases hv
  rw [h0] at hz hk
  rw [← e1] at hP1 hz hk
  obtain ⟨hP2, hD2⟩ := va_join hP hD isC isR hC hR hn hdis hk hF hP1 hD1
  obtain ⟨t2, a1, b1⟩ := kk T'.heap (locs ++ L) w1 hw1 hP2 hD2
    ⟨Nat.le_trans hS.1 hz, fun q h1 h2 => by rw [hk q (Nat.lt_of_lt_of_le h1 hS.1) (fun z => h2 (hF q z))]; exact hS.2.1 q h1 h2, fun q hq => by
      rcases List.mem_append.mp hq with h | h
      · exact hS.2.2 q h
      · exact hF _ (hL q h)⟩ T' rfl X'
  exact ⟨t2, st t2 a1, b1⟩
/-- a body of a constructor: as any body, and its name -/
theorem bodyI {y : MethodName} {ws ws' : List Cond} {rm : Room} {sz : Nat} {free : Addr → Prop} {cc : ByteArray} {maxL : Nat} {ret : Option FieldType} {G : GT} {av : List Value} {w0 : va_W} {Qc : Array Value → State → Outcome → State → Prop} (hy : plainName y.cls = true) (hi : y.name = "<init>") (hw : ws = Cond.code y cc maxL ret :: ws') (hn : (lg_sl av).length ≤ maxL)
    (body : ∀ p e s m below meth c ls, Bx G p s m av meth c cc maxL ret y.cls ws w0 sz ls → meth.name = "<init>" → W p l e rm s m av.toArray below meth c s.heap [] 0 0 (MQ below Qc av.toArray s mc ms free) (F0 m 0 ls [])) : Met l y ws rm (GP G av w0 sz) Qc mc ms free := by
  refine Met.ofW (cc := cc) (maxL := maxL) (ret := ret) hy hw ?_
  intro p e s m args below meth c s₁ B hml hv
  obtain ⟨rfl, hsz, hP, hE, hD0⟩ := hv
  have hl := lv_entry av (n := maxL) hn
  rw [lg_entry_eq]
  exact body p e s m below meth c _ ⟨B.exec, B.bytes, B.returns, atoms_spec (ws := ws) B.pre, findClass_of_methodNamed B.named, B.notSynchronized, hml, hsz.symm, hP, hE, hD0.self, fun _ h => Or.inr h, va_S.rf, hl⟩ ((name_of_methodNamed B.named B.method).1.trans hi)
end INITS
theorem ra_int (U : State) (k : ClassId) (h : va_RA U k .int) : U.vm.findClass ("[" ++ FieldType.int.toString) = some k := h
theorem ra_boolean (U : State) (k : ClassId) (h : va_RA U k .boolean) : U.vm.findClass ("[" ++ FieldType.boolean.toString) = some k := h

theorem iw_X0_init : ∀ w ∈ u_ws RX0 TX0 5, w ∈ wsX0_init := by decide +kernel
set_option maxHeartbeats 4000000 in
set_option maxRecDepth 100000 in
theorem c_X0_init (l : Launch) (G : GT) (q sz : Nat) : Met l yX0_init wsX0_init ({ frames := 1, cells := 3, slots := 90, locals := 20 }) (GP G [.ref q] [(q, .inr (0, [.null, .null, .null, .int 0, .int 0]))] sz) (IQ G (fun w1 => ∃ q1 q2 q3 : Nat, w1 = [(q, .inr (0, [.ref q1, .ref q2, .ref q3, .int 0, .int 0])), wcI G q1 30 (fun _ => 0), wcI G q2 30 (fun _ => 0), wcZ G q3 30 (fun _ => 0)]) (va_A [(q, .inr (0, [.null, .null, .null, .int 0, .int 0]))] sz)) 3 90 (va_A [(q, .inr (0, [.null, .null, .null, .int 0, .int 0]))] sz) := by
  refine bodyI (cc := cX0_init) (maxL := 1) (ret := none) (by decide) rfl rfl (Nat.le_of_ble_eq_true rfl) ?_
  intro p e s m below meth c ls C hin
  obtain ⟨hx, hb, hr, hts, hown, hlocks, hml, hsz, hP, hE, hD, hA, hS, hl⟩ := C
  subst hsz
  have hl : lv_has ls 1 [(0, .ref q)] := hl
  refine lv_aload_n hx hb dX0_init_0 rfl (lv_at hl 0 rfl) ?_
  refine W.objInit hx hb hown (hts (.methodLink RX0 3 objectInit) (by decide +kernel)) (hts (.instanceMethod objectInit) (by decide +kernel)) (hts (.code objectInit ⟨#[0xb1]⟩ 1 none) (by decide +kernel)) rfl (by rw [hml]; exact hl.1) rfl dX0_init_1 (Nat.le_of_ble_eq_true rfl) (Nat.le_of_ble_eq_true rfl) ?_
  refine W.eq (g2 := F0 m 4 ls []) rfl ?_
  refine lv_aload_n hx hb dX0_init_4 rfl (lv_at hl 0 rfl) ?_
  refine lv_bipush (v := 30) hx hb dX0_init_5 (by decide) ?_
  refine k_newa (atype := .int) (ty := .int) (c0 := G.2.1) (a0 := (30, .inl (fun _ => 0))) (N' := 30) hx hb (hts (.arrayClass .int) (by decide +kernel)) rfl hE 0 rfl ra_int hP hD hS hA (fun _ => rfl) (by decide) rfl (by decide) (Nat.le_of_ble_eq_true rfl) (Nat.le_of_ble_eq_true rfl) dX0_init_7 (fun q1 H hP hD hS => ?_)
  have hP : va_P G.1 vwCl [(q, .inr (0, [.null, .null, .null, .int 0, .int 0])), wcI G q1 30 (fun _ => 0)] H := hP
  have hD : va_D _ [(q, .inr (0, [.null, .null, .null, .int 0, .int 0])), wcI G q1 30 (fun _ => 0)] := hD
  refine W.widen (k := 1) (n := 30) (by decide) (by decide) ?_
  refine va_putF (D := G.1) (ci := 0) (v := .ref q1) (ty := .array .int) (C := RX0) (T := TX0) (N := 5) hx hb hts iw_X0_init tyX0 tyX0_ok nmX0 hown hE.1 hP hD hS 0 rfl rfl 0 (by decide) (hts (.fieldLink RX0 9 "Rackrail$Orders" "boxes" "[I") (by decide +kernel)) (fun _ h9 => h9) rfl hin rfl (by decide +kernel) rfl rfl (Nat.le_of_ble_eq_true rfl) dX0_init_9 (fun H locs hP hD hS => ?_)
  have hP : va_P G.1 vwCl [(q, .inr (0, [.ref q1, .null, .null, .int 0, .int 0])), wcI G q1 30 (fun _ => 0)] H := hP
  have hD : va_D _ [(q, .inr (0, [.ref q1, .null, .null, .int 0, .int 0])), wcI G q1 30 (fun _ => 0)] := hD
  refine lv_aload_n hx hb dX0_init_12 rfl (lv_at hl 0 rfl) ?_
  refine lv_bipush (v := 30) hx hb dX0_init_13 (by decide) ?_
  refine k_newa (atype := .int) (ty := .int) (c0 := G.2.1) (a0 := (30, .inl (fun _ => 0))) (N' := 30) hx hb (hts (.arrayClass .int) (by decide +kernel)) rfl hE 0 rfl ra_int hP hD hS hA (fun _ => rfl) (by decide) rfl (by decide) (Nat.le_of_ble_eq_true rfl) (Nat.le_of_ble_eq_true rfl) dX0_init_15 (fun q2 H hP hD hS => ?_)
  have hP : va_P G.1 vwCl [(q, .inr (0, [.ref q1, .null, .null, .int 0, .int 0])), wcI G q1 30 (fun _ => 0), wcI G q2 30 (fun _ => 0)] H := hP
  have hD : va_D _ [(q, .inr (0, [.ref q1, .null, .null, .int 0, .int 0])), wcI G q1 30 (fun _ => 0), wcI G q2 30 (fun _ => 0)] := hD
  refine W.widen (k := 2) (n := 60) (by decide) (by decide) ?_
  refine va_putF (D := G.1) (ci := 0) (v := .ref q2) (ty := .array .int) (C := RX0) (T := TX0) (N := 5) hx hb hts iw_X0_init tyX0 tyX0_ok nmX0 hown hE.1 hP hD hS 0 rfl rfl 1 (by decide) (hts (.fieldLink RX0 15 "Rackrail$Orders" "deadlines" "[I") (by decide +kernel)) (fun _ h9 => h9) rfl hin rfl (by decide +kernel) rfl rfl (Nat.le_of_ble_eq_true rfl) dX0_init_17 (fun H locs hP hD hS => ?_)
  have hP : va_P G.1 vwCl [(q, .inr (0, [.ref q1, .ref q2, .null, .int 0, .int 0])), wcI G q1 30 (fun _ => 0), wcI G q2 30 (fun _ => 0)] H := hP
  have hD : va_D _ [(q, .inr (0, [.ref q1, .ref q2, .null, .int 0, .int 0])), wcI G q1 30 (fun _ => 0), wcI G q2 30 (fun _ => 0)] := hD
  refine lv_aload_n hx hb dX0_init_20 rfl (lv_at hl 0 rfl) ?_
  refine lv_bipush (v := 30) hx hb dX0_init_21 (by decide) ?_
  refine k_newa (atype := .boolean) (ty := .boolean) (c0 := G.2.2) (a0 := (30, .inl (fun _ => 0))) (N' := 30) hx hb (hts (.arrayClass .boolean) (by decide +kernel)) rfl hE 1 rfl ra_boolean hP hD hS hA (fun _ => rfl) (by decide) rfl (by decide) (Nat.le_of_ble_eq_true rfl) (Nat.le_of_ble_eq_true rfl) dX0_init_23 (fun q3 H hP hD hS => ?_)
  have hP : va_P G.1 vwCl [(q, .inr (0, [.ref q1, .ref q2, .null, .int 0, .int 0])), wcI G q1 30 (fun _ => 0), wcI G q2 30 (fun _ => 0), wcZ G q3 30 (fun _ => 0)] H := hP
  have hD : va_D _ [(q, .inr (0, [.ref q1, .ref q2, .null, .int 0, .int 0])), wcI G q1 30 (fun _ => 0), wcI G q2 30 (fun _ => 0), wcZ G q3 30 (fun _ => 0)] := hD
  refine W.widen (k := 3) (n := 90) (by decide) (by decide) ?_
  refine va_putF (D := G.1) (ci := 0) (v := .ref q3) (ty := .array .boolean) (C := RX0) (T := TX0) (N := 5) hx hb hts iw_X0_init tyX0 tyX0_ok nmX0 hown hE.1 hP hD hS 0 rfl rfl 2 (by decide) (hts (.fieldLink RX0 18 "Rackrail$Orders" "done" "[Z") (by decide +kernel)) (fun _ h9 => h9) rfl hin rfl (by decide +kernel) rfl rfl (Nat.le_of_ble_eq_true rfl) dX0_init_25 (fun H locs hP hD hS => ?_)
  have hP : va_P G.1 vwCl [(q, .inr (0, [.ref q1, .ref q2, .ref q3, .int 0, .int 0])), wcI G q1 30 (fun _ => 0), wcI G q2 30 (fun _ => 0), wcZ G q3 30 (fun _ => 0)] H := hP
  have hD : va_D _ [(q, .inr (0, [.ref q1, .ref q2, .ref q3, .int 0, .int 0])), wcI G q1 30 (fun _ => 0), wcI G q2 30 (fun _ => 0), wcZ G q3 30 (fun _ => 0)] := hD
  refine lv_aload_n hx hb dX0_init_28 rfl (lv_at hl 0 rfl) ?_
  refine lv_iconst (v := 0) hx hb dX0_init_29 (by decide) ?_
  refine va_put (D := G.1) (ci := 0) (v := .int 0) (ty := .int) (C := RX0) (T := TX0) (N := 5) hx hb hts iw_X0_init tyX0 tyX0_ok nmX0 hown hE.1 hP hD hS 0 rfl rfl 3 (by decide) (hts (.fieldLink RX0 22 "Rackrail$Orders" "count" "I") (by decide +kernel)) (fun _ h9 => h9) rfl (by decide +kernel) rfl rfl (Nat.le_of_ble_eq_true rfl) dX0_init_30 (fun H locs hP hD hS => ?_)
  have hP : va_P G.1 vwCl [(q, .inr (0, [.ref q1, .ref q2, .ref q3, .int 0, .int 0])), wcI G q1 30 (fun _ => 0), wcI G q2 30 (fun _ => 0), wcZ G q3 30 (fun _ => 0)] H := hP
  have hD : va_D _ [(q, .inr (0, [.ref q1, .ref q2, .ref q3, .int 0, .int 0])), wcI G q1 30 (fun _ => 0), wcI G q2 30 (fun _ => 0), wcZ G q3 30 (fun _ => 0)] := hD
  refine lv_aload_n hx hb dX0_init_33 rfl (lv_at hl 0 rfl) ?_
  refine lv_iconst (v := 0) hx hb dX0_init_34 (by decide) ?_
  refine va_put (D := G.1) (ci := 0) (v := .int 0) (ty := .int) (C := RX0) (T := TX0) (N := 5) hx hb hts iw_X0_init tyX0 tyX0_ok nmX0 hown hE.1 hP hD hS 0 rfl rfl 4 (by decide) (hts (.fieldLink RX0 26 "Rackrail$Orders" "lateCount" "I") (by decide +kernel)) (fun _ h9 => h9) rfl (by decide +kernel) rfl rfl (Nat.le_of_ble_eq_true rfl) dX0_init_35 (fun H locs hP hD hS => ?_)
  have hP : va_P G.1 vwCl [(q, .inr (0, [.ref q1, .ref q2, .ref q3, .int 0, .int 0])), wcI G q1 30 (fun _ => 0), wcI G q2 30 (fun _ => 0), wcZ G q3 30 (fun _ => 0)] H := hP
  have hD : va_D _ [(q, .inr (0, [.ref q1, .ref q2, .ref q3, .int 0, .int 0])), wcI G q1 30 (fun _ => 0), wcI G q2 30 (fun _ => 0), wcZ G q3 30 (fun _ => 0)] := hD
  exact W.vret hx hb hr (fun t ht _ => ⟨rfl, ⟨_, ⟨q1, q2, q3, rfl⟩, by rw [ht]; exact hP, hD⟩, hS.F ht⟩) hS.2.2 dX0_init_38

theorem iw_X1_init : ∀ w ∈ u_ws RX1 TX1 7, w ∈ wsX1_init := by decide +kernel
set_option maxHeartbeats 4000000 in
set_option maxRecDepth 100000 in
theorem c_X1_init (l : Launch) (G : GT) (q sz : Nat) : Met l yX1_init wsX1_init ({ frames := 1, cells := 3, slots := 17, locals := 20 }) (GP G [.ref q] [(q, .inr (1, [.null, .null, .null, .int 0, .int 0, .int 0, .int 0]))] sz) (IQ G (fun w1 => ∃ q1 q2 q3 : Nat, w1 = [(q, .inr (1, [.ref q1, .ref q2, .ref q3, .int 0, .int 0, .int 0, .int 0])), wcZ G q1 7 (fun _ => 0), wcZ G q2 4 (fun _ => 0), wcI G q3 6 (fun _ => 0)]) (va_A [(q, .inr (1, [.null, .null, .null, .int 0, .int 0, .int 0, .int 0]))] sz)) 3 17 (va_A [(q, .inr (1, [.null, .null, .null, .int 0, .int 0, .int 0, .int 0]))] sz) := by
  refine bodyI (cc := cX1_init) (maxL := 1) (ret := none) (by decide) rfl rfl (Nat.le_of_ble_eq_true rfl) ?_
  intro p e s m below meth c ls C hin
  obtain ⟨hx, hb, hr, hts, hown, hlocks, hml, hsz, hP, hE, hD, hA, hS, hl⟩ := C
  subst hsz
  have hl : lv_has ls 1 [(0, .ref q)] := hl
  refine lv_aload_n hx hb dX1_init_0 rfl (lv_at hl 0 rfl) ?_
  refine W.objInit hx hb hown (hts (.methodLink RX1 3 objectInit) (by decide +kernel)) (hts (.instanceMethod objectInit) (by decide +kernel)) (hts (.code objectInit ⟨#[0xb1]⟩ 1 none) (by decide +kernel)) rfl (by rw [hml]; exact hl.1) rfl dX1_init_1 (Nat.le_of_ble_eq_true rfl) (Nat.le_of_ble_eq_true rfl) ?_
  refine W.eq (g2 := F0 m 4 ls []) rfl ?_
  refine lv_aload_n hx hb dX1_init_4 rfl (lv_at hl 0 rfl) ?_
  refine lv_bipush (v := 7) hx hb dX1_init_5 (by decide) ?_
  refine k_newa (atype := .boolean) (ty := .boolean) (c0 := G.2.2) (a0 := (7, .inl (fun _ => 0))) (N' := 7) hx hb (hts (.arrayClass .boolean) (by decide +kernel)) rfl hE 1 rfl ra_boolean hP hD hS hA (fun _ => rfl) (by decide) rfl (by decide) (Nat.le_of_ble_eq_true rfl) (Nat.le_of_ble_eq_true rfl) dX1_init_7 (fun q1 H hP hD hS => ?_)
  have hP : va_P G.1 vwCl [(q, .inr (1, [.null, .null, .null, .int 0, .int 0, .int 0, .int 0])), wcZ G q1 7 (fun _ => 0)] H := hP
  have hD : va_D _ [(q, .inr (1, [.null, .null, .null, .int 0, .int 0, .int 0, .int 0])), wcZ G q1 7 (fun _ => 0)] := hD
  refine W.widen (k := 1) (n := 7) (by decide) (by decide) ?_
  refine va_putF (D := G.1) (ci := 1) (v := .ref q1) (ty := .array .boolean) (C := RX1) (T := TX1) (N := 7) hx hb hts iw_X1_init tyX1 tyX1_ok nmX1 hown hE.1 hP hD hS 0 rfl rfl 0 (by decide) (hts (.fieldLink RX1 9 "Rackrail$Rail" "doubts" "[Z") (by decide +kernel)) (fun _ h9 => h9) rfl hin rfl (by decide +kernel) rfl rfl (Nat.le_of_ble_eq_true rfl) dX1_init_9 (fun H locs hP hD hS => ?_)
  have hP : va_P G.1 vwCl [(q, .inr (1, [.ref q1, .null, .null, .int 0, .int 0, .int 0, .int 0])), wcZ G q1 7 (fun _ => 0)] H := hP
  have hD : va_D _ [(q, .inr (1, [.ref q1, .null, .null, .int 0, .int 0, .int 0, .int 0])), wcZ G q1 7 (fun _ => 0)] := hD
  refine lv_aload_n hx hb dX1_init_12 rfl (lv_at hl 0 rfl) ?_
  refine lv_iconst (v := 4) hx hb dX1_init_13 (by decide) ?_
  refine k_newa (atype := .boolean) (ty := .boolean) (c0 := G.2.2) (a0 := (4, .inl (fun _ => 0))) (N' := 4) hx hb (hts (.arrayClass .boolean) (by decide +kernel)) rfl hE 1 rfl ra_boolean hP hD hS hA (fun _ => rfl) (by decide) rfl (by decide) (Nat.le_of_ble_eq_true rfl) (Nat.le_of_ble_eq_true rfl) dX1_init_14 (fun q2 H hP hD hS => ?_)
  have hP : va_P G.1 vwCl [(q, .inr (1, [.ref q1, .null, .null, .int 0, .int 0, .int 0, .int 0])), wcZ G q1 7 (fun _ => 0), wcZ G q2 4 (fun _ => 0)] H := hP
  have hD : va_D _ [(q, .inr (1, [.ref q1, .null, .null, .int 0, .int 0, .int 0, .int 0])), wcZ G q1 7 (fun _ => 0), wcZ G q2 4 (fun _ => 0)] := hD
  refine W.widen (k := 2) (n := 11) (by decide) (by decide) ?_
  refine va_putF (D := G.1) (ci := 1) (v := .ref q2) (ty := .array .boolean) (C := RX1) (T := TX1) (N := 7) hx hb hts iw_X1_init tyX1 tyX1_ok nmX1 hown hE.1 hP hD hS 0 rfl rfl 1 (by decide) (hts (.fieldLink RX1 15 "Rackrail$Rail" "inside" "[Z") (by decide +kernel)) (fun _ h9 => h9) rfl hin rfl (by decide +kernel) rfl rfl (Nat.le_of_ble_eq_true rfl) dX1_init_16 (fun H locs hP hD hS => ?_)
  have hP : va_P G.1 vwCl [(q, .inr (1, [.ref q1, .ref q2, .null, .int 0, .int 0, .int 0, .int 0])), wcZ G q1 7 (fun _ => 0), wcZ G q2 4 (fun _ => 0)] H := hP
  have hD : va_D _ [(q, .inr (1, [.ref q1, .ref q2, .null, .int 0, .int 0, .int 0, .int 0])), wcZ G q1 7 (fun _ => 0), wcZ G q2 4 (fun _ => 0)] := hD
  refine lv_aload_n hx hb dX1_init_19 rfl (lv_at hl 0 rfl) ?_
  refine lv_bipush (v := 6) hx hb dX1_init_20 (by decide) ?_
  refine k_newa (atype := .int) (ty := .int) (c0 := G.2.1) (a0 := (6, .inl (fun _ => 0))) (N' := 6) hx hb (hts (.arrayClass .int) (by decide +kernel)) rfl hE 0 rfl ra_int hP hD hS hA (fun _ => rfl) (by decide) rfl (by decide) (Nat.le_of_ble_eq_true rfl) (Nat.le_of_ble_eq_true rfl) dX1_init_22 (fun q3 H hP hD hS => ?_)
  have hP : va_P G.1 vwCl [(q, .inr (1, [.ref q1, .ref q2, .null, .int 0, .int 0, .int 0, .int 0])), wcZ G q1 7 (fun _ => 0), wcZ G q2 4 (fun _ => 0), wcI G q3 6 (fun _ => 0)] H := hP
  have hD : va_D _ [(q, .inr (1, [.ref q1, .ref q2, .null, .int 0, .int 0, .int 0, .int 0])), wcZ G q1 7 (fun _ => 0), wcZ G q2 4 (fun _ => 0), wcI G q3 6 (fun _ => 0)] := hD
  refine W.widen (k := 3) (n := 17) (by decide) (by decide) ?_
  refine va_putF (D := G.1) (ci := 1) (v := .ref q3) (ty := .array .int) (C := RX1) (T := TX1) (N := 7) hx hb hts iw_X1_init tyX1 tyX1_ok nmX1 hown hE.1 hP hD hS 0 rfl rfl 2 (by decide) (hts (.fieldLink RX1 18 "Rackrail$Rail" "moves" "[I") (by decide +kernel)) (fun _ h9 => h9) rfl hin rfl (by decide +kernel) rfl rfl (Nat.le_of_ble_eq_true rfl) dX1_init_24 (fun H locs hP hD hS => ?_)
  have hP : va_P G.1 vwCl [(q, .inr (1, [.ref q1, .ref q2, .ref q3, .int 0, .int 0, .int 0, .int 0])), wcZ G q1 7 (fun _ => 0), wcZ G q2 4 (fun _ => 0), wcI G q3 6 (fun _ => 0)] H := hP
  have hD : va_D _ [(q, .inr (1, [.ref q1, .ref q2, .ref q3, .int 0, .int 0, .int 0, .int 0])), wcZ G q1 7 (fun _ => 0), wcZ G q2 4 (fun _ => 0), wcI G q3 6 (fun _ => 0)] := hD
  refine lv_aload_n hx hb dX1_init_27 rfl (lv_at hl 0 rfl) ?_
  refine lv_iconst (v := 0) hx hb dX1_init_28 (by decide) ?_
  refine va_put (D := G.1) (ci := 1) (v := .int 0) (ty := .int) (C := RX1) (T := TX1) (N := 7) hx hb hts iw_X1_init tyX1 tyX1_ok nmX1 hown hE.1 hP hD hS 0 rfl rfl 3 (by decide) (hts (.fieldLink RX1 22 "Rackrail$Rail" "gap" "I") (by decide +kernel)) (fun _ h9 => h9) rfl (by decide +kernel) rfl rfl (Nat.le_of_ble_eq_true rfl) dX1_init_29 (fun H locs hP hD hS => ?_)
  have hP : va_P G.1 vwCl [(q, .inr (1, [.ref q1, .ref q2, .ref q3, .int 0, .int 0, .int 0, .int 0])), wcZ G q1 7 (fun _ => 0), wcZ G q2 4 (fun _ => 0), wcI G q3 6 (fun _ => 0)] H := hP
  have hD : va_D _ [(q, .inr (1, [.ref q1, .ref q2, .ref q3, .int 0, .int 0, .int 0, .int 0])), wcZ G q1 7 (fun _ => 0), wcZ G q2 4 (fun _ => 0), wcI G q3 6 (fun _ => 0)] := hD
  refine lv_aload_n hx hb dX1_init_32 rfl (lv_at hl 0 rfl) ?_
  refine lv_iconst (v := 0) hx hb dX1_init_33 (by decide) ?_
  refine va_put (D := G.1) (ci := 1) (v := .int 0) (ty := .int) (C := RX1) (T := TX1) (N := 7) hx hb hts iw_X1_init tyX1 tyX1_ok nmX1 hown hE.1 hP hD hS 0 rfl rfl 4 (by decide) (hts (.fieldLink RX1 26 "Rackrail$Rail" "target" "I") (by decide +kernel)) (fun _ h9 => h9) rfl (by decide +kernel) rfl rfl (Nat.le_of_ble_eq_true rfl) dX1_init_34 (fun H locs hP hD hS => ?_)
  have hP : va_P G.1 vwCl [(q, .inr (1, [.ref q1, .ref q2, .ref q3, .int 0, .int 0, .int 0, .int 0])), wcZ G q1 7 (fun _ => 0), wcZ G q2 4 (fun _ => 0), wcI G q3 6 (fun _ => 0)] H := hP
  have hD : va_D _ [(q, .inr (1, [.ref q1, .ref q2, .ref q3, .int 0, .int 0, .int 0, .int 0])), wcZ G q1 7 (fun _ => 0), wcZ G q2 4 (fun _ => 0), wcI G q3 6 (fun _ => 0)] := hD
  refine lv_aload_n hx hb dX1_init_37 rfl (lv_at hl 0 rfl) ?_
  refine lv_iconst (v := 0) hx hb dX1_init_38 (by decide) ?_
  refine va_put (D := G.1) (ci := 1) (v := .int 0) (ty := .boolean) (C := RX1) (T := TX1) (N := 7) hx hb hts iw_X1_init tyX1 tyX1_ok nmX1 hown hE.1 hP hD hS 0 rfl rfl 5 (by decide) (hts (.fieldLink RX1 29 "Rackrail$Rail" "stalled" "Z") (by decide +kernel)) (fun _ h9 => h9) rfl (by decide +kernel) rfl rfl (Nat.le_of_ble_eq_true rfl) dX1_init_39 (fun H locs hP hD hS => ?_)
  have hP : va_P G.1 vwCl [(q, .inr (1, [.ref q1, .ref q2, .ref q3, .int 0, .int 0, .int 0, .int 0])), wcZ G q1 7 (fun _ => 0), wcZ G q2 4 (fun _ => 0), wcI G q3 6 (fun _ => 0)] H := hP
  have hD : va_D _ [(q, .inr (1, [.ref q1, .ref q2, .ref q3, .int 0, .int 0, .int 0, .int 0])), wcZ G q1 7 (fun _ => 0), wcZ G q2 4 (fun _ => 0), wcI G q3 6 (fun _ => 0)] := hD
  refine lv_aload_n hx hb dX1_init_42 rfl (lv_at hl 0 rfl) ?_
  refine lv_iconst (v := 0) hx hb dX1_init_43 (by decide) ?_
  refine va_put (D := G.1) (ci := 1) (v := .int 0) (ty := .boolean) (C := RX1) (T := TX1) (N := 7) hx hb hts iw_X1_init tyX1 tyX1_ok nmX1 hown hE.1 hP hD hS 0 rfl rfl 6 (by decide) (hts (.fieldLink RX1 33 "Rackrail$Rail" "smoky" "Z") (by decide +kernel)) (fun _ h9 => h9) rfl (by decide +kernel) rfl rfl (Nat.le_of_ble_eq_true rfl) dX1_init_44 (fun H locs hP hD hS => ?_)
  have hP : va_P G.1 vwCl [(q, .inr (1, [.ref q1, .ref q2, .ref q3, .int 0, .int 0, .int 0, .int 0])), wcZ G q1 7 (fun _ => 0), wcZ G q2 4 (fun _ => 0), wcI G q3 6 (fun _ => 0)] H := hP
  have hD : va_D _ [(q, .inr (1, [.ref q1, .ref q2, .ref q3, .int 0, .int 0, .int 0, .int 0])), wcZ G q1 7 (fun _ => 0), wcZ G q2 4 (fun _ => 0), wcI G q3 6 (fun _ => 0)] := hD
  exact W.vret hx hb hr (fun t ht _ => ⟨rfl, ⟨_, ⟨q1, q2, q3, rfl⟩, by rw [ht]; exact hP, hD⟩, hS.F ht⟩) hS.2.2 dX1_init_47

theorem iw_X2_init : ∀ w ∈ u_ws RX2 TX2 6, w ∈ wsX2_init := by decide +kernel
set_option maxHeartbeats 4000000 in
set_option maxRecDepth 100000 in
theorem c_X2_init (l : Launch) (G : GT) (q sz : Nat) : Met l yX2_init wsX2_init ({ frames := 1, cells := 5, slots := 86, locals := 20 }) (GP G [.ref q] [(q, .inr (2, [.null, .null, .null, .null, .null, .int 0]))] sz) (IQ G (fun w1 => ∃ q1 q2 q3 q4 q5 : Nat, w1 = [(q, .inr (2, [.ref q1, .ref q2, .ref q3, .ref q4, .ref q5, .int 0])), wcI G q1 6 (fun _ => 0), wcI G q2 20 (fun _ => 0), wcI G q3 20 (fun _ => 0), wcI G q4 20 (fun _ => 0), wcI G q5 20 (fun _ => 0)]) (va_A [(q, .inr (2, [.null, .null, .null, .null, .null, .int 0]))] sz)) 5 86 (va_A [(q, .inr (2, [.null, .null, .null, .null, .null, .int 0]))] sz) := by
  refine bodyI (cc := cX2_init) (maxL := 1) (ret := none) (by decide) rfl rfl (Nat.le_of_ble_eq_true rfl) ?_
  intro p e s m below meth c ls C hin
  obtain ⟨hx, hb, hr, hts, hown, hlocks, hml, hsz, hP, hE, hD, hA, hS, hl⟩ := C
  subst hsz
  have hl : lv_has ls 1 [(0, .ref q)] := hl
  refine lv_aload_n hx hb dX2_init_0 rfl (lv_at hl 0 rfl) ?_
  refine W.objInit hx hb hown (hts (.methodLink RX2 3 objectInit) (by decide +kernel)) (hts (.instanceMethod objectInit) (by decide +kernel)) (hts (.code objectInit ⟨#[0xb1]⟩ 1 none) (by decide +kernel)) rfl (by rw [hml]; exact hl.1) rfl dX2_init_1 (Nat.le_of_ble_eq_true rfl) (Nat.le_of_ble_eq_true rfl) ?_
  refine W.eq (g2 := F0 m 4 ls []) rfl ?_
  refine lv_aload_n hx hb dX2_init_4 rfl (lv_at hl 0 rfl) ?_
  refine lv_bipush (v := 6) hx hb dX2_init_5 (by decide) ?_
  refine k_newa (atype := .int) (ty := .int) (c0 := G.2.1) (a0 := (6, .inl (fun _ => 0))) (N' := 6) hx hb (hts (.arrayClass .int) (by decide +kernel)) rfl hE 0 rfl ra_int hP hD hS hA (fun _ => rfl) (by decide) rfl (by decide) (Nat.le_of_ble_eq_true rfl) (Nat.le_of_ble_eq_true rfl) dX2_init_7 (fun q1 H hP hD hS => ?_)
  have hP : va_P G.1 vwCl [(q, .inr (2, [.null, .null, .null, .null, .null, .int 0])), wcI G q1 6 (fun _ => 0)] H := hP
  have hD : va_D _ [(q, .inr (2, [.null, .null, .null, .null, .null, .int 0])), wcI G q1 6 (fun _ => 0)] := hD
  refine W.widen (k := 1) (n := 6) (by decide) (by decide) ?_
  refine va_putF (D := G.1) (ci := 2) (v := .ref q1) (ty := .array .int) (C := RX2) (T := TX2) (N := 6) hx hb hts iw_X2_init tyX2 tyX2_ok nmX2 hown hE.1 hP hD hS 0 rfl rfl 0 (by decide) (hts (.fieldLink RX2 9 "Rackrail$Store" "shelfClimates" "[I") (by decide +kernel)) (fun _ h9 => h9) rfl hin rfl (by decide +kernel) rfl rfl (Nat.le_of_ble_eq_true rfl) dX2_init_9 (fun H locs hP hD hS => ?_)
  have hP : va_P G.1 vwCl [(q, .inr (2, [.ref q1, .null, .null, .null, .null, .int 0])), wcI G q1 6 (fun _ => 0)] H := hP
  have hD : va_D _ [(q, .inr (2, [.ref q1, .null, .null, .null, .null, .int 0])), wcI G q1 6 (fun _ => 0)] := hD
  refine lv_aload_n hx hb dX2_init_12 rfl (lv_at hl 0 rfl) ?_
  refine lv_bipush (v := 20) hx hb dX2_init_13 (by decide) ?_
  refine k_newa (atype := .int) (ty := .int) (c0 := G.2.1) (a0 := (20, .inl (fun _ => 0))) (N' := 20) hx hb (hts (.arrayClass .int) (by decide +kernel)) rfl hE 0 rfl ra_int hP hD hS hA (fun _ => rfl) (by decide) rfl (by decide) (Nat.le_of_ble_eq_true rfl) (Nat.le_of_ble_eq_true rfl) dX2_init_15 (fun q2 H hP hD hS => ?_)
  have hP : va_P G.1 vwCl [(q, .inr (2, [.ref q1, .null, .null, .null, .null, .int 0])), wcI G q1 6 (fun _ => 0), wcI G q2 20 (fun _ => 0)] H := hP
  have hD : va_D _ [(q, .inr (2, [.ref q1, .null, .null, .null, .null, .int 0])), wcI G q1 6 (fun _ => 0), wcI G q2 20 (fun _ => 0)] := hD
  refine W.widen (k := 2) (n := 26) (by decide) (by decide) ?_
  refine va_putF (D := G.1) (ci := 2) (v := .ref q2) (ty := .array .int) (C := RX2) (T := TX2) (N := 6) hx hb hts iw_X2_init tyX2 tyX2_ok nmX2 hown hE.1 hP hD hS 0 rfl rfl 1 (by decide) (hts (.fieldLink RX2 15 "Rackrail$Store" "climates" "[I") (by decide +kernel)) (fun _ h9 => h9) rfl hin rfl (by decide +kernel) rfl rfl (Nat.le_of_ble_eq_true rfl) dX2_init_17 (fun H locs hP hD hS => ?_)
  have hP : va_P G.1 vwCl [(q, .inr (2, [.ref q1, .ref q2, .null, .null, .null, .int 0])), wcI G q1 6 (fun _ => 0), wcI G q2 20 (fun _ => 0)] H := hP
  have hD : va_D _ [(q, .inr (2, [.ref q1, .ref q2, .null, .null, .null, .int 0])), wcI G q1 6 (fun _ => 0), wcI G q2 20 (fun _ => 0)] := hD
  refine lv_aload_n hx hb dX2_init_20 rfl (lv_at hl 0 rfl) ?_
  refine lv_bipush (v := 20) hx hb dX2_init_21 (by decide) ?_
  refine k_newa (atype := .int) (ty := .int) (c0 := G.2.1) (a0 := (20, .inl (fun _ => 0))) (N' := 20) hx hb (hts (.arrayClass .int) (by decide +kernel)) rfl hE 0 rfl ra_int hP hD hS hA (fun _ => rfl) (by decide) rfl (by decide) (Nat.le_of_ble_eq_true rfl) (Nat.le_of_ble_eq_true rfl) dX2_init_23 (fun q3 H hP hD hS => ?_)
  have hP : va_P G.1 vwCl [(q, .inr (2, [.ref q1, .ref q2, .null, .null, .null, .int 0])), wcI G q1 6 (fun _ => 0), wcI G q2 20 (fun _ => 0), wcI G q3 20 (fun _ => 0)] H := hP
  have hD : va_D _ [(q, .inr (2, [.ref q1, .ref q2, .null, .null, .null, .int 0])), wcI G q1 6 (fun _ => 0), wcI G q2 20 (fun _ => 0), wcI G q3 20 (fun _ => 0)] := hD
  refine W.widen (k := 3) (n := 46) (by decide) (by decide) ?_
  refine va_putF (D := G.1) (ci := 2) (v := .ref q3) (ty := .array .int) (C := RX2) (T := TX2) (N := 6) hx hb hts iw_X2_init tyX2 tyX2_ok nmX2 hown hE.1 hP hD hS 0 rfl rfl 2 (by decide) (hts (.fieldLink RX2 18 "Rackrail$Store" "weights" "[I") (by decide +kernel)) (fun _ h9 => h9) rfl hin rfl (by decide +kernel) rfl rfl (Nat.le_of_ble_eq_true rfl) dX2_init_25 (fun H locs hP hD hS => ?_)
  have hP : va_P G.1 vwCl [(q, .inr (2, [.ref q1, .ref q2, .ref q3, .null, .null, .int 0])), wcI G q1 6 (fun _ => 0), wcI G q2 20 (fun _ => 0), wcI G q3 20 (fun _ => 0)] H := hP
  have hD : va_D _ [(q, .inr (2, [.ref q1, .ref q2, .ref q3, .null, .null, .int 0])), wcI G q1 6 (fun _ => 0), wcI G q2 20 (fun _ => 0), wcI G q3 20 (fun _ => 0)] := hD
  refine lv_aload_n hx hb dX2_init_28 rfl (lv_at hl 0 rfl) ?_
  refine lv_bipush (v := 20) hx hb dX2_init_29 (by decide) ?_
  refine k_newa (atype := .int) (ty := .int) (c0 := G.2.1) (a0 := (20, .inl (fun _ => 0))) (N' := 20) hx hb (hts (.arrayClass .int) (by decide +kernel)) rfl hE 0 rfl ra_int hP hD hS hA (fun _ => rfl) (by decide) rfl (by decide) (Nat.le_of_ble_eq_true rfl) (Nat.le_of_ble_eq_true rfl) dX2_init_31 (fun q4 H hP hD hS => ?_)
  have hP : va_P G.1 vwCl [(q, .inr (2, [.ref q1, .ref q2, .ref q3, .null, .null, .int 0])), wcI G q1 6 (fun _ => 0), wcI G q2 20 (fun _ => 0), wcI G q3 20 (fun _ => 0), wcI G q4 20 (fun _ => 0)] H := hP
  have hD : va_D _ [(q, .inr (2, [.ref q1, .ref q2, .ref q3, .null, .null, .int 0])), wcI G q1 6 (fun _ => 0), wcI G q2 20 (fun _ => 0), wcI G q3 20 (fun _ => 0), wcI G q4 20 (fun _ => 0)] := hD
  refine W.widen (k := 4) (n := 66) (by decide) (by decide) ?_
  refine va_putF (D := G.1) (ci := 2) (v := .ref q4) (ty := .array .int) (C := RX2) (T := TX2) (N := 6) hx hb hts iw_X2_init tyX2 tyX2_ok nmX2 hown hE.1 hP hD hS 0 rfl rfl 3 (by decide) (hts (.fieldLink RX2 21 "Rackrail$Store" "kins" "[I") (by decide +kernel)) (fun _ h9 => h9) rfl hin rfl (by decide +kernel) rfl rfl (Nat.le_of_ble_eq_true rfl) dX2_init_33 (fun H locs hP hD hS => ?_)
  have hP : va_P G.1 vwCl [(q, .inr (2, [.ref q1, .ref q2, .ref q3, .ref q4, .null, .int 0])), wcI G q1 6 (fun _ => 0), wcI G q2 20 (fun _ => 0), wcI G q3 20 (fun _ => 0), wcI G q4 20 (fun _ => 0)] H := hP
  have hD : va_D _ [(q, .inr (2, [.ref q1, .ref q2, .ref q3, .ref q4, .null, .int 0])), wcI G q1 6 (fun _ => 0), wcI G q2 20 (fun _ => 0), wcI G q3 20 (fun _ => 0), wcI G q4 20 (fun _ => 0)] := hD
  refine lv_aload_n hx hb dX2_init_36 rfl (lv_at hl 0 rfl) ?_
  refine lv_bipush (v := 20) hx hb dX2_init_37 (by decide) ?_
  refine k_newa (atype := .int) (ty := .int) (c0 := G.2.1) (a0 := (20, .inl (fun _ => 0))) (N' := 20) hx hb (hts (.arrayClass .int) (by decide +kernel)) rfl hE 0 rfl ra_int hP hD hS hA (fun _ => rfl) (by decide) rfl (by decide) (Nat.le_of_ble_eq_true rfl) (Nat.le_of_ble_eq_true rfl) dX2_init_39 (fun q5 H hP hD hS => ?_)
  have hP : va_P G.1 vwCl [(q, .inr (2, [.ref q1, .ref q2, .ref q3, .ref q4, .null, .int 0])), wcI G q1 6 (fun _ => 0), wcI G q2 20 (fun _ => 0), wcI G q3 20 (fun _ => 0), wcI G q4 20 (fun _ => 0), wcI G q5 20 (fun _ => 0)] H := hP
  have hD : va_D _ [(q, .inr (2, [.ref q1, .ref q2, .ref q3, .ref q4, .null, .int 0])), wcI G q1 6 (fun _ => 0), wcI G q2 20 (fun _ => 0), wcI G q3 20 (fun _ => 0), wcI G q4 20 (fun _ => 0), wcI G q5 20 (fun _ => 0)] := hD
  refine W.widen (k := 5) (n := 86) (by decide) (by decide) ?_
  refine va_putF (D := G.1) (ci := 2) (v := .ref q5) (ty := .array .int) (C := RX2) (T := TX2) (N := 6) hx hb hts iw_X2_init tyX2 tyX2_ok nmX2 hown hE.1 hP hD hS 0 rfl rfl 4 (by decide) (hts (.fieldLink RX2 24 "Rackrail$Store" "spots" "[I") (by decide +kernel)) (fun _ h9 => h9) rfl hin rfl (by decide +kernel) rfl rfl (Nat.le_of_ble_eq_true rfl) dX2_init_41 (fun H locs hP hD hS => ?_)
  have hP : va_P G.1 vwCl [(q, .inr (2, [.ref q1, .ref q2, .ref q3, .ref q4, .ref q5, .int 0])), wcI G q1 6 (fun _ => 0), wcI G q2 20 (fun _ => 0), wcI G q3 20 (fun _ => 0), wcI G q4 20 (fun _ => 0), wcI G q5 20 (fun _ => 0)] H := hP
  have hD : va_D _ [(q, .inr (2, [.ref q1, .ref q2, .ref q3, .ref q4, .ref q5, .int 0])), wcI G q1 6 (fun _ => 0), wcI G q2 20 (fun _ => 0), wcI G q3 20 (fun _ => 0), wcI G q4 20 (fun _ => 0), wcI G q5 20 (fun _ => 0)] := hD
  refine lv_aload_n hx hb dX2_init_44 rfl (lv_at hl 0 rfl) ?_
  refine lv_iconst (v := 0) hx hb dX2_init_45 (by decide) ?_
  refine va_put (D := G.1) (ci := 2) (v := .int 0) (ty := .int) (C := RX2) (T := TX2) (N := 6) hx hb hts iw_X2_init tyX2 tyX2_ok nmX2 hown hE.1 hP hD hS 0 rfl rfl 5 (by decide) (hts (.fieldLink RX2 27 "Rackrail$Store" "count" "I") (by decide +kernel)) (fun _ h9 => h9) rfl (by decide +kernel) rfl rfl (Nat.le_of_ble_eq_true rfl) dX2_init_46 (fun H locs hP hD hS => ?_)
  have hP : va_P G.1 vwCl [(q, .inr (2, [.ref q1, .ref q2, .ref q3, .ref q4, .ref q5, .int 0])), wcI G q1 6 (fun _ => 0), wcI G q2 20 (fun _ => 0), wcI G q3 20 (fun _ => 0), wcI G q4 20 (fun _ => 0), wcI G q5 20 (fun _ => 0)] H := hP
  have hD : va_D _ [(q, .inr (2, [.ref q1, .ref q2, .ref q3, .ref q4, .ref q5, .int 0])), wcI G q1 6 (fun _ => 0), wcI G q2 20 (fun _ => 0), wcI G q3 20 (fun _ => 0), wcI G q4 20 (fun _ => 0), wcI G q5 20 (fun _ => 0)] := hD
  exact W.vret hx hb hr (fun t ht _ => ⟨rfl, ⟨_, ⟨q1, q2, q3, q4, q5, rfl⟩, by rw [ht]; exact hP, hD⟩, hS.F ht⟩) hS.2.2 dX2_init_49

theorem iw_X3_init_RX0 : ∀ w ∈ u_ws RX0 TX0 5, w ∈ wsX3_init := by decide +kernel
theorem iw_X3_init_RX1 : ∀ w ∈ u_ws RX1 TX1 7, w ∈ wsX3_init := by decide +kernel
theorem iw_X3_init_RX2 : ∀ w ∈ u_ws RX2 TX2 6, w ∈ wsX3_init := by decide +kernel
theorem iw_X3_init_RX3 : ∀ w ∈ u_ws RX3 TX3 4, w ∈ wsX3_init := by decide +kernel
set_option maxHeartbeats 4000000 in
set_option maxRecDepth 100000 in
theorem c_X3_init (l : Launch) (G : GT) (q sz : Nat) : Met l yX3_init wsX3_init ({ frames := 2, cells := 14, slots := 211, locals := 45 }) (GP G [.ref q] [(q, .inr (3, [.null, .null, .null, .int 0]))] sz) (IQ G (fun w1 => ∃ a : Nat → Nat, a 0 = q ∧ w1 = [wcA a 0, wcS a 0, wcI G (a 2) 6 (fun _ => 0), wcI G (a 3) 20 (fun _ => 0), wcI G (a 4) 20 (fun _ => 0), wcI G (a 5) 20 (fun _ => 0), wcI G (a 6) 20 (fun _ => 0), wcR a 0 0 0 0, wcZ G (a 8) 7 (fun _ => 0), wcZ G (a 9) 4 (fun _ => 0), wcI G (a 10) 6 (fun _ => 0), wcO a 0 0, wcI G (a 12) 30 (fun _ => 0), wcI G (a 13) 30 (fun _ => 0), wcZ G (a 14) 30 (fun _ => 0)]) (va_A [(q, .inr (3, [.null, .null, .null, .int 0]))] sz)) 14 211 (va_A [(q, .inr (3, [.null, .null, .null, .int 0]))] sz) := by
  refine bodyI (cc := cX3_init) (maxL := 1) (ret := none) (by decide) rfl rfl (Nat.le_of_ble_eq_true rfl) ?_
  intro p e s m below meth c ls C hin
  obtain ⟨hx, hb, hr, hts, hown, hlocks, hml, hsz, hP, hE, hD, hA, hS, hl⟩ := C
  subst hsz
  have hl : lv_has ls 1 [(0, .ref q)] := hl
  refine lv_aload_n hx hb dX3_init_0 rfl (lv_at hl 0 rfl) ?_
  refine W.objInit hx hb hown (hts (.methodLink RX3 3 objectInit) (by decide +kernel)) (hts (.instanceMethod objectInit) (by decide +kernel)) (hts (.code objectInit ⟨#[0xb1]⟩ 1 none) (by decide +kernel)) rfl (by rw [hml]; exact hl.1) rfl dX3_init_1 (Nat.le_of_ble_eq_true rfl) (Nat.le_of_ble_eq_true rfl) ?_
  refine W.eq (g2 := F0 m 4 ls []) rfl ?_
  refine lv_aload_n hx hb dX3_init_4 rfl (lv_at hl 0 rfl) ?_
  refine va_new (ci := 2) (fs := [.null, .null, .null, .null, .null, .int 0]) (C := RX2) (T := TX2) (N := 6) hx hb hts iw_X3_init_RX2 tyX2 tyX2_ok hown (hts (.classLink RX3 9 RX2) (by decide +kernel)) (hts (.instantiable RX2 6) (by decide +kernel)) (hts (.initialized RX2) (by decide +kernel)) hE.1 hP hD hS hA rfl (fun j hj => by rcases (show j = 0 ∨ j = 1 ∨ j = 2 ∨ j = 3 ∨ j = 4 ∨ j = 5 by omega) with rfl | rfl | rfl | rfl | rfl | rfl <;> rfl) (Nat.le_of_ble_eq_true rfl) (Nat.le_of_ble_eq_true rfl) dX3_init_5 (fun qs H hP hD hS => ?_)
  have hP : va_P G.1 vwCl [(q, .inr (3, [.null, .null, .null, .int 0])), (qs, .inr (2, [.null, .null, .null, .null, .null, .int 0]))] H := hP
  have hD : va_D _ [(q, .inr (3, [.null, .null, .null, .int 0])), (qs, .inr (2, [.null, .null, .null, .null, .null, .int 0]))] := hD
  refine W.widen (k := 1) (n := 6) (by decide) (by decide) ?_
  refine lv_dup hx hb dX3_init_8 rfl ?_
  refine k_i (wc := [(qs, .inr (2, [.null, .null, .null, .null, .null, .int 0]))]) (wr := [(q, .inr (3, [.null, .null, .null, .int 0]))]) (va_runIN (As := []) (rest := [.ref qs, .ref q]) ⟨hx, hb, hml, hown, hts⟩ (c_X2_init l G qs H.size) ⟨va_cnB (host := "Rackrail") 0 hts gX3_init_X2_init_n11 rfl rfl rfl (hE.2.1 (RX3, 11, yX2_init) (by decide)) (hts (.initialized RX2) (by decide +kernel)) ⟨by decide +kernel, by decide +kernel, by decide +kernel⟩ ⟨Nat.le_of_ble_eq_true rfl, Nat.le_of_ble_eq_true rfl⟩, rfl, hts (.instanceMethod yX2_init) (by decide +kernel)⟩ ⟨GP.blind, GP.go (wc := [(qs, .inr (2, [.null, .null, .null, .null, .null, .int 0]))]) hE hP hD hS hA [1] rfl (by decide) [.ref qs]⟩ rfl rfl hl.1 rfl (lv_room (Nat.le_of_ble_eq_true rfl)) dX3_init_9 ⟨Nat.le_of_ble_eq_true rfl, Nat.le_of_ble_eq_true rfl⟩) hP hD hS hA [1] [0] rfl rfl (by decide) (by decide) (fun H locs w1 hw hP hD hS => ?_)
  obtain ⟨s1, s2, s3, s4, s5, rfl⟩ := hw
  have hP : va_P G.1 vwCl [(q, .inr (3, [.null, .null, .null, .int 0])), (qs, .inr (2, [.ref s1, .ref s2, .ref s3, .ref s4, .ref s5, .int 0])), wcI G s1 6 (fun _ => 0), wcI G s2 20 (fun _ => 0), wcI G s3 20 (fun _ => 0), wcI G s4 20 (fun _ => 0), wcI G s5 20 (fun _ => 0)] H := hP
  have hD : va_D _ [(q, .inr (3, [.null, .null, .null, .int 0])), (qs, .inr (2, [.ref s1, .ref s2, .ref s3, .ref s4, .ref s5, .int 0])), wcI G s1 6 (fun _ => 0), wcI G s2 20 (fun _ => 0), wcI G s3 20 (fun _ => 0), wcI G s4 20 (fun _ => 0), wcI G s5 20 (fun _ => 0)] := hD
  refine W.widen (k := 6) (n := 92) (by decide) (by decide) ?_
  refine va_putF (D := G.1) (ci := 3) (v := .ref qs) (ty := .object "Rackrail$Store") (C := RX3) (T := TX3) (N := 4) hx hb hts iw_X3_init_RX3 tyX3 tyX3_ok nmX3 hown hE.1 hP hD hS 0 rfl rfl 0 (by decide) (hts (.fieldLink RX3 12 "Rackrail" "store" "LRackrail$Store;") (by decide +kernel)) (fun _ h9 => h9) rfl hin rfl (by decide +kernel) rfl rfl (Nat.le_of_ble_eq_true rfl) dX3_init_12 (fun H locs hP hD hS => ?_)
  have hP : va_P G.1 vwCl [(q, .inr (3, [.ref qs, .null, .null, .int 0])), (qs, .inr (2, [.ref s1, .ref s2, .ref s3, .ref s4, .ref s5, .int 0])), wcI G s1 6 (fun _ => 0), wcI G s2 20 (fun _ => 0), wcI G s3 20 (fun _ => 0), wcI G s4 20 (fun _ => 0), wcI G s5 20 (fun _ => 0)] H := hP
  have hD : va_D _ [(q, .inr (3, [.ref qs, .null, .null, .int 0])), (qs, .inr (2, [.ref s1, .ref s2, .ref s3, .ref s4, .ref s5, .int 0])), wcI G s1 6 (fun _ => 0), wcI G s2 20 (fun _ => 0), wcI G s3 20 (fun _ => 0), wcI G s4 20 (fun _ => 0), wcI G s5 20 (fun _ => 0)] := hD
  refine lv_aload_n hx hb dX3_init_15 rfl (lv_at hl 0 rfl) ?_
  refine va_new (ci := 1) (fs := [.null, .null, .null, .int 0, .int 0, .int 0, .int 0]) (C := RX1) (T := TX1) (N := 7) hx hb hts iw_X3_init_RX1 tyX1 tyX1_ok hown (hts (.classLink RX3 16 RX1) (by decide +kernel)) (hts (.instantiable RX1 7) (by decide +kernel)) (hts (.initialized RX1) (by decide +kernel)) hE.1 hP hD hS hA rfl (fun j hj => by rcases (show j = 0 ∨ j = 1 ∨ j = 2 ∨ j = 3 ∨ j = 4 ∨ j = 5 ∨ j = 6 by omega) with rfl | rfl | rfl | rfl | rfl | rfl | rfl <;> rfl) (Nat.le_of_ble_eq_true rfl) (Nat.le_of_ble_eq_true rfl) dX3_init_16 (fun qr H hP hD hS => ?_)
  have hP : va_P G.1 vwCl [(q, .inr (3, [.ref qs, .null, .null, .int 0])), (qs, .inr (2, [.ref s1, .ref s2, .ref s3, .ref s4, .ref s5, .int 0])), wcI G s1 6 (fun _ => 0), wcI G s2 20 (fun _ => 0), wcI G s3 20 (fun _ => 0), wcI G s4 20 (fun _ => 0), wcI G s5 20 (fun _ => 0), (qr, .inr (1, [.null, .null, .null, .int 0, .int 0, .int 0, .int 0]))] H := hP
  have hD : va_D _ [(q, .inr (3, [.ref qs, .null, .null, .int 0])), (qs, .inr (2, [.ref s1, .ref s2, .ref s3, .ref s4, .ref s5, .int 0])), wcI G s1 6 (fun _ => 0), wcI G s2 20 (fun _ => 0), wcI G s3 20 (fun _ => 0), wcI G s4 20 (fun _ => 0), wcI G s5 20 (fun _ => 0), (qr, .inr (1, [.null, .null, .null, .int 0, .int 0, .int 0, .int 0]))] := hD
  refine W.widen (k := 7) (n := 99) (by decide) (by decide) ?_
  refine lv_dup hx hb dX3_init_19 rfl ?_
  refine k_i (wc := [(qr, .inr (1, [.null, .null, .null, .int 0, .int 0, .int 0, .int 0]))]) (wr := [(q, .inr (3, [.ref qs, .null, .null, .int 0])), (qs, .inr (2, [.ref s1, .ref s2, .ref s3, .ref s4, .ref s5, .int 0])), wcI G s1 6 (fun _ => 0), wcI G s2 20 (fun _ => 0), wcI G s3 20 (fun _ => 0), wcI G s4 20 (fun _ => 0), wcI G s5 20 (fun _ => 0)]) (va_runIN (As := []) (rest := [.ref qr, .ref q]) ⟨hx, hb, hml, hown, hts⟩ (c_X1_init l G qr H.size) ⟨va_cnB (host := "Rackrail") 0 hts gX3_init_X1_init_n18 rfl rfl rfl (hE.2.1 (RX3, 18, yX1_init) (by decide)) (hts (.initialized RX1) (by decide +kernel)) ⟨by decide +kernel, by decide +kernel, by decide +kernel⟩ ⟨Nat.le_of_ble_eq_true rfl, Nat.le_of_ble_eq_true rfl⟩, rfl, hts (.instanceMethod yX1_init) (by decide +kernel)⟩ ⟨GP.blind, GP.go (wc := [(qr, .inr (1, [.null, .null, .null, .int 0, .int 0, .int 0, .int 0]))]) hE hP hD hS hA [7] rfl (by decide) [.ref qr]⟩ rfl rfl hl.1 rfl (lv_room (Nat.le_of_ble_eq_true rfl)) dX3_init_20 ⟨Nat.le_of_ble_eq_true rfl, Nat.le_of_ble_eq_true rfl⟩) hP hD hS hA [7] [0, 1, 2, 3, 4, 5, 6] rfl rfl (by decide) (by decide) (fun H locs w1 hw hP hD hS => ?_)
  obtain ⟨r1, r2, r3, rfl⟩ := hw
  have hP : va_P G.1 vwCl [(q, .inr (3, [.ref qs, .null, .null, .int 0])), (qs, .inr (2, [.ref s1, .ref s2, .ref s3, .ref s4, .ref s5, .int 0])), wcI G s1 6 (fun _ => 0), wcI G s2 20 (fun _ => 0), wcI G s3 20 (fun _ => 0), wcI G s4 20 (fun _ => 0), wcI G s5 20 (fun _ => 0), (qr, .inr (1, [.ref r1, .ref r2, .ref r3, .int 0, .int 0, .int 0, .int 0])), wcZ G r1 7 (fun _ => 0), wcZ G r2 4 (fun _ => 0), wcI G r3 6 (fun _ => 0)] H := hP
  have hD : va_D _ [(q, .inr (3, [.ref qs, .null, .null, .int 0])), (qs, .inr (2, [.ref s1, .ref s2, .ref s3, .ref s4, .ref s5, .int 0])), wcI G s1 6 (fun _ => 0), wcI G s2 20 (fun _ => 0), wcI G s3 20 (fun _ => 0), wcI G s4 20 (fun _ => 0), wcI G s5 20 (fun _ => 0), (qr, .inr (1, [.ref r1, .ref r2, .ref r3, .int 0, .int 0, .int 0, .int 0])), wcZ G r1 7 (fun _ => 0), wcZ G r2 4 (fun _ => 0), wcI G r3 6 (fun _ => 0)] := hD
  refine W.widen (k := 10) (n := 116) (by decide) (by decide) ?_
  refine va_putF (D := G.1) (ci := 3) (v := .ref qr) (ty := .object "Rackrail$Rail") (C := RX3) (T := TX3) (N := 4) hx hb hts iw_X3_init_RX3 tyX3 tyX3_ok nmX3 hown hE.1 hP hD hS 0 rfl rfl 1 (by decide) (hts (.fieldLink RX3 19 "Rackrail" "rail" "LRackrail$Rail;") (by decide +kernel)) (fun _ h9 => h9) rfl hin rfl (by decide +kernel) rfl rfl (Nat.le_of_ble_eq_true rfl) dX3_init_23 (fun H locs hP hD hS => ?_)
  have hP : va_P G.1 vwCl [(q, .inr (3, [.ref qs, .ref qr, .null, .int 0])), (qs, .inr (2, [.ref s1, .ref s2, .ref s3, .ref s4, .ref s5, .int 0])), wcI G s1 6 (fun _ => 0), wcI G s2 20 (fun _ => 0), wcI G s3 20 (fun _ => 0), wcI G s4 20 (fun _ => 0), wcI G s5 20 (fun _ => 0), (qr, .inr (1, [.ref r1, .ref r2, .ref r3, .int 0, .int 0, .int 0, .int 0])), wcZ G r1 7 (fun _ => 0), wcZ G r2 4 (fun _ => 0), wcI G r3 6 (fun _ => 0)] H := hP
  have hD : va_D _ [(q, .inr (3, [.ref qs, .ref qr, .null, .int 0])), (qs, .inr (2, [.ref s1, .ref s2, .ref s3, .ref s4, .ref s5, .int 0])), wcI G s1 6 (fun _ => 0), wcI G s2 20 (fun _ => 0), wcI G s3 20 (fun _ => 0), wcI G s4 20 (fun _ => 0), wcI G s5 20 (fun _ => 0), (qr, .inr (1, [.ref r1, .ref r2, .ref r3, .int 0, .int 0, .int 0, .int 0])), wcZ G r1 7 (fun _ => 0), wcZ G r2 4 (fun _ => 0), wcI G r3 6 (fun _ => 0)] := hD
  refine lv_aload_n hx hb dX3_init_26 rfl (lv_at hl 0 rfl) ?_
  refine va_new (ci := 0) (fs := [.null, .null, .null, .int 0, .int 0]) (C := RX0) (T := TX0) (N := 5) hx hb hts iw_X3_init_RX0 tyX0 tyX0_ok hown (hts (.classLink RX3 23 RX0) (by decide +kernel)) (hts (.instantiable RX0 5) (by decide +kernel)) (hts (.initialized RX0) (by decide +kernel)) hE.1 hP hD hS hA rfl (fun j hj => by rcases (show j = 0 ∨ j = 1 ∨ j = 2 ∨ j = 3 ∨ j = 4 by omega) with rfl | rfl | rfl | rfl | rfl <;> rfl) (Nat.le_of_ble_eq_true rfl) (Nat.le_of_ble_eq_true rfl) dX3_init_27 (fun qo H hP hD hS => ?_)
  have hP : va_P G.1 vwCl [(q, .inr (3, [.ref qs, .ref qr, .null, .int 0])), (qs, .inr (2, [.ref s1, .ref s2, .ref s3, .ref s4, .ref s5, .int 0])), wcI G s1 6 (fun _ => 0), wcI G s2 20 (fun _ => 0), wcI G s3 20 (fun _ => 0), wcI G s4 20 (fun _ => 0), wcI G s5 20 (fun _ => 0), (qr, .inr (1, [.ref r1, .ref r2, .ref r3, .int 0, .int 0, .int 0, .int 0])), wcZ G r1 7 (fun _ => 0), wcZ G r2 4 (fun _ => 0), wcI G r3 6 (fun _ => 0), (qo, .inr (0, [.null, .null, .null, .int 0, .int 0]))] H := hP
  have hD : va_D _ [(q, .inr (3, [.ref qs, .ref qr, .null, .int 0])), (qs, .inr (2, [.ref s1, .ref s2, .ref s3, .ref s4, .ref s5, .int 0])), wcI G s1 6 (fun _ => 0), wcI G s2 20 (fun _ => 0), wcI G s3 20 (fun _ => 0), wcI G s4 20 (fun _ => 0), wcI G s5 20 (fun _ => 0), (qr, .inr (1, [.ref r1, .ref r2, .ref r3, .int 0, .int 0, .int 0, .int 0])), wcZ G r1 7 (fun _ => 0), wcZ G r2 4 (fun _ => 0), wcI G r3 6 (fun _ => 0), (qo, .inr (0, [.null, .null, .null, .int 0, .int 0]))] := hD
  refine W.widen (k := 11) (n := 121) (by decide) (by decide) ?_
  refine lv_dup hx hb dX3_init_30 rfl ?_
  refine k_i (wc := [(qo, .inr (0, [.null, .null, .null, .int 0, .int 0]))]) (wr := [(q, .inr (3, [.ref qs, .ref qr, .null, .int 0])), (qs, .inr (2, [.ref s1, .ref s2, .ref s3, .ref s4, .ref s5, .int 0])), wcI G s1 6 (fun _ => 0), wcI G s2 20 (fun _ => 0), wcI G s3 20 (fun _ => 0), wcI G s4 20 (fun _ => 0), wcI G s5 20 (fun _ => 0), (qr, .inr (1, [.ref r1, .ref r2, .ref r3, .int 0, .int 0, .int 0, .int 0])), wcZ G r1 7 (fun _ => 0), wcZ G r2 4 (fun _ => 0), wcI G r3 6 (fun _ => 0)]) (va_runIN (As := []) (rest := [.ref qo, .ref q]) ⟨hx, hb, hml, hown, hts⟩ (c_X0_init l G qo H.size) ⟨va_cnB (host := "Rackrail") 0 hts gX3_init_X0_init_n25 rfl rfl rfl (hE.2.1 (RX3, 25, yX0_init) (by decide)) (hts (.initialized RX0) (by decide +kernel)) ⟨by decide +kernel, by decide +kernel, by decide +kernel⟩ ⟨Nat.le_of_ble_eq_true rfl, Nat.le_of_ble_eq_true rfl⟩, rfl, hts (.instanceMethod yX0_init) (by decide +kernel)⟩ ⟨GP.blind, GP.go (wc := [(qo, .inr (0, [.null, .null, .null, .int 0, .int 0]))]) hE hP hD hS hA [11] rfl (by decide) [.ref qo]⟩ rfl rfl hl.1 rfl (lv_room (Nat.le_of_ble_eq_true rfl)) dX3_init_31 ⟨Nat.le_of_ble_eq_true rfl, Nat.le_of_ble_eq_true rfl⟩) hP hD hS hA [11] [0, 1, 2, 3, 4, 5, 6, 7, 8, 9, 10] rfl rfl (by decide) (by decide) (fun H locs w1 hw hP hD hS => ?_)
  obtain ⟨o1, o2, o3, rfl⟩ := hw
  have hP : va_P G.1 vwCl [(q, .inr (3, [.ref qs, .ref qr, .null, .int 0])), (qs, .inr (2, [.ref s1, .ref s2, .ref s3, .ref s4, .ref s5, .int 0])), wcI G s1 6 (fun _ => 0), wcI G s2 20 (fun _ => 0), wcI G s3 20 (fun _ => 0), wcI G s4 20 (fun _ => 0), wcI G s5 20 (fun _ => 0), (qr, .inr (1, [.ref r1, .ref r2, .ref r3, .int 0, .int 0, .int 0, .int 0])), wcZ G r1 7 (fun _ => 0), wcZ G r2 4 (fun _ => 0), wcI G r3 6 (fun _ => 0), (qo, .inr (0, [.ref o1, .ref o2, .ref o3, .int 0, .int 0])), wcI G o1 30 (fun _ => 0), wcI G o2 30 (fun _ => 0), wcZ G o3 30 (fun _ => 0)] H := hP
  have hD : va_D _ [(q, .inr (3, [.ref qs, .ref qr, .null, .int 0])), (qs, .inr (2, [.ref s1, .ref s2, .ref s3, .ref s4, .ref s5, .int 0])), wcI G s1 6 (fun _ => 0), wcI G s2 20 (fun _ => 0), wcI G s3 20 (fun _ => 0), wcI G s4 20 (fun _ => 0), wcI G s5 20 (fun _ => 0), (qr, .inr (1, [.ref r1, .ref r2, .ref r3, .int 0, .int 0, .int 0, .int 0])), wcZ G r1 7 (fun _ => 0), wcZ G r2 4 (fun _ => 0), wcI G r3 6 (fun _ => 0), (qo, .inr (0, [.ref o1, .ref o2, .ref o3, .int 0, .int 0])), wcI G o1 30 (fun _ => 0), wcI G o2 30 (fun _ => 0), wcZ G o3 30 (fun _ => 0)] := hD
  refine W.widen (k := 14) (n := 211) (by decide) (by decide) ?_
  refine va_putF (D := G.1) (ci := 3) (v := .ref qo) (ty := .object "Rackrail$Orders") (C := RX3) (T := TX3) (N := 4) hx hb hts iw_X3_init_RX3 tyX3 tyX3_ok nmX3 hown hE.1 hP hD hS 0 rfl rfl 2 (by decide) (hts (.fieldLink RX3 26 "Rackrail" "orders" "LRackrail$Orders;") (by decide +kernel)) (fun _ h9 => h9) rfl hin rfl (by decide +kernel) rfl rfl (Nat.le_of_ble_eq_true rfl) dX3_init_34 (fun H locs hP hD hS => ?_)
  have hP : va_P G.1 vwCl [(q, .inr (3, [.ref qs, .ref qr, .ref qo, .int 0])), (qs, .inr (2, [.ref s1, .ref s2, .ref s3, .ref s4, .ref s5, .int 0])), wcI G s1 6 (fun _ => 0), wcI G s2 20 (fun _ => 0), wcI G s3 20 (fun _ => 0), wcI G s4 20 (fun _ => 0), wcI G s5 20 (fun _ => 0), (qr, .inr (1, [.ref r1, .ref r2, .ref r3, .int 0, .int 0, .int 0, .int 0])), wcZ G r1 7 (fun _ => 0), wcZ G r2 4 (fun _ => 0), wcI G r3 6 (fun _ => 0), (qo, .inr (0, [.ref o1, .ref o2, .ref o3, .int 0, .int 0])), wcI G o1 30 (fun _ => 0), wcI G o2 30 (fun _ => 0), wcZ G o3 30 (fun _ => 0)] H := hP
  have hD : va_D _ [(q, .inr (3, [.ref qs, .ref qr, .ref qo, .int 0])), (qs, .inr (2, [.ref s1, .ref s2, .ref s3, .ref s4, .ref s5, .int 0])), wcI G s1 6 (fun _ => 0), wcI G s2 20 (fun _ => 0), wcI G s3 20 (fun _ => 0), wcI G s4 20 (fun _ => 0), wcI G s5 20 (fun _ => 0), (qr, .inr (1, [.ref r1, .ref r2, .ref r3, .int 0, .int 0, .int 0, .int 0])), wcZ G r1 7 (fun _ => 0), wcZ G r2 4 (fun _ => 0), wcI G r3 6 (fun _ => 0), (qo, .inr (0, [.ref o1, .ref o2, .ref o3, .int 0, .int 0])), wcI G o1 30 (fun _ => 0), wcI G o2 30 (fun _ => 0), wcZ G o3 30 (fun _ => 0)] := hD
  refine lv_aload_n hx hb dX3_init_37 rfl (lv_at hl 0 rfl) ?_
  refine lv_iconst (v := 0) hx hb dX3_init_38 (by decide) ?_
  refine va_put (D := G.1) (ci := 3) (v := .int 0) (ty := .int) (C := RX3) (T := TX3) (N := 4) hx hb hts iw_X3_init_RX3 tyX3 tyX3_ok nmX3 hown hE.1 hP hD hS 0 rfl rfl 3 (by decide) (hts (.fieldLink RX3 30 "Rackrail" "clock" "I") (by decide +kernel)) (fun _ h9 => h9) rfl (by decide +kernel) rfl rfl (Nat.le_of_ble_eq_true rfl) dX3_init_39 (fun H locs hP hD hS => ?_)
  have hP : va_P G.1 vwCl [(q, .inr (3, [.ref qs, .ref qr, .ref qo, .int 0])), (qs, .inr (2, [.ref s1, .ref s2, .ref s3, .ref s4, .ref s5, .int 0])), wcI G s1 6 (fun _ => 0), wcI G s2 20 (fun _ => 0), wcI G s3 20 (fun _ => 0), wcI G s4 20 (fun _ => 0), wcI G s5 20 (fun _ => 0), (qr, .inr (1, [.ref r1, .ref r2, .ref r3, .int 0, .int 0, .int 0, .int 0])), wcZ G r1 7 (fun _ => 0), wcZ G r2 4 (fun _ => 0), wcI G r3 6 (fun _ => 0), (qo, .inr (0, [.ref o1, .ref o2, .ref o3, .int 0, .int 0])), wcI G o1 30 (fun _ => 0), wcI G o2 30 (fun _ => 0), wcZ G o3 30 (fun _ => 0)] H := hP
  have hD : va_D _ [(q, .inr (3, [.ref qs, .ref qr, .ref qo, .int 0])), (qs, .inr (2, [.ref s1, .ref s2, .ref s3, .ref s4, .ref s5, .int 0])), wcI G s1 6 (fun _ => 0), wcI G s2 20 (fun _ => 0), wcI G s3 20 (fun _ => 0), wcI G s4 20 (fun _ => 0), wcI G s5 20 (fun _ => 0), (qr, .inr (1, [.ref r1, .ref r2, .ref r3, .int 0, .int 0, .int 0, .int 0])), wcZ G r1 7 (fun _ => 0), wcZ G r2 4 (fun _ => 0), wcI G r3 6 (fun _ => 0), (qo, .inr (0, [.ref o1, .ref o2, .ref o3, .int 0, .int 0])), wcI G o1 30 (fun _ => 0), wcI G o2 30 (fun _ => 0), wcZ G o3 30 (fun _ => 0)] := hD
  exact W.vret hx hb hr (fun t ht _ => ⟨rfl, ⟨_, ⟨fun i => ([q, qs, s1, s2, s3, s4, s5, qr, r1, r2, r3, qo, o1, o2, o3] : List Nat).getD i 0, rfl, rfl⟩, by rw [ht]; exact hP, hD⟩, hS.F ht⟩) hS.2.2 dX3_init_42
end
section
/-! numbers of the class (proved for the whole; the model left out) -/
theorem nI_nm1 {n : Nat} (h : n < 2 ^ 31) : ¬ nI n = -1 := by
  intro e
  have h1 := congrArg Int32.toInt e
  rw [nI_toInt h] at h1
  have h2 : (-1 : Int32).toInt = -1 := by decide
  rw [h2] at h1
  omega
theorem nI_nm2 {n : Nat} (h : n < 2 ^ 31) : ¬ nI n = -2 := by
  intro e
  have h1 := congrArg Int32.toInt e
  rw [nI_toInt h] at h1
  have h2 : (-2 : Int32).toInt = -2 := by decide
  rw [h2] at h1
  omega
theorem nI_sub1 {n : Nat} (h : 0 < n) : nI n - 1 = nI (n - 1) := by
  obtain ⟨q, rfl⟩ : ∃ q, n = q + 1 := ⟨n - 1, by omega⟩
  rw [nI_pred]; rfl
def sumN (f : Nat → Int32) : Nat → Int32
  | 0 => 0
  | m + 1 => sumN f m + f m
theorem sum_congr {f g : Nat → Int32} : ∀ m : Nat, (∀ i, i < m → f i = g i) → sumN f m = sumN g m
  | 0, _ => rfl
  | m + 1, h => by
    show sumN f m + f m = sumN g m + g m
    rw [sum_congr m (fun i hi => h i (by omega)), h m (by omega)]
theorem sum_zero {f : Nat → Int32} (m : Nat) (h : ∀ i, i < m → f i = 0) : sumN f m = 0 := by
  induction m with
  | zero => rfl
  | succ m ih =>
    show sumN f m + f m = 0
    rw [ih (fun i hi => h i (by omega)), h m (by omega)]; rfl
theorem sum_one {f : Nat → Int32} (m i0 : Nat) (h0 : i0 < m) (h : ∀ i, i < m → i ≠ i0 → f i = 0) : sumN f m = f i0 := by
  induction m with
  | zero => omega
  | succ m ih =>
    show sumN f m + f m = f i0
    by_cases e : i0 = m
    · subst e
      rw [sum_zero i0 (fun i hi => h i (by omega) (by omega))]
      exact Int32.zero_add _
    · rw [ih (by omega) (fun i hi => h i (by omega)), h m (by omega) (fun z => e z.symm)]
      exact Int32.add_zero _
theorem sum_add {f g : Nat → Int32} (m : Nat) : sumN (fun i => f i + g i) m = sumN f m + sumN g m := by
  induction m with
  | zero => rfl
  | succ m ih =>
    show sumN (fun i => f i + g i) m + (f m + g m) = (sumN f m + f m) + (sumN g m + g m)
    rw [ih]
    ac_rfl
theorem sum_swap {h : Nat → Nat → Int32} (n m : Nat) : sumN (fun b => sumN (fun i => h b i) m) n = sumN (fun i => sumN (fun b => h b i) n) m := by
  induction n with
  | zero =>
    exact (sum_zero m (fun i _ => rfl)).symm
  | succ n ih =>
    show sumN (fun b => sumN (fun i => h b i) m) n + sumN (fun i => h n i) m = sumN (fun i => sumN (fun b => h b i) n + h n i) m
    rw [ih, sum_add]
def TT (k : Nat) : Nat := 100 * (k / 6) + 10 * (k / 3 % 2) + k % 3
theorem TT_lt {k : Nat} (h : k < 36) : TT k < 600 := by unfold TT; omega
theorem TT_inj {k j : Nat} (hk : k < 36) (hj : j < 36) (h : TT k = TT j) : k = j := by unfold TT at h; omega
theorem TT_nI {k j : Nat} (hk : k < 36) (hj : j < 36) : nI (TT k) = nI (TT j) ↔ k = j :=
  ⟨fun h => TT_inj hk hj ((nI_eq (by have := TT_lt hk; omega) (by have := TT_lt hj; omega)).mp h), fun h => by rw [h]⟩
theorem TT_nm1 {k : Nat} (h : k < 36) : ¬ nI (TT k) = -1 := nI_nm1 (by have := TT_lt h; omega)
theorem shelfAt_eq {j : Nat} (h : j < 600) : f_X3_shelfAt (nI j) = nI (j / 100) := by
  rw [f_X3_shelfAt]; exact pk_div (d := 100) (by omega) (by decide) (by decide)
theorem sideAt_eq {j : Nat} (h : j < 2 ^ 31) : f_X3_sideAt (nI j) = nI (j / 10 % 10) := by
  have e1 : nI j / 10 = nI (j / 10) := pk_div (d := 10) h (by decide) (by decide)
  rw [f_X3_sideAt, e1]
  exact pk_rem (d := 10) (by omega) (by decide) (by decide)
theorem placeAt_eq {j : Nat} (h : j < 2 ^ 31) : f_X3_placeAt (nI j) = nI (j % 10) := by
  rw [f_X3_placeAt]
  exact pk_rem (d := 10) h (by decide) (by decide)
theorem shelfT {k : Nat} (h : k < 36) : f_X3_shelfAt (nI (TT k)) = nI (k / 6) := by
  rw [shelfAt_eq (TT_lt h)]
  congr 1
  unfold TT; omega
theorem aisleT {k : Nat} (h : k < 36) : f_X3_aisleAt (nI (TT k)) = nI (k / 6 + k / 3 % 2) := by
  have h2 := TT_lt h
  rw [f_X3_aisleAt, shelfT h, sideAt_eq (by omega), nI_add]
  congr 1
  unfold TT; omega
theorem spotAtT {s p : Nat} (hs : s < 6) (hp : p < 6) : f_X3_spotAt (nI s) (nI (p / 3)) (nI (p % 3)) = nI (TT (6 * s + p)) := by
  rw [f_X3_spotAt, show (100 : Int32) * nI s = nI (100 * s) from pk_mul 100 _, show (10 : Int32) * nI (p / 3) = nI (10 * (p / 3)) from pk_mul 10 _, nI_add, nI_add]
  congr 1
  unfold TT; omega
theorem below_iff {x : Int32} {N : Nat} {y : Int32} (hy : y = nI N) (hN : N < 2 ^ 31) : f_X3_isBelow x y = 0 ↔ ¬ vp_in x N := by
  constructor
  · intro h hin
    obtain ⟨j, hj, rfl⟩ := vp_in_of hin hN
    rw [f_X3_isBelow, if_neg (nI_pos (by omega)), if_neg (by rw [hy]; exact nI_ge hj hN)] at h
    exact absurd h (by decide)
  · intro h
    by_cases z : f_X3_isBelow x y = 0
    · exact z
    · exact absurd (in_below hy hN z) h
theorem vp_in0 {x : Int32} : ¬ vp_in x 0 := fun h => h (Or.inr (Nat.zero_le _))
theorem has_iff {x : Int32} {n : Nat} (hn : n ≤ 20) : f_X2_has (nI n) x = 0 ↔ ¬ vp_in x n := by
  rw [f_X2_has]; exact below_iff rfl (by omega)
theorem vp_dec {x : Int32} {n : Nat} (hn : n < 2 ^ 31) : (¬ vp_in x n) ∨ ∃ j : Nat, j < n ∧ x = nI j := by
  by_cases h : vp_in x n
  · exact Or.inr (vp_in_of h hn)
  · exact Or.inl h
def RS (n : Nat) (sp mli : Nat → Int32) : Prop :=
  (∀ b, b < n → sp b = -1 ∨ ∃ k, k < 36 ∧ sp b = nI (TT k)) ∧ (∀ k, k < 36 → mli k = nI 0 ∨ ∃ b, b < n ∧ mli k = nI (b + 1)) ∧ ∀ k b, k < 36 → b < n → (sp b = nI (TT k) ↔ mli k = nI (b + 1))
section PLACE
variable {n : Nat} {sp mli : Nat → Int32}
theorem whereIs_eq (hn : n ≤ 20) {b : Nat} (hb : b < n) : f_X2_whereIs (nI n) sp (nI b) = sp b := by
  rw [f_X2_whereIs, if_neg, nI_clamp (by omega)]
  rw [has_iff hn]
  exact fun z => z (vp_in_nI hb (by omega))
theorem boxIn_L (x : Int32) : ∀ (r j : Nat), j + r = n → n ≤ 20 → ((∀ b, j ≤ b → b < n → sp b ≠ x) ∧ f_X2_boxIn_L sp x r j = -1) ∨ ∃ b, j ≤ b ∧ b < n ∧ sp b = x ∧ f_X2_boxIn_L sp x r j = nI b := by
  intro r
  induction r with
  | zero => intro j hj _; exact Or.inl ⟨fun b h1 h2 => by omega, by rw [f_X2_boxIn_L]⟩
  | succ r ih =>
    intro j hj hn
    rw [f_X2_boxIn_L, nI_clamp (by omega)]
    by_cases c : sp j = x
    · rw [if_pos c]; exact Or.inr ⟨j, Nat.le_refl j, by omega, c, rfl⟩
    · rw [if_neg c]
      rcases ih (j + 1) (by omega) hn with ⟨a, e⟩ | ⟨b, h1, h2, h3, e⟩
      · refine Or.inl ⟨fun b h1 h2 => ?_, e⟩
        by_cases z : b = j
        · rw [z]; exact c
        · exact a b (by omega) h2
      · exact Or.inr ⟨b, by omega, h2, h3, e⟩
theorem boxIn_eq (h : RS n sp mli) (hn : n ≤ 20) {k : Nat} (hk : k < 36) : f_X2_boxIn (nI n) sp (nI (TT k)) = mli k - 1 := by
  rw [f_X2_boxIn, nI_clamp (by omega)]
  rcases boxIn_L (sp := sp) (nI (TT k)) n 0 (by omega) hn with ⟨a, e⟩ | ⟨b, -, h2, h3, e⟩
  · rw [e]
    rcases h.2.1 k hk with z | ⟨b, hb, z⟩
    · rw [z]; rfl
    · exact absurd ((h.2.2 k b hk hb).mpr z) (a b (Nat.zero_le b) hb)
  · rw [e, (h.2.2 k b hk h2).mp h3, nI_pred]
theorem free_iff (h : RS n sp mli) (hn : n ≤ 20) {k : Nat} (hk : k < 36) : f_X2_boxIn (nI n) sp (nI (TT k)) = -1 ↔ mli k = 0 := by
  rw [boxIn_eq h hn hk]
  rcases h.2.1 k hk with z | ⟨b, hb, z⟩
  · rw [z]; exact ⟨fun _ => rfl, fun _ => rfl⟩
  · rw [z, nI_pred]
    exact ⟨fun q => absurd q (nI_nm1 (by omega)), fun q => absurd q (nI_ne0 (by omega) (by omega))⟩
theorem sum_both (h : RS n sp mli) (hn : n ≤ 20) (lo m : Nat) (hm : lo + m ≤ 36) (F : Nat → Nat → Int32) {X M : Nat → Int32}
    (hX : ∀ b, b < n → (X b = 0 ∧ ∀ i, i < m → sp b ≠ nI (TT (lo + i))) ∨ ∃ i, i < m ∧ sp b = nI (TT (lo + i)) ∧ X b = F b (lo + i))
    (hM : ∀ i, i < m → (M i = 0 ∧ mli (lo + i) = nI 0) ∨ ∃ b, b < n ∧ mli (lo + i) = nI (b + 1) ∧ M i = F b (lo + i)) : sumN X n = sumN M m := by
  have e1 : sumN X n = sumN (fun b => sumN (fun i => if mli (lo + i) = nI (b + 1) then F b (lo + i) else 0) m) n := by
    refine sum_congr n (fun b hb => ?_)
    rcases hX b hb with ⟨z, a⟩ | ⟨i, hi, a, z⟩
    · rw [z]
      refine (sum_zero m (fun i hi => if_neg fun q => a i hi ((h.2.2 (lo + i) b (by omega) hb).mpr q))).symm
    · rw [z, sum_one m i hi]
      · rw [if_pos ((h.2.2 (lo + i) b (by omega) hb).mp a)]
      · intro i2 hi2 hne
        refine if_neg fun q => hne ?_
        have q2 := (h.2.2 (lo + i2) b (by omega) hb).mpr q
        rw [a] at q2
        have := (TT_nI (by omega) (by omega)).mp q2
        omega
  have e2 : sumN M m = sumN (fun i => sumN (fun b => if mli (lo + i) = nI (b + 1) then F b (lo + i) else 0) n) m := by
    refine sum_congr m (fun i hi => ?_)
    rcases hM i hi with ⟨z, a⟩ | ⟨b, hb, a, z⟩
    · rw [z]
      refine (sum_zero n (fun b hb => if_neg fun q => ?_)).symm
      rw [a] at q
      exact absurd q.symm (nI_ne0 (by omega) (by omega))
    · rw [z, sum_one n b hb]
      · rw [if_pos a]
      · intro b2 hb2 hne
        refine if_neg fun q => hne ?_
        rw [a] at q
        have := (nI_eq (by omega) (by omega)).mp q
        omega
  rw [e1, e2]
  exact sum_swap n m
theorem liesOn_eq (hn : n ≤ 20) {b : Nat} (hb : b < n) (x : Int32) : f_X2_liesOn (nI n) sp (nI b) x = if sp b = -1 then 0 else if f_X3_shelfAt (sp b) = x then 1 else 0 := by
  rw [f_X2_liesOn, whereIs_eq hn hb]
theorem lies_cases (h : RS n sp mli) (hn : n ≤ 20) {b s : Nat} (hb : b < n) (hs : s < 6) :
    (f_X2_liesOn (nI n) sp (nI b) (nI s) = 0 ∧ ∀ i, i < 6 → sp b ≠ nI (TT (6 * s + i))) ∨ (¬ f_X2_liesOn (nI n) sp (nI b) (nI s) = 0 ∧ ∃ i, i < 6 ∧ sp b = nI (TT (6 * s + i))) := by
  rw [liesOn_eq hn hb]
  rcases h.1 b hb with e | ⟨k, hk, e⟩
  · rw [if_pos e]
    exact Or.inl ⟨rfl, fun i hi q => TT_nm1 (k := 6 * s + i) (by omega) (q.symm.trans e)⟩
  · rw [if_neg (by rw [e]; exact TT_nm1 hk), e, shelfT hk]
    by_cases c : k / 6 = s
    · rw [if_pos (by rw [c])]
      exact Or.inr ⟨by decide, k - 6 * s, by omega, by congr 2; omega⟩
    · rw [if_neg (fun q => c ((nI_eq (by omega) (by omega)).mp q))]
      refine Or.inl ⟨rfl, fun i hi q => c ?_⟩
      have := (TT_nI hk (by omega)).mp q
      omega
theorem weightOn_sum (wt : Nat → Int32) (x : Int32) : ∀ (r j : Nat) (acc : Int32), j + r < 2 ^ 31 → acc = sumN (fun b => if f_X2_liesOn (nI n) sp (nI b) x = 0 then 0 else wt b) j →
    f_X2_weightOn_L (nI n) wt sp x r j acc = sumN (fun b => if f_X2_liesOn (nI n) sp (nI b) x = 0 then 0 else wt b) (j + r) := by
  intro r
  induction r with
  | zero => intro j acc _ h; rw [f_X2_weightOn_L]; exact h
  | succ r ih =>
    intro j acc hj h
    rw [f_X2_weightOn_L, nI_clamp (by omega), show j + (r + 1) = (j + 1) + r by omega]
    by_cases c : f_X2_liesOn (nI n) sp (nI j) x = 0
    · rw [if_pos c]
      refine ih (j + 1) acc (by omega) ?_
      show acc = sumN _ j + (if f_X2_liesOn (nI n) sp (nI j) x = 0 then 0 else wt j)
      rw [if_pos c, ← h]; exact (Int32.add_zero _).symm
    · rw [if_neg c]
      refine ih (j + 1) _ (by omega) ?_
      show acc + wt j = sumN _ j + (if f_X2_liesOn (nI n) sp (nI j) x = 0 then 0 else wt j)
      rw [if_neg c, ← h]
theorem climateOf_eq (sc : Nat → Int32) {s : Nat} (hs : s < 6) : f_X2_climateOf sc (nI s) = sc s := by
  rw [f_X2_climateOf, if_neg, nI_clamp (by omega)]
  exact fun z => (below_iff (N := 6) rfl (by decide)).mp z (vp_in_nI hs (by decide))
theorem isWrong_eq (hn : n ≤ 20) {b : Nat} (hb : b < n) (sc cl : Nat → Int32) : f_X2_isWrong (nI n) sc cl sp (nI b) = if sp b = -1 then 0 else if cl b = f_X2_climateOf sc (f_X3_shelfAt (sp b)) then 0 else 1 := by
  rw [f_X2_isWrong, whereIs_eq hn hb, nI_clamp (by omega)]
theorem isWrong_T (hn : n ≤ 20) {b k : Nat} (hb : b < n) (hk : k < 36) (e : sp b = nI (TT k)) (sc cl : Nat → Int32) : f_X2_isWrong (nI n) sc cl sp (nI b) = if cl b = sc (k / 6) then 0 else 1 := by
  rw [isWrong_eq hn hb, if_neg (by rw [e]; exact TT_nm1 hk), e, shelfT hk, climateOf_eq sc (by omega)]
theorem countWrong_sum (sc cl : Nat → Int32) : ∀ (r j : Nat) (acc : Int32), acc = sumN (fun b => if f_X2_isWrong (nI n) sc cl sp (nI b) = 0 then 0 else 1) j →
    f_X2_countWrong_L (nI n) sc cl sp r j acc = sumN (fun b => if f_X2_isWrong (nI n) sc cl sp (nI b) = 0 then 0 else 1) (j + r) := by
  intro r
  induction r with
  | zero => intro j acc h; rw [f_X2_countWrong_L]; exact h
  | succ r ih =>
    intro j acc h
    rw [f_X2_countWrong_L, show j + (r + 1) = (j + 1) + r by omega]
    by_cases c : f_X2_isWrong (nI n) sc cl sp (nI j) = 0
    · rw [if_pos c]
      refine ih (j + 1) acc ?_
      show acc = sumN _ j + (if f_X2_isWrong (nI n) sc cl sp (nI j) = 0 then 0 else 1)
      rw [if_pos c, ← h]; exact (Int32.add_zero _).symm
    · rw [if_neg c]
      refine ih (j + 1) _ ?_
      show acc + 1 = sumN _ j + (if f_X2_isWrong (nI n) sc cl sp (nI j) = 0 then 0 else 1)
      rw [if_neg c, ← h]
theorem free_at (h : RS n sp mli) (hn : n ≤ 20) {s p : Nat} (hs : s < 6) (hp : p < 6) : f_X2_boxIn (nI n) sp (f_X3_spotAt (nI s) (nI (p / 3)) (nI (p % 3))) = -1 ↔ mli (6 * s + p) = 0 := by
  rw [spotAtT hs hp]; exact free_iff h hn (by omega)
theorem first_free (h : RS n sp mli) (hn : n ≤ 20) {s : Nat} (hs : s < 6) :
    ((∀ q, q < 6 → ¬ mli (6 * s + q) = 0) → f_X2_firstFreeSpot (nI n) sp (nI s) = -1) ∧ ∀ q, q < 6 → mli (6 * s + q) = 0 → (∀ q2, q2 < q → ¬ mli (6 * s + q2) = 0) → f_X2_firstFreeSpot (nI n) sp (nI s) = nI (TT (6 * s + q)) := by
  have f0 := free_at h hn hs (p := 0) (by decide)
  have f1 := free_at h hn hs (p := 1) (by decide)
  have f2 := free_at h hn hs (p := 2) (by decide)
  have f3 := free_at h hn hs (p := 3) (by decide)
  have f4 := free_at h hn hs (p := 4) (by decide)
  have f5 := free_at h hn hs (p := 5) (by decide)
  have g0 := spotAtT hs (p := 0) (by decide)
  have g1 := spotAtT hs (p := 1) (by decide)
  have g2 := spotAtT hs (p := 2) (by decide)
  have g3 := spotAtT hs (p := 3) (by decide)
  have g4 := spotAtT hs (p := 4) (by decide)
  have g5 := spotAtT hs (p := 5) (by decide)
  have e0 : f_X3_spotAt (nI s) (nI (0 / 3)) (nI (0 % 3)) = f_X3_spotAt (nI s) 0 0 := rfl
  have e1 : f_X3_spotAt (nI s) (nI (1 / 3)) (nI (1 % 3)) = f_X3_spotAt (nI s) 0 1 := rfl
  have e2 : f_X3_spotAt (nI s) (nI (2 / 3)) (nI (2 % 3)) = f_X3_spotAt (nI s) 0 2 := rfl
  have e3 : f_X3_spotAt (nI s) (nI (3 / 3)) (nI (3 % 3)) = f_X3_spotAt (nI s) 1 0 := rfl
  have e4 : f_X3_spotAt (nI s) (nI (4 / 3)) (nI (4 % 3)) = f_X3_spotAt (nI s) 1 1 := rfl
  have e5 : f_X3_spotAt (nI s) (nI (5 / 3)) (nI (5 % 3)) = f_X3_spotAt (nI s) 1 2 := rfl
  rw [e0] at f0 g0
  rw [e1] at f1 g1
  rw [e2] at f2 g2
  rw [e3] at f3 g3
  rw [e4] at f4 g4
  rw [e5] at f5 g5
  constructor
  · intro a
    rw [f_X2_firstFreeSpot, if_neg (fun z => a 0 (by decide) (f0.mp z)), if_neg (fun z => a 1 (by decide) (f1.mp z)), if_neg (fun z => a 2 (by decide) (f2.mp z)), if_neg (fun z => a 3 (by decide) (f3.mp z)), if_neg (fun z => a 4 (by decide) (f4.mp z)), if_neg (fun z => a 5 (by decide) (f5.mp z))]
  · intro q hq c a
    match q, hq, c, a with
    | 0, _, c, a => rw [f_X2_firstFreeSpot, if_pos (f0.mpr c)]; exact g0
    | 1, _, c, a => rw [f_X2_firstFreeSpot, if_neg (fun z => a 0 (by decide) (f0.mp z)), if_pos (f1.mpr c)]; exact g1
    | 2, _, c, a => rw [f_X2_firstFreeSpot, if_neg (fun z => a 0 (by decide) (f0.mp z)), if_neg (fun z => a 1 (by decide) (f1.mp z)), if_pos (f2.mpr c)]; exact g2
    | 3, _, c, a => rw [f_X2_firstFreeSpot, if_neg (fun z => a 0 (by decide) (f0.mp z)), if_neg (fun z => a 1 (by decide) (f1.mp z)), if_neg (fun z => a 2 (by decide) (f2.mp z)), if_pos (f3.mpr c)]; exact g3
    | 4, _, c, a => rw [f_X2_firstFreeSpot, if_neg (fun z => a 0 (by decide) (f0.mp z)), if_neg (fun z => a 1 (by decide) (f1.mp z)), if_neg (fun z => a 2 (by decide) (f2.mp z)), if_neg (fun z => a 3 (by decide) (f3.mp z)), if_pos (f4.mpr c)]; exact g4
    | 5, _, c, a => rw [f_X2_firstFreeSpot, if_neg (fun z => a 0 (by decide) (f0.mp z)), if_neg (fun z => a 1 (by decide) (f1.mp z)), if_neg (fun z => a 2 (by decide) (f2.mp z)), if_neg (fun z => a 3 (by decide) (f3.mp z)), if_neg (fun z => a 4 (by decide) (f4.mp z)), if_pos (f5.mpr c)]; exact g5
    | q + 6, h6, _, _ => omega
end PLACE
theorem RS.put {n b k : Nat} {sp mli : Nat → Int32} (h : RS n sp mli) (hn : n ≤ 20) (hb : b < n) (hs : sp b = -1) (hk : k < 36) (hm : mli k = 0) : RS n (upd sp b (nI (TT k))) (upd mli k (nI (b + 1))) := by
  refine ⟨fun b2 hb2 => ?_, fun k2 hk2 => ?_, fun k2 b2 hk2 hb2 => ?_⟩
  · by_cases e : b2 = b
    · rw [e, pk_us]; exact Or.inr ⟨k, hk, rfl⟩
    · rw [pk_un e]; exact h.1 b2 hb2
  · by_cases e : k2 = k
    · rw [e, pk_us]; exact Or.inr ⟨b, hb, rfl⟩
    · rw [pk_un e]; exact h.2.1 k2 hk2
  · by_cases e : b2 = b
    · rw [e, pk_us]
      by_cases e2 : k2 = k
      · rw [e2, pk_us]; exact ⟨fun _ => rfl, fun _ => rfl⟩
      · rw [pk_un e2, TT_nI hk hk2, ← h.2.2 k2 b hk2 hb, hs]
        exact ⟨fun z => absurd z.symm e2, fun z => absurd z.symm (TT_nm1 hk2)⟩
    · rw [pk_un e]
      by_cases e2 : k2 = k
      · rw [e2, pk_us, h.2.2 k b2 hk hb2, hm]
        refine ⟨fun z => absurd z.symm (nI_ne0 (by omega) (by omega)), fun z => ?_⟩
        have := (nI_eq (by omega) (by omega)).mp z
        omega
      · rw [pk_un e2]; exact h.2.2 k2 b2 hk2 hb2
theorem RS.out {n b k : Nat} {sp mli : Nat → Int32} (h : RS n sp mli) (hn : n ≤ 20) (hb : b < n) (hk : k < 36) (hs : sp b = nI (TT k)) : RS n (upd sp b (-1)) (upd mli k 0) := by
  have hm := (h.2.2 k b hk hb).mp hs
  refine ⟨fun b2 hb2 => ?_, fun k2 hk2 => ?_, fun k2 b2 hk2 hb2 => ?_⟩
  · by_cases e : b2 = b
    · rw [e, pk_us]; exact Or.inl rfl
    · rw [pk_un e]; exact h.1 b2 hb2
  · by_cases e : k2 = k
    · rw [e, pk_us]; exact Or.inl rfl
    · rw [pk_un e]; exact h.2.1 k2 hk2
  · by_cases e : b2 = b
    · rw [e, pk_us]
      by_cases e2 : k2 = k
      · rw [e2, pk_us]
        exact ⟨fun z => absurd z.symm (TT_nm1 hk), fun z => absurd z.symm (nI_ne0 (by omega) (by omega))⟩
      · rw [pk_un e2, ← h.2.2 k2 b hk2 hb, hs, TT_nI hk hk2]
        exact ⟨fun z => absurd z.symm (TT_nm1 hk2), fun z => absurd z.symm e2⟩
    · rw [pk_un e]
      by_cases e2 : k2 = k
      · rw [e2, pk_us, h.2.2 k b2 hk hb2, hm]
        refine ⟨fun z => ?_, fun z => absurd z.symm (nI_ne0 (by omega) (by omega))⟩
        have := (nI_eq (by omega) (by omega)).mp z
        omega
      · rw [pk_un e2]; exact h.2.2 k2 b2 hk2 hb2
theorem RS.grow {n : Nat} {sp mli : Nat → Int32} (h : RS n sp mli) (hn : n < 20) : RS (n + 1) (upd sp n (-1)) mli := by
  refine ⟨fun b hb => ?_, fun k hk => ?_, fun k b hk hb => ?_⟩
  · by_cases e : b = n
    · rw [e, pk_us]; exact Or.inl rfl
    · rw [pk_un e]; exact h.1 b (by omega)
  · rcases h.2.1 k hk with a | ⟨b, hb, a⟩
    · exact Or.inl a
    · exact Or.inr ⟨b, by omega, a⟩
  · by_cases e : b = n
    · rw [e, pk_us]
      refine ⟨fun z => absurd z.symm (TT_nm1 hk), fun z => ?_⟩
      rcases h.2.1 k hk with a | ⟨b2, hb2, a⟩
      · rw [a] at z
        exact absurd z.symm (nI_ne0 (by omega) (by omega))
      · rw [a] at z
        have := (nI_eq (by omega) (by omega)).mp z
        omega
    · rw [pk_un e]; exact h.2.2 k b hk (by omega)
theorem isFull_iff {n : Nat} (hn : n ≤ 20) : f_X2_isFull (nI n) = 0 ↔ ¬ nI n = 20 := by
  rw [f_X2_isFull]
  rcases Nat.lt_or_ge n 20 with q | q
  · rw [if_pos (show nI n < 20 from nI_lt (b := 20) q (by decide))]
    exact ⟨fun _ z => by have := (nI_eq (b := 20) (by omega) (by decide)).mp z; omega, fun _ => rfl⟩
  · have : n = 20 := by omega
    subst this
    exact ⟨fun z => absurd z (by decide), fun z => absurd rfl z⟩
theorem TT_mk {A S P : Nat} (hS : S < 2) (hP : P < 3) : TT (6 * A + 3 * S + P) = 100 * A + 10 * S + P := by
  have e1 : (6 * A + 3 * S + P) / 6 = A := by omega
  have e2 : (6 * A + 3 * S + P) / 3 % 2 = S := by omega
  have e3 : (6 * A + 3 * S + P) % 3 = P := by omega
  unfold TT
  rw [e1, e2, e3]
section RAIL
theorem count_go (ins : Nat → Int32) : ∀ (r j c : Nat), j + r = 4 → c ≤ j → ∃ d, c ≤ d ∧ d ≤ 4 ∧ f_X1_countInside_L ins r j (nI c) = nI d ∧ (d = c ↔ ∀ i, j ≤ i → i < 4 → ins i = 0) := by
  intro r
  induction r with
  | zero => intro j c hj hc; exact ⟨c, Nat.le_refl c, by omega, by rw [f_X1_countInside_L], fun _ i h1 h2 => by omega, fun _ => rfl⟩
  | succ r ih =>
    intro j c hj hc
    rw [f_X1_countInside_L, nI_clamp (by omega)]
    by_cases c1 : ins j = 0
    · rw [if_pos c1]
      obtain ⟨d, h1, h2, h3, h4⟩ := ih (j + 1) c (by omega) (by omega)
      refine ⟨d, h1, h2, h3, fun z i g1 g2 => ?_, fun z => h4.mpr fun i g1 g2 => z i (by omega) g2⟩
      by_cases e : i = j
      · rw [e]; exact c1
      · exact h4.mp z i (by omega) g2
    · rw [if_neg c1, nI_1]
      obtain ⟨d, h1, h2, h3, -⟩ := ih (j + 1) (c + 1) (by omega) (by omega)
      exact ⟨d, by omega, h2, h3, fun z => by omega, fun z => absurd (z j (Nat.le_refl j) (by omega)) c1⟩
theorem count_cases (ins : Nat → Int32) : ∃ d : Nat, d ≤ 4 ∧ f_X1_countInside ins = nI d ∧ (d = 0 ↔ ∀ i, i < 4 → ins i = 0) := by
  obtain ⟨d, -, h2, h3, h4⟩ := count_go ins 4 0 0 (by omega) (Nat.le_refl 0)
  refine ⟨d, h2, h3, fun z i hi => h4.mp z i (Nat.zero_le i) hi, fun z => h4.mpr fun i _ hi => z i hi⟩
theorem upd_same {f : Nat → Int32} {k : Nat} {v : Int32} (h : f k = v) : upd f k v = f := by
  funext j
  by_cases e : j = k
  · rw [e, pk_us, h]
  · rw [pk_un e]
theorem out_go (ins : Nat → Int32) : ∀ (r j : Nat) (m1 : Nat → Int32), j + r = 4 → (∀ k, k < j → m1 k = 0) → ∀ k, k < 4 → (f_X1_sendAllOut_L ins r j m1).2 k = 0 := by
  intro r
  induction r with
  | zero => intro j m1 hj h k hk; rw [f_X1_sendAllOut_L]; exact h k (by omega)
  | succ r ih =>
    intro j m1 hj h k hk
    rw [f_X1_sendAllOut_L, nI_clamp (by omega)]
    refine ih (j + 1) _ (by omega) (fun q hq => ?_) k hk
    by_cases e : q = j
    · rw [e, pk_us]
    · rw [pk_un e]; exact h q (by omega)
def dst (a b : Nat) : Nat := (a - b) + (b - a)
theorem moves_eq {g t : Nat} (hg : g ≤ 6) (ht : t ≤ 6) : f_X1_movesToCome (nI g) (nI t) = nI (dst g t) := by
  rw [f_X1_movesToCome]
  rcases Nat.lt_or_ge t g with q | q
  · rw [if_neg (fun z => Int32.not_le.mpr (pk_sneg (by omega) q) z), Int32.zero_sub, Int32.neg_sub, pk_sub (by omega)]
    congr 1; unfold dst; omega
  · rw [pk_sub q, if_pos (nI_pos' (by omega))]
    congr 1; unfold dst; omega
def RV (g : Nat) (mv : Nat → Int32) (c : Nat) : Prop := ∀ s, s < 6 → ∃ q : Nat, q ≤ c ∧ mv s = nI q ∧ (q % 2 = 1 ↔ s < g)
theorem RV.mono {g c d : Nat} {mv : Nat → Int32} (h : RV g mv c) (hd : c ≤ d) : RV g mv d := fun s hs => by
  obtain ⟨q, h1, h2, h3⟩ := h s hs
  exact ⟨q, by omega, h2, h3⟩
theorem below6 {g : Nat} (h : g < 6) : ¬ f_X3_isBelow (nI g) 6 = 0 := fun z => (below_iff (N := 6) rfl (by decide)).mp z (vp_in_nI h (by decide))
theorem move_one {g t c : Nat} {mv : Nat → Int32} (hg : g ≤ 6) (ht : t ≤ 6) (hne : g ≠ t) (h : RV g mv c) :
    ∃ (g2 : Nat) (mv2 : Nat → Int32), f_X1_moveOne (nI g) (nI t) mv = (nI g2, mv2) ∧ g2 ≤ 6 ∧ dst g2 t + 1 = dst g t ∧ RV g2 mv2 (c + 1) := by
  rcases Nat.lt_or_ge g t with q | q
  · obtain ⟨w, h1, h2, h3⟩ := h g (by omega)
    refine ⟨g + 1, upd mv g (mv g + 1), ?_, by omega, by unfold dst; omega, fun s hs => ?_⟩
    · rw [f_X1_moveOne, if_neg (nI_ge q (by omega)), if_neg (below6 (by omega)), nI_clamp (by omega), nI_1]
    · by_cases e : s = g
      · rw [e, pk_us, h2, nI_1]
        exact ⟨w + 1, by omega, rfl, by omega⟩
      · rw [pk_un e]
        obtain ⟨q2, g1, g2, g3⟩ := h s hs
        exact ⟨q2, by omega, g2, by omega⟩
  · obtain ⟨w, h1, h2, h3⟩ := h (g - 1) (by omega)
    have e1 : nI g - 1 = nI (g - 1) := nI_sub1 (by omega)
    refine ⟨g - 1, upd mv (g - 1) (mv (g - 1) + 1), ?_, by omega, by unfold dst; omega, fun s hs => ?_⟩
    · rw [f_X1_moveOne, if_pos (nI_le q (by omega)), e1, if_neg (below6 (by omega)), nI_clamp (by omega)]
    · by_cases e : s = g - 1
      · rw [e, pk_us, h2, nI_1]
        exact ⟨w + 1, by omega, rfl, by omega⟩
      · rw [pk_un e]
        obtain ⟨q2, g1, g2, g3⟩ := h s hs
        exact ⟨q2, by omega, g2, by omega⟩
theorem move_go {t : Nat} (ht : t ≤ 6) : ∀ (r j g c : Nat) (mv : Nat → Int32), g ≤ 6 → r ≤ dst g t → RV g mv c →
    ∃ (g2 : Nat) (mv2 : Nat → Int32), f_X1_moveFor_L (nI t) r j (nI g) mv = (nI g2, mv2) ∧ g2 ≤ 6 ∧ dst g2 t + r = dst g t ∧ RV g2 mv2 (c + r) := by
  intro r
  induction r with
  | zero => intro j g c mv hg _ h; exact ⟨g, mv, by rw [f_X1_moveFor_L], hg, rfl, h⟩
  | succ r ih =>
    intro j g c mv hg hr h
    obtain ⟨g1, mv1, e1, h1, h2, h3⟩ := move_one hg ht (fun z => by rw [z] at hr; unfold dst at hr; omega) h
    obtain ⟨g2, mv2, e2, k1, k2, k3⟩ := ih (j + 1) g1 (c + 1) mv1 h1 (by omega) h3
    refine ⟨g2, mv2, ?_, k1, by omega, k3.mono (by omega)⟩
    rw [f_X1_moveFor_L, e1]
    exact e2
theorem odd_eq {q : Nat} (hq : q < 2 ^ 31) : (nI q - nI q / 2 * 2 = 1) ↔ q % 2 = 1 := by
  rw [show nI q - nI q / 2 * 2 = nI (q % 2) from pk_rem (d := 2) hq (by decide) (by decide)]
  exact nI_eq (b := 1) (by omega) (by decide)
theorem byMoves_go {g c : Nat} {mv : Nat → Int32} (hc : c < 2 ^ 31) (hg : g ≤ 6) (h : RV g mv c) (tg : Int32) : ∀ (r j a : Nat), j + r = 6 → (a = if j ≤ g then j else g) → f_X1_openAisleByMoves_L tg mv r j (nI a) = if nI g = tg then nI g else -1 := by
  intro r
  induction r with
  | zero =>
    intro j a hj ha
    have : a = g := by rw [ha]; split <;> omega
    rw [f_X1_openAisleByMoves_L, this]
  | succ r ih =>
    intro j a hj ha
    obtain ⟨q, h1, h2, h3⟩ := h j (by omega)
    rw [f_X1_openAisleByMoves_L, nI_clamp (by omega), h2, nI_1]
    by_cases c1 : nI q - nI q / 2 * 2 = 1
    · rw [if_pos c1]
      have := h3.mp ((odd_eq (by omega)).mp c1)
      exact ih (j + 1) (a + 1) (by omega) (by rw [ha, if_pos (by omega), if_pos (by omega)])
    · rw [if_neg c1]
      have : ¬ j < g := fun z => c1 ((odd_eq (by omega)).mpr (h3.mpr z))
      refine ih (j + 1) a (by omega) ?_
      rw [ha]
      split <;> split <;> omega
theorem byMoves_eq {g c : Nat} {mv : Nat → Int32} (hc : c < 2 ^ 31) (hg : g ≤ 6) (h : RV g mv c) (tg : Int32) : f_X1_openAisleByMoves tg mv = f_X1_openAisle (nI g) tg := by
  rw [f_X1_openAisleByMoves, f_X1_openAisle]
  exact byMoves_go hc hg h tg 6 0 0 (by omega) (by rw [if_pos (Nat.zero_le g)])
theorem open_eq {g t : Nat} (hg : g ≤ 6) (ht : t ≤ 6) : f_X1_openAisle (nI g) (nI t) = if g = t then nI t else -1 := by
  rw [f_X1_openAisle]
  by_cases e : g = t
  · rw [if_pos (by rw [e]), if_pos e, e]
  · rw [if_neg (fun z => e ((nI_eq (by omega) (by omega)).mp z)), if_neg e]
theorem dst_le {g t : Nat} (hg : g ≤ 6) (ht : t ≤ 6) : (nI (dst g t) ≤ 0 ↔ g = t) ∧ (0 < nI (dst g t) ↔ ¬ g = t) := by
  have h6 : dst g t ≤ 6 := by unfold dst; omega
  have h1 : nI (dst g t) ≤ 0 ↔ g = t := by
    rw [show (0 : Int32) = nI 0 from rfl, nI_leI (by omega) (by decide)]
    unfold dst; omega
  refine ⟨h1, ?_⟩
  rw [← h1, Int32.not_le]
theorem below7' {a : Nat} (h : a < 7) : ¬ f_X3_isBelow (nI a) 7 = 0 := fun z => (below_iff (N := 7) rfl (by decide)).mp z (vp_in_nI h (by decide))
theorem vp_nar1 : vp_nar .boolean 1 = 1 := rfl
theorem vp_nar0 : vp_nar .boolean 0 = 0 := rfl
def OS (n no : Nat) (ob od : Nat → Int32) : Prop := ∀ j, j < no → (∃ b, b < n ∧ ob j = nI b) ∧ ∃ d, d ≤ 10000 ∧ od j = nI d
theorem oFull_iff {n : Nat} (hn : n ≤ 30) : f_X0_isFull (nI n) = 0 ↔ ¬ nI n = 30 := by
  rw [f_X0_isFull]
  rcases Nat.lt_or_ge n 30 with q | q
  · rw [if_pos (show nI n < 30 from nI_lt (b := 30) q (by decide))]
    exact ⟨fun _ z => by have := (nI_eq (b := 30) (by omega) (by decide)).mp z; omega, fun _ => rfl⟩
  · have : n = 30 := by omega
    subst this
    exact ⟨fun z => absurd z (by decide), fun z => absurd rfl z⟩
end RAIL
section ORD
variable {n : Nat} {sp mli : Nat → Int32} {ob od dn : Nat → Int32}
theorem eX_step (cn pX : Int32) {r j : Nat} {bst bdl : Int32} : f_X0_earliest_L ob od dn cn sp pX (r + 1) j bst bdl =
    if dn (nI j).toNatClampNeg = 0 ∧ (¬ f_X2_aisleOfBox cn sp (ob (nI j).toNatClampNeg) = -1 ∧ (pX = -2 ∨ f_X2_aisleOfBox cn sp (ob (nI j).toNatClampNeg) = pX)) ∧ ¬ bdl ≤ od (nI j).toNatClampNeg
    then f_X0_earliest_L ob od dn cn sp pX r (j + 1) (nI j) (od (nI j).toNatClampNeg) else f_X0_earliest_L ob od dn cn sp pX r (j + 1) bst bdl := by
  rw [f_X0_earliest_L]
  generalize f_X2_aisleOfBox cn sp (ob (nI j).toNatClampNeg) = ai
  generalize dn (nI j).toNatClampNeg = d
  generalize od (nI j).toNatClampNeg = o
  by_cases c1 : ai = -1
  · rw [if_pos c1, ite_self, if_neg (fun z => z.2.1.1 c1)]
  · rw [if_neg c1]
    by_cases c2 : pX = -2
    · rw [if_pos c2]
      by_cases c4 : d = 0
      · rw [if_pos c4]
        by_cases c5 : bdl ≤ o
        · rw [if_pos c5, if_neg (fun z => z.2.2 c5)]
        · rw [if_neg c5, if_pos ⟨c4, ⟨c1, Or.inl c2⟩, c5⟩]
      · rw [if_neg c4, if_neg (fun z => c4 z.1)]
    · rw [if_neg c2]
      by_cases c3 : ai = pX
      · rw [if_pos c3]
        by_cases c4 : d = 0
        · rw [if_pos c4]
          by_cases c5 : bdl ≤ o
          · rw [if_pos c5, if_neg (fun z => z.2.2 c5)]
          · rw [if_neg c5, if_pos ⟨c4, ⟨c1, Or.inr c3⟩, c5⟩]
        · rw [if_neg c4, if_neg (fun z => c4 z.1)]
      · rw [if_neg c3, ite_self, if_neg (fun z => z.2.1.2.elim c2 c3)]
end ORD
end
section
/-! what the law counts over the spots, what the best spot is, what the orders say -/
/-- what lies in row k: its weight, whether it lies wrong, whether anything lies there -/
def qW (mli wt : Nat → Int32) (k : Nat) : Int32 := if mli k = 0 then 0 else wt (mli k - 1).toNatClampNeg
def qC (mli cl sc : Nat → Int32) (k : Nat) : Int32 := if mli k = 0 then 0 else if cl (mli k - 1).toNatClampNeg = sc (k / 6) then 0 else 1
def qL (mli : Nat → Int32) (k : Nat) : Int32 := if mli k = 0 then 0 else 1
section ROWS
variable {n : Nat} {sp mli : Nat → Int32}
theorem qW_0 {wt : Nat → Int32} {k : Nat} (e : mli k = nI 0) : qW mli wt k = 0 := by
  unfold qW; exact if_pos e
theorem qC_0 {cl sc : Nat → Int32} {k : Nat} (e : mli k = nI 0) : qC mli cl sc k = 0 := by
  unfold qC; exact if_pos e
theorem qL_0 {k : Nat} (e : mli k = nI 0) : qL mli k = 0 := by
  unfold qL; exact if_pos e
theorem li_ne {k b : Nat} (hb : b < 20) (e : mli k = nI (b + 1)) : ¬ mli k = 0 := by rw [e]; exact nI_ne0 (by omega) (by omega)
theorem qW_1 {wt : Nat → Int32} {k b : Nat} (hb : b < 20) (e : mli k = nI (b + 1)) : qW mli wt k = wt b := by
  unfold qW; rw [if_neg (li_ne hb e), e, nI_pred, nI_clamp (by omega)]
theorem qC_1 {cl sc : Nat → Int32} {k b : Nat} (hb : b < 20) (e : mli k = nI (b + 1)) : qC mli cl sc k = if cl b = sc (k / 6) then 0 else 1 := by
  unfold qC; rw [if_neg (li_ne hb e), e, nI_pred, nI_clamp (by omega)]
theorem qL_1 {k b : Nat} (hb : b < 20) (e : mli k = nI (b + 1)) : qL mli k = 1 := by
  unfold qL; rw [if_neg (li_ne hb e)]
theorem weight_rows (h : RS n sp mli) (hn : n ≤ 20) {s : Nat} (hs : s < 6) (wt : Nat → Int32) : f_X2_weightOn (nI n) wt sp (nI s) = sumN (fun i => qW mli wt (6 * s + i)) 6 := by
  rw [f_X2_weightOn, nI_clamp (by omega), weightOn_sum wt (nI s) n 0 0 (by omega) rfl, Nat.zero_add]
  refine sum_both h hn (6 * s) 6 (by omega) (fun b _ => wt b) (fun b hb => ?_) (fun i hi => ?_)
  · rcases lies_cases h hn hb hs with ⟨a, c⟩ | ⟨a, i, hi, e⟩
    · exact Or.inl ⟨if_pos a, c⟩
    · exact Or.inr ⟨i, hi, e, if_neg a⟩
  · rcases h.2.1 (6 * s + i) (by omega) with e | ⟨b, hb, e⟩
    · exact Or.inl ⟨qW_0 e, e⟩
    · exact Or.inr ⟨b, hb, e, qW_1 (by omega) e⟩
theorem wrong_rows (h : RS n sp mli) (hn : n ≤ 20) (sc cl : Nat → Int32) : f_X2_countWrong (nI n) sc cl sp = sumN (qC mli cl sc) 36 := by
  rw [f_X2_countWrong, nI_clamp (by omega), countWrong_sum sc cl n 0 0 rfl, Nat.zero_add]
  refine sum_both h hn 0 36 (by omega) (fun b k => if cl b = sc (k / 6) then 0 else 1) (fun b hb => ?_) (fun i hi => ?_)
  · rcases h.1 b hb with e | ⟨k, hk, e⟩
    · refine Or.inl ⟨if_pos (by rw [isWrong_eq hn hb, if_pos e]), fun i hi q => TT_nm1 (k := 0 + i) (by omega) (q.symm.trans e)⟩
    · refine Or.inr ⟨k, hk, by rw [Nat.zero_add]; exact e, ?_⟩
      show (if f_X2_isWrong (nI n) sc cl sp (nI b) = 0 then (0 : Int32) else 1) = (if cl b = sc ((0 + k) / 6) then 0 else 1)
      rw [isWrong_T hn hb hk e, Nat.zero_add]
      by_cases c : cl b = sc (k / 6)
      · rw [if_pos c, if_pos rfl]
      · rw [if_neg c, if_neg (by decide)]
  · rw [Nat.zero_add]
    rcases h.2.1 i hi with e | ⟨b, hb, e⟩
    · exact Or.inl ⟨qC_0 e, e⟩
    · exact Or.inr ⟨b, hb, e, qC_1 (by omega) e⟩
theorem lies_rows (h : RS n sp mli) (hn : n ≤ 20) : sumN (fun b => if sp b = -1 then 0 else 1) n = sumN (qL mli) 36 := by
  refine sum_both h hn 0 36 (by omega) (fun _ _ => 1) (fun b hb => ?_) (fun i hi => ?_)
  · rcases h.1 b hb with e | ⟨k, hk, e⟩
    · exact Or.inl ⟨if_pos e, fun i hi q => TT_nm1 (k := 0 + i) (by omega) (q.symm.trans e)⟩
    · exact Or.inr ⟨k, hk, by rw [Nat.zero_add]; exact e, if_neg (by rw [e]; exact TT_nm1 hk)⟩
  · rw [Nat.zero_add]
    rcases h.2.1 i hi with e | ⟨b, hb, e⟩
    · exact Or.inl ⟨qL_0 e, e⟩
    · exact Or.inr ⟨b, hb, e, qL_1 (by omega) e⟩
/-- a spot is -1 or not negative -/
theorem sp_neg (h : RS n sp mli) {b : Nat} (hb : b < n) : (sp b = -1 ∧ sp b < 0) ∨ ∃ k, k < 36 ∧ sp b = nI (TT k) ∧ ¬ sp b < 0 := by
  rcases h.1 b hb with e | ⟨k, hk, e⟩
  · exact Or.inl ⟨e, by rw [e]; decide⟩
  · refine Or.inr ⟨k, hk, e, ?_⟩
    have := TT_lt hk
    rw [e]; exact nI_pos (by omega)
-- the best spot
theorem free_first (h : RS n sp mli) (hn : n ≤ 20) {s : Nat} (hs : s < 6) : f_X2_firstFreeSpot (nI n) sp (nI s) = -1 ∨ ∃ q, q < 6 ∧ f_X2_firstFreeSpot (nI n) sp (nI s) = nI (TT (6 * s + q)) ∧ mli (6 * s + q) = 0 := by
  obtain ⟨f1, f2⟩ := first_free h hn hs
  by_cases hx : ∃ q, q < 6 ∧ mli (6 * s + q) = 0
  · obtain ⟨q, ⟨hq, e⟩, hl⟩ := pk_least (fun q => q < 6 ∧ mli (6 * s + q) = 0) hx
    exact Or.inr ⟨q, hq, f2 q hq e (fun q2 h2 z => hl q2 h2 ⟨by omega, z⟩), e⟩
  · exact Or.inl (f1 fun q hq z => hx ⟨q, hq, z⟩)
/-- a spot that suits a box -/
def BO (n : Nat) (sp mli sc cl wt : Nat → Int32) (x z : Int32) : Prop := ∃ k, k < 36 ∧ z = nI (TT k) ∧ mli k = 0 ∧ sc (k / 6) = cl x.toNatClampNeg ∧ ¬ 100 < f_X2_weightOn (nI n) wt sp (nI (k / 6)) + wt x.toNatClampNeg
theorem best_L_ok (h : RS n sp mli) (hn : n ≤ 20) (sc cl wt kn : Nat → Int32) (x : Int32) : ∀ (r s : Nat) (bst mok : Int32), s + r = 6 → (bst = -1 ∨ BO n sp mli sc cl wt x bst) →
    (f_X2_bestSpotFor_L (nI n) sc cl wt kn sp x r s bst mok = -1 ∨ BO n sp mli sc cl wt x (f_X2_bestSpotFor_L (nI n) sc cl wt kn sp x r s bst mok)) := by
  intro r
  induction r with
  | zero => intro s bst mok _ h; rw [f_X2_bestSpotFor_L]; exact h
  | succ r ih =>
    intro s bst mok hs hB
    have hs6 : s < 6 := by omega
    rw [f_X2_bestSpotFor_L, nI_clamp (by omega)]
    by_cases c1 : sc s = cl x.toNatClampNeg
    · rw [if_pos c1]
      by_cases c2 : 100 < f_X2_weightOn (nI n) wt sp (nI s) + wt x.toNatClampNeg
      · rw [if_pos c2]; exact ih _ _ _ (by omega) hB
      · rw [if_neg c2]
        rcases free_first h hn hs6 with e | ⟨q, hq, e, hm⟩
        · rw [if_pos e]; exact ih _ _ _ (by omega) hB
        · rw [if_neg (by rw [e]; exact TT_nm1 (by omega))]
          by_cases c4 : f_X2_countKin (nI n) kn sp (nI s) (kn x.toNatClampNeg) ≤ mok
          · rw [if_pos c4]; exact ih _ _ _ (by omega) hB
          · rw [if_neg c4]
            have e6 : (6 * s + q) / 6 = s := by omega
            exact ih _ _ _ (by omega) (Or.inr ⟨6 * s + q, by omega, e, hm, by rw [e6]; exact c1, by rw [e6]; exact c2⟩)
    · rw [if_neg c1]; exact ih _ _ _ (by omega) hB
theorem best_ok (h : RS n sp mli) (hn : n ≤ 20) (sc cl wt kn : Nat → Int32) {b : Nat} (hb : b < n) : f_X2_bestSpotFor (nI n) sc cl wt kn sp (nI b) = -1 ∨
    ∃ k, k < 36 ∧ f_X2_bestSpotFor (nI n) sc cl wt kn sp (nI b) = nI (TT k) ∧ mli k = 0 ∧ sc (k / 6) = cl b ∧ ¬ 100 < f_X2_weightOn (nI n) wt sp (nI (k / 6)) + wt b := by
  rw [f_X2_bestSpotFor, if_neg (fun z => (has_iff hn).mp z (vp_in_nI hb (by omega)))]
  rcases best_L_ok h hn sc cl wt kn (nI b) 6 0 (-1) (-1) (by omega) (Or.inl rfl) with a | ⟨k, hk, e, hm, e1, e2⟩
  · exact Or.inl a
  · rw [nI_clamp (by omega)] at e1 e2
    exact Or.inr ⟨k, hk, e, hm, e1, e2⟩
-- the orders
variable {ob od dn : Nat → Int32}
theorem aisle2 (h : RS n sp mli) (hn : n ≤ 20) {b : Nat} (hb : b < n) :
    (sp b = -1 ∧ f_X2_aisleOfBox (nI n) sp (nI b) = -1) ∨ ∃ k, k < 36 ∧ sp b = nI (TT k) ∧ f_X2_aisleOfBox (nI n) sp (nI b) = nI (k / 6 + k / 3 % 2) := by
  rw [f_X2_aisleOfBox, whereIs_eq hn hb]
  rcases h.1 b hb with e | ⟨k, hk, e⟩
  · exact Or.inl ⟨e, if_pos e⟩
  · refine Or.inr ⟨k, hk, e, ?_⟩
    rw [if_neg (by rw [e]; exact TT_nm1 hk), e]
    exact aisleT hk
/-- an undone order whose box one reaches -/
def EO (cn : Int32) (sp ob dn : Nat → Int32) (pX : Int32) (i : Nat) : Prop := dn i = 0 ∧ ¬ f_X2_aisleOfBox cn sp (ob i) = -1 ∧ (pX = -2 ∨ f_X2_aisleOfBox cn sp (ob i) = pX)
theorem earl_L {no : Nat} (hno : no ≤ 30) {cn pX : Int32} : ∀ (r j : Nat) (bst bdl : Int32), j + r = no → (bst = -1 ∨ ∃ i, i < no ∧ bst = nI i ∧ EO cn sp ob dn pX i) →
    (f_X0_earliest_L ob od dn cn sp pX r j bst bdl = -1 ∨ ∃ i, i < no ∧ f_X0_earliest_L ob od dn cn sp pX r j bst bdl = nI i ∧ EO cn sp ob dn pX i) := by
  intro r
  induction r with
  | zero => intro j bst bdl _ h; rw [f_X0_earliest_L]; exact h
  | succ r ih =>
    intro j bst bdl hj h
    rw [eX_step, nI_clamp (by omega)]
    by_cases c : dn j = 0 ∧ (¬ f_X2_aisleOfBox cn sp (ob j) = -1 ∧ (pX = -2 ∨ f_X2_aisleOfBox cn sp (ob j) = pX)) ∧ ¬ bdl ≤ od j
    · rw [if_pos c]
      exact ih _ _ _ (by omega) (Or.inr ⟨j, by omega, rfl, c.1, c.2.1.1, c.2.1.2⟩)
    · rw [if_neg c]; exact ih _ _ _ (by omega) h
theorem earl_some {no : Nat} (hno : no ≤ 30) {cn pX : Int32} (ho : ∀ i, i < no → ∃ d, d ≤ 10000 ∧ od i = nI d) : ∀ (r j : Nat) (bst bdl : Int32), j + r = no →
    ((bst = -1 ∧ bdl = 10001 ∧ ∃ i, j ≤ i ∧ i < no ∧ EO cn sp ob dn pX i) ∨ ¬ bst = -1) → ¬ f_X0_earliest_L ob od dn cn sp pX r j bst bdl = -1 := by
  intro r
  induction r with
  | zero =>
    intro j bst bdl hj h
    rw [f_X0_earliest_L]
    rcases h with ⟨-, -, i, h1, h2, -⟩ | h
    · omega
    · exact h
  | succ r ih =>
    intro j bst bdl hj h
    rw [eX_step, nI_clamp (by omega)]
    by_cases c : dn j = 0 ∧ (¬ f_X2_aisleOfBox cn sp (ob j) = -1 ∧ (pX = -2 ∨ f_X2_aisleOfBox cn sp (ob j) = pX)) ∧ ¬ bdl ≤ od j
    · rw [if_pos c]
      exact ih _ _ _ (by omega) (Or.inr (nI_nm1 (by omega)))
    · rw [if_neg c]
      refine ih _ _ _ (by omega) ?_
      rcases h with ⟨e1, e2, i, h1, h2, h3⟩ | h
      · refine Or.inl ⟨e1, e2, i, ?_, h2, h3⟩
        rcases Nat.lt_or_ge j i with q | q
        · omega
        · have : i = j := by omega
          subst this
          obtain ⟨d, hd, ed⟩ := ho i h2
          refine absurd ⟨h3.1, h3.2, ?_⟩ c
          rw [e2, ed]
          exact nI_ge (b := 10001) (by omega) (by decide)
      · exact Or.inr h
theorem earl_cases {no : Nat} (hno : no ≤ 30) (cn pX : Int32) : f_X0_earliest (nI no) ob od dn cn sp pX = -1 ∨ ∃ i, i < no ∧ f_X0_earliest (nI no) ob od dn cn sp pX = nI i ∧ EO cn sp ob dn pX i := by
  rw [f_X0_earliest, nI_clamp (by omega)]
  exact earl_L hno no 0 _ _ (by omega) (Or.inl rfl)
theorem earl_ex {no : Nat} (hno : no ≤ 30) {cn pX : Int32} (ho : OS n no ob od) {i : Nat} (hi : i < no) (h : EO cn sp ob dn pX i) : ¬ f_X0_earliest (nI no) ob od dn cn sp pX = -1 := by
  rw [f_X0_earliest, nI_clamp (by omega)]
  exact earl_some hno (fun j hj => (ho j hj).2) no 0 _ _ (by omega) (Or.inl ⟨rfl, rfl, i, Nat.zero_le i, hi, h⟩)
theorem boxOf_eq {no i : Nat} (hno : no ≤ 30) (hi : i < no) : f_X0_boxOf (nI no) ob (nI i) = ob i := by
  rw [f_X0_boxOf, if_neg (fun z => (below_iff rfl (by omega)).mp z (vp_in_nI hi (by omega))), nI_clamp (by omega)]
/-- the next aisle: none, or that of an undone order -/
theorem next_cases {no : Nat} (h : RS n sp mli) (hn : n ≤ 20) (hno : no ≤ 30) (ho : OS n no ob od) : f_X3_nextAisle (nI n) sp (nI no) ob od dn = -1 ∨
    ∃ t i, t ≤ 6 ∧ f_X3_nextAisle (nI n) sp (nI no) ob od dn = nI t ∧ i < no ∧ dn i = 0 ∧ f_X2_aisleOfBox (nI n) sp (ob i) = nI t := by
  rw [f_X3_nextAisle]
  rcases earl_cases (sp := sp) (ob := ob) (od := od) (dn := dn) hno (nI n) (-2) with e | ⟨i, hi, e, h1, h2, -⟩
  · rw [e]
    have e2 : f_X0_boxOf (nI no) ob (-1) = -1 := by
      rw [f_X0_boxOf, if_pos]
      rw [f_X3_isBelow, if_pos (by decide)]
    rw [e2]
    have e3 : f_X2_whereIs (nI n) sp (-1) = -1 := by
      rw [f_X2_whereIs, if_pos]
      rw [f_X2_has, f_X3_isBelow, if_pos (by decide)]
    exact Or.inl (by rw [f_X2_aisleOfBox, if_pos e3])
  · rw [e, boxOf_eq hno hi]
    obtain ⟨⟨b, hb, eb⟩, -⟩ := ho i hi
    rcases aisle2 h hn hb with ⟨-, a⟩ | ⟨k, hk, -, a⟩
    · rw [eb] at h2; exact absurd a h2
    · refine Or.inr ⟨k / 6 + k / 3 % 2, i, by omega, by rw [eb]; exact a, hi, h1, by rw [eb]; exact a⟩
/-- the order that is fetched -/
theorem fetch_cases {no g i0 : Nat} (h : RS n sp mli) (hn : n ≤ 20) (hno : no ≤ 30) (hg : g ≤ 6) (ho : OS n no ob od) (hi0 : i0 < no) (hd : dn i0 = 0) (ha : f_X2_aisleOfBox (nI n) sp (ob i0) = nI g) :
    ∃ i b k, i < no ∧ dn i = 0 ∧ ob i = nI b ∧ b < n ∧ k < 36 ∧ sp b = nI (TT k) ∧ f_X0_earliest (nI no) ob od dn (nI n) sp (nI g) = nI i := by
  have hx := earl_ex (pX := nI g) hno ho hi0 ⟨hd, by rw [ha]; exact nI_nm1 (by omega), Or.inr ha⟩
  rcases earl_cases (sp := sp) (ob := ob) (od := od) (dn := dn) hno (nI n) (nI g) with e | ⟨i, hi, e, h1, h2, -⟩
  · exact absurd e hx
  · obtain ⟨⟨b, hb, eb⟩, -⟩ := ho i hi
    rw [eb] at h2
    rcases aisle2 h hn hb with ⟨-, a⟩ | ⟨k, hk, es, -⟩
    · exact absurd a h2
    · exact ⟨i, b, k, hi, h1, eb, hb, hk, es, e⟩
theorem isOpenFor_L {x : Int32} {no : Nat} (hno : no ≤ 30) (hz : ∀ i, i < no → dn i = 0 → ob i ≠ x) : ∀ (r j : Nat), j + r = no → f_X0_isOpenFor_L ob dn x r j = 0 := by
  intro r
  induction r with
  | zero => intro j _; rw [f_X0_isOpenFor_L]
  | succ r ih =>
    intro j hj
    rw [f_X0_isOpenFor_L, nI_clamp (by omega)]
    by_cases c : dn j = 0
    · rw [if_pos c, if_neg (hz j (by omega) c)]; exact ih _ (by omega)
    · rw [if_neg c]; exact ih _ (by omega)
theorem isOpenFor_no {x : Int32} {no : Nat} (hno : no ≤ 30) (hz : ∀ i, i < no → dn i = 0 → ob i ≠ x) : f_X0_isOpenFor (nI no) ob dn x = 0 := by
  rw [f_X0_isOpenFor, nI_clamp (by omega)]
  exact isOpenFor_L hno hz no 0 (by omega)
/-- how many orders are undone -/
def cntN (dn : Nat → Int32) : Nat → Nat
  | 0 => 0
  | m + 1 => cntN dn m + if dn m = 0 then 1 else 0
theorem cnt_congr {f g : Nat → Int32} : ∀ m : Nat, (∀ i, i < m → f i = g i) → cntN f m = cntN g m
  | 0, _ => rfl
  | m + 1, h => by
    show cntN f m + (if f m = 0 then 1 else 0) = cntN g m + (if g m = 0 then 1 else 0)
    rw [cnt_congr m (fun i hi => h i (by omega)), h m (by omega)]
theorem cnt_le (dn : Nat → Int32) : ∀ m : Nat, cntN dn m ≤ m
  | 0 => Nat.le_refl 0
  | m + 1 => by
    have := cnt_le dn m
    show cntN dn m + (if dn m = 0 then 1 else 0) ≤ m + 1
    split <;> omega
theorem cnt_pos : ∀ (m : Nat) {i : Nat}, i < m → dn i = 0 → 0 < cntN dn m
  | 0, _, h, _ => absurd h (by omega)
  | m + 1, i, h, e => by
    show 0 < cntN dn m + (if dn m = 0 then 1 else 0)
    by_cases c : i = m
    · rw [← c, if_pos e]; omega
    · have := cnt_pos m (show i < m by omega) e
      omega
theorem cnt_done : ∀ (m : Nat) {i : Nat}, i < m → dn i = 0 → cntN (upd dn i 1) m + 1 = cntN dn m
  | 0, _, h, _ => absurd h (by omega)
  | m + 1, i, h, e => by
    show cntN (upd dn i 1) m + (if upd dn i 1 m = 0 then 1 else 0) + 1 = cntN dn m + (if dn m = 0 then 1 else 0)
    by_cases c : i = m
    · subst c
      rw [pk_us, if_pos e, if_neg (by decide), cnt_congr i (fun j hj => pk_un (by omega))]
    · have := cnt_done m (show i < m by omega) e
      rw [pk_un (fun z => c z.symm)]
      omega
theorem countOpen_L {no : Nat} (hno : no ≤ 30) : ∀ (r j : Nat), j + r = no → f_X0_countOpen_L dn r j (nI (cntN dn j)) = nI (cntN dn no) := by
  intro r
  induction r with
  | zero => intro j hj; rw [f_X0_countOpen_L, show j = no by omega]
  | succ r ih =>
    intro j hj
    rw [f_X0_countOpen_L, nI_clamp (by omega)]
    have hs : cntN dn (j + 1) = cntN dn j + if dn j = 0 then 1 else 0 := rfl
    by_cases c : dn j = 0
    · rw [if_pos c] at hs
      rw [if_pos c, nI_1, ← hs]; exact ih _ (by omega)
    · rw [if_neg c] at hs
      rw [if_neg c, show cntN dn j = cntN dn (j + 1) by omega]; exact ih _ (by omega)
theorem waiting_cnt {no : Nat} (hno : no ≤ 30) : f_X3_waiting (nI no) dn = nI (cntN dn no) := by
  rw [f_X3_waiting, f_X0_countOpen, nI_clamp (by omega)]
  exact countOpen_L hno no 0 (by omega)
end ROWS
end
section
/-! what each call answers where the law calls it -/
section ANS
variable {n no g c l b : Nat} {sp mli sc cl wt kn db ins mv ob od dn lo : Nat → Int32}
theorem has1 (hn : n ≤ 20) (hb : b < n) : ¬ f_X2_has (nI n) (nI b) = 0 := fun z => (has_iff hn).mp z (vp_in_nI hb (by omega))
theorem belowN {s N : Nat} (h : s < N) (hN : N < 2 ^ 31) : ¬ f_X3_isBelow (nI s) (nI N) = 0 := fun z => (below_iff (N := N) rfl hN).mp z (vp_in_nI h hN)
theorem kBox (hn : n ≤ 20) (hb : b < n) : k_X3_requireBox (nI n) (nI b) = 0 := by rw [k_X3_requireBox, if_neg (has1 hn hb)]
theorem kOut (hn : n ≤ 20) (hb : b < n) (e : sp b = -1) : k_X3_requireOut (nI n) sp (nI b) = 0 := by rw [k_X3_requireOut, whereIs_eq hn hb, if_pos e]
theorem kShelf {s : Nat} (hs : s < 6) : k_X3_requireShelf (nI s) = 0 := by rw [k_X3_requireShelf, if_neg (below6 hs)]
theorem kAisle {s : Nat} (hs : s < 7) : k_X3_requireAisle (nI s) = 0 := by rw [k_X3_requireAisle, if_neg (below7' hs)]
theorem isSpot_T {k : Nat} (hk : k < 36) : ¬ f_X3_isSpot (nI (TT k)) = 0 := by
  have h2 := TT_lt hk
  rw [f_X3_isSpot, if_neg (nI_pos (by omega)), shelfT hk, sideAt_eq (by omega), placeAt_eq (by omega), if_neg (show ¬ 6 ≤ nI (k / 6) from nI_ge (b := 6) (by omega) (by decide)), if_neg (show ¬ 2 ≤ nI (TT k / 10 % 10) from nI_ge (b := 2) (by unfold TT; omega) (by decide)), if_neg (show ¬ 3 ≤ nI (TT k % 10) from nI_ge (b := 3) (by unfold TT; omega) (by decide))]
  decide
theorem k_spotOf (hn : n ≤ 20) (hb : b < n) : k_X3_spotOf (nI n) (nI b) = 0 := by rw [k_X3_spotOf, if_pos (kBox hn hb)]
theorem spotOf_eq (hn : n ≤ 20) (hb : b < n) : f_X3_spotOf (nI n) sp (nI b) = sp b := by rw [f_X3_spotOf, if_pos (kBox hn hb), whereIs_eq hn hb]
theorem k_boxAt {k : Nat} (hk : k < 36) : k_X3_boxAt (nI (TT k)) = 0 := by rw [k_X3_boxAt, k_X3_requireSpot, if_neg (isSpot_T hk), if_pos rfl]
theorem boxAt_eq (h : RS n sp mli) (hn : n ≤ 20) {k : Nat} (hk : k < 36) : f_X3_boxAt (nI n) sp (nI (TT k)) = mli k - 1 := by rw [f_X3_boxAt, k_X3_requireSpot, if_neg (isSpot_T hk), if_pos rfl, boxIn_eq h hn hk]
theorem k_weight {s : Nat} (hs : s < 6) : k_X3_weight (nI s) = 0 := by rw [k_X3_weight, if_pos (kShelf hs)]
theorem weight_eq (h : RS n sp mli) (hn : n ≤ 20) {s : Nat} (hs : s < 6) : f_X3_weight (nI n) wt sp (nI s) = sumN (fun i => qW mli wt (6 * s + i)) 6 := by rw [f_X3_weight, if_pos (kShelf hs), weight_rows h hn hs]
theorem weight_eq1 {s : Nat} (hs : s < 6) : f_X3_weight (nI n) wt sp (nI s) = f_X2_weightOn (nI n) wt sp (nI s) := by rw [f_X3_weight, if_pos (kShelf hs)]
theorem k_setClimate {s v : Nat} (hs : s < 6) (hv : v < 3) : k_X3_setClimate (nI s) (nI v) = 0 := by
  rw [k_X3_setClimate, if_pos (kShelf hs), if_neg (show ¬ f_X3_isBelow (nI v) 3 = 0 from belowN (N := 3) hv (by decide))]
theorem setClimate_eq {s v : Nat} (hs : s < 6) (hv : v < 3) : f_X3_setClimate sc (nI s) (nI v) = (sc s, upd sc s (nI v)) := by
  rw [f_X3_setClimate, if_pos (kShelf hs), if_neg (show ¬ f_X3_isBelow (nI v) 3 = 0 from belowN (N := 3) hv (by decide)), climateOf_eq sc hs, f_X2_changeClimate, if_neg (below6 hs), nI_clamp (by omega)]
theorem full_no (hn : n < 20) : f_X2_isFull (nI n) = 0 := (isFull_iff (by omega)).mpr fun z => by
  have := (nI_eq (b := 20) (by omega) (by decide)).mp z
  omega
theorem k_addBox {x y z : Nat} (hn : n < 20) (hx : x < 3) (hy : 1 ≤ y) (hy2 : y ≤ 60) (hz : z < 10) : k_X3_addBox (nI n) (nI x) (nI y) (nI z) = 0 := by
  rw [k_X3_addBox, if_neg (show ¬ f_X3_isBelow (nI x) 3 = 0 from belowN (N := 3) hx (by decide)), if_neg (show ¬ nI y < 1 from nI_nlt (b := 1) hy (by omega)), if_pos (show nI y ≤ 60 from nI_le (b := 60) hy2 (by decide)), if_neg (show ¬ f_X3_isBelow (nI z) 10 = 0 from belowN (N := 10) hz (by decide)), if_pos (full_no hn)]
theorem addBox_eq {x y z : Nat} (hn : n < 20) (hx : x < 3) (hy : 1 ≤ y) (hy2 : y ≤ 60) (hz : z < 10) : f_X3_addBox (nI n) cl wt kn sp (nI x) (nI y) (nI z) = (nI n, nI (n + 1), upd cl n (nI x), upd wt n (nI y), upd kn n (nI z), upd sp n (-1)) := by
  rw [f_X3_addBox, if_neg (show ¬ f_X3_isBelow (nI x) 3 = 0 from belowN (N := 3) hx (by decide)), if_neg (show ¬ nI y < 1 from nI_nlt (b := 1) hy (by omega)), if_pos (show nI y ≤ 60 from nI_le (b := 60) hy2 (by decide)), if_neg (show ¬ f_X3_isBelow (nI z) 10 = 0 from belowN (N := 10) hz (by decide)), if_pos (full_no hn), f_X2_enter, if_pos (full_no hn), nI_clamp (by omega), nI_1]
theorem k_bestSpot (hn : n ≤ 20) (hb : b < n) (e : sp b = -1) : k_X3_bestSpot (nI n) sp (nI b) = 0 := by rw [k_X3_bestSpot, if_pos (kBox hn hb), if_pos (kOut hn hb e)]
theorem bestSpot_eq (hn : n ≤ 20) (hb : b < n) (e : sp b = -1) : f_X3_bestSpot (nI n) sc cl wt kn sp (nI b) = f_X2_bestSpotFor (nI n) sc cl wt kn sp (nI b) := by rw [f_X3_bestSpot, if_pos (kBox hn hb), if_pos (kOut hn hb e)]
theorem k_lay {k : Nat} (hn : n ≤ 20) (hb : b < n) (hk : k < 36) (e : sp b = -1) (es : f_X2_bestSpotFor (nI n) sc cl wt kn sp (nI b) = nI (TT k)) : k_X3_lay (nI n) sc cl wt kn sp (nI b) = 0 := by
  rw [k_X3_lay, if_pos (kBox hn hb), if_pos (kOut hn hb e), es, if_neg (TT_nm1 hk)]
theorem lay_eq {k : Nat} (hn : n ≤ 20) (hb : b < n) (hk : k < 36) (e : sp b = -1) (es : f_X2_bestSpotFor (nI n) sc cl wt kn sp (nI b) = nI (TT k)) : f_X3_lay (nI n) sc cl wt kn sp (nI b) = (nI (TT k), upd sp b (nI (TT k))) := by
  rw [f_X3_lay, if_pos (kBox hn hb), if_pos (kOut hn hb e), es, if_neg (TT_nm1 hk), f_X2_put, if_neg (has1 hn hb), nI_clamp (by omega)]
theorem oFull_no (hno : no < 30) : f_X0_isFull (nI no) = 0 := (oFull_iff (by omega)).mpr fun z => by
  have := (nI_eq (b := 30) (by omega) (by decide)).mp z
  omega
theorem k_order {d : Nat} (hn : n ≤ 20) (hb : b < n) (hno : no < 30) (hd : d ≤ 10000) (hz : ∀ i, i < no → dn i = 0 → ob i ≠ nI b) : k_X3_order (nI n) (nI no) ob dn (nI b) (nI d) = 0 := by
  rw [k_X3_order, if_pos (kBox hn hb), if_neg (nI_pos (by omega)), if_pos (show nI d ≤ 10000 from nI_le (b := 10000) hd (by decide)), if_pos (isOpenFor_no (by omega) hz), if_pos (oFull_no hno)]
theorem order_eq {d : Nat} (hn : n ≤ 20) (hb : b < n) (hno : no < 30) (hd : d ≤ 10000) (hz : ∀ i, i < no → dn i = 0 → ob i ≠ nI b) : f_X3_order (nI n) (nI no) ob od dn (nI b) (nI d) = (nI no, nI (no + 1), upd ob no (nI b), upd od no (nI d)) := by
  rw [f_X3_order, if_pos (kBox hn hb), if_neg (nI_pos (by omega)), if_pos (show nI d ≤ 10000 from nI_le (b := 10000) hd (by decide)), if_pos (isOpenFor_no (by omega) hz), if_pos (oFull_no hno), f_X0_enter, if_pos (oFull_no hno), nI_clamp (by omega), nI_1]
theorem opened_eq : f_X3_opened (nI g) (nI g) = nI g := by rw [f_X3_opened, f_X1_openAisle, if_pos rfl]
theorem opened_ne {t : Nat} (hg : g ≤ 6) (ht : t ≤ 6) (h : g ≠ t) : f_X3_opened (nI g) (nI t) = -1 := by rw [f_X3_opened, open_eq hg ht, if_neg h]
theorem moves_opened (hc : c < 2 ^ 31) (hg : g ≤ 6) (h : RV g mv c) : f_X3_openedByMoves (nI g) mv = nI g := by
  rw [f_X3_openedByMoves, byMoves_eq hc hg h, f_X1_openAisle, if_pos rfl]
theorem k_look (hg : g ≤ 6) : k_X3_look (nI g) (nI g) = 0 := by rw [k_X3_look, f_X1_openAisle, if_pos rfl, if_neg (nI_nm1 (by omega))]
theorem look_eq (hg : g ≤ 6) : f_X3_look (nI g) (nI g) db = (f_X1_hasDoubt db (nI g), upd db g 0) := by
  rw [f_X3_look, f_X1_openAisle, if_pos rfl, if_neg (nI_nm1 (by omega)), f_X1_setDoubt, if_neg (below7' (by omega)), nI_clamp (by omega), vp_nar0]
theorem inside0 (h : ∀ k, k < 4 → ins k = 0) : f_X1_countInside ins = 0 := by
  obtain ⟨d, -, e, h2⟩ := count_cases ins
  rw [e, h2.mpr h]; rfl
theorem may_open (hg : g ≤ 6) (h : ∀ k, k < 4 → ins k = 0) : f_X1_mayOpen (nI g) (nI g) 0 0 (upd db g 0) ins = 1 := by
  rw [f_X1_mayOpen, f_X1_openAisle, if_pos rfl, if_neg (nI_nm1 (by omega)), if_pos (inside0 h), if_pos, if_pos rfl, if_pos rfl]
  rw [f_X1_hasDoubt, if_neg (below7' (by omega)), nI_clamp (by omega), pk_us, if_pos rfl]
theorem k_open {t : Nat} (hg : g ≤ 6) (ht : t ≤ 6) (h : ∀ k, k < 4 → ins k = 0) : k_X3_open (nI g) (nI g) 0 0 (upd db g 0) ins (nI t) = 0 := by
  rw [k_X3_open, if_pos (kAisle (by omega)), may_open hg h, if_neg (by decide)]
theorem openTo_eq {t : Nat} (hg : g ≤ 6) (ht : t ≤ 6) (h : ∀ k, k < 4 → ins k = 0) : f_X3_open (nI g) (nI g) 0 0 (upd db g 0) ins (nI t) = (nI (dst g t), nI t) := by
  rw [f_X3_open, if_pos (kAisle (by omega)), may_open hg h, if_neg (by decide), f_X1_aimAt, moves_eq hg ht]
theorem hmv_of {t : Nat} (hg : g ≤ 6) (ht : t ≤ 6) : okN 6 (f_X1_movesToCome (nI g) (nI t)) := ⟨dst g t, by unfold dst; omega, moves_eq hg ht⟩
theorem k_pass {q : Nat} (h1 : 1 ≤ q) (h2 : q ≤ 100) (h3 : c + q ≤ 10000) : k_X3_pass (nI c) (nI q) = 0 := by
  rw [k_X3_pass, if_neg (show ¬ nI q < 1 from nI_nlt (b := 1) h1 (by omega)), if_pos (show nI q ≤ 100 from nI_le (b := 100) h2 (by decide)), nI_add, if_pos (show nI (c + q) ≤ 10000 from nI_le (b := 10000) h3 (by decide))]
theorem pass_eq {t q : Nat} (hg : g ≤ 6) (ht : t ≤ 6) (h1 : 1 ≤ q) (h2 : q ≤ 100) (h3 : c + q ≤ 10000) (hd : dst g t ≤ q) (hV : RV g mv c) :
    ∃ mv2, f_X3_pass (nI c) (nI g) (nI t) 0 0 mv (nI q) = (nI (c + q), nI (c + q), nI t, mv2) ∧ RV t mv2 (c + q) := by
  have hmv := moves_eq hg ht
  have hd6 : dst g t ≤ 6 := by unfold dst; omega
  have hr : (if f_X1_movesToCome (nI g) (nI t) < nI q then f_X1_movesToCome (nI g) (nI t) else nI q) = nI (dst g t) := by
    rw [hmv]
    by_cases z : nI (dst g t) < nI q
    · rw [if_pos z]
    · rw [if_neg z]
      have : ¬ dst g t < q := fun y => z ((nI_ltI (by omega) (by omega)).mpr y)
      congr 1; omega
  obtain ⟨g2, mv2, e1, k1, k2, k3⟩ := move_go ht (dst g t) 0 g c mv hg (Nat.le_refl _) hV
  have hgt : g2 = t := by unfold dst at k2; omega
  subst hgt
  refine ⟨mv2, ?_, k3.mono (by omega)⟩
  have eF : f_X1_moveFor (nI g) (nI g2) 0 0 mv (nI q) = (nI g2, mv2) := by
    rw [f_X1_moveFor, if_pos rfl, if_pos rfl, hr, nI_clamp (by omega), e1]
  rw [f_X3_pass, if_neg (show ¬ nI q < 1 from nI_nlt (b := 1) h1 (by omega)), if_pos (show nI q ≤ 100 from nI_le (b := 100) h2 (by decide)), nI_add, if_pos (show nI (c + q) ≤ 10000 from nI_le (b := 10000) h3 (by decide)), eF]
-- person 2 goes in, and out again
theorem isIn0 (h : ∀ k, k < 4 → ins k = 0) : f_X1_isInside ins 2 = 0 := by
  rw [f_X1_isInside, if_neg (show ¬ f_X3_isBelow 2 4 = 0 by decide), show (2 : Int32).toNatClampNeg = 2 from rfl, if_pos (h 2 (by decide))]
theorem isIn1 : f_X1_isInside (upd ins 2 1) 2 = 1 := by
  rw [f_X1_isInside, if_neg (show ¬ f_X3_isBelow 2 4 = 0 by decide), show (2 : Int32).toNatClampNeg = 2 from rfl, pk_us, if_neg (by decide)]
theorem setIn (v : Int32) (hv : vp_nar .boolean v = v) : f_X1_setInside ins 2 v = upd ins 2 v := by
  rw [f_X1_setInside, if_neg (show ¬ f_X3_isBelow 2 4 = 0 by decide), show (2 : Int32).toNatClampNeg = 2 from rfl, hv]
theorem inside1 (h : ∀ k, k < 4 → ins k = 0) : f_X1_countInside (upd ins 2 1) = 1 := by
  have e0 : upd ins 2 1 0 = 0 := by rw [pk_un (by decide)]; exact h 0 (by decide)
  have e1 : upd ins 2 1 1 = 0 := by rw [pk_un (by decide)]; exact h 1 (by decide)
  have e2 : upd ins 2 1 2 = 1 := pk_us
  have e3 : upd ins 2 1 3 = 0 := by rw [pk_un (by decide)]; exact h 3 (by decide)
  rw [f_X1_countInside, f_X1_countInside_L, nI_clamp (by decide), if_pos e0, f_X1_countInside_L, nI_clamp (by decide), if_pos e1, f_X1_countInside_L, nI_clamp (by decide), if_neg (by rw [e2]; decide), f_X1_countInside_L, nI_clamp (by decide), if_pos e3, f_X1_countInside_L]
  rfl
theorem ins_back (h : ∀ k, k < 4 → ins k = 0) : ∀ k, k < 4 → upd (upd ins 2 1) 2 0 k = 0 := by
  intro k hk
  by_cases e : k = 2
  · rw [e, pk_us]
  · rw [pk_un e, pk_un e]; exact h k hk
theorem k_pers2 : k_X3_requirePerson 2 = 0 := by decide
theorem k_in2 : k_X3_requireInside (upd ins 2 1) 2 = 0 := by rw [k_X3_requireInside, isIn1, if_neg (by decide)]
theorem may_in (hg : g ≤ 6) : f_X1_mayGoIn (nI g) (nI g) 0 = 1 := by rw [f_X1_mayGoIn, f_X1_openAisle, if_pos rfl, if_neg (nI_nm1 (by omega)), if_pos rfl]
theorem k_goIn (hg : g ≤ 6) (h : ∀ k, k < 4 → ins k = 0) : k_X3_goIn (nI g) (nI g) 0 ins 2 = 0 := by
  rw [k_X3_goIn, if_pos k_pers2, if_pos (isIn0 h), may_in hg, if_neg (by decide)]
theorem goIn_eq (hg : g ≤ 6) (h : ∀ k, k < 4 → ins k = 0) : f_X3_goIn (nI g) (nI g) 0 ins 2 = (1, upd ins 2 1) := by
  rw [f_X3_goIn, if_pos k_pers2, if_pos (isIn0 h), may_in hg, if_neg (by decide), setIn 1 vp_nar1, inside1 h]
theorem k_goOut : k_X3_goOut (upd ins 2 1) 2 = 0 := by rw [k_X3_goOut, if_pos k_pers2, if_pos k_in2]
theorem goOut_eq (h : ∀ k, k < 4 → ins k = 0) : f_X3_goOut (upd ins 2 1) 2 = (0, upd (upd ins 2 1) 2 0) := by
  rw [f_X3_goOut, if_pos k_pers2, if_pos k_in2, setIn 0 vp_nar0, inside0 (ins_back h)]
theorem k_fetch {i : Nat} (hno : no ≤ 30) (hi : i < no) (he : f_X0_earliest (nI no) ob od dn (nI n) sp (nI g) = nI i) : k_X3_fetch (nI n) sp (nI g) (nI g) (upd ins 2 1) (nI no) ob od dn 2 = 0 := by
  rw [k_X3_fetch, if_pos k_pers2, if_pos k_in2, f_X1_openAisle, if_pos rfl, he, if_neg (nI_nm1 (by omega))]
theorem fetch_eq {i : Nat} (hn : n ≤ 20) (hno : no ≤ 30) (hi : i < no) (hb : b < n) (eb : ob i = nI b) (he : f_X0_earliest (nI no) ob od dn (nI n) sp (nI g) = nI i) :
    ∃ l', (l' = l ∨ l' = l + 1) ∧ f_X3_fetch (nI c) (nI n) sp (nI g) (nI g) (upd ins 2 1) (nI no) (nI l) ob od dn 2 = (nI i, upd sp b (-1), nI l', upd dn i 1) := by
  have e : ∀ l', f_X0_finish (nI no) (nI l) od dn (nI i) (nI c) = (nI l', upd dn i 1) → f_X3_fetch (nI c) (nI n) sp (nI g) (nI g) (upd ins 2 1) (nI no) (nI l) ob od dn 2 = (nI i, upd sp b (-1), nI l', upd dn i 1) := by
    intro l' e
    rw [f_X3_fetch, if_pos k_pers2, if_pos k_in2, f_X1_openAisle, if_pos rfl, he, if_neg (nI_nm1 (by omega)), boxOf_eq hno hi, eb, e, f_X2_put, if_neg (has1 hn hb), nI_clamp (by omega)]
  have hbl : ¬ f_X3_isBelow (nI i) (nI no) = 0 := belowN hi (by omega)
  by_cases z : nI c ≤ od i
  · refine ⟨l, Or.inl rfl, e l ?_⟩
    rw [f_X0_finish, if_neg hbl, nI_clamp (by omega), if_pos z]
  · refine ⟨l + 1, Or.inr rfl, e (l + 1) ?_⟩
    rw [f_X0_finish, if_neg hbl, nI_clamp (by omega), if_neg z, nI_1]
theorem k_doubt {k : Nat} (hk : k < 7) : k_X3_doubt (nI k) = 0 := by rw [k_X3_doubt, if_pos (kAisle hk)]
theorem doubt_eq {k : Nat} (hk : k < 7) : f_X3_doubt db (nI k) = (if db k = 0 then 1 else 0, upd db k 1) := by
  have hD : f_X1_hasDoubt db (nI k) = if db k = 0 then 0 else 1 := by rw [f_X1_hasDoubt, if_neg (below7' hk), nI_clamp (by omega)]
  rw [f_X3_doubt, if_pos (kAisle hk), hD, f_X1_setDoubt, if_neg (below7' hk), nI_clamp (by omega), vp_nar1]
  by_cases e : db k = 0
  · rw [if_pos e, if_pos rfl, if_pos e]
  · rw [if_neg e, if_neg (by decide), if_neg e]
theorem stall01 : f_X3_stall 0 1 = (1, 1) := by decide
theorem stall11 : f_X3_stall 1 1 = (0, 1) := by decide
theorem stall10 : f_X3_stall 1 0 = (1, 0) := by decide
theorem out1 (r j : Nat) (m1 : Nat → Int32) : (f_X1_sendAllOut_L ins r j m1).1 = f_X1_countInside ins := by
  induction r generalizing j m1 with
  | zero => rw [f_X1_sendAllOut_L]
  | succ r ih => rw [f_X1_sendAllOut_L]; exact ih _ _
theorem smoke1_eq (h : ∀ k, k < 4 → ins k = 0) : f_X3_smoke ins 1 = (0, 1, (f_X1_sendAllOut ins).2) := by
  rw [f_X3_smoke, if_neg (by decide), f_X1_changeSmoke, f_X1_sendAllOut, out1, inside0 h]
theorem smoke0_eq : f_X3_smoke ins 0 = (0, 0, ins) := by rw [f_X3_smoke, if_pos rfl, f_X1_changeSmoke]
theorem out_all : ∀ k, k < 4 → (f_X1_sendAllOut ins).2 k = 0 := by
  rw [f_X1_sendAllOut]
  exact out_go ins 4 0 ins (by omega) (fun k hk => by omega)
end ANS
/-! the invariant between two turns -/
/-- the orders and the law's own book of them: done ones marked, one undone order a box at most, and 'ordered' says which boxes have one -/
def OP (n no : Nat) (ob dn lo : Nat → Int32) : Prop :=
  (∀ i, no ≤ i → dn i = 0) ∧ (∀ i j, i < no → j < no → dn i = 0 → dn j = 0 → ob i = ob j → i = j) ∧ (∀ b, b < n → (lo b = 0 ↔ ∀ i, i < no → dn i = 0 → ob i ≠ nI b)) ∧ (∀ b, n ≤ b → lo b = 0)
def IV (j n no g c l : Nat) (sp mli ob od dn mv ins lo : Nat → Int32) : Prop :=
  n ≤ 20 ∧ no ≤ 30 ∧ g ≤ 6 ∧ c ≤ 30 * j ∧ l ≤ j ∧ RS n sp mli ∧ OS n no ob od ∧ RV g mv c ∧ (∀ k, k < 4 → ins k = 0) ∧ OP n no ob dn lo
section INV
variable {j n no g c l b : Nat} {sp mli db ins mv ob od dn lo : Nat → Int32}
theorem OS.grow (h : OS n no ob od) : OS (n + 1) no ob od := fun i hi => by
  obtain ⟨⟨b, hb, e⟩, d⟩ := h i hi
  exact ⟨⟨b, by omega, e⟩, d⟩
theorem OP.grow (h : OP n no ob dn lo) (hn : n < 20) (ho : OS n no ob od) : OP (n + 1) no ob dn lo := by
  refine ⟨h.1, h.2.1, fun b hb => ?_, fun b hb => h.2.2.2 b (by omega)⟩
  by_cases e : b = n
  · subst e
    refine ⟨fun _ i hi _ z => ?_, fun _ => h.2.2.2 b (Nat.le_refl b)⟩
    obtain ⟨⟨b2, hb2, e2⟩, -⟩ := ho i hi
    have := (nI_eq (by omega) (by omega)).mp (e2.symm.trans z)
    omega
  · exact h.2.2.1 b (by omega)
theorem OS.order {d : Nat} (h : OS n no ob od) (hb : b < n) (hd : d ≤ 10000) : OS n (no + 1) (upd ob no (nI b)) (upd od no (nI d)) := fun i hi => by
  by_cases e : i = no
  · rw [e, pk_us, pk_us]; exact ⟨⟨b, hb, rfl⟩, d, hd, rfl⟩
  · rw [pk_un e, pk_un e]; exact h i (by omega)
theorem OP.order (h : OP n no ob dn lo) (hn : n ≤ 20) (hb : b < n) (hl : lo b = 0) : OP n (no + 1) (upd ob no (nI b)) dn (upd lo b 1) := by
  have hz := (h.2.2.1 b hb).mp hl
  refine ⟨fun i hi => h.1 i (by omega), fun i k hi hk di dk he => ?_, fun b2 hb2 => ?_, fun b2 hb2 => ?_⟩
  · by_cases ei : i = no
    · by_cases ek : k = no
      · omega
      · rw [ei, pk_us, pk_un ek] at he
        exact absurd he.symm (hz k (by omega) dk)
    · by_cases ek : k = no
      · rw [ek, pk_us, pk_un ei] at he
        exact absurd he (hz i (by omega) di)
      · rw [pk_un ei, pk_un ek] at he
        exact h.2.1 i k (by omega) (by omega) di dk he
  · by_cases e : b2 = b
    · subst e
      rw [pk_us]
      refine ⟨fun z => absurd z (by decide), fun z => ?_⟩
      have := z no (by omega) (h.1 no (Nat.le_refl no))
      rw [pk_us] at this
      exact absurd rfl this
    · rw [pk_un e, h.2.2.1 b2 hb2]
      refine ⟨fun z i hi di => ?_, fun z i hi di => ?_⟩
      · by_cases ei : i = no
        · rw [ei, pk_us]
          intro q
          exact e ((nI_eq (by omega) (by omega)).mp q).symm
        · rw [pk_un ei]; exact z i (by omega) di
      · have := z i (by omega) di
        rw [pk_un (by omega)] at this
        exact this
  · rw [pk_un (by omega)]; exact h.2.2.2 b2 hb2
theorem OP.done {i : Nat} (h : OP n no ob dn lo) (hn : n ≤ 20) (hi : i < no) (hd : dn i = 0) (hb : b < n) (eb : ob i = nI b) : OP n no ob (upd dn i 1) (upd lo b 0) := by
  refine ⟨fun k hk => ?_, fun k q hk hq dk dq he => ?_, fun b2 hb2 => ?_, fun b2 hb2 => ?_⟩
  · rw [pk_un (by omega)]; exact h.1 k hk
  · by_cases e1 : k = i
    · rw [e1, pk_us] at dk; exact absurd dk (by decide)
    · by_cases e2 : q = i
      · rw [e2, pk_us] at dq; exact absurd dq (by decide)
      · rw [pk_un e1] at dk
        rw [pk_un e2] at dq
        exact h.2.1 k q hk hq dk dq he
  · by_cases e : b2 = b
    · subst e
      rw [pk_us]
      refine ⟨fun _ k hk dk z => ?_, fun _ => rfl⟩
      by_cases e1 : k = i
      · rw [e1, pk_us] at dk; exact absurd dk (by decide)
      · rw [pk_un e1] at dk
        exact e1 (h.2.1 k i hk hi dk hd (z.trans eb.symm))
    · rw [pk_un e, h.2.2.1 b2 hb2]
      refine ⟨fun z k hk dk => ?_, fun z k hk dk => ?_⟩
      · by_cases e1 : k = i
        · rw [e1, pk_us] at dk; exact absurd dk (by decide)
        · rw [pk_un e1] at dk; exact z k hk dk
      · by_cases e1 : k = i
        · subst e1
          rw [eb]
          intro q
          exact e ((nI_eq (by omega) (by omega)).mp q).symm
        · exact z k hk (by rw [pk_un e1]; exact dk)
  · rw [pk_un (by omega)]; exact h.2.2.2 b2 hb2
theorem IV.same (h : IV j n no g c l sp mli ob od dn mv ins lo) : IV (j + 1) n no g c l sp mli ob od dn mv ins lo := by
  obtain ⟨h1, h2, h3, h4, h5, h6⟩ := h
  exact ⟨h1, h2, h3, by omega, by omega, h6⟩
theorem IV.addBox (h : IV j n no g c l sp mli ob od dn mv ins lo) (hn : n < 20) : IV (j + 1) (n + 1) no g c l (upd sp n (-1)) mli ob od dn mv ins lo := by
  obtain ⟨h1, h2, h3, h4, h5, hR, hO, hV, hI, hP⟩ := h
  exact ⟨by omega, h2, h3, by omega, by omega, hR.grow hn, hO.grow, hV, hI, hP.grow hn hO⟩
theorem IV.lay {k : Nat} (h : IV j n no g c l sp mli ob od dn mv ins lo) (hb : b < n) (hs : sp b = -1) (hk : k < 36) (hm : mli k = 0) : IV (j + 1) n no g c l (upd sp b (nI (TT k))) (upd mli k (nI (b + 1))) ob od dn mv ins lo := by
  obtain ⟨h1, h2, h3, h4, h5, hR, hO, hV, hI, hP⟩ := h
  exact ⟨h1, h2, h3, by omega, by omega, hR.put h1 hb hs hk hm, hO, hV, hI, hP⟩
theorem IV.order {d : Nat} (h : IV j n no g c l sp mli ob od dn mv ins lo) (hno : no < 30) (hb : b < n) (hl : lo b = 0) (hd : d ≤ 10000) : IV (j + 1) n (no + 1) g c l sp mli (upd ob no (nI b)) (upd od no (nI d)) dn mv ins (upd lo b 1) := by
  obtain ⟨h1, h2, h3, h4, h5, hR, hO, hV, hI, hP⟩ := h
  exact ⟨h1, by omega, h3, by omega, by omega, hR, hO.order hb hd, hV, hI, hP.order h1 hb hl⟩
theorem IV.done {i k l' : Nat} {ins' : Nat → Int32} (h : IV j n no g c l sp mli ob od dn mv ins lo) (hi : i < no) (hd : dn i = 0) (hb : b < n) (eb : ob i = nI b) (hk : k < 36) (hs : sp b = nI (TT k)) (hl : l' = l ∨ l' = l + 1) (hins : ∀ k, k < 4 → ins' k = 0) :
    IV (j + 1) n no g c l' (upd sp b (-1)) (upd mli k 0) ob od (upd dn i 1) mv ins' (upd lo b 0) := by
  obtain ⟨h1, h2, h3, h4, h5, hR, hO, hV, hI, hP⟩ := h
  exact ⟨h1, h2, h3, by omega, by omega, hR.out h1 hb hk hs, hO, hV, hins, hP.done h1 hi hd hb eb⟩
theorem IV.inz {ins' : Nat → Int32} (h : IV j n no g c l sp mli ob od dn mv ins lo) (hins : ∀ k, k < 4 → ins' k = 0) : IV (j + 1) n no g c l sp mli ob od dn mv ins' lo := by
  obtain ⟨h1, h2, h3, h4, h5, hR, hO, hV, -, hP⟩ := h
  exact ⟨h1, h2, h3, by omega, by omega, hR, hO, hV, hins, hP⟩
theorem IV.pass {t q : Nat} {mv' : Nat → Int32} (h : IV j n no g c l sp mli ob od dn mv ins lo) (ht : t ≤ 6) (hq : q ≤ 30) (hV' : RV t mv' (c + q)) : IV (j + 1) n no t (c + q) l sp mli ob od dn mv' ins lo := by
  obtain ⟨h1, h2, h3, h4, h5, hR, hO, hV, hI, hP⟩ := h
  exact ⟨h1, h2, ht, by omega, by omega, hR, hO, hV', hI, hP⟩
theorem IV.at {t : Nat} (h : IV j n no g c l sp mli ob od dn mv ins lo) (ht : g = t) : IV (j + 1) n no t c l sp mli ob od dn mv ins lo := by subst ht; exact h.same
theorem IV0 : IV 0 0 0 0 0 0 (fun _ => 0) (fun _ => 0) (fun _ => 0) (fun _ => 0) (fun _ => 0) (fun _ => 0) (fun _ => 0) (fun _ => 0) :=
  ⟨by omega, by omega, by omega, by omega, by omega, ⟨fun b hb => by omega, fun k _ => Or.inl rfl, fun k b _ hb => by omega⟩, fun j hj => by omega, fun s _ => ⟨0, by omega, rfl, by omega⟩, fun _ _ => rfl, fun _ _ => rfl, fun i j hi => by omega, fun b hb => by omega, fun _ _ => rfl⟩
end INV
/-! the law's numbers -/
/-- low(v, N) -/
def lowN (v : Int32) (N : Nat) : Nat := v.toBitVec.toNat % 2 ^ 31 % N
theorem lowN_lt (v : Int32) {N : Nat} (h : 0 < N) : lowN v N < N := Nat.mod_lt _ h
theorem low_eq (v : Int32) {N : Nat} (h : 0 < N) (hN : N < 2 ^ 31) : (v &&& 2147483647) - (v &&& 2147483647) / nI N * nI N = nI (lowN v N) := by
  rw [pk_and v (m := 2147483647) 31 (by decide)]
  exact pk_rem (Nat.mod_lt _ (Nat.two_pow_pos 31)) h hN
theorem sub_sub1 (x y z : Int32) : x - y - z = x - (y + z) := by
  rw [Int32.sub_eq_add_neg, Int32.sub_eq_add_neg, Int32.sub_eq_add_neg, Int32.neg_add, Int32.sub_eq_add_neg, Int32.add_assoc]
end
