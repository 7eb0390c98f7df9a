section
-- ===== PART A: goes FIRST, ahead of the names: the tables' words, and 'selects' of the private methods out of them =====
/-- a private method of a class that the tables say can be made, by its rows of tables_1 -/
def lw_okq (q : MethodName × Nat) : Prop := (q.1.cls ≠ "java/lang/invoke/MethodHandle" ∧ q.1.cls ≠ "java/lang/invoke/VarHandle") ∧ Cond.instantiable q.1.cls q.2 ∈ tables_1 ∧ Cond.privateMethod q.1 ∈ tables_1 ∧ Cond.instanceMethod q.1 ∈ tables_1
theorem lw_p0 : lw_okq (⟨"Rackrail", "requireShelf", "(I)V"⟩, 4) := ⟨⟨by decide +kernel, by decide +kernel⟩, List.mem_of_getElem? (i := 14) (by decide +kernel), List.mem_of_getElem? (i := 232) (by decide +kernel), List.mem_of_getElem? (i := 233) (by decide +kernel)⟩
theorem lw_p1 : lw_okq (⟨"java/lang/Throwable", "fillInStackTrace", "(I)Ljava/lang/Throwable;"⟩, 6) := ⟨⟨by decide +kernel, by decide +kernel⟩, List.mem_of_getElem? (i := 275) (by decide +kernel), List.mem_of_getElem? (i := 273) (by decide +kernel), List.mem_of_getElem? (i := 274) (by decide +kernel)⟩
theorem lw_p2 : lw_okq (⟨"Rackrail", "requireBox", "(I)V"⟩, 4) := ⟨⟨by decide +kernel, by decide +kernel⟩, List.mem_of_getElem? (i := 14) (by decide +kernel), List.mem_of_getElem? (i := 368) (by decide +kernel), List.mem_of_getElem? (i := 369) (by decide +kernel)⟩
theorem lw_p3 : lw_okq (⟨"Rackrail", "requireOut", "(I)V"⟩, 4) := ⟨⟨by decide +kernel, by decide +kernel⟩, List.mem_of_getElem? (i := 14) (by decide +kernel), List.mem_of_getElem? (i := 374) (by decide +kernel), List.mem_of_getElem? (i := 375) (by decide +kernel)⟩
theorem lw_p4 : lw_okq (⟨"Rackrail$Store", "liesOn", "(II)Z"⟩, 6) := ⟨⟨by decide +kernel, by decide +kernel⟩, List.mem_of_getElem? (i := 22) (by decide +kernel), List.mem_of_getElem? (i := 388) (by decide +kernel), List.mem_of_getElem? (i := 389) (by decide +kernel)⟩
theorem lw_p5 : lw_okq (⟨"Rackrail$Store", "firstFreeSpot", "(I)I"⟩, 6) := ⟨⟨by decide +kernel, by decide +kernel⟩, List.mem_of_getElem? (i := 22) (by decide +kernel), List.mem_of_getElem? (i := 392) (by decide +kernel), List.mem_of_getElem? (i := 393) (by decide +kernel)⟩
theorem lw_p6 : lw_okq (⟨"Rackrail$Store", "countKin", "(II)I"⟩, 6) := ⟨⟨by decide +kernel, by decide +kernel⟩, List.mem_of_getElem? (i := 22) (by decide +kernel), List.mem_of_getElem? (i := 403) (by decide +kernel), List.mem_of_getElem? (i := 404) (by decide +kernel)⟩
theorem lw_p7 : lw_okq (⟨"Rackrail", "requireSpot", "(I)V"⟩, 4) := ⟨⟨by decide +kernel, by decide +kernel⟩, List.mem_of_getElem? (i := 14) (by decide +kernel), List.mem_of_getElem? (i := 433) (by decide +kernel), List.mem_of_getElem? (i := 434) (by decide +kernel)⟩
theorem lw_p8 : lw_okq (⟨"Rackrail", "requireAisle", "(I)V"⟩, 4) := ⟨⟨by decide +kernel, by decide +kernel⟩, List.mem_of_getElem? (i := 14) (by decide +kernel), List.mem_of_getElem? (i := 460) (by decide +kernel), List.mem_of_getElem? (i := 461) (by decide +kernel)⟩
theorem lw_p9 : lw_okq (⟨"Rackrail", "requirePerson", "(I)V"⟩, 4) := ⟨⟨by decide +kernel, by decide +kernel⟩, List.mem_of_getElem? (i := 14) (by decide +kernel), List.mem_of_getElem? (i := 494) (by decide +kernel), List.mem_of_getElem? (i := 495) (by decide +kernel)⟩
theorem lw_p10 : lw_okq (⟨"Rackrail", "requireInside", "(I)V"⟩, 4) := ⟨⟨by decide +kernel, by decide +kernel⟩, List.mem_of_getElem? (i := 14) (by decide +kernel), List.mem_of_getElem? (i := 521) (by decide +kernel), List.mem_of_getElem? (i := 522) (by decide +kernel)⟩
theorem lw_p11 : lw_okq (⟨"Rackrail$Rail", "moveOne", "()V"⟩, 7) := ⟨⟨by decide +kernel, by decide +kernel⟩, List.mem_of_getElem? (i := 48) (by decide +kernel), List.mem_of_getElem? (i := 563) (by decide +kernel), List.mem_of_getElem? (i := 564) (by decide +kernel)⟩
theorem lw_p12 : lw_okq (⟨"RackrailModel", "isBox", "(I)Z"⟩, 19) := ⟨⟨by decide +kernel, by decide +kernel⟩, List.mem_of_getElem? (i := 613) (by decide +kernel), List.mem_of_getElem? (i := 699) (by decide +kernel), List.mem_of_getElem? (i := 700) (by decide +kernel)⟩
theorem lw_p13 : lw_okq (⟨"RackrailModel", "spot", "(I)I"⟩, 19) := ⟨⟨by decide +kernel, by decide +kernel⟩, List.mem_of_getElem? (i := 613) (by decide +kernel), List.mem_of_getElem? (i := 703) (by decide +kernel), List.mem_of_getElem? (i := 704) (by decide +kernel)⟩
theorem lw_p14 : lw_okq (⟨"RackrailModel", "best", "(I)I"⟩, 19) := ⟨⟨by decide +kernel, by decide +kernel⟩, List.mem_of_getElem? (i := 613) (by decide +kernel), List.mem_of_getElem? (i := 707) (by decide +kernel), List.mem_of_getElem? (i := 708) (by decide +kernel)⟩
theorem lw_p15 : lw_okq (⟨"RackrailModel", "weighs", "(I)I"⟩, 19) := ⟨⟨by decide +kernel, by decide +kernel⟩, List.mem_of_getElem? (i := 613) (by decide +kernel), List.mem_of_getElem? (i := 711) (by decide +kernel), List.mem_of_getElem? (i := 712) (by decide +kernel)⟩
def lw_privs_1 : List (MethodName × Nat) := [(⟨"Rackrail", "requireShelf", "(I)V"⟩, 4), (⟨"java/lang/Throwable", "fillInStackTrace", "(I)Ljava/lang/Throwable;"⟩, 6), (⟨"Rackrail", "requireBox", "(I)V"⟩, 4), (⟨"Rackrail", "requireOut", "(I)V"⟩, 4), (⟨"Rackrail$Store", "liesOn", "(II)Z"⟩, 6), (⟨"Rackrail$Store", "firstFreeSpot", "(I)I"⟩, 6), (⟨"Rackrail$Store", "countKin", "(II)I"⟩, 6), (⟨"Rackrail", "requireSpot", "(I)V"⟩, 4), (⟨"Rackrail", "requireAisle", "(I)V"⟩, 4), (⟨"Rackrail", "requirePerson", "(I)V"⟩, 4), (⟨"Rackrail", "requireInside", "(I)V"⟩, 4), (⟨"Rackrail$Rail", "moveOne", "()V"⟩, 7), (⟨"RackrailModel", "isBox", "(I)Z"⟩, 19), (⟨"RackrailModel", "spot", "(I)I"⟩, 19), (⟨"RackrailModel", "best", "(I)I"⟩, 19), (⟨"RackrailModel", "weighs", "(I)I"⟩, 19)]
theorem lw_r1 : ∀ q ∈ lw_privs_1, lw_okq q := List.forall_mem_cons.mpr ⟨lw_p0, List.forall_mem_cons.mpr ⟨lw_p1, List.forall_mem_cons.mpr ⟨lw_p2, List.forall_mem_cons.mpr ⟨lw_p3, List.forall_mem_cons.mpr ⟨lw_p4, List.forall_mem_cons.mpr ⟨lw_p5, List.forall_mem_cons.mpr ⟨lw_p6, List.forall_mem_cons.mpr ⟨lw_p7, List.forall_mem_cons.mpr ⟨lw_p8, List.forall_mem_cons.mpr ⟨lw_p9, List.forall_mem_cons.mpr ⟨lw_p10, List.forall_mem_cons.mpr ⟨lw_p11, List.forall_mem_cons.mpr ⟨lw_p12, List.forall_mem_cons.mpr ⟨lw_p13, List.forall_mem_cons.mpr ⟨lw_p14, List.forall_mem_cons.mpr ⟨lw_p15, fun _ h => absurd h List.not_mem_nil⟩⟩⟩⟩⟩⟩⟩⟩⟩⟩⟩⟩⟩⟩⟩⟩
theorem lw_p16 : lw_okq (⟨"RackrailModel", "kin", "(II)I"⟩, 19) := ⟨⟨by decide +kernel, by decide +kernel⟩, List.mem_of_getElem? (i := 613) (by decide +kernel), List.mem_of_getElem? (i := 715) (by decide +kernel), List.mem_of_getElem? (i := 716) (by decide +kernel)⟩
theorem lw_p17 : lw_okq (⟨"RackrailModel", "fails", "(I)I"⟩, 19) := ⟨⟨by decide +kernel, by decide +kernel⟩, List.mem_of_getElem? (i := 613) (by decide +kernel), List.mem_of_getElem? (i := 737) (by decide +kernel), List.mem_of_getElem? (i := 738) (by decide +kernel)⟩
theorem lw_p18 : lw_okq (⟨"RackrailModel", "inside", "()I"⟩, 19) := ⟨⟨by decide +kernel, by decide +kernel⟩, List.mem_of_getElem? (i := 613) (by decide +kernel), List.mem_of_getElem? (i := 753) (by decide +kernel), List.mem_of_getElem? (i := 754) (by decide +kernel)⟩
theorem lw_p19 : lw_okq (⟨"RackrailModel", "hasOpen", "(I)Z"⟩, 19) := ⟨⟨by decide +kernel, by decide +kernel⟩, List.mem_of_getElem? (i := 613) (by decide +kernel), List.mem_of_getElem? (i := 801) (by decide +kernel), List.mem_of_getElem? (i := 802) (by decide +kernel)⟩
theorem lw_p20 : lw_okq (⟨"RackrailModel", "first", "(I)I"⟩, 19) := ⟨⟨by decide +kernel, by decide +kernel⟩, List.mem_of_getElem? (i := 613) (by decide +kernel), List.mem_of_getElem? (i := 809) (by decide +kernel), List.mem_of_getElem? (i := 810) (by decide +kernel)⟩
def lw_privs_2 : List (MethodName × Nat) := [(⟨"RackrailModel", "kin", "(II)I"⟩, 19), (⟨"RackrailModel", "fails", "(I)I"⟩, 19), (⟨"RackrailModel", "inside", "()I"⟩, 19), (⟨"RackrailModel", "hasOpen", "(I)Z"⟩, 19), (⟨"RackrailModel", "first", "(I)I"⟩, 19)]
theorem lw_r2 : ∀ q ∈ lw_privs_2, lw_okq q := List.forall_mem_cons.mpr ⟨lw_p16, List.forall_mem_cons.mpr ⟨lw_p17, List.forall_mem_cons.mpr ⟨lw_p18, List.forall_mem_cons.mpr ⟨lw_p19, List.forall_mem_cons.mpr ⟨lw_p20, fun _ h => absurd h List.not_mem_nil⟩⟩⟩⟩⟩
def lw_privs : List (MethodName × Nat) := lw_privs_1 ++ (lw_privs_2)
def lw_tbl : List Cond := k2_sels lw_privs ++ tables_1
theorem lw_privs_ok : ∀ q ∈ lw_privs, lw_okq q := by
  show ∀ q ∈ lw_privs_1 ++ (lw_privs_2), lw_okq q
  exact List.forall_mem_append.mpr ⟨lw_r1, lw_r2⟩
end
section
/-! ===== BEGIN words of one list among another's, by their places ===== -/
theorem goodIn_r {big : List Cond} (ws : List Cond) (ps : List Nat) (hp : ws = ps.filterMap (fun i => big[i]?)) (h : ws.all goodWord = true) : GoodIn big ws := by
  intro w hw
  have h1 := List.all_eq_true.mp h w hw
  rw [hp] at hw
  obtain ⟨i, -, hi⟩ := List.mem_filterMap.mp hw
  have hm : w ∈ big := by first | exact List.mem_of_getElem? hi | exact List.getElem?_mem hi
  exact ⟨hm, good_of_word h1⟩
theorem goodIn_app {big a b : List Cond} (ha : GoodIn big a) (hb : GoodIn big b) : GoodIn big (a ++ b) := fun w h => (List.mem_append.mp h).elim (ha w) (hb w)
theorem goodIn_ca {big a b : List Cond} {c : Cond} (ha : GoodIn big (c :: a)) (hb : GoodIn big b) : GoodIn big (c :: (a ++ b)) := fun w h => (List.mem_cons.mp h).elim (fun e => ha w (List.mem_cons.mpr (Or.inl e))) (fun h => (List.mem_append.mp h).elim (fun h => ha w (List.mem_cons.mpr (Or.inr h))) (hb w))
theorem goodIn_sub {big ws : List Cond} (hm : ∀ w ∈ ws, w ∈ big) (h : ws.all goodWord = true) : GoodIn big ws := fun w hw => ⟨hm w hw, good_of_word (List.all_eq_true.mp h w hw)⟩
/-! ===== END ===== -/

/-! ===== BEGIN exceptions that leave a method, and their catching by the caller (launches without stack traces) ===== -/
section VXA
/-! The laws vx_back, vx_callV, vx_callS, vx_callSW, vx_throw0, vx_throwS follow proofs of the library, with one case more: JvmDerived/Free/Laws.lean (Back.of_free), Shelf42/LK1.lean (callV, callS), Shelf/KitTraced.lean (throwNew0V, throwNewS). -/
/-- where a method has thrown q: the class by its name, the cell, what was written, the world -/
def vx_T (XC : String → State → State → Prop) (st : State) (q : Addr) (t : State) (mc ms : Nat) (free : Addr → Prop) : Prop :=
  ∃ (E : String) (ce : Cell) (L : List Loc), XC E st t ∧ t.heap[q]? = some ce ∧ ce.vm = .none ∧ st.vm.findClass E = some ce.cls ∧ st.WarmedH t.vm ∧ st.sameButNew ({ t with vm := st.vm } : State) L mc ms ∧ ∀ z ∈ L, free z.base
def vx_Q (Qc : Array Value → State → Outcome → State → Prop) (XC : String → State → State → Prop) (mc ms : Nat) (free : Addr → Prop) : Array Value → State → Outcome → State → Prop := fun a st o t =>
  (Qc a st o t ∧ ∃ L, FrameEnd st o t L mc ms ∧ ∀ q ∈ L, free q.base) ∨ ∃ q, o = .threw q ∧ vx_T XC st q t mc ms free
/-- a callee that returns or throws -/
def vx_Met (l : Launch) (y : MethodName) (ws : List Cond) (rm : Room) (Pc : Array Value → State → Prop) (Qc : Array Value → State → Outcome → State → Prop) (XC : String → State → State → Prop) (mc ms : Nat) (free : Addr → Prop) : Prop :=
  MetFree l y (headSpec ws rm) Pc (fun _ _ _ _ _ => True) (vx_Q Qc XC mc ms free)
def vx_Post (XC : String → State → State → Prop) (mc ms : Nat) (free : Addr → Prop) : Pt → Array Value → Addr → Pt → Prop := fun A a q B =>
  ∃ (g : JFrame) (mk : MethodId) (t : State) (L : List Loc) (E : String) (ce : Cell), B.U.heap = t.heap ∧ B.U.vm = t.vm ∧ XC E (A.U.calling g mk a) t ∧ t.heap[q]? = some ce ∧ ce.vm = .none ∧ A.U.vm.findClass E = some ce.cls ∧ B.locs = A.locs ++ L ∧ (∀ z ∈ L, free z.base) ∧ B.cells = A.cells + mc ∧ B.slots = A.slots + ms
def vx_Back (l : Launch) (R : Room) (p : Program) (e : Env) (below : List Frame) (s : State) (sargs : Array Value) (y : MethodName) (len W9 : Nat)
    (Pre : Pt → Array Value → Prop) (Post : Pt → Array Value → Option Value → Pt → Prop) (PostX : Pt → Array Value → Addr → Pt → Prop) : Prop :=
  ∀ (m : MethodId) (meth : Method) (c : Code) (A : Pt) (g : JFrame) (ig : Instr) (mk : MethodId) (a : Array Value),
    Stand p l e R s m sargs below meth c A.U A.locs A.cells A.slots → g.method = m → g.locals.size = c.maxLocals → decode c.code g.pc = .ok (ig, len) →
    2 * g.monitorRoom + (g.stack.map fun v => v.category).sum ≤ W9 → A.U.methodNamed? y = some mk → Pre A a →
    (∃ (v : Option Value) (B : Pt), Stand p l e R s m sargs below meth c B.U B.locs B.cells B.slots ∧ Post A a v B ∧
      Steps p.tables e below (doInvoke e (A.U.setTop g) [] mk a).1 (B.U.setTop { g with pc := g.pc + len, stack := v.toList ++ g.stack })) ∨
    (∃ (q : Addr) (B : Pt), Stand p l e R s m sargs below meth c B.U B.locs B.cells B.slots ∧ PostX A a q B ∧
      Steps p.tables e below (doInvoke e (A.U.setTop g) [] mk a).1 ((B.U.setTop g).pushFrame (.throwing q)))
section Payer
variable {l : Launch} {R : Room} {p : Program} {e : Env} {below : List Frame} {s : State} {sargs : Array Value} {y : MethodName} {len W9 : Nat}
theorem vx_back {ws : List Cond} {rm : Room} {Pc : Array Value → State → Prop} {Qc : Array Value → State → Outcome → State → Prop} {XC : String → State → State → Prop} {mc ms : Nat} {free : Addr → Prop} {bytes : ByteArray} {maxL : Nat} {ret : Option FieldType}
    (hM : vx_Met l y ws rm Pc Qc XC mc ms free) (hblind : FrameBlind Pc) (hrc : rm.cells = mc) (hrs : rm.slots = ms)
    (hframes : rm.frames + 1 ≤ R.frames) (hlocals : W9 + (maxL + 11) + rm.locals ≤ R.locals)
    (hws : ∀ w ∈ ws, ∀ a' U, s.WarmedH U.vm → w.before a' U = true) (hcode : Cond.code y bytes maxL ret ∈ ws) (hinit : ∀ a' U, s.WarmedH U.vm → (Cond.initialized y.cls).before a' U = true) :
    vx_Back l R p e below s sargs y len W9 (PreOf R mc ms Pc) (PostOf Qc mc ms free) (vx_Post XC mc ms free) := by
  intro m meth c A g ig mk a X hg hsize hdg hW hn hp
  have h1 : (headSpec ws rm).pre.before a A.U = true := atoms_intro fun w hw => hws w hw _ _ X.warmed
  have h2 : (Cond.code y bytes maxL ret).before a A.U = true := hws _ hcode _ _ X.warmed
  have h3 : (Cond.initialized y.cls).before a A.U = true := hinit _ _ X.warmed
  have h4 : A.cells + (headSpec ws rm).room.cells ≤ R.cells := by rw [show (headSpec ws rm).room.cells = mc from hrc]; exact hp.1
  have h5 : A.slots + (headSpec ws rm).room.slots ≤ R.slots := by rw [show (headSpec ws rm).room.slots = ms from hrs]; exact hp.2.1
  have hPc : Pc a (A.U.calling g mk a) := hblind _ _ _ _ hp.2.2
  obtain ⟨U, Ls, c0, s0⟩ := A
  dsimp only [Pt.U, Pt.locs, Pt.cells, Pt.slots] at h1 h2 h3 h4 h5 X hn hPc ⊢
  obtain ⟨methY, cY, hmY, hcY, -, hlY, -, -, -, -⟩ := Cond.code_spec hn h2
  obtain ⟨kY, hkY, -⟩ := className_of_methodNamed hn
  have hinitY : kY.init = .initialized := Cond.initialized_spec (findClass_of_methodNamed hn) hkY h3
  have h : At U g.method c below := by rw [hg]; exact X.here
  have hlocals9 : W9 + (maxL + 11) + (headSpec ws rm).room.locals ≤ R.locals := hlocals
  have happ : (headSpec ws rm).appliesLoose y e.platform (U.calling g mk a) = true :=
    Spec.appliesLoose_calling (g := g) h hdg hn hkY hinitY
      (X.room_calling (g := g) (R' := (headSpec ws rm).room) hsize hmY hcY hframes (by rw [hlY]; omega) h4 h5) h1
  obtain ⟨mid, hmid⟩ := h.above
  have hfr : (U.setTop g).frames = (.java g :: mid) ++ below := by rw [State.frames_setTop' g h.top, hmid]; rfl
  obtain ⟨o, s₂, hsteps, -, hend, hq⟩ := Steps.callFree hM p X.admits X.cas X.clock (acts := []) hfr happ hPc trivial
  have hq' : vx_Q Qc XC mc ms free a (U.calling g mk a) o s₂ := hq
  rw [State.frames_setTop' g h.top] at hend
  obtain ⟨g₀, hg0⟩ := Option.isSome_iff_exists.mp h.top
  obtain ⟨r, hr⟩ := State.topJava?_eq_some.mp hg0
  have hr' : (({ U with heap := s₂.heap, slotsUsed := s₂.slotsUsed } : State).setVm s₂.vm).frames = .java g₀ :: r := hr
  rcases hq' with ⟨hqc, L, hfe, hL⟩ | ⟨q, rfl, E, ce, L, hx, hce, hcv, hcl, hW₂, hsm, hL⟩
  · obtain ⟨⟨v, rfl⟩, hW₂, e2, q2, q3, q4, q5, q6⟩ := id hfe
    have e3 : s₂ = ({ (U.calling g mk a).setFrames s₂.frames with heap := s₂.heap, slotsUsed := s₂.slotsUsed } : State).setVm s₂.vm := by
      have : s₂ = ({ s₂ with vm := (U.calling g mk a).vm } : State).setVm s₂.vm := rfl
      rw [e2] at this
      exact this
    obtain ⟨c₂, i₂, len₂, hc₂, hd₂, hf₂⟩ := hend
    have hW' : U.WarmedH s₂.vm := hW₂
    have hcc : c₂ = c := by
      have h1 : s₂.code? g.method = U.code? g.method := by
        rw [State.code?_eq, State.code?_eq, hW'.alike.method?]
      exact Option.some.inj (hc₂.symm.trans (h1.trans h.code))
    subst hcc
    have hlen : len₂ = len := by rw [hdg] at hd₂; cases hd₂; rfl
    subst hlen
    have hs₂ : s₂ = (({ U with heap := s₂.heap, slotsUsed := s₂.slotsUsed } : State).setVm s₂.vm).setTop { g with pc := g.pc + len₂, stack := v.toList ++ g.stack } := by
      refine e3.trans ?_
      rw [hf₂, State.calling_eq h.top, State.setFrames_setFrames, State.setTop_of_frames _ hr', hr]
      rfl
    have hsame : U.sameButNew ({ U with heap := s₂.heap, slotsUsed := s₂.slotsUsed } : State) L mc ms := by
      refine ⟨?_, q2, q3, q4, q5, q6⟩
      obtain ⟨t, ht, -⟩ := State.frames_cons hr
      show ({ U with heap := s₂.heap, slotsUsed := s₂.slotsUsed } : State) = { U.setFrames U.frames with heap := s₂.heap, slotsUsed := s₂.slotsUsed }
      rw [State.setFrames_self ht]
    subst hg
    refine Or.inl ⟨v, ⟨(({ U with heap := s₂.heap, slotsUsed := s₂.slotsUsed } : State).setVm s₂.vm), Ls ++ L, c0 + mc, s0 + ms⟩,
      ⟨X.admits, X.cas, X.clock, X.frames, X.room, X.hears, X.method, X.code, (X.here.setHeapUsed s₂.heap s₂.slotsUsed).setVm hW'.alike, X.tail, State.WarmedH.trans X.warmed hW', X.limits, X.bytes, X.same.trans (hsame.setVm s.vm)⟩,
      ⟨g, mk, s₂, L, rfl, rfl, hqc, rfl, hL, rfl, rfl⟩, ?_⟩
    show Steps p.tables e below _ ((({ U with heap := s₂.heap, slotsUsed := s₂.slotsUsed } : State).setVm s₂.vm).setTop { g with pc := g.pc + len₂, stack := v.toList ++ g.stack })
    rw [← hs₂]
    exact hsteps
  · obtain ⟨e2, q2, q3, q4, q5, q6⟩ := id hsm
    have e3 : s₂ = ({ (U.calling g mk a).setFrames s₂.frames with heap := s₂.heap, slotsUsed := s₂.slotsUsed } : State).setVm s₂.vm := by
      have : s₂ = ({ s₂ with vm := (U.calling g mk a).vm } : State).setVm s₂.vm := rfl
      rw [e2] at this
      exact this
    have hf₂ : s₂.frames = .throwing q :: .java g :: U.frames.tail := hend
    have hW' : U.WarmedH s₂.vm := hW₂
    have hs₂ : s₂ = ((({ U with heap := s₂.heap, slotsUsed := s₂.slotsUsed } : State).setVm s₂.vm).setTop g).pushFrame (.throwing q) := by
      refine e3.trans ?_
      rw [hf₂, State.calling_eq h.top, State.setFrames_setFrames, State.pushFrame, State.frames_setTop _ hr', State.setTop_of_frames _ hr', State.setFrames_setFrames, hr]
      rfl
    have hsame : U.sameButNew ({ U with heap := s₂.heap, slotsUsed := s₂.slotsUsed } : State) L mc ms := by
      refine ⟨?_, q2, q3, q4, q5, q6⟩
      obtain ⟨t, ht, -⟩ := State.frames_cons hr
      show ({ U with heap := s₂.heap, slotsUsed := s₂.slotsUsed } : State) = { U.setFrames U.frames with heap := s₂.heap, slotsUsed := s₂.slotsUsed }
      rw [State.setFrames_self ht]
    subst hg
    refine Or.inr ⟨q, ⟨(({ U with heap := s₂.heap, slotsUsed := s₂.slotsUsed } : State).setVm s₂.vm), Ls ++ L, c0 + mc, s0 + ms⟩,
      ⟨X.admits, X.cas, X.clock, X.frames, X.room, X.hears, X.method, X.code, (X.here.setHeapUsed s₂.heap s₂.slotsUsed).setVm hW'.alike, X.tail, State.WarmedH.trans X.warmed hW', X.limits, X.bytes, X.same.trans (hsame.setVm s.vm)⟩,
      ⟨g, mk, s₂, L, E, ce, rfl, rfl, hx, hce, hcv, hcl, rfl, hL, rfl, rfl⟩, ?_⟩
    show Steps p.tables e below _ (((({ U with heap := s₂.heap, slotsUsed := s₂.slotsUsed } : State).setVm s₂.vm).setTop g).pushFrame (.throwing q))
    rw [← hs₂]
    exact hsteps
end Payer
section Calls
variable {p : Program} {l : Launch} {e : Env} {R : Room} {s : State} {m : MethodId} {args : Array Value} {below : List Frame} {meth : Method} {c : Code} {T : State} {locs : List Loc} {cells slots : Nat}
theorem vx_callV (X : Stand p l e R s m args below meth c T locs cells slots) (hexec : p.tables.exec = Jvm.exec) {own C : String} {index : Nat} {y : MethodName} {bytes : ByteArray} {maxL : Nat} {ret : Option FieldType}
    (hown : s.vm.findClass own = some m.cls) (hlink : (Cond.methodLink own index y).before args s = true) (hinst : (Cond.instanceMethod y).before args s = true) (hsel : (Cond.selects C y y).before args s = true)
    (hcode : (Cond.code y bytes maxL ret).before args s = true) (hy : y.cls ≠ "java/lang/invoke/MethodHandle" ∧ y.cls ≠ "java/lang/invoke/VarHandle")
    {W9 : Nat} {Pre : Pt → Array Value → Prop} {Post : Pt → Array Value → Option Value → Pt → Prop} {PostX : Pt → Array Value → Addr → Pt → Prop} (hK : vx_Back l R p e below s args y 3 W9 Pre Post PostX)
    {b : Addr} {cellB : Cell} (hcell : T.heap[b]? = some cellB) (hobj : cellB.vm.isStatics = false) (hcls : s.vm.findClass C = some cellB.cls)
    {g : JFrame} (hg : g.method = m) (hsize : g.locals.size = c.maxLocals) {argsL rest : List Value} (hlen : ∀ sig, parseMethodDescriptor y.desc = some sig → argsL.length = sig.parameters.length)
    (hstack : g.stack = argsL.reverse ++ .ref b :: rest) (hW : 2 * g.monitorRoom + (rest.map fun v => v.category).sum ≤ W9) (hdg : decode c.code g.pc = .ok (.invokevirtual index, 3))
    (hpre : ∀ vm₁, s.WarmedH vm₁ → Pre ⟨T.setVm vm₁, locs, cells, slots⟩ (Value.ref b :: argsL).toArray) :
    (∃ (v : Option Value) (vm₁ : Vm) (B : Pt), s.WarmedH vm₁ ∧ Stand p l e R s m args below meth c B.U B.locs B.cells B.slots ∧ Post ⟨T.setVm vm₁, locs, cells, slots⟩ (Value.ref b :: argsL).toArray v B ∧
      ∀ target, Steps p.tables e below (B.U.setTop { g with pc := g.pc + 3, stack := v.toList ++ rest }) target → Steps p.tables e below (T.setTop g) target) ∨
    (∃ (q : Addr) (vm₁ : Vm) (B : Pt), s.WarmedH vm₁ ∧ Stand p l e R s m args below meth c B.U B.locs B.cells B.slots ∧ PostX ⟨T.setVm vm₁, locs, cells, slots⟩ (Value.ref b :: argsL).toArray q B ∧
      Steps p.tables e below (T.setTop g) ((B.U.setTop { g with stack := rest }).pushFrame (.throwing q))) := by
  obtain ⟨mk, methM, hnamed, hmethM, hstM, habM⟩ := Cond.instanceMethod_spec hinst
  obtain ⟨methM', cM, hmethM', -, -, -, -, -, -, hsigM⟩ := Cond.code_spec hnamed hcode
  cases hmethM.symm.trans hmethM'
  obtain ⟨c2, r2, m2, q1, q2, q3, q4, kP, hkP, hkPi⟩ := Cond.selects_spec hsel
  cases hcls.symm.trans q1
  cases (State.methodFound?_of_named hnamed hy).symm.trans q2
  cases hnamed.symm.trans q3
  have hselP : selectMethod e.platform s.vm cellB.cls mk = .method mk := by rw [Launch.admits_selectMethod X.admits]; exact q4
  obtain ⟨vm₁, X₁, hstep₁⟩ := X.invokevirtual hexec hown hlink hnamed hmethM hstM hkP hkPi hy (a := b) (cell := cellB) hcell
    (fun z h => by rw [h] at hobj; cases hobj) hselP hmethM habM hkP hkPi (g := g) hg (argsL := argsL) (rest := rest) (hlen _ hsigM) hstack hdg
  rcases hK m meth c ⟨T.setVm vm₁, locs, cells, slots⟩ { g with stack := rest } (.invokevirtual index) mk (Value.ref b :: argsL).toArray X₁ hg hsize hdg hW (X₁.named hnamed) (hpre vm₁ X₁.warmed) with ⟨v, B, X', hpost, hsteps⟩ | ⟨q, B, X', hpost, hsteps⟩
  · exact Or.inl ⟨v, vm₁, B, X₁.warmed, X', hpost, fun target h => hstep₁ _ fun acts => by rw [doInvoke_state]; exact hsteps.trans h⟩
  · exact Or.inr ⟨q, vm₁, B, X₁.warmed, X', hpost, hstep₁ _ fun acts => by rw [doInvoke_state]; exact hsteps⟩
theorem vx_callS (X : Stand p l e R s m args below meth c T locs cells slots) (hexec : p.tables.exec = Jvm.exec) {own : String} {index : Nat} {y : MethodName} {bytes : ByteArray} {maxL : Nat} {ret : Option FieldType}
    (hown : s.vm.findClass own = some m.cls) (hlink : (Cond.methodLink own index y).before args s = true) (hstat : (Cond.static y).before args s = true) (hinit : (Cond.initialized y.cls).before args s = true)
    (hcode : (Cond.code y bytes maxL ret).before args s = true) (hy : y.cls ≠ "java/lang/invoke/MethodHandle" ∧ y.cls ≠ "java/lang/invoke/VarHandle")
    {W9 : Nat} {Pre : Pt → Array Value → Prop} {Post : Pt → Array Value → Option Value → Pt → Prop} {PostX : Pt → Array Value → Addr → Pt → Prop} (hK : vx_Back l R p e below s args y 3 W9 Pre Post PostX)
    {g : JFrame} (hg : g.method = m) (hsize : g.locals.size = c.maxLocals) {argsL rest : List Value} (hlen : ∀ sig, parseMethodDescriptor y.desc = some sig → argsL.length = sig.parameters.length)
    (hstack : g.stack = argsL.reverse ++ rest) (hW : 2 * g.monitorRoom + (rest.map fun v => v.category).sum ≤ W9) (hdg : decode c.code g.pc = .ok (.invokestatic index, 3))
    (hpre : ∀ vm₁, s.WarmedH vm₁ → Pre ⟨T.setVm vm₁, locs, cells, slots⟩ argsL.toArray) :
    (∃ (v : Option Value) (vm₁ : Vm) (B : Pt), s.WarmedH vm₁ ∧ Stand p l e R s m args below meth c B.U B.locs B.cells B.slots ∧ Post ⟨T.setVm vm₁, locs, cells, slots⟩ argsL.toArray v B ∧
      ∀ target, Steps p.tables e below (B.U.setTop { g with pc := g.pc + 3, stack := v.toList ++ rest }) target → Steps p.tables e below (T.setTop g) target) ∨
    (∃ (q : Addr) (vm₁ : Vm) (B : Pt), s.WarmedH vm₁ ∧ Stand p l e R s m args below meth c B.U B.locs B.cells B.slots ∧ PostX ⟨T.setVm vm₁, locs, cells, slots⟩ argsL.toArray q B ∧
      Steps p.tables e below (T.setTop g) ((B.U.setTop { g with stack := rest }).pushFrame (.throwing q))) := by
  obtain ⟨mk, hnamed⟩ := Cond.code_named hcode
  obtain ⟨methM, cM, hmethM, -, -, -, -, -, -, hsigM⟩ := Cond.code_spec hnamed hcode
  have hstatic : methM.isStatic = true := Cond.static_spec hnamed hmethM hstat
  obtain ⟨kP, hkP, -⟩ := className_of_methodNamed hnamed
  have hinitP : kP.init = .initialized := Cond.initialized_spec (findClass_of_methodNamed hnamed) hkP hinit
  obtain ⟨vm₁, X₁, hstep₁⟩ := X.invokestatic hexec hown hlink hnamed hmethM hstatic hkP hinitP hy (g := g) hg (argsL := argsL) (rest := rest) (hlen _ hsigM) hstack hdg
  rcases hK m meth c ⟨T.setVm vm₁, locs, cells, slots⟩ { g with stack := rest } (.invokestatic index) mk argsL.toArray X₁ hg hsize hdg hW (X₁.named hnamed) (hpre vm₁ X₁.warmed) with ⟨v, B, X', hpost, hsteps⟩ | ⟨q, B, X', hpost, hsteps⟩
  · exact Or.inl ⟨v, vm₁, B, X₁.warmed, X', hpost, fun target h => hstep₁ _ fun acts => by rw [doInvoke_state]; exact hsteps.trans h⟩
  · exact Or.inr ⟨q, vm₁, B, X₁.warmed, X', hpost, hstep₁ _ fun acts => by rw [doInvoke_state]; exact hsteps⟩
end Calls
theorem vx_cls {s : State} {T : State} {vm₁ : Vm} {E : String} {k : ClassId} (hW : s.WarmedH vm₁) (h : (T.setVm vm₁).vm.findClass E = some k) : s.vm.findClass E = some k := by
  have h1 : vm₁.findClass E = some k := h
  rw [hW.alike.findClass] at h1
  exact h1
/-- the method's frame g, with q thrown over it -/
def vx_W (p : Program) (l : Launch) (e : Env) (R : Room) (s : State) (m : MethodId) (args : Array Value) (below : List Frame) (meth : Method) (c : Code) (H : Heap) (locs : List Loc) (cells slots : Nat) (Q : State → Prop) (g : JFrame) (q : Addr) : Prop :=
  ∀ T : State, T.heap = H → Stand p l e R s m args below meth c T locs cells slots → ∃ t, Steps p.tables e below ((T.setTop g).pushFrame (.throwing q)) t ∧ Q t
def vx_Run (p : Program) (l : Launch) (e : Env) (R : Room) (s : State) (m : MethodId) (args : Array Value) (below : List Frame) (meth : Method) (c : Code) (H : Heap) (locs : List Loc) (cells slots mc ms : Nat) (g : JFrame) (rest : List Value) (Qa : State → Outcome → State → Prop) (XC : String → State → State → Prop) (free : Addr → Prop) : Prop :=
  ∀ T : State, T.heap = H → Stand p l e R s m args below meth c T locs cells slots →
    (∃ (v : Option Value) (st₀ t T' : State) (L : List Loc), st₀.heap = H ∧ Stand p l e R s m args below meth c T' (locs ++ L) (cells + mc) (slots + ms) ∧ (∀ q ∈ L, free q.base) ∧ T'.heap = t.heap ∧ T'.vm = t.vm ∧ Qa st₀ (.returned v) t ∧
      Goes p e below T g T' { g with pc := g.pc + 3, stack := v.toList ++ rest }) ∨
    (∃ (q : Addr) (st₀ t T' : State) (L : List Loc) (E : String) (ce : Cell), st₀.heap = H ∧ Stand p l e R s m args below meth c T' (locs ++ L) (cells + mc) (slots + ms) ∧ (∀ z ∈ L, free z.base) ∧ T'.heap = t.heap ∧ T'.vm = t.vm ∧ XC E st₀ t ∧ t.heap[q]? = some ce ∧ ce.vm = .none ∧ s.vm.findClass E = some ce.cls ∧
      Steps p.tables e below (T.setTop g) ((T'.setTop { g with stack := rest }).pushFrame (.throwing q)))
def vx_X {S : Type} (px : S → Prop) (B : String → S → State → Prop) (A : Nat → Prop) : String → State → State → Prop := fun E st t => ∃ u : S, px u ∧ B E u t ∧ va_F A st t
section Runs
variable {p : Program} {l : Launch} {e : Env} {R : Room} {s : State} {m : MethodId} {args : Array Value} {below : List Frame} {meth : Method} {c : Code} {H : Heap} {locs : List Loc} {cells slots : Nat}
variable {y : MethodName} {bytes cc : ByteArray} {maxL nL mc ms n index : Nat} {ret : Option FieldType} {ws : List Cond} {rm : Room} {Pc : Array Value → State → Prop} {Qc : Array Value → State → Outcome → State → Prop} {XC : String → State → State → Prop} {free : Addr → Prop} {Ts : List Cond} {own C : String} {b : Addr} {As rest : List Value} {g : JFrame}
theorem vx_callBack (cb : CallB R s args own index y bytes maxL ret ws rm mc ms n) (hM : vx_Met l y ws rm Pc Qc XC mc ms free) (hbl : FrameBlind Pc) : vx_Back l R p e below s args y 3 8 (PreOf R mc ms Pc) (PostOf Qc mc ms free) (vx_Post XC mc ms free) := by
  obtain ⟨hrc, hrs, hfr, hlo, hws, hcw, -, hini, -⟩ := cb
  exact vx_back (bytes := bytes) (maxL := maxL) (ret := ret) hM hbl hrc hrs hfr hlo hws hcw (fun a' U hW => word_at hW (Or.inl (by first | rfl | simp [Cond.onTables, Cond.keeps, Cond.steady])) hini)
theorem vx_runV (S : CallFix p m c cc nL s args Ts own) (hM : vx_Met l y ws rm Pc Qc XC mc ms free) (cw : CallW R s args own C index y bytes maxL ret ws rm mc ms n) (hp : PreV s H C b Pc As)
    (hg : g.method = m) (hn : As.length = n) (hsize : g.locals.size = nL) (hstack : g.stack = As.reverse ++ .ref b :: rest) (hW : 2 * g.monitorRoom + (rest.map fun v => v.category).sum ≤ 8) (hdg : decode cc g.pc = .ok (.invokevirtual index, 3)) (hf : cells + mc ≤ R.cells ∧ slots + ms ≤ R.slots) :
    vx_Run p l e R s m args below meth c H locs cells slots mc ms g rest (Qc (Value.ref b :: As).toArray) XC free := by
  have hK : vx_Back l R p e below s args y 3 8 (PreOf R mc ms Pc) (PostOf Qc mc ms free) (vx_Post XC mc ms free) := vx_callBack cw.1 hM hp.1
  obtain ⟨⟨-, -, -, -, -, -, hcode, -, hy, hlen, hl⟩, hin, hse⟩ := cw
  obtain ⟨hx, hb, hml, ho, -⟩ := S
  obtain ⟨-, ⟨cellB, hcB, hoB, hclB⟩, hPc⟩ := hp
  intro T hT X
  rcases vx_callV X hx (C := C) (bytes := bytes) (maxL := maxL) (ret := ret) ho hl hin hse hcode hy hK (by rw [hT]; exact hcB) hoB hclB hg (hsize.trans hml.symm) (argsL := As) (rest := rest) (fun sig h => hn.trans (hlen sig h)) hstack hW (by rw [hb]; exact hdg)
    (fun vm₁ hW₁ => ⟨hf.1, hf.2, hPc (T.setVm vm₁) hT hW₁⟩) with ⟨v, vm₁, ⟨U', l2, c2, s2⟩, hW₁, X', ⟨g', mk, t, L, e1, e2, hq, h1, hL, h2, h3⟩, st⟩ | ⟨q, vm₁, ⟨U', l2, c2, s2⟩, hW₁, X', ⟨g', mk, t, L, E, ce, e1, e2, hq, hce, hcv, hcl, h1, hL, h2, h3⟩, st⟩
  · dsimp only [Pt.U, Pt.locs, Pt.cells, Pt.slots] at X' e1 e2 h1 h2 h3 st
    subst h1; subst h2; subst h3
    exact Or.inl ⟨v, (T.setVm vm₁).calling g' mk (Value.ref b :: As).toArray, t, U', L, hT, X', hL, e1, e2, hq, st⟩
  · dsimp only [Pt.U, Pt.locs, Pt.cells, Pt.slots] at X' e1 e2 h1 h2 h3 st hcl
    subst h1; subst h2; subst h3
    exact Or.inr ⟨q, (T.setVm vm₁).calling g' mk (Value.ref b :: As).toArray, t, U', L, E, ce, hT, X', hL, e1, e2, hq, hce, hcv, vx_cls hW₁ hcl, st⟩
theorem vx_runS (S : CallFix p m c cc nL s args Ts own) (hM : vx_Met l y ws rm Pc Qc XC mc ms free) (cw : CallB R s args own index y bytes maxL ret ws rm mc ms n ∧ (Cond.static y).before args s = true) (hp : PreS s H Pc As)
    (hg : g.method = m) (hn : As.length = n) (hsize : g.locals.size = nL) (hstack : g.stack = As.reverse ++ rest) (hW : 2 * g.monitorRoom + (rest.map fun v => v.category).sum ≤ 8) (hdg : decode cc g.pc = .ok (.invokestatic index, 3)) (hf : cells + mc ≤ R.cells ∧ slots + ms ≤ R.slots) :
    vx_Run p l e R s m args below meth c H locs cells slots mc ms g rest (Qc As.toArray) XC free := by
  have hK : vx_Back l R p e below s args y 3 8 (PreOf R mc ms Pc) (PostOf Qc mc ms free) (vx_Post XC mc ms free) := vx_callBack cw.1 hM hp.1
  obtain ⟨⟨-, -, -, -, -, -, hcode, hini, hy, hlen, hl⟩, hstt⟩ := cw
  obtain ⟨hx, hb, hml, ho, -⟩ := S
  intro T hT X
  rcases vx_callS X hx (bytes := bytes) (maxL := maxL) (ret := ret) ho hl hstt hini hcode hy hK hg (hsize.trans hml.symm) (argsL := As) (rest := rest) (fun sig h => hn.trans (hlen sig h)) hstack hW (by rw [hb]; exact hdg)
    (fun vm₁ hW₁ => ⟨hf.1, hf.2, hp.2 (T.setVm vm₁) hT hW₁⟩) with ⟨v, vm₁, ⟨U', l2, c2, s2⟩, hW₁, X', ⟨g', mk, t, L, e1, e2, hq, h1, hL, h2, h3⟩, st⟩ | ⟨q, vm₁, ⟨U', l2, c2, s2⟩, hW₁, X', ⟨g', mk, t, L, E, ce, e1, e2, hq, hce, hcv, hcl, h1, hL, h2, h3⟩, st⟩
  · dsimp only [Pt.U, Pt.locs, Pt.cells, Pt.slots] at X' e1 e2 h1 h2 h3 st
    subst h1; subst h2; subst h3
    exact Or.inl ⟨v, (T.setVm vm₁).calling g' mk As.toArray, t, U', L, hT, X', hL, e1, e2, hq, st⟩
  · dsimp only [Pt.U, Pt.locs, Pt.cells, Pt.slots] at X' e1 e2 h1 h2 h3 st hcl
    subst h1; subst h2; subst h3
    exact Or.inr ⟨q, (T.setVm vm₁).calling g' mk As.toArray, t, U', L, E, ce, hT, X', hL, e1, e2, hq, hce, hcv, vx_cls hW₁ hcl, st⟩
end Runs
section Rows
variable {p : Program} {l : Launch} {e : Env} {R : Room} {s : State} {m : MethodId} {args : Array Value} {below : List Frame} {meth : Method} {c : Code} {H : Heap} {locs : List Loc} {cells slots : Nat} {Q : State → Prop}
variable {mc ms : Nat} {free : Addr → Prop} {A0 A1 : Nat → Prop} {H0 : Heap} {a : Array Value} {pc : Nat} {ls : Array Slot} {st0 rest : List Value}
theorem vx_keep {st₀ t T' : State} {L : List Loc} (h0 : st₀.heap = H) (e1 : T'.heap = t.heap) (hS : va_S A0 H0 H locs) (hA : ∀ q, q < H.size → A1 q → A0 q) (hf : ∀ q, free q → A0 q) (hL : ∀ q ∈ L, free q.base) (hF : va_F A1 st₀ t) :
    H.size ≤ T'.heap.size ∧ (∀ q : Nat, q < H.size → ¬ A1 q → T'.heap[q]? = H[q]?) ∧ va_S A0 H0 T'.heap (locs ++ L) := by
  obtain ⟨hz, hk⟩ := hF
  rw [h0] at hz hk
  exact ⟨by rw [e1]; exact hz, fun q h1 h2 => by rw [e1]; exact hk q h1 h2,
    ⟨Nat.le_trans hS.1 (by rw [e1]; exact hz), fun q h1 h2 => by rw [e1, hk q (Nat.lt_of_lt_of_le h1 hS.1) (fun z => h2 (hA q (Nat.lt_of_lt_of_le h1 hS.1) z))]; exact hS.2.1 q h1 h2, fun q hq => by
      rcases List.mem_append.mp hq with h | h
      · exact hS.2.2 q h
      · exact hf _ (hL q h)⟩⟩
theorem vx_calli {S SX : Type} {post : Int32 → S → Prop} {px : SX → Prop} {B : S → State → Prop} {BX : String → SX → State → Prop} {AX : Nat → Prop} (hr : vx_Run p l e R s m args below meth c H locs cells slots mc ms (F0 m pc ls st0) rest (va_Qi post B A1 a) (vx_X px BX AX) free) (hS : va_S A0 H0 H locs) (hA : ∀ q, q < H.size → A1 q → A0 q) (hf : ∀ q, free q → A0 q) (hAX : ∀ q, q < H.size → AX q → A0 q)
    (kx : ∀ (E : String) (ce : Cell) (q9 : Addr) (u : SX) (t : State) (H1 : Heap) (locs1 : List Loc), t.heap = H1 → s.vm.Alike t.vm → px u → BX E u t → H.size ≤ H1.size → (∀ q : Nat, q < H.size → ¬ AX q → H1[q]? = H[q]?) → va_S A0 H0 H1 locs1 → H1[q9]? = some ce → ce.vm = .none → s.vm.findClass E = some ce.cls → vx_W p l e R s m args below meth c H1 locs1 (cells + mc) (slots + ms) Q (F0 m pc ls rest) q9)
    (kk : ∀ (r : Int32) (u : S) (t : State) (H1 : Heap) (locs1 : List Loc), t.heap = H1 → s.vm.Alike t.vm → post r u → B u t → H.size ≤ H1.size → (∀ q : Nat, q < H.size → ¬ A1 q → H1[q]? = H[q]?) → va_S A0 H0 H1 locs1 → W p l e R s m args below meth c H1 locs1 (cells + mc) (slots + ms) Q (F0 m (pc + 3) ls (.int r :: rest))) : W p l e R s m args below meth c H locs cells slots Q (F0 m pc ls st0) := by
  intro T hT X
  rcases hr T hT X with ⟨v, st₀, t, T', L, h0, X', hL, e1, e2, ⟨⟨r, u, hv, hp, hb⟩, hF⟩, st⟩ | ⟨q, st₀, t, T', L, E, ce, h0, X', hL, e1, e2, ⟨u, hp, hb, hF⟩, hce, hcv, hcl, st⟩
  · cases hv
    obtain ⟨k1, k2, k3⟩ := vx_keep h0 e1 hS hA hf hL hF
    obtain ⟨t2, a1, b1⟩ := kk r u t T'.heap (locs ++ L) e1.symm (by rw [← e2]; exact X'.warmed.alike) hp hb k1 k2 k3 T' rfl X'
    exact ⟨t2, st t2 a1, b1⟩
  · obtain ⟨k1, k2, k3⟩ := vx_keep h0 e1 hS hAX hf hL hF
    obtain ⟨t2, a1, b1⟩ := kx E ce q u t T'.heap (locs ++ L) e1.symm (by rw [← e2]; exact X'.warmed.alike) hp hb k1 k2 k3 (by rw [e1]; exact hce) hcv hcl T' rfl X'
    exact ⟨t2, st.trans a1, b1⟩
theorem vx_calll {S SX : Type} {post : Int64 → S → Prop} {px : SX → Prop} {B : S → State → Prop} {BX : String → SX → State → Prop} {AX : Nat → Prop} (hr : vx_Run p l e R s m args below meth c H locs cells slots mc ms (F0 m pc ls st0) rest (va_Ql post B A1 a) (vx_X px BX AX) free) (hS : va_S A0 H0 H locs) (hA : ∀ q, q < H.size → A1 q → A0 q) (hf : ∀ q, free q → A0 q) (hAX : ∀ q, q < H.size → AX q → A0 q)
    (kx : ∀ (E : String) (ce : Cell) (q9 : Addr) (u : SX) (t : State) (H1 : Heap) (locs1 : List Loc), t.heap = H1 → s.vm.Alike t.vm → px u → BX E u t → H.size ≤ H1.size → (∀ q : Nat, q < H.size → ¬ AX q → H1[q]? = H[q]?) → va_S A0 H0 H1 locs1 → H1[q9]? = some ce → ce.vm = .none → s.vm.findClass E = some ce.cls → vx_W p l e R s m args below meth c H1 locs1 (cells + mc) (slots + ms) Q (F0 m pc ls rest) q9)
    (kk : ∀ (r : Int64) (u : S) (t : State) (H1 : Heap) (locs1 : List Loc), t.heap = H1 → s.vm.Alike t.vm → post r u → B u t → H.size ≤ H1.size → (∀ q : Nat, q < H.size → ¬ A1 q → H1[q]? = H[q]?) → va_S A0 H0 H1 locs1 → W p l e R s m args below meth c H1 locs1 (cells + mc) (slots + ms) Q (F0 m (pc + 3) ls (.long r :: rest))) : W p l e R s m args below meth c H locs cells slots Q (F0 m pc ls st0) := by
  intro T hT X
  rcases hr T hT X with ⟨v, st₀, t, T', L, h0, X', hL, e1, e2, ⟨⟨r, u, hv, hp, hb⟩, hF⟩, st⟩ | ⟨q, st₀, t, T', L, E, ce, h0, X', hL, e1, e2, ⟨u, hp, hb, hF⟩, hce, hcv, hcl, st⟩
  · cases hv
    obtain ⟨k1, k2, k3⟩ := vx_keep h0 e1 hS hA hf hL hF
    obtain ⟨t2, a1, b1⟩ := kk r u t T'.heap (locs ++ L) e1.symm (by rw [← e2]; exact X'.warmed.alike) hp hb k1 k2 k3 T' rfl X'
    exact ⟨t2, st t2 a1, b1⟩
  · obtain ⟨k1, k2, k3⟩ := vx_keep h0 e1 hS hAX hf hL hF
    obtain ⟨t2, a1, b1⟩ := kx E ce q u t T'.heap (locs ++ L) e1.symm (by rw [← e2]; exact X'.warmed.alike) hp hb k1 k2 k3 (by rw [e1]; exact hce) hcv hcl T' rfl X'
    exact ⟨t2, st.trans a1, b1⟩
theorem vx_callf {S SX : Type} {post : UInt32 → S → Prop} {px : SX → Prop} {B : S → State → Prop} {BX : String → SX → State → Prop} {AX : Nat → Prop} (hr : vx_Run p l e R s m args below meth c H locs cells slots mc ms (F0 m pc ls st0) rest (va_Qf post B A1 a) (vx_X px BX AX) free) (hS : va_S A0 H0 H locs) (hA : ∀ q, q < H.size → A1 q → A0 q) (hf : ∀ q, free q → A0 q) (hAX : ∀ q, q < H.size → AX q → A0 q)
    (kx : ∀ (E : String) (ce : Cell) (q9 : Addr) (u : SX) (t : State) (H1 : Heap) (locs1 : List Loc), t.heap = H1 → s.vm.Alike t.vm → px u → BX E u t → H.size ≤ H1.size → (∀ q : Nat, q < H.size → ¬ AX q → H1[q]? = H[q]?) → va_S A0 H0 H1 locs1 → H1[q9]? = some ce → ce.vm = .none → s.vm.findClass E = some ce.cls → vx_W p l e R s m args below meth c H1 locs1 (cells + mc) (slots + ms) Q (F0 m pc ls rest) q9)
    (kk : ∀ (r : UInt32) (u : S) (t : State) (H1 : Heap) (locs1 : List Loc), t.heap = H1 → s.vm.Alike t.vm → post r u → B u t → H.size ≤ H1.size → (∀ q : Nat, q < H.size → ¬ A1 q → H1[q]? = H[q]?) → va_S A0 H0 H1 locs1 → W p l e R s m args below meth c H1 locs1 (cells + mc) (slots + ms) Q (F0 m (pc + 3) ls (.float r :: rest))) : W p l e R s m args below meth c H locs cells slots Q (F0 m pc ls st0) := by
  intro T hT X
  rcases hr T hT X with ⟨v, st₀, t, T', L, h0, X', hL, e1, e2, ⟨⟨r, u, hv, hp, hb⟩, hF⟩, st⟩ | ⟨q, st₀, t, T', L, E, ce, h0, X', hL, e1, e2, ⟨u, hp, hb, hF⟩, hce, hcv, hcl, st⟩
  · cases hv
    obtain ⟨k1, k2, k3⟩ := vx_keep h0 e1 hS hA hf hL hF
    obtain ⟨t2, a1, b1⟩ := kk r u t T'.heap (locs ++ L) e1.symm (by rw [← e2]; exact X'.warmed.alike) hp hb k1 k2 k3 T' rfl X'
    exact ⟨t2, st t2 a1, b1⟩
  · obtain ⟨k1, k2, k3⟩ := vx_keep h0 e1 hS hAX hf hL hF
    obtain ⟨t2, a1, b1⟩ := kx E ce q u t T'.heap (locs ++ L) e1.symm (by rw [← e2]; exact X'.warmed.alike) hp hb k1 k2 k3 (by rw [e1]; exact hce) hcv hcl T' rfl X'
    exact ⟨t2, st.trans a1, b1⟩
theorem vx_calld {S SX : Type} {post : UInt64 → S → Prop} {px : SX → Prop} {B : S → State → Prop} {BX : String → SX → State → Prop} {AX : Nat → Prop} (hr : vx_Run p l e R s m args below meth c H locs cells slots mc ms (F0 m pc ls st0) rest (va_Qd post B A1 a) (vx_X px BX AX) free) (hS : va_S A0 H0 H locs) (hA : ∀ q, q < H.size → A1 q → A0 q) (hf : ∀ q, free q → A0 q) (hAX : ∀ q, q < H.size → AX q → A0 q)
    (kx : ∀ (E : String) (ce : Cell) (q9 : Addr) (u : SX) (t : State) (H1 : Heap) (locs1 : List Loc), t.heap = H1 → s.vm.Alike t.vm → px u → BX E u t → H.size ≤ H1.size → (∀ q : Nat, q < H.size → ¬ AX q → H1[q]? = H[q]?) → va_S A0 H0 H1 locs1 → H1[q9]? = some ce → ce.vm = .none → s.vm.findClass E = some ce.cls → vx_W p l e R s m args below meth c H1 locs1 (cells + mc) (slots + ms) Q (F0 m pc ls rest) q9)
    (kk : ∀ (r : UInt64) (u : S) (t : State) (H1 : Heap) (locs1 : List Loc), t.heap = H1 → s.vm.Alike t.vm → post r u → B u t → H.size ≤ H1.size → (∀ q : Nat, q < H.size → ¬ A1 q → H1[q]? = H[q]?) → va_S A0 H0 H1 locs1 → W p l e R s m args below meth c H1 locs1 (cells + mc) (slots + ms) Q (F0 m (pc + 3) ls (.double r :: rest))) : W p l e R s m args below meth c H locs cells slots Q (F0 m pc ls st0) := by
  intro T hT X
  rcases hr T hT X with ⟨v, st₀, t, T', L, h0, X', hL, e1, e2, ⟨⟨r, u, hv, hp, hb⟩, hF⟩, st⟩ | ⟨q, st₀, t, T', L, E, ce, h0, X', hL, e1, e2, ⟨u, hp, hb, hF⟩, hce, hcv, hcl, st⟩
  · cases hv
    obtain ⟨k1, k2, k3⟩ := vx_keep h0 e1 hS hA hf hL hF
    obtain ⟨t2, a1, b1⟩ := kk r u t T'.heap (locs ++ L) e1.symm (by rw [← e2]; exact X'.warmed.alike) hp hb k1 k2 k3 T' rfl X'
    exact ⟨t2, st t2 a1, b1⟩
  · obtain ⟨k1, k2, k3⟩ := vx_keep h0 e1 hS hAX hf hL hF
    obtain ⟨t2, a1, b1⟩ := kx E ce q u t T'.heap (locs ++ L) e1.symm (by rw [← e2]; exact X'.warmed.alike) hp hb k1 k2 k3 (by rw [e1]; exact hce) hcv hcl T' rfl X'
    exact ⟨t2, st.trans a1, b1⟩
theorem vx_callv {S SX : Type} {post : S → Prop} {px : SX → Prop} {B : S → State → Prop} {BX : String → SX → State → Prop} {AX : Nat → Prop} (hr : vx_Run p l e R s m args below meth c H locs cells slots mc ms (F0 m pc ls st0) rest (va_Qv post B A1 a) (vx_X px BX AX) free) (hS : va_S A0 H0 H locs) (hA : ∀ q, q < H.size → A1 q → A0 q) (hf : ∀ q, free q → A0 q) (hAX : ∀ q, q < H.size → AX q → A0 q)
    (kx : ∀ (E : String) (ce : Cell) (q9 : Addr) (u : SX) (t : State) (H1 : Heap) (locs1 : List Loc), t.heap = H1 → s.vm.Alike t.vm → px u → BX E u t → H.size ≤ H1.size → (∀ q : Nat, q < H.size → ¬ AX q → H1[q]? = H[q]?) → va_S A0 H0 H1 locs1 → H1[q9]? = some ce → ce.vm = .none → s.vm.findClass E = some ce.cls → vx_W p l e R s m args below meth c H1 locs1 (cells + mc) (slots + ms) Q (F0 m pc ls rest) q9)
    (kk : ∀ (u : S) (t : State) (H1 : Heap) (locs1 : List Loc), t.heap = H1 → s.vm.Alike t.vm → post u → B u t → H.size ≤ H1.size → (∀ q : Nat, q < H.size → ¬ A1 q → H1[q]? = H[q]?) → va_S A0 H0 H1 locs1 → W p l e R s m args below meth c H1 locs1 (cells + mc) (slots + ms) Q (F0 m (pc + 3) ls (rest))) : W p l e R s m args below meth c H locs cells slots Q (F0 m pc ls st0) := by
  intro T hT X
  rcases hr T hT X with ⟨v, st₀, t, T', L, h0, X', hL, e1, e2, ⟨⟨u, hv, hp, hb⟩, hF⟩, st⟩ | ⟨q, st₀, t, T', L, E, ce, h0, X', hL, e1, e2, ⟨u, hp, hb, hF⟩, hce, hcv, hcl, st⟩
  · cases hv
    obtain ⟨k1, k2, k3⟩ := vx_keep h0 e1 hS hA hf hL hF
    obtain ⟨t2, a1, b1⟩ := kk u t T'.heap (locs ++ L) e1.symm (by rw [← e2]; exact X'.warmed.alike) hp hb k1 k2 k3 T' rfl X'
    exact ⟨t2, st t2 a1, b1⟩
  · obtain ⟨k1, k2, k3⟩ := vx_keep h0 e1 hS hAX hf hL hF
    obtain ⟨t2, a1, b1⟩ := kx E ce q u t T'.heap (locs ++ L) e1.symm (by rw [← e2]; exact X'.warmed.alike) hp hb k1 k2 k3 (by rw [e1]; exact hce) hcv hcl T' rfl X'
    exact ⟨t2, st.trans a1, b1⟩
/-- caught by the row x of this method's table; the rows ahead don't take it -/
theorem vx_catch {own name : String} {E : String} {ce : Cell} {q : Addr} (hown : s.vm.findClass own = some m.cls) (pre : List ExceptionTableEntry) (x : ExceptionTableEntry) (suf : List ExceptionTableEntry) (hsplit : c.exceptionTable.toList = pre ++ x :: suf)
    (hpass : ∀ z ∈ pre, covers z pc = false ∨ (z.catchType ≠ 0 ∧ ∃ nm : String, (Cond.classLink own z.catchType nm).before args s = true ∧ va_Nc E nm s)) (hx : covers x pc = true) (h0 : x.catchType ≠ 0)
    (hlink : (Cond.classLink own x.catchType name).before args s = true) (hcast : (Cond.castable E name).before args s = true) (hcell : H[q]? = some ce) (hv : ce.vm = .none) (hcl : s.vm.findClass E = some ce.cls)
    (kk : W p l e R s m args below meth c H locs cells slots Q (F0 m x.handlerPc ls [.ref q])) : vx_W p l e R s m args below meth c H locs cells slots Q (F0 m pc ls rest) q := by
  intro T hT X
  have hpl : e.platform.magicAccessors = ({} : Platform).magicAccessors := by rw [X.admits.platform]
  obtain ⟨c3, c4, hc3, hc4, hasg⟩ := Cond.castable_spec hcast
  cases Option.some.inj (hc3.symm.trans hcl)
  obtain ⟨c5, hc5, hcl5⟩ := Cond.classLink_spec hown hlink e.platform hpl
  cases Option.some.inj (hc4.symm.trans hc5)
  obtain ⟨vm', X', st⟩ := X.thenCaughtThrough q (g := F0 m pc ls rest) rfl (Steps.refl _) (by rw [hT]; exact hcell) (by rw [hv]; rfl) (by obtain ⟨k9, h9, -⟩ := Vm.findClass_spec hcl; exact ⟨k9, h9⟩) pre x suf hsplit
    (fun z hz => by
      rcases hpass z hz with h | ⟨hz0, nm, hl1, hn1⟩
      · exact Or.inl h
      · obtain ⟨c6, hc6, hcl6⟩ := Cond.classLink_spec hown hl1 e.platform hpl
        obtain ⟨a8, b8, h1, h2, h3⟩ := hn1
        cases Option.some.inj (h1.symm.trans hcl)
        cases Option.some.inj (h2.symm.trans hc6)
        exact Or.inr ⟨hz0, _, hcl6, h3⟩) hx (Or.inr ⟨h0, c4, hcl5, hasg⟩)
  obtain ⟨t, a1, b1⟩ := kk (T.setVm vm') hT X'
  exact ⟨t, st.trans a1, b1⟩
end Rows
section Ends
variable {p : Program} {l : Launch} {e : Env} {R : Room} {s : State} {m : MethodId} {args : Array Value} {below : List Frame} {meth : Method} {c : Code} {H : Heap} {locs : List Loc} {cells slots : Nat} {Q : State → Prop}
variable {mc ms : Nat} {free : Addr → Prop} {A0 A1 : Nat → Prop} {H0 : Heap} {a : Array Value} {ls : Array Slot} {st0 rest : List Value}
variable {Qc : Array Value → State → Outcome → State → Prop} {XC : String → State → State → Prop}
/-- what a body that may throw owes at its end -/
def vx_MQ (below : List Frame) (Qc : Array Value → State → Outcome → State → Prop) (XC : String → State → State → Prop) (a : Array Value) (s : State) (mc ms : Nat) (free : Addr → Prop) : State → Prop := fun t =>
  ∃ o, t.status = .running ∧ Ended t below o ∧ vx_Q Qc XC mc ms free a s o t
theorem vx_ret {g : JFrame} {mc ms : Nat} (k : W p l e R s m args below meth c H locs cells slots (MQ below Qc args s mc ms free) g) : W p l e R s m args below meth c H locs cells slots (vx_MQ below Qc XC args s mc ms free) g := by
  intro T hT X
  obtain ⟨t, a1, o, b1, b2, b3, b4⟩ := k T hT X
  exact ⟨t, a1, o, b1, b2, Or.inl ⟨b3, b4⟩⟩
/-- not caught here: it goes on to the caller -/
theorem vx_widen {g : JFrame} {q : Addr} {k n : Nat} (h1 : cells ≤ k) (h2 : slots ≤ n) (kk : vx_W p l e R s m args below meth c H locs k n Q g q) : vx_W p l e R s m args below meth c H locs cells slots Q g q := fun T hT X => kk T hT (stand_widen X h1 h2)
theorem vx_out {pc : Nat} {E : String} {ce : Cell} {q : Addr} {mc ms : Nat} (hout : ∀ x ∈ c.exceptionTable.toList, covers x pc = false) (hlocks : meth.locks = false) (hcell : H[q]? = some ce) (hv : ce.vm = .none) (hcl : s.vm.findClass E = some ce.cls)
    (hx : ∀ t : State, t.heap = H → s.vm.Alike t.vm → XC E s t) (hf : ∀ z ∈ locs, free z.base) (hc : cells ≤ mc) (hs : slots ≤ ms) :
    vx_W p l e R s m args below meth c H locs cells slots (vx_MQ below Qc XC args s mc ms free) (F0 m pc ls rest) q := by
  intro T hT X
  obtain ⟨st1, hrun, hend, hW, hsm⟩ := X.leaveThrown q (g := F0 m pc ls rest) rfl rfl rfl hout hlocks
  have hcell9 : (T.setFrames (.throwing q :: below)).heap[q]? = some ce := by
    show T.heap[q]? = some ce
    rw [hT]; exact hcell
  exact ⟨_, st1, .threw q, hrun, hend, Or.inr ⟨q, rfl, E, ce, locs, hx _ hT hW.alike, hcell9, hv, hcl, hW, hsm.mono hc hs, hf⟩⟩
theorem vx_frame {U : State} {k n : Nat} (h : s.sameButNew ({ U with vm := s.vm } : State) locs k n) : s.heap.size ≤ U.heap.size ∧ ∀ q : Nat, q < s.heap.size → (∀ z ∈ locs, z.base ≠ q) → U.heap[q]? = s.heap[q]? := by
  obtain ⟨-, h2, -, -, -, h6⟩ := h
  refine ⟨h2, fun q hq hz => ?_⟩
  obtain ⟨c9, e1, e2, e3, e4⟩ := h6 q _ (Array.getElem?_eq_getElem hq)
  have hs : c9.slots = (s.heap[q]).slots := Array.ext_getElem? fun i => e4 i fun hm => hz _ hm rfl
  have h9 : c9 = s.heap[q] := by
    rw [hs] at e2
    exact e2
  have e5 : U.heap[q]? = some c9 := e1
  rw [e5, h9, Array.getElem?_eq_getElem hq]
/-- the words of a throw but the four that speak of the heap -/
def vx_no (w : Cond) : Bool := decide (w ≠ .isRef (.static Bundle.tN "UNASSIGNED_STACK" Bundle.steD)) && decide (w ≠ .isRef (.static Bundle.tN "SUPPRESSED_SENTINEL" Bundle.listD)) && decide (w ≠ .laysStatic Bundle.tN "UNASSIGNED_STACK" Bundle.steD) && decide (w ≠ .laysStatic Bundle.tN "SUPPRESSED_SENTINEL" Bundle.listD)
def vx_at0 (own : String) (ic : Nat) (X : String) (names : List String) : List Cond := (Bundle.ownAtoms0 own ic X names).filter vx_no
def vx_atS (own : String) (ic : Nat) (X : String) (names : List String) : List Cond := (Bundle.ownAtoms own ic X names).filter vx_no
/-- a word that the tables alone decide, or a good one -/
def vx_ot (w : Cond) : Bool := w.onTables || goodWord w
theorem vx_ot_at {args a' : Array Value} {s U : State} {w : Cond} (hW : s.WarmedH U.vm) (hvm : s.vm = U.vm) (hg : vx_ot w = true) (h : w.before args s = true) : w.before a' U = true := by
  simp only [vx_ot, Bool.or_eq_true] at hg
  rcases hg with hg | hg
  · exact va_tabs hg hvm h
  · exact word_at hW (good_of_word hg) h
/-- a list's words: the good ones out of the method's own list, the others by premises of their own -/
theorem vx_hat {args : Array Value} {s : State} {L B : List Cond} (h1 : ∀ w ∈ L.filter goodWord, w.before args s = true) (h2 : ∀ w ∈ L.filter (fun w => !goodWord w), w ∈ B) (h3 : ∀ w ∈ B, w.before args s = true) : ∀ w ∈ L, w.before args s = true := by
  intro w hw
  by_cases g : goodWord w = true
  · exact h1 w (List.mem_filter.mpr ⟨hw, g⟩)
  · refine h3 w (h2 w (List.mem_filter.mpr ⟨hw, ?_⟩))
    show (!goodWord w) = true
    cases hgw : goodWord w
    · rfl
    · exact absurd hgw g
theorem vx_c {args : Array Value} {s : State} {w : Cond} {B : List Cond} (h : w.before args s = true) (t : ∀ w ∈ B, w.before args s = true) : ∀ w' ∈ w :: B, w'.before args s = true := fun w' h' => (List.mem_cons.mp h').elim (fun e => by rw [e]; exact h) (t w')
theorem vx_n {args : Array Value} {s : State} : ∀ w ∈ ([] : List Cond), w.before args s = true := fun _ h => nomatch h
theorem vx_own {args : Array Value} {s : State} {L : List Cond} (h1 : ∀ w ∈ L.filter vx_no, w.before args s = true)
    (hU : (Cond.isRef (.static Bundle.tN "UNASSIGNED_STACK" Bundle.steD)).before args s = true) (hN : (Cond.isRef (.static Bundle.tN "SUPPRESSED_SENTINEL" Bundle.listD)).before args s = true)
    (lU : (Cond.laysStatic Bundle.tN "UNASSIGNED_STACK" Bundle.steD).before args s = true) (lN : (Cond.laysStatic Bundle.tN "SUPPRESSED_SENTINEL" Bundle.listD).before args s = true) : ∀ w ∈ L, w.before args s = true := by
  intro w hw
  by_cases e1 : w = .isRef (.static Bundle.tN "UNASSIGNED_STACK" Bundle.steD)
  · rw [e1]; exact hU
  · by_cases e2 : w = .isRef (.static Bundle.tN "SUPPRESSED_SENTINEL" Bundle.listD)
    · rw [e2]; exact hN
    · by_cases e3 : w = .laysStatic Bundle.tN "UNASSIGNED_STACK" Bundle.steD
      · rw [e3]; exact lU
      · by_cases e4 : w = .laysStatic Bundle.tN "SUPPRESSED_SENTINEL" Bundle.listD
        · rw [e4]; exact lN
        · exact h1 w (List.mem_filter.mpr ⟨hw, by unfold vx_no; rw [decide_eq_true e1, decide_eq_true e2, decide_eq_true e3, decide_eq_true e4]; rfl⟩)
/-- where a static field lies, its class's statics cell in H -/
def vx_L (C n d : String) (A : Nat → Prop) (U : State) (H : Heap) : Prop := ∃ (c : ClassId) (k : Class) (i : Nat) (f : Field) (a : Nat) (cell : Cell), U.vm.findClass C = some c ∧ U.fieldFound? C n d = some (c, k, i, f) ∧ f.isStatic = true ∧ k.statics = some a ∧ H[a]? = some cell ∧ cell.vm.isStatics = true ∧ cell.cls = c ∧ f.slot < cell.slots.size ∧ k.staticTypes[f.slot]? = some f.type ∧ ¬ A a
theorem vx_L.moved {C n d : String} {A : Nat → Prop} {u U : State} {H : Heap} (hvm : u.vm.Alike U.vm) (h : vx_L C n d A u H) : vx_L C n d A U H := by
  obtain ⟨c, k, i, f, a, cell, h1, h2, h3, h4, h5, h6, h7, h8, h9, h10⟩ := h
  obtain ⟨k', hi', he⟩ := State.fieldFound?_setVm hvm h2
  exact ⟨c, k', i, f, a, cell, by rw [hvm.findClass]; exact h1, hi', h3, by rw [he]; exact h4, h5, h6, h7, h8, by rw [he]; exact h9, h10⟩
theorem vx_L.kept {C n d : String} {A : Nat → Prop} {U : State} {H H1 : Heap} (h : vx_L C n d A U H) (hq : ∀ a : Nat, a < H.size → ¬ A a → H1[a]? = H[a]?) : vx_L C n d A U H1 := by
  obtain ⟨c, k, i, f, a, cell, h1, h2, h3, h4, h5, h6, h7, h8, h9, h10⟩ := h
  exact ⟨c, k, i, f, a, cell, h1, h2, h3, h4, by rw [hq a (Array.getElem?_eq_some_iff.mp h5).1 h10]; exact h5, h6, h7, h8, h9, h10⟩
theorem vx_L.narrow {C n d : String} {A B : Nat → Prop} {U : State} {H : Heap} (h : vx_L C n d A U H) (hAB : ∀ q, B q → A q) : vx_L C n d B U H := by
  obtain ⟨c, k, i, f, a, cell, h1, h2, h3, h4, h5, h6, h7, h8, h9, h10⟩ := h
  exact ⟨c, k, i, f, a, cell, h1, h2, h3, h4, h5, h6, h7, h8, h9, fun z => h10 (hAB _ z)⟩
theorem vx_L.word {C n d : String} {A : Nat → Prop} {s : State} {args : Array Value} (h : vx_L C n d A s s.heap) : (Cond.laysStatic C n d).before args s = true := by
  obtain ⟨c, k, i, f, a, cell, h1, h2, h3, h4, h5, h6, h7, h8, h9, -⟩ := h
  show (Cond.laysStatic C n d).holds args s none s [] = true
  exact Cond.laysStatic_of h1 h2 h3 h4 h5 h6 h7 h8 h9
/-- .. and what it holds: null or some reference -/
def vx_Zq (C n d : String) (A : Nat → Prop) (U : State) (H : Heap) : Prop := va_Zq C n d A U H ∧ vx_L C n d A U H
theorem vx_Zq.moved {C n d : String} {A : Nat → Prop} {u U : State} {H : Heap} (hvm : u.vm.Alike U.vm) (h : vx_Zq C n d A u H) : vx_Zq C n d A U H := ⟨va_Zq.moved hvm h.1, vx_L.moved hvm h.2⟩
theorem vx_Zq.kept {C n d : String} {A : Nat → Prop} {U : State} {H H1 : Heap} (h : vx_Zq C n d A U H) (hq : ∀ a : Nat, a < H.size → ¬ A a → H1[a]? = H[a]?) : vx_Zq C n d A U H1 := ⟨va_Zq.kept h.1 hq, vx_L.kept h.2 hq⟩
theorem vx_Zq.narrow {C n d : String} {A B : Nat → Prop} {U : State} {H : Heap} (h : vx_Zq C n d A U H) (hAB : ∀ q, B q → A q) : vx_Zq C n d B U H := ⟨va_Zq.narrow h.1 hAB, vx_L.narrow h.2 hAB⟩
theorem vx_Zqof {args : Array Value} {s : State} {C n d : String} {A : Nat → Prop} (hl : (Cond.laysStatic C n d).before args s = true) (hini : (Cond.initialized C).before args s = true) (h : (Cond.isRef (.static C n d)).before args s = true) (hA : ∀ a : Nat, a < s.heap.size → ¬ A a) : vx_Zq C n d A s s.heap := by
  refine ⟨va_Zqof hl hini h hA, ?_⟩
  obtain ⟨c, k, i, f, a, cell, h1, h2, h3, h4, h5, h6, h7, h8, h9⟩ := Cond.laysStatic_spec hl
  exact ⟨c, k, i, f, a, cell, h1, h2, h3, h4, h5, h6, h7, h8, h9, hA a (Array.getElem?_eq_some_iff.mp h5).1⟩
theorem vx_isRef {C n d : String} {v : Value} {A : Nat → Prop} {s : State} {args : Array Value} (h : va_Z C n d v A s s.heap) (hv : v.isRef = true) : (Cond.isRef (.static C n d)).before args s = true := by
  obtain ⟨cf, kf, fi, f, a, cell, h1, h2, h3, h4, h5, h6, h7, -⟩ := h
  have he : (Term.static C n d).eval args s none [] s = some v := by
    simp [Term.eval, State.fieldNamed?, h1, h2, h4, h5, h6, h7]
  simp only [Cond.before, Cond.holds, Cond.value, he]
  cases v <;> simp_all [Value.isRef]
theorem vx_isRefq {C n d : String} {A : Nat → Prop} {s : State} {args : Array Value} (h : va_Zq C n d A s s.heap) : (Cond.isRef (.static C n d)).before args s = true := by
  rcases h with h | ⟨t, h⟩
  · exact vx_isRef h rfl
  · exact vx_isRef h rfl
/-- the same frame, seen from here: as if the method were called anew in this heap -/
theorem vx_rebase {T : State} (X : Stand p l e R s m args below meth c T locs cells slots) {R' : Room} (hf : R'.frames ≤ R.frames) (hl : R'.locals ≤ R.locals) (hc : cells + R'.cells ≤ R.cells) (hs : slots + R'.slots ≤ R.slots) :
    Stand p l e R' ((T.setVm s.vm).setFrames (.invoking m args :: below)) m args below meth c T [] 0 0 := by
  have htop : (T.setVm s.vm).topJava?.isSome := X.here.top
  have hF : ((T.setVm s.vm).setFrames (.invoking m args :: below)).frames = .invoking m args :: below := State.frames_setFrames _ (State.cur_lt_of_top htop)
  obtain ⟨g₀, hg0⟩ := Option.isSome_iff_exists.mp htop
  obtain ⟨r, hr⟩ := State.topJava?_eq_some.mp hg0
  have hl9 : e.platform.stackLimits (T.setVm s.vm).me = e.platform.stackLimits s.me := X.limits
  have hb9 : (T.setVm s.vm).me.stackBytes = s.me.stackBytes := X.bytes
  refine ⟨X.admits, X.cas, X.clock, hF, ?_, X.hears, X.method, X.code, X.here, X.tail, X.warmed, ?_, ?_, ?_⟩
  · have h := X.room
    have hU : ((T.setVm s.vm).setFrames (.invoking m args :: below)).localsInUse = s.localsInUse := by
      rw [State.localsInUse_invoking hF (meth := meth) (c := c) X.method X.code, State.localsInUse_invoking X.frames X.method X.code]
    simp only [State.hasRoom, Bool.and_eq_true, decide_eq_true_eq] at h ⊢
    obtain ⟨⟨⟨⟨h1, h2, h3, h4, h5, h6⟩, h7⟩, h8⟩, h9⟩ := h
    rw [X.frames, List.length_cons] at h2 h3
    have q1 := X.heapSize
    have q2 := X.used
    simp only [hF, hU, List.length_cons, State.stackLimits_setFrames, State.stackBytes_setFrames, hl9, hb9]
    refine ⟨⟨⟨⟨by omega, by omega, by omega, by omega, by omega, h6⟩, ?_⟩, ?_⟩, X.book⟩
    · show T.heap.size + R'.cells ≤ e.platform.maxCells
      omega
    · show T.slotsUsed + R'.slots ≤ e.platform.maxSlots
      omega
  · rw [State.stackLimits_setFrames]; rfl
  · rw [State.stackBytes_setFrames]; rfl
  · refine ⟨?_, Nat.le_refl _, Nat.le_refl _, ?_, ?_, fun a c9 h9 => ⟨c9, h9, rfl, rfl, fun _ _ => rfl⟩⟩
    · obtain ⟨t, ht, -⟩ := State.frames_cons hr
      show T.setVm s.vm = { ((T.setVm s.vm).setFrames (.invoking m args :: below)).setFrames (T.setVm s.vm).frames with heap := T.heap, slotsUsed := T.slotsUsed }
      rw [State.setFrames_setFrames, State.setFrames_self ht]
      rfl
    · show T.slotsUsed = T.slotsUsed + ((T.heap.toList.drop T.heap.size).map (·.slots.size)).sum
      rw [List.drop_eq_nil_of_le (Nat.le_of_eq Array.length_toList)]
      rfl
    · show ((T.heap.toList.drop T.heap.size).map (·.slots.size)).sum ≤ 0
      rw [List.drop_eq_nil_of_le (Nat.le_of_eq Array.length_toList)]
      exact Nat.le_refl _
/-- 'throw new E()': new; dup; invokespecial; athrow -/
theorem vx_throw0 {cc : ByteArray} {pc : Nat} (hexec : p.tables.exec = Jvm.exec) (hb : c.code = cc) (hl : l.stackTraces = false) {own cls : String} {names : List String} {ik ic mc ms : Nat} {A : Nat → Prop}
    (hown : s.vm.findClass own = some m.cls) (hcls : Bundle.fit cls = true) (hnames : ∀ n ∈ names, Bundle.fit n = true)
    (hk : (Cond.classLink own ik cls).before args s = true) (hini : (Cond.initialized cls).before args s = true) (hat : ∀ w ∈ vx_at0 own ic cls names, w.before args s = true)
    (hgood : ∀ w ∈ Cond.classLink own ik cls :: Cond.initialized cls :: vx_at0 own ic cls names, vx_ot w = true)
    (hU : vx_Zq Bundle.tN "UNASSIGNED_STACK" Bundle.steD A s s.heap) (hN : vx_Zq Bundle.tN "SUPPRESSED_SENTINEL" Bundle.listD A s s.heap) (hS : va_S A s.heap H locs) (hsize : ls.size = c.maxLocals)
    (d0 : decode cc pc = .ok (.new ik, 3)) (d3 : decode cc (pc + 3) = .ok (.dup, 1)) (d4 : decode cc (pc + 4) = .ok (.invokespecial ic, 3)) (d7 : decode cc (pc + 7) = .ok (.athrow, 1))
    (hout : ∀ x ∈ c.exceptionTable.toList, covers x (pc + 7) = false)
    (hRframes : names.length + 3 < R.frames) (hRlocals : (rest.map fun v => v.category).sum + (13 * (names.length + 1) + 42) ≤ R.locals) (hRcells : cells + 1 ≤ R.cells) (hRslots : slots + 6 ≤ R.slots) (hlocks : meth.locks = false)
    (hx : ∀ t : State, s.vm.Alike t.vm → H.size ≤ t.heap.size → (∀ q : Nat, q < H.size → t.heap[q]? = H[q]?) → XC cls s t)
    (hf : ∀ z ∈ locs, free z.base) (hc : cells + 1 ≤ mc) (hs : slots + 6 ≤ ms) :
    W p l e R s m args below meth c H locs cells slots (vx_MQ below Qc XC args s mc ms free) (F0 m pc ls rest) := by
  intro T hT X
  have htr : e.platform.stackTraces = false := (show e.platform.stackTraces = l.stackTraces by rw [X.admits.platform]).trans hl
  have Y := vx_rebase X (R' := { frames := R.frames, locals := R.locals, cells := 1, slots := 6 }) (Nat.le_refl _) (Nat.le_refl _) hRcells hRslots
  obtain ⟨s', hA⟩ : ∃ z, z = (T.setVm s.vm).setFrames (.invoking m args :: below) := ⟨_, rfl⟩
  rw [← hA] at Y
  have hvm : s'.vm = s.vm := by rw [hA]; rfl
  have hhp : s'.heap = H := by rw [hA]; exact hT
  have hW0 : s.WarmedH s'.vm := by rw [hvm]; exact State.WarmedH.refl s
  have hat' : ∀ w ∈ vx_at0 own ic cls names, w.before args s' = true := fun w hw => vx_ot_at hW0 hvm.symm (hgood w (List.mem_cons_of_mem _ (List.mem_cons_of_mem _ hw))) (hat w hw)
  have hk' : (Cond.classLink own ik cls).before args s' = true := vx_ot_at hW0 hvm.symm (hgood _ List.mem_cons_self) hk
  have hini' : (Cond.initialized cls).before args s' = true := vx_ot_at hW0 hvm.symm (hgood _ (List.mem_cons_of_mem _ List.mem_cons_self)) hini
  have hU' : vx_Zq Bundle.tN "UNASSIGNED_STACK" Bundle.steD A s' s'.heap := by rw [hhp]; exact vx_Zq.moved hW0.alike (hU.kept hS.2.1)
  have hN' : vx_Zq Bundle.tN "SUPPRESSED_SENTINEL" Bundle.listD A s' s'.heap := by rw [hhp]; exact vx_Zq.moved hW0.alike (hN.kept hS.2.1)
  have h : ∀ w ∈ Bundle.ownAtoms0 own ic cls names, w.before args s' = true := vx_own hat' (vx_isRefq hU'.1) (vx_isRefq hN'.1) hU'.2.word hN'.2.word
  have hown' : s'.vm.findClass own = some m.cls := by rw [hvm]; exact hown
  have hins : (Cond.instantiable cls 6).before args s' = true := h _ (by simp [Bundle.ownAtoms0])
  obtain ⟨vm₁, cX, kX, hfX, hkX, -, -, X₁, st1⟩ := Y.newCold hexec (own := own) (C := cls) (index := ik) (n := 6) hown' hk' hins hini'
    (g := F0 m pc ls rest) rfl (by rw [hb]; exact d0) (Nat.le_refl _) (Nat.le_refl _)
  generalize hT1 : (T.setVm vm₁).pushCell { cls := cX, slots := kX.instanceTypes.map defaultValue, vm := .none } = T1 at X₁ st1
  have hcat : (Value.ref T.heap.size).category = 1 := rfl
  have hcellA : T1.heap[T.heap.size]? = some (freshCell cX kX) := by rw [← hT1]; exact State.heap_pushCell_size _ _
  have d3' : decode c.code (pc + 3) = .ok (.dup, 1) := by rw [hb]; exact d3
  obtain ⟨U, hsteps, hrun, hend, hW, hsame, ce, hce, hO⟩ := X₁.ctorThrow0 hexec htr (own := own) (cls := cls) (names := names) (ic := ic) hown' hcls hnames h (fun x hx => nomatch hx) hfX hkX hcellA (by rw [hhp, hT]; exact Nat.le_refl _)
    (g := { method := m, pc := pc + 4, locals := ls, stack := .ref T.heap.size :: .ref T.heap.size :: rest, locked := none }) rfl hsize rfl rfl (rest := rest) rfl
    (by rw [hb]; exact d4) (by rw [hb]; exact d7) hout hRframes (by simp only [List.map_cons, List.sum_cons, hcat]; omega) hlocks
  obtain ⟨f1, f2⟩ := vx_frame hsame
  rw [hhp] at f1 f2
  have hWs : s.WarmedH U.vm := State.WarmedH.trans hW0 hW
  have hcl : s.vm.findClass cls = some ce.cls := by
    have h9 := hO.cls
    rw [hvm] at h9
    exact h9
  have hall : s.sameButNew ({ U with vm := s.vm } : State) locs mc ms := by
    subst hA
    obtain ⟨e1, e2⟩ := hsame
    rw [State.setFrames_setFrames] at e1
    have h2 : (T.setVm s.vm).sameButNew ({ U with vm := s.vm } : State) [] (0 + 1) (0 + 6) := ⟨e1, e2⟩
    have h3 := X.same.trans h2
    rw [List.append_nil] at h3
    exact h3.mono hc hs
  refine ⟨U, ?_, .threw T.heap.size, hrun, hend, Or.inr ⟨T.heap.size, rfl, cls, ce, locs, hx U hWs.alike f1 (fun q hq => f2 q hq (fun z hz => nomatch hz)), hce, hO.vm, hcl, hWs, hall, hf⟩⟩
  refine st1 _ ?_
  show Steps p.tables e below (T1.setTop { method := m, pc := pc + 3, locals := ls, stack := .ref T.heap.size :: rest, locked := none }) _
  jvm_step X₁.here [X₁.here.top, hexec, d3', Value.category]
  exact hsteps
/-- 'throw new E("text")': new; dup; ldc; invokespecial; athrow -/
theorem vx_throwS {cc : ByteArray} {pc : Nat} (hexec : p.tables.exec = Jvm.exec) (hb : c.code = cc) (hl : l.stackTraces = false) {own cls text : String} {names : List String} {ik is ic mc ms sa : Nat} {A : Nat → Prop}
    (hown : s.vm.findClass own = some m.cls) (hcls : Bundle.fit cls = true) (hnames : ∀ n ∈ names, Bundle.fit n = true)
    (hk : (Cond.classLink own ik cls).before args s = true) (hini : (Cond.initialized cls).before args s = true) (hstr : vk_R own is text sa s) (hat : ∀ w ∈ vx_atS own ic cls names, w.before args s = true)
    (hgood : ∀ w ∈ Cond.classLink own ik cls :: Cond.initialized cls :: vx_atS own ic cls names, vx_ot w = true)
    (hU : vx_Zq Bundle.tN "UNASSIGNED_STACK" Bundle.steD A s s.heap) (hN : vx_Zq Bundle.tN "SUPPRESSED_SENTINEL" Bundle.listD A s s.heap) (hS : va_S A s.heap H locs) (hsize : ls.size = c.maxLocals)
    (d0 : decode cc pc = .ok (.new ik, 3)) (d3 : decode cc (pc + 3) = .ok (.dup, 1)) (d4 : decode cc (pc + 4) = .ok (.ldc is, 2)) (d6 : decode cc (pc + 6) = .ok (.invokespecial ic, 3)) (d9 : decode cc (pc + 9) = .ok (.athrow, 1))
    (hout : ∀ x ∈ c.exceptionTable.toList, covers x (pc + 9) = false)
    (hRframes : names.length + 3 < R.frames) (hRlocals : (rest.map fun v => v.category).sum + (13 * (names.length + 1) + 43) ≤ R.locals) (hRcells : cells + 1 ≤ R.cells) (hRslots : slots + 6 ≤ R.slots) (hlocks : meth.locks = false)
    (hx : ∀ t : State, s.vm.Alike t.vm → H.size ≤ t.heap.size → (∀ q : Nat, q < H.size → t.heap[q]? = H[q]?) → XC cls s t)
    (hf : ∀ z ∈ locs, free z.base) (hc : cells + 1 ≤ mc) (hs : slots + 6 ≤ ms) :
    W p l e R s m args below meth c H locs cells slots (vx_MQ below Qc XC args s mc ms free) (F0 m pc ls rest) := by
  intro T hT X
  have htr : e.platform.stackTraces = false := (show e.platform.stackTraces = l.stackTraces by rw [X.admits.platform]).trans hl
  have Y := vx_rebase X (R' := { frames := R.frames, locals := R.locals, cells := 1, slots := 6 }) (Nat.le_refl _) (Nat.le_refl _) hRcells hRslots
  obtain ⟨s', hA⟩ : ∃ z, z = (T.setVm s.vm).setFrames (.invoking m args :: below) := ⟨_, rfl⟩
  rw [← hA] at Y
  have hvm : s'.vm = s.vm := by rw [hA]; rfl
  have hhp : s'.heap = H := by rw [hA]; exact hT
  have hW0 : s.WarmedH s'.vm := by rw [hvm]; exact State.WarmedH.refl s
  have hat' : ∀ w ∈ vx_atS own ic cls names, w.before args s' = true := fun w hw => vx_ot_at hW0 hvm.symm (hgood w (List.mem_cons_of_mem _ (List.mem_cons_of_mem _ hw))) (hat w hw)
  have hk' : (Cond.classLink own ik cls).before args s' = true := vx_ot_at hW0 hvm.symm (hgood _ List.mem_cons_self) hk
  have hini' : (Cond.initialized cls).before args s' = true := vx_ot_at hW0 hvm.symm (hgood _ (List.mem_cons_of_mem _ List.mem_cons_self)) hini
  have hU' : vx_Zq Bundle.tN "UNASSIGNED_STACK" Bundle.steD A s' s'.heap := by rw [hhp]; exact vx_Zq.moved hW0.alike (hU.kept hS.2.1)
  have hN' : vx_Zq Bundle.tN "SUPPRESSED_SENTINEL" Bundle.listD A s' s'.heap := by rw [hhp]; exact vx_Zq.moved hW0.alike (hN.kept hS.2.1)
  have h : ∀ w ∈ Bundle.ownAtoms own ic cls names, w.before args s' = true := vx_own hat' (vx_isRefq hU'.1) (vx_isRefq hN'.1) hU'.2.word hN'.2.word
  have hown' : s'.vm.findClass own = some m.cls := by rw [hvm]; exact hown
  have hins : (Cond.instantiable cls 6).before args s' = true := h _ (by simp [Bundle.ownAtoms])
  obtain ⟨vm₁, cX, kX, hfX, hkX, -, -, X₁, st1⟩ := Y.newCold hexec (own := own) (C := cls) (index := ik) (n := 6) hown' hk' hins hini'
    (g := F0 m pc ls rest) rfl (by rw [hb]; exact d0) (Nat.le_refl _) (Nat.le_refl _)
  generalize hT1 : (T.setVm vm₁).pushCell { cls := cX, slots := kX.instanceTypes.map defaultValue, vm := .none } = T1 at X₁ st1
  have hcat : (Value.ref T.heap.size).category = 1 := rfl
  have hcellA : T1.heap[T.heap.size]? = some (freshCell cX kX) := by rw [← hT1]; exact State.heap_pushCell_size _ _
  have d3' : decode c.code (pc + 3) = .ok (.dup, 1) := by rw [hb]; exact d3
  have d4' : decode c.code (pc + 4) = .ok (.ldc is, 2) := by rw [hb]; exact d4
  have hstr' : vk_R own is text sa s' := vk_R.warm hW0 hstr
  obtain ⟨U, hsteps, hrun, hend, hW, hsame, ce, hce, hO⟩ := X₁.ctorThrowS hexec htr (own := own) (cls := cls) (names := names) (ic := ic) hown' hcls hnames h (fun x hx => nomatch hx) hfX hkX hcellA (by rw [hhp, hT]; exact Nat.le_refl _) (msg := .ref sa) rfl
    (g := { method := m, pc := pc + 6, locals := ls, stack := .ref sa :: .ref T.heap.size :: .ref T.heap.size :: rest, locked := none }) rfl hsize rfl rfl (rest := rest) rfl
    (by rw [hb]; exact d6) (by rw [hb]; exact d9) hout hRframes (by simp only [List.map_cons, List.sum_cons, hcat]; omega) hlocks
  obtain ⟨f1, f2⟩ := vx_frame hsame
  rw [hhp] at f1 f2
  have hWs : s.WarmedH U.vm := State.WarmedH.trans hW0 hW
  have hcl : s.vm.findClass cls = some ce.cls := by
    have h9 := hO.cls
    rw [hvm] at h9
    exact h9
  have hall : s.sameButNew ({ U with vm := s.vm } : State) locs mc ms := by
    subst hA
    obtain ⟨e1, e2⟩ := hsame
    rw [State.setFrames_setFrames] at e1
    have h2 : (T.setVm s.vm).sameButNew ({ U with vm := s.vm } : State) [] (0 + 1) (0 + 6) := ⟨e1, e2⟩
    have h3 := X.same.trans h2
    rw [List.append_nil] at h3
    exact h3.mono hc hs
  refine ⟨U, ?_, .threw T.heap.size, hrun, hend, Or.inr ⟨T.heap.size, rfl, cls, ce, locs, hx U hWs.alike f1 (fun q hq => f2 q hq (fun z hz => nomatch hz)), hce, hO.vm, hcl, hWs, hall, hf⟩⟩
  refine st1 _ ?_
  show Steps p.tables e below (T1.setTop { method := m, pc := pc + 3, locals := ls, stack := .ref T.heap.size :: rest, locked := none }) _
  jvm_step X₁.here [X₁.here.top, hexec, d3', Value.category]
  exact X₁.ldcString hexec (own := own) (text := text) (index := is) (a := sa) hown' hstr'.1 hstr'.2
    (g := { method := m, pc := pc + 4, locals := ls, stack := .ref T.heap.size :: .ref T.heap.size :: rest, locked := none }) rfl d4' _ hsteps
/-- 'throw new E("text")', the text by a wide index -/
theorem vx_throwSW {cc : ByteArray} {pc : Nat} (hexec : p.tables.exec = Jvm.exec) (hb : c.code = cc) (hl : l.stackTraces = false) {own cls text : String} {names : List String} {ik is ic mc ms sa : Nat} {A : Nat → Prop}
    (hown : s.vm.findClass own = some m.cls) (hcls : Bundle.fit cls = true) (hnames : ∀ n ∈ names, Bundle.fit n = true)
    (hk : (Cond.classLink own ik cls).before args s = true) (hini : (Cond.initialized cls).before args s = true) (hstr : vk_R own is text sa s) (hat : ∀ w ∈ vx_atS own ic cls names, w.before args s = true)
    (hgood : ∀ w ∈ Cond.classLink own ik cls :: Cond.initialized cls :: vx_atS own ic cls names, vx_ot w = true)
    (hU : vx_Zq Bundle.tN "UNASSIGNED_STACK" Bundle.steD A s s.heap) (hN : vx_Zq Bundle.tN "SUPPRESSED_SENTINEL" Bundle.listD A s s.heap) (hS : va_S A s.heap H locs) (hsize : ls.size = c.maxLocals)
    (d0 : decode cc pc = .ok (.new ik, 3)) (d3 : decode cc (pc + 3) = .ok (.dup, 1)) (d4 : decode cc (pc + 4) = .ok (.ldc_w is, 3)) (d7 : decode cc (pc + 7) = .ok (.invokespecial ic, 3)) (d10 : decode cc (pc + 10) = .ok (.athrow, 1))
    (hout : ∀ x ∈ c.exceptionTable.toList, covers x (pc + 10) = false)
    (hRframes : names.length + 3 < R.frames) (hRlocals : (rest.map fun v => v.category).sum + (13 * (names.length + 1) + 43) ≤ R.locals) (hRcells : cells + 1 ≤ R.cells) (hRslots : slots + 6 ≤ R.slots) (hlocks : meth.locks = false)
    (hx : ∀ t : State, s.vm.Alike t.vm → H.size ≤ t.heap.size → (∀ q : Nat, q < H.size → t.heap[q]? = H[q]?) → XC cls s t)
    (hf : ∀ z ∈ locs, free z.base) (hc : cells + 1 ≤ mc) (hs : slots + 6 ≤ ms) :
    W p l e R s m args below meth c H locs cells slots (vx_MQ below Qc XC args s mc ms free) (F0 m pc ls rest) := by
  intro T hT X
  have htr : e.platform.stackTraces = false := (show e.platform.stackTraces = l.stackTraces by rw [X.admits.platform]).trans hl
  have Y := vx_rebase X (R' := { frames := R.frames, locals := R.locals, cells := 1, slots := 6 }) (Nat.le_refl _) (Nat.le_refl _) hRcells hRslots
  obtain ⟨s', hA⟩ : ∃ z, z = (T.setVm s.vm).setFrames (.invoking m args :: below) := ⟨_, rfl⟩
  rw [← hA] at Y
  have hvm : s'.vm = s.vm := by rw [hA]; rfl
  have hhp : s'.heap = H := by rw [hA]; exact hT
  have hW0 : s.WarmedH s'.vm := by rw [hvm]; exact State.WarmedH.refl s
  have hat' : ∀ w ∈ vx_atS own ic cls names, w.before args s' = true := fun w hw => vx_ot_at hW0 hvm.symm (hgood w (List.mem_cons_of_mem _ (List.mem_cons_of_mem _ hw))) (hat w hw)
  have hk' : (Cond.classLink own ik cls).before args s' = true := vx_ot_at hW0 hvm.symm (hgood _ List.mem_cons_self) hk
  have hini' : (Cond.initialized cls).before args s' = true := vx_ot_at hW0 hvm.symm (hgood _ (List.mem_cons_of_mem _ List.mem_cons_self)) hini
  have hU' : vx_Zq Bundle.tN "UNASSIGNED_STACK" Bundle.steD A s' s'.heap := by rw [hhp]; exact vx_Zq.moved hW0.alike (hU.kept hS.2.1)
  have hN' : vx_Zq Bundle.tN "SUPPRESSED_SENTINEL" Bundle.listD A s' s'.heap := by rw [hhp]; exact vx_Zq.moved hW0.alike (hN.kept hS.2.1)
  have h : ∀ w ∈ Bundle.ownAtoms own ic cls names, w.before args s' = true := vx_own hat' (vx_isRefq hU'.1) (vx_isRefq hN'.1) hU'.2.word hN'.2.word
  have hown' : s'.vm.findClass own = some m.cls := by rw [hvm]; exact hown
  have hins : (Cond.instantiable cls 6).before args s' = true := h _ (by simp [Bundle.ownAtoms])
  obtain ⟨vm₁, cX, kX, hfX, hkX, -, -, X₁, st1⟩ := Y.newCold hexec (own := own) (C := cls) (index := ik) (n := 6) hown' hk' hins hini'
    (g := F0 m pc ls rest) rfl (by rw [hb]; exact d0) (Nat.le_refl _) (Nat.le_refl _)
  generalize hT1 : (T.setVm vm₁).pushCell { cls := cX, slots := kX.instanceTypes.map defaultValue, vm := .none } = T1 at X₁ st1
  have hcat : (Value.ref T.heap.size).category = 1 := rfl
  have hcellA : T1.heap[T.heap.size]? = some (freshCell cX kX) := by rw [← hT1]; exact State.heap_pushCell_size _ _
  have d3' : decode c.code (pc + 3) = .ok (.dup, 1) := by rw [hb]; exact d3
  have d4' : decode c.code (pc + 4) = .ok (.ldc_w is, 3) := by rw [hb]; exact d4
  have hstr' : vk_R own is text sa s' := vk_R.warm hW0 hstr
  obtain ⟨U, hsteps, hrun, hend, hW, hsame, ce, hce, hO⟩ := X₁.ctorThrowS hexec htr (own := own) (cls := cls) (names := names) (ic := ic) hown' hcls hnames h (fun x hx => nomatch hx) hfX hkX hcellA (by rw [hhp, hT]; exact Nat.le_refl _) (msg := .ref sa) rfl
    (g := { method := m, pc := pc + 7, locals := ls, stack := .ref sa :: .ref T.heap.size :: .ref T.heap.size :: rest, locked := none }) rfl hsize rfl rfl (rest := rest) rfl
    (by rw [hb]; exact d7) (by rw [hb]; exact d10) hout hRframes (by simp only [List.map_cons, List.sum_cons, hcat]; omega) hlocks
  obtain ⟨f1, f2⟩ := vx_frame hsame
  rw [hhp] at f1 f2
  have hWs : s.WarmedH U.vm := State.WarmedH.trans hW0 hW
  have hcl : s.vm.findClass cls = some ce.cls := by
    have h9 := hO.cls
    rw [hvm] at h9
    exact h9
  have hall : s.sameButNew ({ U with vm := s.vm } : State) locs mc ms := by
    subst hA
    obtain ⟨e1, e2⟩ := hsame
    rw [State.setFrames_setFrames] at e1
    have h2 : (T.setVm s.vm).sameButNew ({ U with vm := s.vm } : State) [] (0 + 1) (0 + 6) := ⟨e1, e2⟩
    have h3 := X.same.trans h2
    rw [List.append_nil] at h3
    exact h3.mono hc hs
  refine ⟨U, ?_, .threw T.heap.size, hrun, hend, Or.inr ⟨T.heap.size, rfl, cls, ce, locs, hx U hWs.alike f1 (fun q hq => f2 q hq (fun z hz => nomatch hz)), hce, hO.vm, hcl, hWs, hall, hf⟩⟩
  refine st1 _ ?_
  show Steps p.tables e below (T1.setTop { method := m, pc := pc + 3, locals := ls, stack := .ref T.heap.size :: rest, locked := none }) _
  jvm_step X₁.here [X₁.here.top, hexec, d3', Value.category]
  exact X₁.ldcStringW hexec (own := own) (text := text) (index := is) (a := sa) hown' hstr'.1 hstr'.2
    (g := { method := m, pc := pc + 4, locals := ls, stack := .ref T.heap.size :: .ref T.heap.size :: rest, locked := none }) rfl d4' _ hsteps
end Ends
section Bodies
variable {l : Launch}
theorem vx_ofW {y : MethodName} {ws ws' : List Cond} {rm : Room} {Pc : Array Value → State → Prop} {Qc : Array Value → State → Outcome → State → Prop} {XC : String → State → State → Prop} {mc ms : Nat} {free : Addr → Prop} {cc : ByteArray} {maxL : Nat} {ret : Option FieldType}
    (hy : plainName y.cls = true) (hw : ws = Cond.code y cc maxL ret :: ws')
    (body : ∀ p e s m args below meth c s₁, BodyLoose p l y (headSpec ws rm) cc maxL ret e s m args below meth c s₁ → c.maxLocals = maxL → (∀ x ∈ c.exceptionTable.toList, False) → Pc args s →
      W p l e (headSpec ws rm).room s m args below meth c s.heap [] 0 0 (vx_MQ below Qc XC args s mc ms free) (entryFrame m args maxL)) : vx_Met l y ws rm Pc Qc XC mc ms free := by
  refine MetFree.of_bodyS (code := cc) (maxLocals := maxL) (ret := ret) hy ?_ ?_
  · intro args s m h hn
    obtain ⟨meth, c, h1, h2, h3, h4, h5, h6, -, -⟩ := Cond.code_spec hn (atoms_spec (ws := ws) h _ (by rw [hw]; exact List.mem_cons_self))
    exact ⟨meth, c, h1, h2, h3, h4, h5, h6⟩
  · intro p e s m args below meth c s₁ B hml hP _
    have hh0 : s₁.heap = s.heap := by rw [B.state]; rfl
    have ht : ∀ x ∈ c.exceptionTable.toList, False := by
      obtain ⟨meth9, c9, h1, h2, -, -, -, -, h7, -⟩ := Cond.code_spec B.named (atoms_spec (ws := ws) B.pre _ (by rw [hw]; exact List.mem_cons_self))
      cases Option.some.inj (h1.symm.trans B.method)
      cases Option.some.inj (h2.symm.trans (Stand.of_body B).code)
      intro x hx
      rw [Array.isEmpty_iff.mp h7] at hx
      cases hx
    obtain ⟨t, a1, o, b1, b2, b3⟩ := body p e s m args below meth c s₁ B hml ht hP s₁ hh0 (Stand.of_body B)
    exact ⟨t, o, a1, b1, b2, b3⟩
/-- the table of a body with handlers -/
theorem vx_table {p : Program} {x y : MethodName} {S : Spec} {cc bytes : ByteArray} {maxL maxL' : Nat} {ret ret' : Option FieldType} {e : Env} {s s₁ : State} {m : MethodId} {args : Array Value} {below : List Frame} {meth : Method} {c : Code} {hh : List (Nat × Nat × Nat × Nat)}
    (B : BodyLoose p l y S cc maxL ret e s m args below meth c s₁) (h : (Cond.codeWith y bytes maxL' ret' hh).before args s = true) : c.exceptionTable.toList = tableOf hh := by
  obtain ⟨m9, meth9, c9, hn9, h1, h2, -, -, h6, -⟩ := Cond.codeWith_spec h
  cases Option.some.inj (hn9.symm.trans B.named)
  cases Option.some.inj (h1.symm.trans B.method)
  cases Option.some.inj (h2.symm.trans (Stand.of_body B).code)
  rw [← h6, table_eq]
end Bodies
end VXA
/-! ===== END ===== -/
/-! ===== BEGIN a static call of a method with an exception table ===== -/
section VXS
variable {p : Program} {l : Launch} {e : Env} {R : Room} {s : State} {m : MethodId} {args : Array Value} {below : List Frame} {meth : Method} {c : Code} {T : State} {H : Heap} {locs : List Loc} {cells slots : Nat}
abbrev vx_CSW (R : Room) (s : State) (args : Array Value) (own : String) (index : Nat) (y : MethodName) (bytes : ByteArray) (maxL : Nat) (ret : Option FieldType) (hh : List (Nat × Nat × Nat × Nat)) (ws : List Cond) (rm : Room) (mc ms n : Nat) : Prop :=
  (rm.cells = mc ∧ rm.slots = ms ∧ rm.frames + 1 ≤ R.frames ∧ 8 + (maxL + 11) + rm.locals ≤ R.locals ∧ (∀ w ∈ ws, ∀ (a' : Array Value) (U : State), s.WarmedH U.vm → w.before a' U = true) ∧ Cond.codeWith y bytes maxL ret hh ∈ ws) ∧
  (Cond.codeWith y bytes maxL ret hh).before args s = true ∧ (Cond.initialized y.cls).before args s = true ∧ (y.cls ≠ "java/lang/invoke/MethodHandle" ∧ y.cls ≠ "java/lang/invoke/VarHandle") ∧
  (∀ sig, parseMethodDescriptor y.desc = some sig → n = sig.parameters.length) ∧ (Cond.methodLink own index y).before args s = true ∧ (Cond.static y).before args s = true
theorem vx_cwSW {own : String} {index maxL mc ms : Nat} {y : MethodName} {bytes : ByteArray} {ret : Option FieldType} {hh : List (Nat × Nat × Nat × Nat)} {Ts ws ws' : List Cond} {rm : Room} (n : Nat) (ht : ∀ w ∈ Ts, w.before args s = true) (hT : GoodIn Ts (va_wsS own index y ws)) (hw : ws = Cond.codeWith y bytes maxL ret hh :: ws') (hrc : rm.cells = mc) (hrs : rm.slots = ms)
    (hd : y.cls ≠ "java/lang/invoke/MethodHandle" ∧ y.cls ≠ "java/lang/invoke/VarHandle" ∧ (parseMethodDescriptor y.desc).map (fun d => d.parameters.length) = some n) (hR : rm.frames + 1 ≤ R.frames ∧ 8 + (maxL + 11) + rm.locals ≤ R.locals) :
    vx_CSW R s args own index y bytes maxL ret hh ws rm mc ms n := by
  have ok : ∀ w ∈ va_wsS own index y ws, w.before args s = true := fun w h => ht w (hT w h).1
  have hG : GoodIn Ts ws := fun w h => hT w (by unfold va_wsS; exact List.mem_append_right _ h)
  have hc : Cond.codeWith y bytes maxL ret hh ∈ ws := by rw [hw]; exact List.mem_cons_self
  refine ⟨⟨hrc, hrs, hR.1, hR.2, pay_in ht hG, hc⟩, ht _ (hG _ hc).1, ok _ (by simp [va_wsS]), ⟨hd.1, hd.2.1⟩, fun sig h => ?_, ok _ (by simp [va_wsS]), ok _ (by simp [va_wsS])⟩
  have h2 := hd.2.2
  rw [h] at h2
  exact (Option.some.inj h2).symm
theorem vx_callSW (X : Stand p l e R s m args below meth c T locs cells slots) (hexec : p.tables.exec = Jvm.exec) {own : String} {index : Nat} {y : MethodName} {bytes : ByteArray} {maxL : Nat} {ret : Option FieldType} {hh : List (Nat × Nat × Nat × Nat)}
    (hown : s.vm.findClass own = some m.cls) (hlink : (Cond.methodLink own index y).before args s = true) (hstat : (Cond.static y).before args s = true) (hinit : (Cond.initialized y.cls).before args s = true)
    (hcode : (Cond.codeWith y bytes maxL ret hh).before args s = true) (hy : y.cls ≠ "java/lang/invoke/MethodHandle" ∧ y.cls ≠ "java/lang/invoke/VarHandle")
    {W9 : Nat} {Pre : Pt → Array Value → Prop} {Post : Pt → Array Value → Option Value → Pt → Prop} (hK : Back l R p e below s args y 3 W9 Pre Post)
    {g : JFrame} (hg : g.method = m) (hsize : g.locals.size = c.maxLocals) {argsL rest : List Value} (hlen : ∀ sig, parseMethodDescriptor y.desc = some sig → argsL.length = sig.parameters.length)
    (hstack : g.stack = argsL.reverse ++ rest) (hW : 2 * g.monitorRoom + (rest.map fun v => v.category).sum ≤ W9) (hdg : decode c.code g.pc = .ok (.invokestatic index, 3))
    (hpre : ∀ vm₁, s.WarmedH vm₁ → Pre ⟨T.setVm vm₁, locs, cells, slots⟩ argsL.toArray) :
    ∃ (v : Option Value) (vm₁ : Vm) (B : Pt), s.WarmedH vm₁ ∧ Stand p l e R s m args below meth c B.U B.locs B.cells B.slots ∧ Post ⟨T.setVm vm₁, locs, cells, slots⟩ argsL.toArray v B ∧
      ∀ target, Steps p.tables e below (B.U.setTop { g with pc := g.pc + 3, stack := v.toList ++ rest }) target → Steps p.tables e below (T.setTop g) target := by
  obtain ⟨mk, methM, cM, hnamed, hmethM, -, -, -, -, -, -, hsigM⟩ := Cond.codeWith_spec hcode
  have hstatic : methM.isStatic = true := Cond.static_spec hnamed hmethM hstat
  obtain ⟨kP, hkP, -⟩ := className_of_methodNamed hnamed
  have hinitP : kP.init = .initialized := Cond.initialized_spec (findClass_of_methodNamed hnamed) hkP hinit
  obtain ⟨vm₁, X₁, hstep₁⟩ := X.invokestatic hexec hown hlink hnamed hmethM hstatic hkP hinitP hy (g := g) hg (argsL := argsL) (rest := rest) (hlen _ hsigM) hstack hdg
  obtain ⟨v, B, X', hpost, hsteps⟩ := hK m meth c ⟨T.setVm vm₁, locs, cells, slots⟩ { g with stack := rest } (.invokestatic index) mk argsL.toArray X₁ hg hsize hdg hW (X₁.named hnamed) (hpre vm₁ X₁.warmed)
  exact ⟨v, vm₁, B, X₁.warmed, X', hpost, fun target h => hstep₁ _ fun acts => by rw [doInvoke_state]; exact hsteps.trans h⟩
theorem vx_runSW {y : MethodName} {bytes cc : ByteArray} {maxL nL mc ms n index : Nat} {ret : Option FieldType} {hh : List (Nat × Nat × Nat × Nat)} {ws : List Cond} {rm : Room} {Pc : Array Value → State → Prop} {Qc : Array Value → State → Outcome → State → Prop} {free : Addr → Prop} {Ts : List Cond} {own : String} {As rest : List Value} {g : JFrame}
    (S : CallFix p m c cc nL s args Ts own) (hM : Met l y ws rm Pc Qc mc ms free) (cw : vx_CSW R s args own index y bytes maxL ret hh ws rm mc ms n) (hp : PreS s H Pc As)
    (hg : g.method = m) (hn : As.length = n) (hsize : g.locals.size = nL) (hstack : g.stack = As.reverse ++ rest) (hW : 2 * g.monitorRoom + (rest.map fun v => v.category).sum ≤ 8) (hdg : decode cc g.pc = .ok (.invokestatic index, 3)) (hf : cells + mc ≤ R.cells ∧ slots + ms ≤ R.slots) :
    va_Run p l e R s m args below meth c H locs cells slots mc ms g rest (Qc As.toArray) (free) := by
  obtain ⟨⟨hrc, hrs, hfr, hlo, hws, hcw⟩, hcode, hini, hy, hlen, hl, hstt⟩ := cw
  have hK : Back l R p e below s args y 3 8 (PreOf R mc ms Pc) (PostOf Qc mc ms free) := va_backW (hh := hh) (bytes := bytes) (maxL := maxL) (ret := ret) hM hp.1 hrc hrs hfr hlo hws hcw (fun a' U hW => word_at hW (Or.inl (by first | rfl | simp [Cond.onTables, Cond.keeps, Cond.steady])) hini)
  obtain ⟨hx, hb, hml, ho, -⟩ := S
  intro T hT X
  obtain ⟨v, vm₁, ⟨U', l2, c2, s2⟩, hW₁, X', ⟨g', mk, t, L, e1, e2, hq, h1, hL, h2, h3⟩, st⟩ := vx_callSW X hx (hh := hh) (bytes := bytes) (maxL := maxL) (ret := ret) ho hl hstt hini hcode hy hK hg (hsize.trans hml.symm) (argsL := As) (rest := rest) (fun sig h => hn.trans (hlen sig h)) hstack hW (by rw [hb]; exact hdg)
    (fun vm₁ hW₁ => ⟨hf.1, hf.2, hp.2 (T.setVm vm₁) hT hW₁⟩)
  dsimp only [Pt.U, Pt.locs, Pt.cells, Pt.slots] at X' e1 e2 h1 h2 h3 st
  subst h1; subst h2; subst h3
  exact ⟨v, (T.setVm vm₁).calling g' mk As.toArray, t, U', L, hT, X', hL, e1, e2, hq, st⟩
/-- not caught here, past rows that name other classes: it goes on to the caller -/
theorem vx_outP {p : Program} {l : Launch} {e : Env} {R : Room} {s : State} {m : MethodId} {args : Array Value} {below : List Frame} {meth : Method} {c : Code} {H : Heap} {locs : List Loc} {cells slots : Nat} {free : Addr → Prop} {ls : Array Slot} {rest : List Value} {Qc : Array Value → State → Outcome → State → Prop} {XC : String → State → State → Prop}
    {pc : Nat} {own E : String} {ce : Cell} {q : Addr} {mc ms : Nat} (hown : s.vm.findClass own = some m.cls) (hlocks : meth.locks = false)
    (hpass : ∀ z ∈ c.exceptionTable.toList, covers z pc = false ∨ (z.catchType ≠ 0 ∧ ∃ nm : String, (Cond.classLink own z.catchType nm).before args s = true ∧ va_Nc E nm s)) (hcell : H[q]? = some ce) (hv : ce.vm = .none) (hcl : s.vm.findClass E = some ce.cls)
    (hx : ∀ t : State, t.heap = H → s.vm.Alike t.vm → XC E s t) (hf : ∀ z ∈ locs, free z.base) (hc : cells ≤ mc) (hs : slots ≤ ms) :
    vx_W p l e R s m args below meth c H locs cells slots (vx_MQ below Qc XC args s mc ms free) (F0 m pc ls rest) q := by
  intro T hT X
  have hpl : e.platform.magicAccessors = ({} : Platform).magicAccessors := by rw [X.admits.platform]
  obtain ⟨vm', hW', X', st⟩ := X.outThrough hlocks q (g := F0 m pc ls rest) rfl rfl rfl (cell := ce) (by rw [hT]; exact hcell) (by rw [hv]; rfl)
    (by obtain ⟨k9, h9, -⟩ := Vm.findClass_spec hcl; exact ⟨k9, h9⟩) (fun z hz => by
      rcases hpass z hz with h | ⟨hz0, nm, hl1, hn1⟩
      · exact Or.inl h
      · obtain ⟨c6, hc6, hcl6⟩ := Cond.classLink_spec hown hl1 e.platform hpl
        obtain ⟨a8, b8, h1, h2, h3⟩ := hn1
        cases Option.some.inj (h1.symm.trans hcl)
        cases Option.some.inj (h2.symm.trans hc6)
        exact Or.inr ⟨hz0, _, hcl6, h3⟩)
  obtain ⟨g₀, hfr⟩ := X'.frames_eq
  have hcell9 : ((T.setVm vm').setFrames (.throwing q :: below)).heap[q]? = some ce := by
    show T.heap[q]? = some ce
    rw [hT]; exact hcell
  have hend : Ended ((T.setVm vm').setFrames (.throwing q :: below)) below (.threw q) := State.frames_setFrames _ (State.cur_lt_of_frames hfr)
  refine ⟨(T.setVm vm').setFrames (.throwing q :: below), ?_, .threw q, X'.here.running, hend, Or.inr ⟨q, rfl, E, ce, locs, hx _ hT (X'.ends _).1.alike, hcell9, hv, hcl, (X'.ends _).1, (X'.ends _).2.mono hc hs, hf⟩⟩
  rw [X.pushThrowing_eq]
  exact st
/-- a thing of a world lies in the heap -/
theorem vx_lt {D : va_G} {cl : List vw_C} {ws : va_W} {H1 : Heap} (h : va_P D cl ws H1) {k : Nat} {q : Nat × va_E} (hk : ws[k]? = some q) : q.1 < H1.size := (h k q hk).lt
end VXS
/-! ===== END ===== -/
/-! ===== BEGIN methods with a table of their own: called by a name, returning or throwing ===== -/
section VXH
/-! vx_backW, vx_callVX, vx_callSX, vx_callVW, vx_runVW, vx_runVX, vx_runSX, vx_ofWH follow the same proofs as their sisters above (Free/Laws.lean, Shelf42/LK1.lean); vx_outP calls Shelf42/NT130.lean (outThrough). -/
section
variable {l : Launch} {R : Room} {p : Program} {e : Env} {below : List Frame} {s : State} {sargs : Array Value} {y : MethodName} {len W9 : Nat}
theorem vx_backW {ws : List Cond} {rm : Room} {Pc : Array Value → State → Prop} {Qc : Array Value → State → Outcome → State → Prop} {XC : String → State → State → Prop} {mc ms : Nat} {free : Addr → Prop} {bytes : ByteArray} {maxL : Nat} {ret : Option FieldType} {hh : List (Nat × Nat × Nat × Nat)}
    (hM : vx_Met l y ws rm Pc Qc XC mc ms free) (hblind : FrameBlind Pc) (hrc : rm.cells = mc) (hrs : rm.slots = ms)
    (hframes : rm.frames + 1 ≤ R.frames) (hlocals : W9 + (maxL + 11) + rm.locals ≤ R.locals)
    (hws : ∀ w ∈ ws, ∀ a' U, s.WarmedH U.vm → w.before a' U = true) (hcode : Cond.codeWith y bytes maxL ret hh ∈ ws) (hinit : ∀ a' U, s.WarmedH U.vm → (Cond.initialized y.cls).before a' U = true) :
    vx_Back l R p e below s sargs y len W9 (PreOf R mc ms Pc) (PostOf Qc mc ms free) (vx_Post XC mc ms free) := by
  intro m meth c A g ig mk a X hg hsize hdg hW hn hp
  have h1 : (headSpec ws rm).pre.before a A.U = true := atoms_intro fun w hw => hws w hw _ _ X.warmed
  have h2 : (Cond.codeWith y bytes maxL ret hh).before a A.U = true := hws _ hcode _ _ X.warmed
  have h3 : (Cond.initialized y.cls).before a A.U = true := hinit _ _ X.warmed
  have h4 : A.cells + (headSpec ws rm).room.cells ≤ R.cells := by rw [show (headSpec ws rm).room.cells = mc from hrc]; exact hp.1
  have h5 : A.slots + (headSpec ws rm).room.slots ≤ R.slots := by rw [show (headSpec ws rm).room.slots = ms from hrs]; exact hp.2.1
  have hPc : Pc a (A.U.calling g mk a) := hblind _ _ _ _ hp.2.2
  obtain ⟨U, Ls, c0, s0⟩ := A
  dsimp only [Pt.U, Pt.locs, Pt.cells, Pt.slots] at h1 h2 h3 h4 h5 X hn hPc ⊢
  obtain ⟨m9, methY, cY, hn9, hmY, hcY, -, hlY, -⟩ := Cond.codeWith_spec h2
  cases Option.some.inj (hn9.symm.trans hn)
  obtain ⟨kY, hkY, -⟩ := className_of_methodNamed hn
  have hinitY : kY.init = .initialized := Cond.initialized_spec (findClass_of_methodNamed hn) hkY h3
  have h : At U g.method c below := by rw [hg]; exact X.here
  have hlocals9 : W9 + (maxL + 11) + (headSpec ws rm).room.locals ≤ R.locals := hlocals
  have happ : (headSpec ws rm).appliesLoose y e.platform (U.calling g mk a) = true :=
    Spec.appliesLoose_calling (g := g) h hdg hn hkY hinitY
      (X.room_calling (g := g) (R' := (headSpec ws rm).room) hsize hmY hcY hframes (by rw [hlY]; omega) h4 h5) h1
  obtain ⟨mid, hmid⟩ := h.above
  have hfr : (U.setTop g).frames = (.java g :: mid) ++ below := by rw [State.frames_setTop' g h.top, hmid]; rfl
  obtain ⟨o, s₂, hsteps, -, hend, hq⟩ := Steps.callFree hM p X.admits X.cas X.clock (acts := []) hfr happ hPc trivial
  have hq' : vx_Q Qc XC mc ms free a (U.calling g mk a) o s₂ := hq
  rw [State.frames_setTop' g h.top] at hend
  obtain ⟨g₀, hg0⟩ := Option.isSome_iff_exists.mp h.top
  obtain ⟨r, hr⟩ := State.topJava?_eq_some.mp hg0
  have hr' : (({ U with heap := s₂.heap, slotsUsed := s₂.slotsUsed } : State).setVm s₂.vm).frames = .java g₀ :: r := hr
  rcases hq' with ⟨hqc, L, hfe, hL⟩ | ⟨q, rfl, E, ce, L, hx, hce, hcv, hcl, hW₂, hsm, hL⟩
  · obtain ⟨⟨v, rfl⟩, hW₂, e2, q2, q3, q4, q5, q6⟩ := id hfe
    have e3 : s₂ = ({ (U.calling g mk a).setFrames s₂.frames with heap := s₂.heap, slotsUsed := s₂.slotsUsed } : State).setVm s₂.vm := by
      have : s₂ = ({ s₂ with vm := (U.calling g mk a).vm } : State).setVm s₂.vm := rfl
      rw [e2] at this
      exact this
    obtain ⟨c₂, i₂, len₂, hc₂, hd₂, hf₂⟩ := hend
    have hW' : U.WarmedH s₂.vm := hW₂
    have hcc : c₂ = c := by
      have h1 : s₂.code? g.method = U.code? g.method := by
        rw [State.code?_eq, State.code?_eq, hW'.alike.method?]
      exact Option.some.inj (hc₂.symm.trans (h1.trans h.code))
    subst hcc
    have hlen : len₂ = len := by rw [hdg] at hd₂; cases hd₂; rfl
    subst hlen
    have hs₂ : s₂ = (({ U with heap := s₂.heap, slotsUsed := s₂.slotsUsed } : State).setVm s₂.vm).setTop { g with pc := g.pc + len₂, stack := v.toList ++ g.stack } := by
      refine e3.trans ?_
      rw [hf₂, State.calling_eq h.top, State.setFrames_setFrames, State.setTop_of_frames _ hr', hr]
      rfl
    have hsame : U.sameButNew ({ U with heap := s₂.heap, slotsUsed := s₂.slotsUsed } : State) L mc ms := by
      refine ⟨?_, q2, q3, q4, q5, q6⟩
      obtain ⟨t, ht, -⟩ := State.frames_cons hr
      show ({ U with heap := s₂.heap, slotsUsed := s₂.slotsUsed } : State) = { U.setFrames U.frames with heap := s₂.heap, slotsUsed := s₂.slotsUsed }
      rw [State.setFrames_self ht]
    subst hg
    refine Or.inl ⟨v, ⟨(({ U with heap := s₂.heap, slotsUsed := s₂.slotsUsed } : State).setVm s₂.vm), Ls ++ L, c0 + mc, s0 + ms⟩,
      ⟨X.admits, X.cas, X.clock, X.frames, X.room, X.hears, X.method, X.code, (X.here.setHeapUsed s₂.heap s₂.slotsUsed).setVm hW'.alike, X.tail, State.WarmedH.trans X.warmed hW', X.limits, X.bytes, X.same.trans (hsame.setVm s.vm)⟩,
      ⟨g, mk, s₂, L, rfl, rfl, hqc, rfl, hL, rfl, rfl⟩, ?_⟩
    show Steps p.tables e below _ ((({ U with heap := s₂.heap, slotsUsed := s₂.slotsUsed } : State).setVm s₂.vm).setTop { g with pc := g.pc + len₂, stack := v.toList ++ g.stack })
    rw [← hs₂]
    exact hsteps
  · obtain ⟨e2, q2, q3, q4, q5, q6⟩ := id hsm
    have e3 : s₂ = ({ (U.calling g mk a).setFrames s₂.frames with heap := s₂.heap, slotsUsed := s₂.slotsUsed } : State).setVm s₂.vm := by
      have : s₂ = ({ s₂ with vm := (U.calling g mk a).vm } : State).setVm s₂.vm := rfl
      rw [e2] at this
      exact this
    have hf₂ : s₂.frames = .throwing q :: .java g :: U.frames.tail := hend
    have hW' : U.WarmedH s₂.vm := hW₂
    have hs₂ : s₂ = ((({ U with heap := s₂.heap, slotsUsed := s₂.slotsUsed } : State).setVm s₂.vm).setTop g).pushFrame (.throwing q) := by
      refine e3.trans ?_
      rw [hf₂, State.calling_eq h.top, State.setFrames_setFrames, State.pushFrame, State.frames_setTop _ hr', State.setTop_of_frames _ hr', State.setFrames_setFrames, hr]
      rfl
    have hsame : U.sameButNew ({ U with heap := s₂.heap, slotsUsed := s₂.slotsUsed } : State) L mc ms := by
      refine ⟨?_, q2, q3, q4, q5, q6⟩
      obtain ⟨t, ht, -⟩ := State.frames_cons hr
      show ({ U with heap := s₂.heap, slotsUsed := s₂.slotsUsed } : State) = { U.setFrames U.frames with heap := s₂.heap, slotsUsed := s₂.slotsUsed }
      rw [State.setFrames_self ht]
    subst hg
    refine Or.inr ⟨q, ⟨(({ U with heap := s₂.heap, slotsUsed := s₂.slotsUsed } : State).setVm s₂.vm), Ls ++ L, c0 + mc, s0 + ms⟩,
      ⟨X.admits, X.cas, X.clock, X.frames, X.room, X.hears, X.method, X.code, (X.here.setHeapUsed s₂.heap s₂.slotsUsed).setVm hW'.alike, X.tail, State.WarmedH.trans X.warmed hW', X.limits, X.bytes, X.same.trans (hsame.setVm s.vm)⟩,
      ⟨g, mk, s₂, L, E, ce, rfl, rfl, hx, hce, hcv, hcl, rfl, hL, rfl, rfl⟩, ?_⟩
    show Steps p.tables e below _ (((({ U with heap := s₂.heap, slotsUsed := s₂.slotsUsed } : State).setVm s₂.vm).setTop g).pushFrame (.throwing q))
    rw [← hs₂]
    exact hsteps
end
variable {p : Program} {l : Launch} {e : Env} {R : Room} {s : State} {m : MethodId} {args : Array Value} {below : List Frame} {meth : Method} {c : Code} {T : State} {H : Heap} {locs : List Loc} {cells slots : Nat}
theorem vx_callVX (X : Stand p l e R s m args below meth c T locs cells slots) (hexec : p.tables.exec = Jvm.exec) {own C : String} {index : Nat} {y : MethodName} {bytes : ByteArray} {maxL : Nat} {ret : Option FieldType} {hh : List (Nat × Nat × Nat × Nat)}
    (hown : s.vm.findClass own = some m.cls) (hlink : (Cond.methodLink own index y).before args s = true) (hinst : (Cond.instanceMethod y).before args s = true) (hsel : (Cond.selects C y y).before args s = true)
    (hcode : (Cond.codeWith y bytes maxL ret hh).before args s = true) (hy : y.cls ≠ "java/lang/invoke/MethodHandle" ∧ y.cls ≠ "java/lang/invoke/VarHandle")
    {W9 : Nat} {Pre : Pt → Array Value → Prop} {Post : Pt → Array Value → Option Value → Pt → Prop} {PostX : Pt → Array Value → Addr → Pt → Prop} (hK : vx_Back l R p e below s args y 3 W9 Pre Post PostX)
    {b : Addr} {cellB : Cell} (hcell : T.heap[b]? = some cellB) (hobj : cellB.vm.isStatics = false) (hcls : s.vm.findClass C = some cellB.cls)
    {g : JFrame} (hg : g.method = m) (hsize : g.locals.size = c.maxLocals) {argsL rest : List Value} (hlen : ∀ sig, parseMethodDescriptor y.desc = some sig → argsL.length = sig.parameters.length)
    (hstack : g.stack = argsL.reverse ++ .ref b :: rest) (hW : 2 * g.monitorRoom + (rest.map fun v => v.category).sum ≤ W9) (hdg : decode c.code g.pc = .ok (.invokevirtual index, 3))
    (hpre : ∀ vm₁, s.WarmedH vm₁ → Pre ⟨T.setVm vm₁, locs, cells, slots⟩ (Value.ref b :: argsL).toArray) :
    (∃ (v : Option Value) (vm₁ : Vm) (B : Pt), s.WarmedH vm₁ ∧ Stand p l e R s m args below meth c B.U B.locs B.cells B.slots ∧ Post ⟨T.setVm vm₁, locs, cells, slots⟩ (Value.ref b :: argsL).toArray v B ∧
      ∀ target, Steps p.tables e below (B.U.setTop { g with pc := g.pc + 3, stack := v.toList ++ rest }) target → Steps p.tables e below (T.setTop g) target) ∨
    (∃ (q : Addr) (vm₁ : Vm) (B : Pt), s.WarmedH vm₁ ∧ Stand p l e R s m args below meth c B.U B.locs B.cells B.slots ∧ PostX ⟨T.setVm vm₁, locs, cells, slots⟩ (Value.ref b :: argsL).toArray q B ∧
      Steps p.tables e below (T.setTop g) ((B.U.setTop { g with stack := rest }).pushFrame (.throwing q))) := by
  obtain ⟨mk, methM, hnamed, hmethM, hstM, habM⟩ := Cond.instanceMethod_spec hinst
  obtain ⟨m8, methM', cM, hn8, hmethM', -, -, -, -, -, -, hsigM⟩ := Cond.codeWith_spec hcode
  cases Option.some.inj (hn8.symm.trans hnamed)
  cases hmethM.symm.trans hmethM'
  obtain ⟨c2, r2, m2, q1, q2, q3, q4, kP, hkP, hkPi⟩ := Cond.selects_spec hsel
  cases hcls.symm.trans q1
  cases (State.methodFound?_of_named hnamed hy).symm.trans q2
  cases hnamed.symm.trans q3
  have hselP : selectMethod e.platform s.vm cellB.cls mk = .method mk := by rw [Launch.admits_selectMethod X.admits]; exact q4
  obtain ⟨vm₁, X₁, hstep₁⟩ := X.invokevirtual hexec hown hlink hnamed hmethM hstM hkP hkPi hy (a := b) (cell := cellB) hcell
    (fun z h => by rw [h] at hobj; cases hobj) hselP hmethM habM hkP hkPi (g := g) hg (argsL := argsL) (rest := rest) (hlen _ hsigM) hstack hdg
  rcases hK m meth c ⟨T.setVm vm₁, locs, cells, slots⟩ { g with stack := rest } (.invokevirtual index) mk (Value.ref b :: argsL).toArray X₁ hg hsize hdg hW (X₁.named hnamed) (hpre vm₁ X₁.warmed) with ⟨v, B, X', hpost, hsteps⟩ | ⟨q, B, X', hpost, hsteps⟩
  · exact Or.inl ⟨v, vm₁, B, X₁.warmed, X', hpost, fun target h => hstep₁ _ fun acts => by rw [doInvoke_state]; exact hsteps.trans h⟩
  · exact Or.inr ⟨q, vm₁, B, X₁.warmed, X', hpost, hstep₁ _ fun acts => by rw [doInvoke_state]; exact hsteps⟩
theorem vx_callSX (X : Stand p l e R s m args below meth c T locs cells slots) (hexec : p.tables.exec = Jvm.exec) {own : String} {index : Nat} {y : MethodName} {bytes : ByteArray} {maxL : Nat} {ret : Option FieldType} {hh : List (Nat × Nat × Nat × Nat)}
    (hown : s.vm.findClass own = some m.cls) (hlink : (Cond.methodLink own index y).before args s = true) (hstat : (Cond.static y).before args s = true) (hinit : (Cond.initialized y.cls).before args s = true)
    (hcode : (Cond.codeWith y bytes maxL ret hh).before args s = true) (hy : y.cls ≠ "java/lang/invoke/MethodHandle" ∧ y.cls ≠ "java/lang/invoke/VarHandle")
    {W9 : Nat} {Pre : Pt → Array Value → Prop} {Post : Pt → Array Value → Option Value → Pt → Prop} {PostX : Pt → Array Value → Addr → Pt → Prop} (hK : vx_Back l R p e below s args y 3 W9 Pre Post PostX)
    {g : JFrame} (hg : g.method = m) (hsize : g.locals.size = c.maxLocals) {argsL rest : List Value} (hlen : ∀ sig, parseMethodDescriptor y.desc = some sig → argsL.length = sig.parameters.length)
    (hstack : g.stack = argsL.reverse ++ rest) (hW : 2 * g.monitorRoom + (rest.map fun v => v.category).sum ≤ W9) (hdg : decode c.code g.pc = .ok (.invokestatic index, 3))
    (hpre : ∀ vm₁, s.WarmedH vm₁ → Pre ⟨T.setVm vm₁, locs, cells, slots⟩ argsL.toArray) :
    (∃ (v : Option Value) (vm₁ : Vm) (B : Pt), s.WarmedH vm₁ ∧ Stand p l e R s m args below meth c B.U B.locs B.cells B.slots ∧ Post ⟨T.setVm vm₁, locs, cells, slots⟩ argsL.toArray v B ∧
      ∀ target, Steps p.tables e below (B.U.setTop { g with pc := g.pc + 3, stack := v.toList ++ rest }) target → Steps p.tables e below (T.setTop g) target) ∨
    (∃ (q : Addr) (vm₁ : Vm) (B : Pt), s.WarmedH vm₁ ∧ Stand p l e R s m args below meth c B.U B.locs B.cells B.slots ∧ PostX ⟨T.setVm vm₁, locs, cells, slots⟩ argsL.toArray q B ∧
      Steps p.tables e below (T.setTop g) ((B.U.setTop { g with stack := rest }).pushFrame (.throwing q))) := by
  obtain ⟨mk, methM, cM, hnamed, hmethM, -, -, -, -, -, -, hsigM⟩ := Cond.codeWith_spec hcode
  have hstatic : methM.isStatic = true := Cond.static_spec hnamed hmethM hstat
  obtain ⟨kP, hkP, -⟩ := className_of_methodNamed hnamed
  have hinitP : kP.init = .initialized := Cond.initialized_spec (findClass_of_methodNamed hnamed) hkP hinit
  obtain ⟨vm₁, X₁, hstep₁⟩ := X.invokestatic hexec hown hlink hnamed hmethM hstatic hkP hinitP hy (g := g) hg (argsL := argsL) (rest := rest) (hlen _ hsigM) hstack hdg
  rcases hK m meth c ⟨T.setVm vm₁, locs, cells, slots⟩ { g with stack := rest } (.invokestatic index) mk argsL.toArray X₁ hg hsize hdg hW (X₁.named hnamed) (hpre vm₁ X₁.warmed) with ⟨v, B, X', hpost, hsteps⟩ | ⟨q, B, X', hpost, hsteps⟩
  · exact Or.inl ⟨v, vm₁, B, X₁.warmed, X', hpost, fun target h => hstep₁ _ fun acts => by rw [doInvoke_state]; exact hsteps.trans h⟩
  · exact Or.inr ⟨q, vm₁, B, X₁.warmed, X', hpost, hstep₁ _ fun acts => by rw [doInvoke_state]; exact hsteps⟩
theorem vx_callVW (X : Stand p l e R s m args below meth c T locs cells slots) (hexec : p.tables.exec = Jvm.exec) {own C : String} {index : Nat} {y : MethodName} {bytes : ByteArray} {maxL : Nat} {ret : Option FieldType} {hh : List (Nat × Nat × Nat × Nat)}
    (hown : s.vm.findClass own = some m.cls) (hlink : (Cond.methodLink own index y).before args s = true) (hinst : (Cond.instanceMethod y).before args s = true) (hsel : (Cond.selects C y y).before args s = true)
    (hcode : (Cond.codeWith y bytes maxL ret hh).before args s = true) (hy : y.cls ≠ "java/lang/invoke/MethodHandle" ∧ y.cls ≠ "java/lang/invoke/VarHandle")
    {W9 : Nat} {Pre : Pt → Array Value → Prop} {Post : Pt → Array Value → Option Value → Pt → Prop} (hK : Back l R p e below s args y 3 W9 Pre Post)
    {b : Addr} {cellB : Cell} (hcell : T.heap[b]? = some cellB) (hobj : cellB.vm.isStatics = false) (hcls : s.vm.findClass C = some cellB.cls)
    {g : JFrame} (hg : g.method = m) (hsize : g.locals.size = c.maxLocals) {argsL rest : List Value} (hlen : ∀ sig, parseMethodDescriptor y.desc = some sig → argsL.length = sig.parameters.length)
    (hstack : g.stack = argsL.reverse ++ .ref b :: rest) (hW : 2 * g.monitorRoom + (rest.map fun v => v.category).sum ≤ W9) (hdg : decode c.code g.pc = .ok (.invokevirtual index, 3))
    (hpre : ∀ vm₁, s.WarmedH vm₁ → Pre ⟨T.setVm vm₁, locs, cells, slots⟩ (Value.ref b :: argsL).toArray) :
    ∃ (v : Option Value) (vm₁ : Vm) (B : Pt), s.WarmedH vm₁ ∧ Stand p l e R s m args below meth c B.U B.locs B.cells B.slots ∧ Post ⟨T.setVm vm₁, locs, cells, slots⟩ (Value.ref b :: argsL).toArray v B ∧
      ∀ target, Steps p.tables e below (B.U.setTop { g with pc := g.pc + 3, stack := v.toList ++ rest }) target → Steps p.tables e below (T.setTop g) target := by
  obtain ⟨mk, methM, hnamed, hmethM, hstM, habM⟩ := Cond.instanceMethod_spec hinst
  obtain ⟨m8, methM', cM, hn8, hmethM', -, -, -, -, -, -, hsigM⟩ := Cond.codeWith_spec hcode
  cases Option.some.inj (hn8.symm.trans hnamed)
  cases hmethM.symm.trans hmethM'
  obtain ⟨c2, r2, m2, q1, q2, q3, q4, kP, hkP, hkPi⟩ := Cond.selects_spec hsel
  cases hcls.symm.trans q1
  cases (State.methodFound?_of_named hnamed hy).symm.trans q2
  cases hnamed.symm.trans q3
  have hselP : selectMethod e.platform s.vm cellB.cls mk = .method mk := by rw [Launch.admits_selectMethod X.admits]; exact q4
  obtain ⟨vm₁, X₁, hstep₁⟩ := X.invokevirtual hexec hown hlink hnamed hmethM hstM hkP hkPi hy (a := b) (cell := cellB) hcell
    (fun z h => by rw [h] at hobj; cases hobj) hselP hmethM habM hkP hkPi (g := g) hg (argsL := argsL) (rest := rest) (hlen _ hsigM) hstack hdg
  obtain ⟨v, B, X', hpost, hsteps⟩ := hK m meth c ⟨T.setVm vm₁, locs, cells, slots⟩ { g with stack := rest } (.invokevirtual index) mk (Value.ref b :: argsL).toArray X₁ hg hsize hdg hW (X₁.named hnamed) (hpre vm₁ X₁.warmed)
  exact ⟨v, vm₁, B, X₁.warmed, X', hpost, fun target h => hstep₁ _ fun acts => by rw [doInvoke_state]; exact hsteps.trans h⟩
abbrev vx_CVW (R : Room) (s : State) (args : Array Value) (own C : String) (index : Nat) (y : MethodName) (bytes : ByteArray) (maxL : Nat) (ret : Option FieldType) (hh : List (Nat × Nat × Nat × Nat)) (ws : List Cond) (rm : Room) (mc ms n : Nat) : Prop :=
  (rm.cells = mc ∧ rm.slots = ms ∧ rm.frames + 1 ≤ R.frames ∧ 8 + (maxL + 11) + rm.locals ≤ R.locals ∧ (∀ w ∈ ws, ∀ (a' : Array Value) (U : State), s.WarmedH U.vm → w.before a' U = true) ∧ Cond.codeWith y bytes maxL ret hh ∈ ws) ∧
  (Cond.codeWith y bytes maxL ret hh).before args s = true ∧ (Cond.initialized y.cls).before args s = true ∧ (y.cls ≠ "java/lang/invoke/MethodHandle" ∧ y.cls ≠ "java/lang/invoke/VarHandle") ∧
  (∀ sig, parseMethodDescriptor y.desc = some sig → n = sig.parameters.length) ∧ (Cond.methodLink own index y).before args s = true ∧ (Cond.instanceMethod y).before args s = true ∧ (Cond.selects C y y).before args s = true
theorem vx_cwVW {own C : String} {index maxL mc ms : Nat} {y : MethodName} {bytes : ByteArray} {ret : Option FieldType} {hh : List (Nat × Nat × Nat × Nat)} {Ts ws ws' : List Cond} {rm : Room} (n : Nat) (ht : ∀ w ∈ Ts, w.before args s = true) (hT : GoodIn Ts (wsV own index C y ws)) (hw : ws = Cond.codeWith y bytes maxL ret hh :: ws') (hrc : rm.cells = mc) (hrs : rm.slots = ms)
    (hd : y.cls = C ∧ y.cls ≠ "java/lang/invoke/MethodHandle" ∧ y.cls ≠ "java/lang/invoke/VarHandle" ∧ (parseMethodDescriptor y.desc).map (fun d => d.parameters.length) = some n) (hR : rm.frames + 1 ≤ R.frames ∧ 8 + (maxL + 11) + rm.locals ≤ R.locals) :
    vx_CVW R s args own C index y bytes maxL ret hh ws rm mc ms n := by
  obtain ⟨hC, hd⟩ := hd
  subst hC
  have ok : ∀ w ∈ wsV own index y.cls y ws, w.before args s = true := fun w h => ht w (hT w h).1
  have hG : GoodIn Ts ws := fun w h => hT w (by unfold wsV; exact List.mem_append_right _ h)
  have hc : Cond.codeWith y bytes maxL ret hh ∈ ws := by rw [hw]; exact List.mem_cons_self
  refine ⟨⟨hrc, hrs, hR.1, hR.2, pay_in ht hG, hc⟩, ht _ (hG _ hc).1, ok _ (by simp [wsV]), ⟨hd.1, hd.2.1⟩, fun sig h => ?_, ok _ (by simp [wsV]), ok _ (by simp [wsV]), ok _ (by simp [wsV])⟩
  have h2 := hd.2.2
  rw [h] at h2
  exact (Option.some.inj h2).symm
theorem vx_runVW {y : MethodName} {bytes cc : ByteArray} {maxL nL mc ms n index : Nat} {ret : Option FieldType} {hh : List (Nat × Nat × Nat × Nat)} {ws : List Cond} {rm : Room} {Pc : Array Value → State → Prop} {Qc : Array Value → State → Outcome → State → Prop} {free : Addr → Prop} {Ts : List Cond} {own C : String} {b : Addr} {As rest : List Value} {g : JFrame}
    (S : CallFix p m c cc nL s args Ts own) (hM : Met l y ws rm Pc Qc mc ms free) (cw : vx_CVW R s args own C index y bytes maxL ret hh ws rm mc ms n) (hp : PreV s H C b Pc As)
    (hg : g.method = m) (hn : As.length = n) (hsize : g.locals.size = nL) (hstack : g.stack = As.reverse ++ .ref b :: rest) (hW : 2 * g.monitorRoom + (rest.map fun v => v.category).sum ≤ 8) (hdg : decode cc g.pc = .ok (.invokevirtual index, 3)) (hf : cells + mc ≤ R.cells ∧ slots + ms ≤ R.slots) :
    va_Run p l e R s m args below meth c H locs cells slots mc ms g rest (Qc (Value.ref b :: As).toArray) free := by
  obtain ⟨⟨hrc, hrs, hfr, hlo, hws, hcw⟩, hcode, hini, hy, hlen, hl, hin, hse⟩ := cw
  have hK : Back l R p e below s args y 3 8 (PreOf R mc ms Pc) (PostOf Qc mc ms free) := va_backW (hh := hh) (bytes := bytes) (maxL := maxL) (ret := ret) hM hp.1 hrc hrs hfr hlo hws hcw (fun a' U hW => word_at hW (Or.inl (by first | rfl | simp [Cond.onTables, Cond.keeps, Cond.steady])) hini)
  obtain ⟨hx, hb, hml, ho, -⟩ := S
  obtain ⟨-, ⟨cellB, hcB, hoB, hclB⟩, hPc⟩ := hp
  intro T hT X
  obtain ⟨v, vm₁, ⟨U', l2, c2, s2⟩, hW₁, X', ⟨g', mk, t, L, e1, e2, hq, h1, hL, h2, h3⟩, st⟩ := vx_callVW X hx (C := C) (hh := hh) (bytes := bytes) (maxL := maxL) (ret := ret) ho hl hin hse hcode hy hK (by rw [hT]; exact hcB) hoB hclB hg (hsize.trans hml.symm) (argsL := As) (rest := rest) (fun sig h => hn.trans (hlen sig h)) hstack hW (by rw [hb]; exact hdg)
    (fun vm₁ hW₁ => ⟨hf.1, hf.2, hPc (T.setVm vm₁) hT hW₁⟩)
  dsimp only [Pt.U, Pt.locs, Pt.cells, Pt.slots] at X' e1 e2 h1 h2 h3 st
  subst h1; subst h2; subst h3
  exact ⟨v, (T.setVm vm₁).calling g' mk (Value.ref b :: As).toArray, t, U', L, hT, X', hL, e1, e2, hq, st⟩
section
variable {y : MethodName} {bytes cc : ByteArray} {maxL nL mc ms n index : Nat} {ret : Option FieldType} {ws : List Cond} {rm : Room} {Pc : Array Value → State → Prop} {Qc : Array Value → State → Outcome → State → Prop} {XC : String → State → State → Prop} {free : Addr → Prop} {Ts : List Cond} {own C : String} {b : Addr} {As rest : List Value} {g : JFrame}
theorem vx_runVX {hh : List (Nat × Nat × Nat × Nat)} (S : CallFix p m c cc nL s args Ts own) (hM : vx_Met l y ws rm Pc Qc XC mc ms free) (cw : vx_CVW R s args own C index y bytes maxL ret hh ws rm mc ms n) (hp : PreV s H C b Pc As)
    (hg : g.method = m) (hn : As.length = n) (hsize : g.locals.size = nL) (hstack : g.stack = As.reverse ++ .ref b :: rest) (hW : 2 * g.monitorRoom + (rest.map fun v => v.category).sum ≤ 8) (hdg : decode cc g.pc = .ok (.invokevirtual index, 3)) (hf : cells + mc ≤ R.cells ∧ slots + ms ≤ R.slots) :
    vx_Run p l e R s m args below meth c H locs cells slots mc ms g rest (Qc (Value.ref b :: As).toArray) XC free := by
  obtain ⟨⟨hrc, hrs, hfr, hlo, hws, hcw⟩, hcode, hini, hy, hlen, hl, hin, hse⟩ := cw
  have hK : vx_Back l R p e below s args y 3 8 (PreOf R mc ms Pc) (PostOf Qc mc ms free) (vx_Post XC mc ms free) := vx_backW (hh := hh) (bytes := bytes) (maxL := maxL) (ret := ret) hM hp.1 hrc hrs hfr hlo hws hcw (fun a' U hW => word_at hW (Or.inl (by first | rfl | simp [Cond.onTables, Cond.keeps, Cond.steady])) hini)
  obtain ⟨hx, hb, hml, ho, -⟩ := S
  obtain ⟨-, ⟨cellB, hcB, hoB, hclB⟩, hPc⟩ := hp
  intro T hT X
  rcases vx_callVX X hx (C := C) (hh := hh) (bytes := bytes) (maxL := maxL) (ret := ret) ho hl hin hse hcode hy hK (by rw [hT]; exact hcB) hoB hclB hg (hsize.trans hml.symm) (argsL := As) (rest := rest) (fun sig h => hn.trans (hlen sig h)) hstack hW (by rw [hb]; exact hdg)
    (fun vm₁ hW₁ => ⟨hf.1, hf.2, hPc (T.setVm vm₁) hT hW₁⟩) with ⟨v, vm₁, ⟨U', l2, c2, s2⟩, hW₁, X', ⟨g', mk, t, L, e1, e2, hq, h1, hL, h2, h3⟩, st⟩ | ⟨q, vm₁, ⟨U', l2, c2, s2⟩, hW₁, X', ⟨g', mk, t, L, E, ce, e1, e2, hq, hce, hcv, hcl, h1, hL, h2, h3⟩, st⟩
  · dsimp only [Pt.U, Pt.locs, Pt.cells, Pt.slots] at X' e1 e2 h1 h2 h3 st
    subst h1; subst h2; subst h3
    exact Or.inl ⟨v, (T.setVm vm₁).calling g' mk (Value.ref b :: As).toArray, t, U', L, hT, X', hL, e1, e2, hq, st⟩
  · dsimp only [Pt.U, Pt.locs, Pt.cells, Pt.slots] at X' e1 e2 h1 h2 h3 st hcl
    subst h1; subst h2; subst h3
    exact Or.inr ⟨q, (T.setVm vm₁).calling g' mk (Value.ref b :: As).toArray, t, U', L, E, ce, hT, X', hL, e1, e2, hq, hce, hcv, vx_cls hW₁ hcl, st⟩
theorem vx_runSX {hh : List (Nat × Nat × Nat × Nat)} (S : CallFix p m c cc nL s args Ts own) (hM : vx_Met l y ws rm Pc Qc XC mc ms free) (cw : vx_CSW R s args own index y bytes maxL ret hh ws rm mc ms n) (hp : PreS s H Pc As)
    (hg : g.method = m) (hn : As.length = n) (hsize : g.locals.size = nL) (hstack : g.stack = As.reverse ++ rest) (hW : 2 * g.monitorRoom + (rest.map fun v => v.category).sum ≤ 8) (hdg : decode cc g.pc = .ok (.invokestatic index, 3)) (hf : cells + mc ≤ R.cells ∧ slots + ms ≤ R.slots) :
    vx_Run p l e R s m args below meth c H locs cells slots mc ms g rest (Qc As.toArray) XC free := by
  obtain ⟨⟨hrc, hrs, hfr, hlo, hws, hcw⟩, hcode, hini, hy, hlen, hl, hstt⟩ := cw
  have hK : vx_Back l R p e below s args y 3 8 (PreOf R mc ms Pc) (PostOf Qc mc ms free) (vx_Post XC mc ms free) := vx_backW (hh := hh) (bytes := bytes) (maxL := maxL) (ret := ret) hM hp.1 hrc hrs hfr hlo hws hcw (fun a' U hW => word_at hW (Or.inl (by first | rfl | simp [Cond.onTables, Cond.keeps, Cond.steady])) hini)
  obtain ⟨hx, hb, hml, ho, -⟩ := S
  intro T hT X
  rcases vx_callSX X hx (hh := hh) (bytes := bytes) (maxL := maxL) (ret := ret) ho hl hstt hini hcode hy hK hg (hsize.trans hml.symm) (argsL := As) (rest := rest) (fun sig h => hn.trans (hlen sig h)) hstack hW (by rw [hb]; exact hdg)
    (fun vm₁ hW₁ => ⟨hf.1, hf.2, hp.2 (T.setVm vm₁) hT hW₁⟩) with ⟨v, vm₁, ⟨U', l2, c2, s2⟩, hW₁, X', ⟨g', mk, t, L, e1, e2, hq, h1, hL, h2, h3⟩, st⟩ | ⟨q, vm₁, ⟨U', l2, c2, s2⟩, hW₁, X', ⟨g', mk, t, L, E, ce, e1, e2, hq, hce, hcv, hcl, h1, hL, h2, h3⟩, st⟩
  · dsimp only [Pt.U, Pt.locs, Pt.cells, Pt.slots] at X' e1 e2 h1 h2 h3 st
    subst h1; subst h2; subst h3
    exact Or.inl ⟨v, (T.setVm vm₁).calling g' mk As.toArray, t, U', L, hT, X', hL, e1, e2, hq, st⟩
  · dsimp only [Pt.U, Pt.locs, Pt.cells, Pt.slots] at X' e1 e2 h1 h2 h3 st hcl
    subst h1; subst h2; subst h3
    exact Or.inr ⟨q, (T.setVm vm₁).calling g' mk As.toArray, t, U', L, E, ce, hT, X', hL, e1, e2, hq, hce, hcv, vx_cls hW₁ hcl, st⟩
end
end VXH
theorem vx_ofWH {l : Launch} {y : MethodName} {ws ws' : List Cond} {rm : Room} {Pc : Array Value → State → Prop} {Qc : Array Value → State → Outcome → State → Prop} {XC : String → State → State → Prop} {mc ms : Nat} {free : Addr → Prop} {cc : ByteArray} {maxL : Nat} {ret : Option FieldType} {hh : List (Nat × Nat × Nat × Nat)}
    (hy : plainName y.cls = true) (hw : ws = Cond.codeWith y cc maxL ret hh :: ws')
    (body : ∀ p e s m args below meth c s₁, BodyLoose p l y (headSpec ws rm) cc maxL ret e s m args below meth c s₁ → c.maxLocals = maxL → Pc args s →
      W p l e (headSpec ws rm).room s m args below meth c s.heap [] 0 0 (vx_MQ below Qc XC args s mc ms free) (entryFrame m args maxL)) : vx_Met l y ws rm Pc Qc XC mc ms free := by
  refine MetFree.of_bodyS (code := cc) (maxLocals := maxL) (ret := ret) hy ?_ ?_
  · intro args s m h hn
    obtain ⟨m9, meth, c, hn9, h1, h2, h3, h4, -, h5, h6, -⟩ := Cond.codeWith_spec (atoms_spec (ws := ws) h _ (by rw [hw]; exact List.mem_cons_self))
    cases hn.symm.trans hn9
    exact ⟨meth, c, h1, h2, h3, h4, h5, h6⟩
  · intro p e s m args below meth c s₁ B hml hP _
    have hh0 : s₁.heap = s.heap := by rw [B.state]; rfl
    obtain ⟨t, a1, o, b1, b2, b3⟩ := body p e s m args below meth c s₁ B hml hP s₁ hh0 (Stand.of_body B)
    exact ⟨t, o, a1, b1, b2, b3⟩
/-! ===== END ===== -/
end
section
/-! ===== BEGIN printed: names, fields, word lists, decode rows ===== -/
def RX0 : String := "Rackrail$Orders"
def TX0 : u_T := fun k => match k with
  | 0 => ("Rackrail$Orders", "boxes", "[I", true)
  | 1 => ("Rackrail$Orders", "deadlines", "[I", true)
  | 2 => ("Rackrail$Orders", "done", "[Z", true)
  | 3 => ("Rackrail$Orders", "count", "I", false)
  | _ => ("Rackrail$Orders", "lateCount", "I", false)
def tyX0 : Nat → FieldType := fun k => match k with
  | 0 => .array .int
  | 1 => .array .int
  | 2 => .array .boolean
  | 3 => .int
  | _ => .int
abbrev wsX00 : List Cond := u_ws RX0 TX0 5
theorem nmX0 : ∀ a, a < 5 → ∀ b, b < 5 → a ≠ b → (TX0 a).2.1 ≠ (TX0 b).2.1 := by decide +kernel
theorem tyX0_ok : ∀ k, k < 5 → parseFieldDescriptor (TX0 k).2.2.1 = some (tyX0 k) := by decide +kernel
abbrev cX0_init : ByteArray := prog_2_method_1_code
def yX0_init : MethodName := ⟨RX0, "<init>", "()V"⟩
abbrev cX0_isFull : ByteArray := prog_2_method_2_code
def yX0_isFull : MethodName := ⟨RX0, "isFull", "()Z"⟩
abbrev cX0_enter : ByteArray := prog_2_method_3_code
def yX0_enter : MethodName := ⟨RX0, "enter", "(II)I"⟩
abbrev cX0_boxOf : ByteArray := prog_2_method_4_code
def yX0_boxOf : MethodName := ⟨RX0, "boxOf", "(I)I"⟩
abbrev cX0_isOpenFor : ByteArray := prog_2_method_5_code
def yX0_isOpenFor : MethodName := ⟨RX0, "isOpenFor", "(I)Z"⟩
abbrev cX0_earliest : ByteArray := prog_2_method_6_code
def yX0_earliest : MethodName := ⟨RX0, "earliest", "(LRackrail$Store;I)I"⟩
abbrev cX0_finish : ByteArray := prog_2_method_7_code
def yX0_finish : MethodName := ⟨RX0, "finish", "(II)V"⟩
abbrev cX0_countOpen : ByteArray := prog_2_method_8_code
def yX0_countOpen : MethodName := ⟨RX0, "countOpen", "()I"⟩
abbrev cX0_countLate : ByteArray := prog_2_method_9_code
def yX0_countLate : MethodName := ⟨RX0, "countLate", "()I"⟩
def RX1 : String := "Rackrail$Rail"
def TX1 : u_T := fun k => match k with
  | 0 => ("Rackrail$Rail", "doubts", "[Z", true)
  | 1 => ("Rackrail$Rail", "inside", "[Z", true)
  | 2 => ("Rackrail$Rail", "moves", "[I", true)
  | 3 => ("Rackrail$Rail", "gap", "I", false)
  | 4 => ("Rackrail$Rail", "target", "I", false)
  | 5 => ("Rackrail$Rail", "stalled", "Z", false)
  | _ => ("Rackrail$Rail", "smoky", "Z", false)
def tyX1 : Nat → FieldType := fun k => match k with
  | 0 => .array .boolean
  | 1 => .array .boolean
  | 2 => .array .int
  | 3 => .int
  | 4 => .int
  | 5 => .boolean
  | _ => .boolean
abbrev wsX10 : List Cond := u_ws RX1 TX1 7
theorem nmX1 : ∀ a, a < 7 → ∀ b, b < 7 → a ≠ b → (TX1 a).2.1 ≠ (TX1 b).2.1 := by decide +kernel
theorem tyX1_ok : ∀ k, k < 7 → parseFieldDescriptor (TX1 k).2.2.1 = some (tyX1 k) := by decide +kernel
abbrev cX1_init : ByteArray := prog_3_method_1_code
def yX1_init : MethodName := ⟨RX1, "<init>", "()V"⟩
abbrev cX1_openAisle : ByteArray := prog_3_method_2_code
def yX1_openAisle : MethodName := ⟨RX1, "openAisle", "()I"⟩
abbrev cX1_openAisleByMoves : ByteArray := prog_3_method_3_code
def yX1_openAisleByMoves : MethodName := ⟨RX1, "openAisleByMoves", "()I"⟩
abbrev cX1_mayOpen : ByteArray := prog_3_method_4_code
def yX1_mayOpen : MethodName := ⟨RX1, "mayOpen", "()Z"⟩
abbrev cX1_mayGoIn : ByteArray := prog_3_method_5_code
def yX1_mayGoIn : MethodName := ⟨RX1, "mayGoIn", "()Z"⟩
abbrev cX1_aimAt : ByteArray := prog_3_method_6_code
def yX1_aimAt : MethodName := ⟨RX1, "aimAt", "(I)V"⟩
abbrev cX1_movesToCome : ByteArray := prog_3_method_7_code
def yX1_movesToCome : MethodName := ⟨RX1, "movesToCome", "()I"⟩
abbrev cX1_moveFor : ByteArray := prog_3_method_8_code
def yX1_moveFor : MethodName := ⟨RX1, "moveFor", "(I)V"⟩
abbrev cX1_moveOne : ByteArray := prog_3_method_9_code
def yX1_moveOne : MethodName := ⟨RX1, "moveOne", "()V"⟩
abbrev cX1_hasDoubt : ByteArray := prog_3_method_10_code
def yX1_hasDoubt : MethodName := ⟨RX1, "hasDoubt", "(I)Z"⟩
abbrev cX1_setDoubt : ByteArray := prog_3_method_11_code
def yX1_setDoubt : MethodName := ⟨RX1, "setDoubt", "(IZ)V"⟩
abbrev cX1_changeStall : ByteArray := prog_3_method_12_code
def yX1_changeStall : MethodName := ⟨RX1, "changeStall", "(Z)Z"⟩
abbrev cX1_changeSmoke : ByteArray := prog_3_method_13_code
def yX1_changeSmoke : MethodName := ⟨RX1, "changeSmoke", "(Z)V"⟩
abbrev cX1_isInside : ByteArray := prog_3_method_14_code
def yX1_isInside : MethodName := ⟨RX1, "isInside", "(I)Z"⟩
abbrev cX1_setInside : ByteArray := prog_3_method_15_code
def yX1_setInside : MethodName := ⟨RX1, "setInside", "(IZ)V"⟩
abbrev cX1_countInside : ByteArray := prog_3_method_16_code
def yX1_countInside : MethodName := ⟨RX1, "countInside", "()I"⟩
abbrev cX1_sendAllOut : ByteArray := prog_3_method_17_code
def yX1_sendAllOut : MethodName := ⟨RX1, "sendAllOut", "()I"⟩
def RX2 : String := "Rackrail$Store"
def TX2 : u_T := fun k => match k with
  | 0 => ("Rackrail$Store", "shelfClimates", "[I", true)
  | 1 => ("Rackrail$Store", "climates", "[I", true)
  | 2 => ("Rackrail$Store", "weights", "[I", true)
  | 3 => ("Rackrail$Store", "kins", "[I", true)
  | 4 => ("Rackrail$Store", "spots", "[I", true)
  | _ => ("Rackrail$Store", "count", "I", false)
def tyX2 : Nat → FieldType := fun k => match k with
  | 0 => .array .int
  | 1 => .array .int
  | 2 => .array .int
  | 3 => .array .int
  | 4 => .array .int
  | _ => .int
abbrev wsX20 : List Cond := u_ws RX2 TX2 6
theorem nmX2 : ∀ a, a < 6 → ∀ b, b < 6 → a ≠ b → (TX2 a).2.1 ≠ (TX2 b).2.1 := by decide +kernel
theorem tyX2_ok : ∀ k, k < 6 → parseFieldDescriptor (TX2 k).2.2.1 = some (tyX2 k) := by decide +kernel
abbrev cX2_init : ByteArray := prog_4_method_1_code
def yX2_init : MethodName := ⟨RX2, "<init>", "()V"⟩
abbrev cX2_climateOf : ByteArray := prog_4_method_2_code
def yX2_climateOf : MethodName := ⟨RX2, "climateOf", "(I)I"⟩
abbrev cX2_changeClimate : ByteArray := prog_4_method_3_code
def yX2_changeClimate : MethodName := ⟨RX2, "changeClimate", "(II)V"⟩
abbrev cX2_isFull : ByteArray := prog_4_method_4_code
def yX2_isFull : MethodName := ⟨RX2, "isFull", "()Z"⟩
abbrev cX2_has : ByteArray := prog_4_method_5_code
def yX2_has : MethodName := ⟨RX2, "has", "(I)Z"⟩
abbrev cX2_enter : ByteArray := prog_4_method_6_code
def yX2_enter : MethodName := ⟨RX2, "enter", "(III)I"⟩
abbrev cX2_whereIs : ByteArray := prog_4_method_7_code
def yX2_whereIs : MethodName := ⟨RX2, "whereIs", "(I)I"⟩
abbrev cX2_put : ByteArray := prog_4_method_8_code
def yX2_put : MethodName := ⟨RX2, "put", "(II)V"⟩
abbrev cX2_boxIn : ByteArray := prog_4_method_9_code
def yX2_boxIn : MethodName := ⟨RX2, "boxIn", "(I)I"⟩
abbrev cX2_aisleOfBox : ByteArray := prog_4_method_10_code
def yX2_aisleOfBox : MethodName := ⟨RX2, "aisleOfBox", "(I)I"⟩
abbrev cX2_liesOn : ByteArray := prog_4_method_11_code
def yX2_liesOn : MethodName := ⟨RX2, "liesOn", "(II)Z"⟩
abbrev cX2_weightOn : ByteArray := prog_4_method_12_code
def yX2_weightOn : MethodName := ⟨RX2, "weightOn", "(I)I"⟩
abbrev cX2_countKin : ByteArray := prog_4_method_13_code
def yX2_countKin : MethodName := ⟨RX2, "countKin", "(II)I"⟩
abbrev cX2_isWrong : ByteArray := prog_4_method_14_code
def yX2_isWrong : MethodName := ⟨RX2, "isWrong", "(I)Z"⟩
abbrev cX2_countWrong : ByteArray := prog_4_method_15_code
def yX2_countWrong : MethodName := ⟨RX2, "countWrong", "()I"⟩
abbrev cX2_firstFreeSpot : ByteArray := prog_4_method_16_code
def yX2_firstFreeSpot : MethodName := ⟨RX2, "firstFreeSpot", "(I)I"⟩
abbrev cX2_bestSpotFor : ByteArray := prog_4_method_17_code
def yX2_bestSpotFor : MethodName := ⟨RX2, "bestSpotFor", "(I)I"⟩
def RX3 : String := "Rackrail"
def TX3 : u_T := fun k => match k with
  | 0 => ("Rackrail", "store", "LRackrail$Store;", true)
  | 1 => ("Rackrail", "rail", "LRackrail$Rail;", true)
  | 2 => ("Rackrail", "orders", "LRackrail$Orders;", true)
  | _ => ("Rackrail", "clock", "I", false)
def tyX3 : Nat → FieldType := fun k => match k with
  | 0 => .object "Rackrail$Store"
  | 1 => .object "Rackrail$Rail"
  | 2 => .object "Rackrail$Orders"
  | _ => .int
abbrev wsX30 : List Cond := u_ws RX3 TX3 4
theorem nmX3 : ∀ a, a < 4 → ∀ b, b < 4 → a ≠ b → (TX3 a).2.1 ≠ (TX3 b).2.1 := by decide +kernel
theorem tyX3_ok : ∀ k, k < 4 → parseFieldDescriptor (TX3 k).2.2.1 = some (tyX3 k) := by decide +kernel
abbrev cX3_init : ByteArray := prog_1_method_1_code
def yX3_init : MethodName := ⟨RX3, "<init>", "()V"⟩
abbrev cX3_setClimate : ByteArray := prog_1_method_2_code
def yX3_setClimate : MethodName := ⟨RX3, "setClimate", "(II)I"⟩
abbrev cX3_addBox : ByteArray := prog_1_method_3_code
def yX3_addBox : MethodName := ⟨RX3, "addBox", "(III)I"⟩
abbrev cX3_bestSpot : ByteArray := prog_1_method_4_code
def yX3_bestSpot : MethodName := ⟨RX3, "bestSpot", "(I)I"⟩
abbrev cX3_lay : ByteArray := prog_1_method_5_code
def yX3_lay : MethodName := ⟨RX3, "lay", "(I)I"⟩
abbrev cX3_spotOf : ByteArray := prog_1_method_6_code
def yX3_spotOf : MethodName := ⟨RX3, "spotOf", "(I)I"⟩
abbrev cX3_boxAt : ByteArray := prog_1_method_7_code
def yX3_boxAt : MethodName := ⟨RX3, "boxAt", "(I)I"⟩
abbrev cX3_weight : ByteArray := prog_1_method_8_code
def yX3_weight : MethodName := ⟨RX3, "weight", "(I)I"⟩
abbrev cX3_wrong : ByteArray := prog_1_method_9_code
def yX3_wrong : MethodName := ⟨RX3, "wrong", "()I"⟩
abbrev cX3_open : ByteArray := prog_1_method_10_code
def yX3_open : MethodName := ⟨RX3, "open", "(I)I"⟩
abbrev cX3_opened : ByteArray := prog_1_method_11_code
def yX3_opened : MethodName := ⟨RX3, "opened", "()I"⟩
abbrev cX3_openedByMoves : ByteArray := prog_1_method_12_code
def yX3_openedByMoves : MethodName := ⟨RX3, "openedByMoves", "()I"⟩
abbrev cX3_goIn : ByteArray := prog_1_method_13_code
def yX3_goIn : MethodName := ⟨RX3, "goIn", "(I)I"⟩
abbrev cX3_goOut : ByteArray := prog_1_method_14_code
def yX3_goOut : MethodName := ⟨RX3, "goOut", "(I)I"⟩
abbrev cX3_doubt : ByteArray := prog_1_method_15_code
def yX3_doubt : MethodName := ⟨RX3, "doubt", "(I)Z"⟩
abbrev cX3_look : ByteArray := prog_1_method_16_code
def yX3_look : MethodName := ⟨RX3, "look", "()Z"⟩
abbrev cX3_stall : ByteArray := prog_1_method_17_code
def yX3_stall : MethodName := ⟨RX3, "stall", "(Z)Z"⟩
abbrev cX3_smoke : ByteArray := prog_1_method_18_code
def yX3_smoke : MethodName := ⟨RX3, "smoke", "(Z)I"⟩
abbrev cX3_pass : ByteArray := prog_1_method_19_code
def yX3_pass : MethodName := ⟨RX3, "pass", "(I)I"⟩
abbrev cX3_order : ByteArray := prog_1_method_20_code
def yX3_order : MethodName := ⟨RX3, "order", "(II)I"⟩
abbrev cX3_nextAisle : ByteArray := prog_1_method_21_code
def yX3_nextAisle : MethodName := ⟨RX3, "nextAisle", "()I"⟩
abbrev cX3_fetch : ByteArray := prog_1_method_22_code
def yX3_fetch : MethodName := ⟨RX3, "fetch", "(I)I"⟩
abbrev cX3_giveBack : ByteArray := prog_1_method_23_code
def yX3_giveBack : MethodName := ⟨RX3, "giveBack", "(III)Z"⟩
abbrev cX3_waiting : ByteArray := prog_1_method_24_code
def yX3_waiting : MethodName := ⟨RX3, "waiting", "()I"⟩
abbrev cX3_late : ByteArray := prog_1_method_25_code
def yX3_late : MethodName := ⟨RX3, "late", "()I"⟩
abbrev cX3_requireShelf : ByteArray := prog_1_method_26_code
def yX3_requireShelf : MethodName := ⟨RX3, "requireShelf", "(I)V"⟩
abbrev cX3_requireAisle : ByteArray := prog_1_method_27_code
def yX3_requireAisle : MethodName := ⟨RX3, "requireAisle", "(I)V"⟩
abbrev cX3_requireSpot : ByteArray := prog_1_method_28_code
def yX3_requireSpot : MethodName := ⟨RX3, "requireSpot", "(I)V"⟩
abbrev cX3_requirePerson : ByteArray := prog_1_method_29_code
def yX3_requirePerson : MethodName := ⟨RX3, "requirePerson", "(I)V"⟩
abbrev cX3_requireBox : ByteArray := prog_1_method_30_code
def yX3_requireBox : MethodName := ⟨RX3, "requireBox", "(I)V"⟩
abbrev cX3_requireOut : ByteArray := prog_1_method_31_code
def yX3_requireOut : MethodName := ⟨RX3, "requireOut", "(I)V"⟩
abbrev cX3_requireInside : ByteArray := prog_1_method_32_code
def yX3_requireInside : MethodName := ⟨RX3, "requireInside", "(I)V"⟩
abbrev cX3_isBelow : ByteArray := prog_1_method_33_code
def yX3_isBelow : MethodName := ⟨RX3, "isBelow", "(II)Z"⟩
abbrev cX3_spotAt : ByteArray := prog_1_method_34_code
def yX3_spotAt : MethodName := ⟨RX3, "spotAt", "(III)I"⟩
abbrev cX3_shelfAt : ByteArray := prog_1_method_35_code
def yX3_shelfAt : MethodName := ⟨RX3, "shelfAt", "(I)I"⟩
abbrev cX3_sideAt : ByteArray := prog_1_method_36_code
def yX3_sideAt : MethodName := ⟨RX3, "sideAt", "(I)I"⟩
abbrev cX3_placeAt : ByteArray := prog_1_method_37_code
def yX3_placeAt : MethodName := ⟨RX3, "placeAt", "(I)I"⟩
abbrev cX3_isSpot : ByteArray := prog_1_method_38_code
def yX3_isSpot : MethodName := ⟨RX3, "isSpot", "(I)Z"⟩
abbrev cX3_aisleAt : ByteArray := prog_1_method_39_code
def yX3_aisleAt : MethodName := ⟨RX3, "aisleAt", "(I)I"⟩
def RX4 : String := "RackrailModel"
def TX4 : u_T := fun k => match k with
  | 0 => ("RackrailModel", "thrown", "I", false)
  | 1 => ("RackrailModel", "clock", "I", false)
  | 2 => ("RackrailModel", "climates", "[I", true)
  | 3 => ("RackrailModel", "boxMany", "I", false)
  | 4 => ("RackrailModel", "boxClimates", "[I", true)
  | 5 => ("RackrailModel", "weights", "[I", true)
  | 6 => ("RackrailModel", "kins", "[I", true)
  | 7 => ("RackrailModel", "lies", "[I", true)
  | 8 => ("RackrailModel", "aisle", "I", false)
  | 9 => ("RackrailModel", "toMove", "I", false)
  | 10 => ("RackrailModel", "isStalled", "Z", false)
  | 11 => ("RackrailModel", "isSmoke", "Z", false)
  | 12 => ("RackrailModel", "doubts", "[Z", true)
  | 13 => ("RackrailModel", "isInside", "[Z", true)
  | 14 => ("RackrailModel", "orderMany", "I", false)
  | 15 => ("RackrailModel", "orderBoxes", "[I", true)
  | 16 => ("RackrailModel", "deadlines", "[I", true)
  | 17 => ("RackrailModel", "isDone", "[Z", true)
  | _ => ("RackrailModel", "lateMany", "I", false)
def tyX4 : Nat → FieldType := fun k => match k with
  | 0 => .int
  | 1 => .int
  | 2 => .array .int
  | 3 => .int
  | 4 => .array .int
  | 5 => .array .int
  | 6 => .array .int
  | 7 => .array .int
  | 8 => .int
  | 9 => .int
  | 10 => .boolean
  | 11 => .boolean
  | 12 => .array .boolean
  | 13 => .array .boolean
  | 14 => .int
  | 15 => .array .int
  | 16 => .array .int
  | 17 => .array .boolean
  | _ => .int
abbrev wsX40 : List Cond := u_ws RX4 TX4 19
theorem nmX4 : ∀ a, a < 19 → ∀ b, b < 19 → a ≠ b → (TX4 a).2.1 ≠ (TX4 b).2.1 := by decide +kernel
theorem tyX4_ok : ∀ k, k < 19 → parseFieldDescriptor (TX4 k).2.2.1 = some (tyX4 k) := by decide +kernel
abbrev cX4_init : ByteArray := prog_6_method_1_code
def yX4_init : MethodName := ⟨RX4, "<init>", "()V"⟩
abbrev cX4_thrown : ByteArray := prog_6_method_2_code
def yX4_thrown : MethodName := ⟨RX4, "thrown", "()I"⟩
abbrev cX4_fails : ByteArray := prog_6_method_3_code
def yX4_fails : MethodName := ⟨RX4, "fails", "(I)I"⟩
abbrev cX4_in : ByteArray := prog_6_method_4_code
def yX4_in : MethodName := ⟨RX4, "in", "(III)Z"⟩
abbrev cX4_isShelf : ByteArray := prog_6_method_5_code
def yX4_isShelf : MethodName := ⟨RX4, "isShelf", "(I)Z"⟩
abbrev cX4_isBox : ByteArray := prog_6_method_6_code
def yX4_isBox : MethodName := ⟨RX4, "isBox", "(I)Z"⟩
abbrev cX4_isPerson : ByteArray := prog_6_method_7_code
def yX4_isPerson : MethodName := ⟨RX4, "isPerson", "(I)Z"⟩
abbrev cX4_row : ByteArray := prog_6_method_8_code
def yX4_row : MethodName := ⟨RX4, "row", "(I)I"⟩
abbrev cX4_told : ByteArray := prog_6_method_9_code
def yX4_told : MethodName := ⟨RX4, "told", "(I)I"⟩
abbrev cX4_aisleOf : ByteArray := prog_6_method_10_code
def yX4_aisleOf : MethodName := ⟨RX4, "aisleOf", "(I)I"⟩
abbrev cX4_spot : ByteArray := prog_6_method_11_code
def yX4_spot : MethodName := ⟨RX4, "spot", "(I)I"⟩
abbrev cX4_setClimate : ByteArray := prog_6_method_12_code
def yX4_setClimate : MethodName := ⟨RX4, "setClimate", "(II)I"⟩
abbrev cX4_addBox : ByteArray := prog_6_method_13_code
def yX4_addBox : MethodName := ⟨RX4, "addBox", "(III)I"⟩
abbrev cX4_weighs : ByteArray := prog_6_method_14_code
def yX4_weighs : MethodName := ⟨RX4, "weighs", "(I)I"⟩
abbrev cX4_kin : ByteArray := prog_6_method_15_code
def yX4_kin : MethodName := ⟨RX4, "kin", "(II)I"⟩
abbrev cX4_best : ByteArray := prog_6_method_16_code
def yX4_best : MethodName := ⟨RX4, "best", "(I)I"⟩
abbrev cX4_bestSpot : ByteArray := prog_6_method_17_code
def yX4_bestSpot : MethodName := ⟨RX4, "bestSpot", "(I)I"⟩
abbrev cX4_lay : ByteArray := prog_6_method_18_code
def yX4_lay : MethodName := ⟨RX4, "lay", "(I)I"⟩
abbrev cX4_spotOf : ByteArray := prog_6_method_19_code
def yX4_spotOf : MethodName := ⟨RX4, "spotOf", "(I)I"⟩
abbrev cX4_boxAt : ByteArray := prog_6_method_20_code
def yX4_boxAt : MethodName := ⟨RX4, "boxAt", "(I)I"⟩
abbrev cX4_weight : ByteArray := prog_6_method_21_code
def yX4_weight : MethodName := ⟨RX4, "weight", "(I)I"⟩
abbrev cX4_wrong : ByteArray := prog_6_method_22_code
def yX4_wrong : MethodName := ⟨RX4, "wrong", "()I"⟩
abbrev cX4_inside : ByteArray := prog_6_method_23_code
def yX4_inside : MethodName := ⟨RX4, "inside", "()I"⟩
abbrev cX4_open : ByteArray := prog_6_method_24_code
def yX4_open : MethodName := ⟨RX4, "open", "(I)I"⟩
abbrev cX4_opened : ByteArray := prog_6_method_25_code
def yX4_opened : MethodName := ⟨RX4, "opened", "()I"⟩
abbrev cX4_openedByMoves : ByteArray := prog_6_method_26_code
def yX4_openedByMoves : MethodName := ⟨RX4, "openedByMoves", "()I"⟩
abbrev cX4_goIn : ByteArray := prog_6_method_27_code
def yX4_goIn : MethodName := ⟨RX4, "goIn", "(I)I"⟩
abbrev cX4_goOut : ByteArray := prog_6_method_28_code
def yX4_goOut : MethodName := ⟨RX4, "goOut", "(I)I"⟩
abbrev cX4_doubt : ByteArray := prog_6_method_29_code
def yX4_doubt : MethodName := ⟨RX4, "doubt", "(I)Z"⟩
abbrev cX4_look : ByteArray := prog_6_method_30_code
def yX4_look : MethodName := ⟨RX4, "look", "()Z"⟩
abbrev cX4_stall : ByteArray := prog_6_method_31_code
def yX4_stall : MethodName := ⟨RX4, "stall", "(Z)Z"⟩
abbrev cX4_smoke : ByteArray := prog_6_method_32_code
def yX4_smoke : MethodName := ⟨RX4, "smoke", "(Z)I"⟩
abbrev cX4_pass : ByteArray := prog_6_method_33_code
def yX4_pass : MethodName := ⟨RX4, "pass", "(I)I"⟩
abbrev cX4_hasOpen : ByteArray := prog_6_method_34_code
def yX4_hasOpen : MethodName := ⟨RX4, "hasOpen", "(I)Z"⟩
abbrev cX4_order : ByteArray := prog_6_method_35_code
def yX4_order : MethodName := ⟨RX4, "order", "(II)I"⟩
abbrev cX4_first : ByteArray := prog_6_method_36_code
def yX4_first : MethodName := ⟨RX4, "first", "(I)I"⟩
abbrev cX4_nextAisle : ByteArray := prog_6_method_37_code
def yX4_nextAisle : MethodName := ⟨RX4, "nextAisle", "()I"⟩
abbrev cX4_fetch : ByteArray := prog_6_method_38_code
def yX4_fetch : MethodName := ⟨RX4, "fetch", "(I)I"⟩
abbrev cX4_giveBack : ByteArray := prog_6_method_39_code
def yX4_giveBack : MethodName := ⟨RX4, "giveBack", "(III)Z"⟩
abbrev cX4_waiting : ByteArray := prog_6_method_40_code
def yX4_waiting : MethodName := ⟨RX4, "waiting", "()I"⟩
abbrev cX4_late : ByteArray := prog_6_method_41_code
def yX4_late : MethodName := ⟨RX4, "late", "()I"⟩
def RJ9 : String := "java/lang/Math"
def TJ9 : u_T := fun k => match k with
  | _ => ("", "", "", false)
def tyJ9 : Nat → FieldType := fun k => match k with
  | _ => .int
abbrev wsJ90 : List Cond := u_ws RJ9 TJ9 0
theorem nmJ9 : ∀ a, a < 0 → ∀ b, b < 0 → a ≠ b → (TJ9 a).2.1 ≠ (TJ9 b).2.1 := by decide +kernel
theorem tyJ9_ok : ∀ k, k < 0 → parseFieldDescriptor (TJ9 k).2.2.1 = some (tyJ9 k) := by decide +kernel
abbrev cJ9_abs_0f7a4 : ByteArray := prog_11_method_59_code
def yJ9_abs_0f7a4 : MethodName := ⟨RJ9, "abs", "(I)I"⟩
abbrev cJ9_min_7cf53 : ByteArray := prog_11_method_69_code
def yJ9_min_7cf53 : MethodName := ⟨RJ9, "min", "(II)I"⟩
def RJ0 : String := "java/lang/String"
def TJ0 : u_T := fun k => match k with
  | _ => ("", "", "", false)
def tyJ0 : Nat → FieldType := fun k => match k with
  | _ => .int
abbrev wsJ00 : List Cond := u_ws RJ0 TJ0 0
theorem nmJ0 : ∀ a, a < 0 → ∀ b, b < 0 → a ≠ b → (TJ0 a).2.1 ≠ (TJ0 b).2.1 := by decide +kernel
theorem tyJ0_ok : ∀ k, k < 0 → parseFieldDescriptor (TJ0 k).2.2.1 = some (tyJ0 k) := by decide +kernel
def RL : String := "RackrailLaw"
abbrev cL_setClimate : ByteArray := method_3_code
def yL_setClimate : MethodName := ⟨RL, "setClimate", "(LRackrail;II[J)I"⟩
abbrev cL_addBox : ByteArray := method_4_code
def yL_addBox : MethodName := ⟨RL, "addBox", "(LRackrail;III[J)I"⟩
abbrev cL_bestSpot : ByteArray := method_5_code
def yL_bestSpot : MethodName := ⟨RL, "bestSpot", "(LRackrail;I[J)I"⟩
abbrev cL_lay : ByteArray := method_6_code
def yL_lay : MethodName := ⟨RL, "lay", "(LRackrail;I[J)I"⟩
abbrev cL_spotOf : ByteArray := method_7_code
def yL_spotOf : MethodName := ⟨RL, "spotOf", "(LRackrail;I[J)I"⟩
abbrev cL_boxAt : ByteArray := method_8_code
def yL_boxAt : MethodName := ⟨RL, "boxAt", "(LRackrail;I[J)I"⟩
abbrev cL_weight : ByteArray := method_9_code
def yL_weight : MethodName := ⟨RL, "weight", "(LRackrail;I[J)I"⟩
abbrev cL_open : ByteArray := method_10_code
def yL_open : MethodName := ⟨RL, "open", "(LRackrail;I[J)I"⟩
abbrev cL_goIn : ByteArray := method_11_code
def yL_goIn : MethodName := ⟨RL, "goIn", "(LRackrail;I[J)I"⟩
abbrev cL_goOut : ByteArray := method_12_code
def yL_goOut : MethodName := ⟨RL, "goOut", "(LRackrail;I[J)I"⟩
abbrev cL_doubt : ByteArray := method_13_code
def yL_doubt : MethodName := ⟨RL, "doubt", "(LRackrail;I[J)I"⟩
abbrev cL_look : ByteArray := method_14_code
def yL_look : MethodName := ⟨RL, "look", "(LRackrail;[J)I"⟩
abbrev cL_pass : ByteArray := method_15_code
def yL_pass : MethodName := ⟨RL, "pass", "(LRackrail;I[J)I"⟩
abbrev cL_order : ByteArray := method_16_code
def yL_order : MethodName := ⟨RL, "order", "(LRackrail;II[J)I"⟩
abbrev cL_fetch : ByteArray := method_17_code
def yL_fetch : MethodName := ⟨RL, "fetch", "(LRackrail;I[J)I"⟩
abbrev cL_giveBack : ByteArray := method_18_code
def yL_giveBack : MethodName := ⟨RL, "giveBack", "(LRackrail;III[J)I"⟩
abbrev cL_law : ByteArray := code
def yL_law : MethodName := ⟨RL, "law", "([I)Z"⟩
def wsX0_init : List Cond := .code yX0_init cX0_init 1 none :: ([.methodLink RX0 3 objectInit, .instanceMethod objectInit, .code objectInit ⟨#[0xb1]⟩ 1 none, .arrayClass .int, .fieldLink RX0 9 "Rackrail$Orders" "boxes" "[I", .fieldLink RX0 15 "Rackrail$Orders" "deadlines" "[I", .arrayClass .boolean, .fieldLink RX0 18 "Rackrail$Orders" "done" "[Z", .fieldLink RX0 22 "Rackrail$Orders" "count" "I", .fieldLink RX0 26 "Rackrail$Orders" "lateCount" "I"] ++ wsX00)
def wsX0_isFull : List Cond := .code yX0_isFull cX0_isFull 1 (some .boolean) :: ([.fieldLink RX0 22 "Rackrail$Orders" "count" "I"] ++ wsX00)
def wsX0_enter : List Cond := .code yX0_enter cX0_enter 4 (some .int) :: ([.fieldLink RX0 22 "Rackrail$Orders" "count" "I", .fieldLink RX0 9 "Rackrail$Orders" "boxes" "[I", .fieldLink RX0 15 "Rackrail$Orders" "deadlines" "[I", .methodLink RX0 29 yX0_isFull, .instanceMethod yX0_isFull, .selects RX0 yX0_isFull yX0_isFull, .initialized RX0, .code yX0_isFull cX0_isFull 1 (some .boolean)] ++ wsX00)
def wsX3_isBelow : List Cond := .code yX3_isBelow cX3_isBelow 2 (some .boolean) :: ([])
def wsX0_boxOf : List Cond := .code yX0_boxOf cX0_boxOf 2 (some .int) :: ([.fieldLink RX0 22 "Rackrail$Orders" "count" "I", .fieldLink RX0 9 "Rackrail$Orders" "boxes" "[I", .static yX3_isBelow, .initialized RX3, .code yX3_isBelow cX3_isBelow 2 (some .boolean)] ++ wsX00)
def wsX0_isOpenFor : List Cond := .code yX0_isOpenFor cX0_isOpenFor 3 (some .boolean) :: ([.fieldLink RX0 22 "Rackrail$Orders" "count" "I", .fieldLink RX0 18 "Rackrail$Orders" "done" "[Z", .fieldLink RX0 9 "Rackrail$Orders" "boxes" "[I"] ++ wsX00)
def wsX2_has : List Cond := .code yX2_has cX2_has 2 (some .boolean) :: ([.fieldLink RX2 27 "Rackrail$Store" "count" "I", .static yX3_isBelow, .initialized RX3, .code yX3_isBelow cX3_isBelow 2 (some .boolean)] ++ wsX20)
def wsX2_whereIs : List Cond := .code yX2_whereIs cX2_whereIs 2 (some .int) :: ([.fieldLink RX2 24 "Rackrail$Store" "spots" "[I", .methodLink RX2 39 yX2_has, .instanceMethod yX2_has, .selects RX2 yX2_has yX2_has, .initialized RX2, .code yX2_has cX2_has 2 (some .boolean), .fieldLink RX2 27 "Rackrail$Store" "count" "I", .static yX3_isBelow, .initialized RX3, .code yX3_isBelow cX3_isBelow 2 (some .boolean)] ++ wsX20)
def wsX3_shelfAt : List Cond := .code yX3_shelfAt cX3_shelfAt 1 (some .int) :: ([])
def wsX3_sideAt : List Cond := .code yX3_sideAt cX3_sideAt 1 (some .int) :: ([])
def wsX3_aisleAt : List Cond := .code yX3_aisleAt cX3_aisleAt 1 (some .int) :: ([.methodLink RX3 241 yX3_shelfAt, .static yX3_shelfAt, .initialized RX3, .code yX3_shelfAt cX3_shelfAt 1 (some .int), .methodLink RX3 244 yX3_sideAt, .static yX3_sideAt, .code yX3_sideAt cX3_sideAt 1 (some .int)])
def wsX2_aisleOfBox : List Cond := .code yX2_aisleOfBox cX2_aisleOfBox 3 (some .int) :: ([.methodLink RX2 43 yX2_whereIs, .instanceMethod yX2_whereIs, .selects RX2 yX2_whereIs yX2_whereIs, .initialized RX2, .code yX2_whereIs cX2_whereIs 2 (some .int), .fieldLink RX2 24 "Rackrail$Store" "spots" "[I", .methodLink RX2 39 yX2_has, .instanceMethod yX2_has, .selects RX2 yX2_has yX2_has, .code yX2_has cX2_has 2 (some .boolean), .fieldLink RX2 27 "Rackrail$Store" "count" "I", .static yX3_isBelow, .initialized RX3, .code yX3_isBelow cX3_isBelow 2 (some .boolean), .static yX3_aisleAt, .code yX3_aisleAt cX3_aisleAt 1 (some .int), .methodLink RX3 241 yX3_shelfAt, .static yX3_shelfAt, .code yX3_shelfAt cX3_shelfAt 1 (some .int), .methodLink RX3 244 yX3_sideAt, .static yX3_sideAt, .code yX3_sideAt cX3_sideAt 1 (some .int)] ++ wsX20)
def wsX0_earliest_r1 : List Cond := [Cond.fieldLink RX0 22 "Rackrail$Orders" "count" "I", Cond.fieldLink RX0 9 "Rackrail$Orders" "boxes" "[I", Cond.fieldLink RX0 18 "Rackrail$Orders" "done" "[Z", Cond.fieldLink RX0 15 "Rackrail$Orders" "deadlines" "[I", Cond.methodLink RX0 37 yX2_aisleOfBox, Cond.instanceMethod yX2_aisleOfBox, Cond.selects RX2 yX2_aisleOfBox yX2_aisleOfBox, Cond.initialized RX2, Cond.code yX2_aisleOfBox cX2_aisleOfBox 3 (some .int), Cond.methodLink RX2 43 yX2_whereIs, Cond.instanceMethod yX2_whereIs, Cond.selects RX2 yX2_whereIs yX2_whereIs, Cond.code yX2_whereIs cX2_whereIs 2 (some .int), Cond.fieldLink RX2 24 "Rackrail$Store" "spots" "[I", Cond.methodLink RX2 39 yX2_has, Cond.instanceMethod yX2_has, Cond.selects RX2 yX2_has yX2_has, Cond.code yX2_has cX2_has 2 (some .boolean), Cond.fieldLink RX2 27 "Rackrail$Store" "count" "I", Cond.static yX3_isBelow, Cond.initialized RX3, Cond.code yX3_isBelow cX3_isBelow 2 (some .boolean), Cond.static yX3_aisleAt, Cond.code yX3_aisleAt cX3_aisleAt 1 (some .int)]
def wsX0_earliest_r2 : List Cond := [Cond.methodLink RX3 241 yX3_shelfAt, Cond.static yX3_shelfAt, Cond.code yX3_shelfAt cX3_shelfAt 1 (some .int), Cond.methodLink RX3 244 yX3_sideAt, Cond.static yX3_sideAt, Cond.code yX3_sideAt cX3_sideAt 1 (some .int)]
def wsX0_earliest : List Cond := .code yX0_earliest cX0_earliest 8 (some .int) :: ((wsX0_earliest_r1 ++ wsX0_earliest_r2) ++ wsX00 ++ wsX20)
def wsX0_finish : List Cond := .code yX0_finish cX0_finish 3 none :: ([.fieldLink RX0 22 "Rackrail$Orders" "count" "I", .fieldLink RX0 18 "Rackrail$Orders" "done" "[Z", .fieldLink RX0 15 "Rackrail$Orders" "deadlines" "[I", .fieldLink RX0 26 "Rackrail$Orders" "lateCount" "I", .static yX3_isBelow, .initialized RX3, .code yX3_isBelow cX3_isBelow 2 (some .boolean)] ++ wsX00)
def wsX0_countOpen : List Cond := .code yX0_countOpen cX0_countOpen 3 (some .int) :: ([.fieldLink RX0 22 "Rackrail$Orders" "count" "I", .fieldLink RX0 18 "Rackrail$Orders" "done" "[Z"] ++ wsX00)
def wsX0_countLate : List Cond := .code yX0_countLate cX0_countLate 1 (some .int) :: ([.fieldLink RX0 26 "Rackrail$Orders" "lateCount" "I"] ++ wsX00)
def wsX1_init : List Cond := .code yX1_init cX1_init 1 none :: ([.methodLink RX1 3 objectInit, .instanceMethod objectInit, .code objectInit ⟨#[0xb1]⟩ 1 none, .arrayClass .boolean, .fieldLink RX1 9 "Rackrail$Rail" "doubts" "[Z", .fieldLink RX1 15 "Rackrail$Rail" "inside" "[Z", .arrayClass .int, .fieldLink RX1 18 "Rackrail$Rail" "moves" "[I", .fieldLink RX1 22 "Rackrail$Rail" "gap" "I", .fieldLink RX1 26 "Rackrail$Rail" "target" "I", .fieldLink RX1 29 "Rackrail$Rail" "stalled" "Z", .fieldLink RX1 33 "Rackrail$Rail" "smoky" "Z"] ++ wsX10)
def wsX1_openAisle : List Cond := .code yX1_openAisle cX1_openAisle 1 (some .int) :: ([.fieldLink RX1 22 "Rackrail$Rail" "gap" "I", .fieldLink RX1 26 "Rackrail$Rail" "target" "I"] ++ wsX10)
def wsX1_openAisleByMoves : List Cond := .code yX1_openAisleByMoves cX1_openAisleByMoves 3 (some .int) :: ([.fieldLink RX1 18 "Rackrail$Rail" "moves" "[I", .fieldLink RX1 26 "Rackrail$Rail" "target" "I"] ++ wsX10)
def wsX1_countInside : List Cond := .code yX1_countInside cX1_countInside 3 (some .int) :: ([.fieldLink RX1 15 "Rackrail$Rail" "inside" "[Z"] ++ wsX10)
def wsX1_hasDoubt : List Cond := .code yX1_hasDoubt cX1_hasDoubt 2 (some .boolean) :: ([.fieldLink RX1 9 "Rackrail$Rail" "doubts" "[Z", .static yX3_isBelow, .initialized RX3, .code yX3_isBelow cX3_isBelow 2 (some .boolean)] ++ wsX10)
def wsX1_mayOpen : List Cond := .code yX1_mayOpen cX1_mayOpen 2 (some .boolean) :: ([.fieldLink RX1 29 "Rackrail$Rail" "stalled" "Z", .fieldLink RX1 33 "Rackrail$Rail" "smoky" "Z", .methodLink RX1 36 yX1_openAisle, .instanceMethod yX1_openAisle, .selects RX1 yX1_openAisle yX1_openAisle, .initialized RX1, .code yX1_openAisle cX1_openAisle 1 (some .int), .fieldLink RX1 22 "Rackrail$Rail" "gap" "I", .fieldLink RX1 26 "Rackrail$Rail" "target" "I", .methodLink RX1 40 yX1_countInside, .instanceMethod yX1_countInside, .selects RX1 yX1_countInside yX1_countInside, .code yX1_countInside cX1_countInside 3 (some .int), .fieldLink RX1 15 "Rackrail$Rail" "inside" "[Z", .methodLink RX1 43 yX1_hasDoubt, .instanceMethod yX1_hasDoubt, .selects RX1 yX1_hasDoubt yX1_hasDoubt, .code yX1_hasDoubt cX1_hasDoubt 2 (some .boolean), .fieldLink RX1 9 "Rackrail$Rail" "doubts" "[Z", .static yX3_isBelow, .initialized RX3, .code yX3_isBelow cX3_isBelow 2 (some .boolean)] ++ wsX10)
def wsX1_mayGoIn : List Cond := .code yX1_mayGoIn cX1_mayGoIn 1 (some .boolean) :: ([.fieldLink RX1 33 "Rackrail$Rail" "smoky" "Z", .methodLink RX1 36 yX1_openAisle, .instanceMethod yX1_openAisle, .selects RX1 yX1_openAisle yX1_openAisle, .initialized RX1, .code yX1_openAisle cX1_openAisle 1 (some .int), .fieldLink RX1 22 "Rackrail$Rail" "gap" "I", .fieldLink RX1 26 "Rackrail$Rail" "target" "I"] ++ wsX10)
def wsX1_aimAt : List Cond := .code yX1_aimAt cX1_aimAt 2 none :: ([.fieldLink RX1 26 "Rackrail$Rail" "target" "I"] ++ wsX10)
def wsX1_movesToCome : List Cond := .code yX1_movesToCome cX1_movesToCome 1 (some .int) :: ([.fieldLink RX1 26 "Rackrail$Rail" "target" "I", .fieldLink RX1 22 "Rackrail$Rail" "gap" "I", .methodLink RX1 47 Lib.Math.abs.name, .static Lib.Math.abs.name, .initialized "java/lang/Math", .code Lib.Math.abs.name Lib.Math.abs.code 1 (some .int)] ++ wsX10)
def wsX1_moveOne : List Cond := .code yX1_moveOne cX1_moveOne 3 none :: ([.fieldLink RX1 22 "Rackrail$Rail" "gap" "I", .fieldLink RX1 26 "Rackrail$Rail" "target" "I", .fieldLink RX1 18 "Rackrail$Rail" "moves" "[I", .static yX3_isBelow, .initialized RX3, .code yX3_isBelow cX3_isBelow 2 (some .boolean)] ++ wsX10)
def wsX1_moveFor : List Cond := .code yX1_moveFor cX1_moveFor 4 none :: ([.fieldLink RX1 29 "Rackrail$Rail" "stalled" "Z", .fieldLink RX1 33 "Rackrail$Rail" "smoky" "Z", .methodLink RX1 56 Lib.Math.min.name, .static Lib.Math.min.name, .initialized "java/lang/Math", .code Lib.Math.min.name Lib.Math.min.code 2 (some .int), .methodLink RX1 53 yX1_movesToCome, .instanceMethod yX1_movesToCome, .selects RX1 yX1_movesToCome yX1_movesToCome, .initialized RX1, .code yX1_movesToCome cX1_movesToCome 1 (some .int), .fieldLink RX1 26 "Rackrail$Rail" "target" "I", .fieldLink RX1 22 "Rackrail$Rail" "gap" "I", .methodLink RX1 47 Lib.Math.abs.name, .static Lib.Math.abs.name, .code Lib.Math.abs.name Lib.Math.abs.code 1 (some .int), .methodLink RX1 60 yX1_moveOne, .instanceMethod yX1_moveOne, .selects RX1 yX1_moveOne yX1_moveOne, .code yX1_moveOne cX1_moveOne 3 none, .fieldLink RX1 18 "Rackrail$Rail" "moves" "[I", .static yX3_isBelow, .initialized RX3, .code yX3_isBelow cX3_isBelow 2 (some .boolean)] ++ wsX10)
def wsX1_setDoubt : List Cond := .code yX1_setDoubt cX1_setDoubt 3 none :: ([.fieldLink RX1 9 "Rackrail$Rail" "doubts" "[Z", .static yX3_isBelow, .initialized RX3, .code yX3_isBelow cX3_isBelow 2 (some .boolean)] ++ wsX10)
def wsX1_changeStall : List Cond := .code yX1_changeStall cX1_changeStall 3 (some .boolean) :: ([.fieldLink RX1 29 "Rackrail$Rail" "stalled" "Z"] ++ wsX10)
def wsX1_changeSmoke : List Cond := .code yX1_changeSmoke cX1_changeSmoke 2 none :: ([.fieldLink RX1 33 "Rackrail$Rail" "smoky" "Z"] ++ wsX10)
def wsX1_isInside : List Cond := .code yX1_isInside cX1_isInside 2 (some .boolean) :: ([.fieldLink RX1 15 "Rackrail$Rail" "inside" "[Z", .static yX3_isBelow, .initialized RX3, .code yX3_isBelow cX3_isBelow 2 (some .boolean)] ++ wsX10)
def wsX1_setInside : List Cond := .code yX1_setInside cX1_setInside 3 none :: ([.fieldLink RX1 15 "Rackrail$Rail" "inside" "[Z", .static yX3_isBelow, .initialized RX3, .code yX3_isBelow cX3_isBelow 2 (some .boolean)] ++ wsX10)
def wsX1_sendAllOut : List Cond := .code yX1_sendAllOut cX1_sendAllOut 3 (some .int) :: ([.fieldLink RX1 15 "Rackrail$Rail" "inside" "[Z", .methodLink RX1 40 yX1_countInside, .instanceMethod yX1_countInside, .selects RX1 yX1_countInside yX1_countInside, .initialized RX1, .code yX1_countInside cX1_countInside 3 (some .int)] ++ wsX10)
def wsX2_init : List Cond := .code yX2_init cX2_init 1 none :: ([.methodLink RX2 3 objectInit, .instanceMethod objectInit, .code objectInit ⟨#[0xb1]⟩ 1 none, .arrayClass .int, .fieldLink RX2 9 "Rackrail$Store" "shelfClimates" "[I", .fieldLink RX2 15 "Rackrail$Store" "climates" "[I", .fieldLink RX2 18 "Rackrail$Store" "weights" "[I", .fieldLink RX2 21 "Rackrail$Store" "kins" "[I", .fieldLink RX2 24 "Rackrail$Store" "spots" "[I", .fieldLink RX2 27 "Rackrail$Store" "count" "I"] ++ wsX20)
def wsX2_climateOf : List Cond := .code yX2_climateOf cX2_climateOf 2 (some .int) :: ([.fieldLink RX2 9 "Rackrail$Store" "shelfClimates" "[I", .static yX3_isBelow, .initialized RX3, .code yX3_isBelow cX3_isBelow 2 (some .boolean)] ++ wsX20)
def wsX2_changeClimate : List Cond := .code yX2_changeClimate cX2_changeClimate 3 none :: ([.fieldLink RX2 9 "Rackrail$Store" "shelfClimates" "[I", .static yX3_isBelow, .initialized RX3, .code yX3_isBelow cX3_isBelow 2 (some .boolean)] ++ wsX20)
def wsX2_isFull : List Cond := .code yX2_isFull cX2_isFull 1 (some .boolean) :: ([.fieldLink RX2 27 "Rackrail$Store" "count" "I"] ++ wsX20)
def wsX2_enter : List Cond := .code yX2_enter cX2_enter 5 (some .int) :: ([.fieldLink RX2 27 "Rackrail$Store" "count" "I", .fieldLink RX2 15 "Rackrail$Store" "climates" "[I", .fieldLink RX2 18 "Rackrail$Store" "weights" "[I", .fieldLink RX2 21 "Rackrail$Store" "kins" "[I", .fieldLink RX2 24 "Rackrail$Store" "spots" "[I", .methodLink RX2 35 yX2_isFull, .instanceMethod yX2_isFull, .selects RX2 yX2_isFull yX2_isFull, .initialized RX2, .code yX2_isFull cX2_isFull 1 (some .boolean)] ++ wsX20)
def wsX2_put : List Cond := .code yX2_put cX2_put 3 none :: ([.fieldLink RX2 24 "Rackrail$Store" "spots" "[I", .methodLink RX2 39 yX2_has, .instanceMethod yX2_has, .selects RX2 yX2_has yX2_has, .initialized RX2, .code yX2_has cX2_has 2 (some .boolean), .fieldLink RX2 27 "Rackrail$Store" "count" "I", .static yX3_isBelow, .initialized RX3, .code yX3_isBelow cX3_isBelow 2 (some .boolean)] ++ wsX20)
def wsX2_boxIn : List Cond := .code yX2_boxIn cX2_boxIn 3 (some .int) :: ([.fieldLink RX2 27 "Rackrail$Store" "count" "I", .fieldLink RX2 24 "Rackrail$Store" "spots" "[I"] ++ wsX20)
def wsX2_liesOn : List Cond := .code yX2_liesOn cX2_liesOn 4 (some .boolean) :: ([.methodLink RX2 43 yX2_whereIs, .instanceMethod yX2_whereIs, .selects RX2 yX2_whereIs yX2_whereIs, .initialized RX2, .code yX2_whereIs cX2_whereIs 2 (some .int), .fieldLink RX2 24 "Rackrail$Store" "spots" "[I", .methodLink RX2 39 yX2_has, .instanceMethod yX2_has, .selects RX2 yX2_has yX2_has, .code yX2_has cX2_has 2 (some .boolean), .fieldLink RX2 27 "Rackrail$Store" "count" "I", .static yX3_isBelow, .initialized RX3, .code yX3_isBelow cX3_isBelow 2 (some .boolean), .static yX3_shelfAt, .code yX3_shelfAt cX3_shelfAt 1 (some .int)] ++ wsX20)
def wsX2_weightOn : List Cond := .code yX2_weightOn cX2_weightOn 4 (some .int) :: ([.fieldLink RX2 27 "Rackrail$Store" "count" "I", .fieldLink RX2 18 "Rackrail$Store" "weights" "[I", .methodLink RX2 53 yX2_liesOn, .instanceMethod yX2_liesOn, .selects RX2 yX2_liesOn yX2_liesOn, .initialized RX2, .code yX2_liesOn cX2_liesOn 4 (some .boolean), .methodLink RX2 43 yX2_whereIs, .instanceMethod yX2_whereIs, .selects RX2 yX2_whereIs yX2_whereIs, .code yX2_whereIs cX2_whereIs 2 (some .int), .fieldLink RX2 24 "Rackrail$Store" "spots" "[I", .methodLink RX2 39 yX2_has, .instanceMethod yX2_has, .selects RX2 yX2_has yX2_has, .code yX2_has cX2_has 2 (some .boolean), .static yX3_isBelow, .initialized RX3, .code yX3_isBelow cX3_isBelow 2 (some .boolean), .static yX3_shelfAt, .code yX3_shelfAt cX3_shelfAt 1 (some .int)] ++ wsX20)
def wsX2_countKin : List Cond := .code yX2_countKin cX2_countKin 5 (some .int) :: ([.fieldLink RX2 27 "Rackrail$Store" "count" "I", .fieldLink RX2 21 "Rackrail$Store" "kins" "[I", .methodLink RX2 53 yX2_liesOn, .instanceMethod yX2_liesOn, .selects RX2 yX2_liesOn yX2_liesOn, .initialized RX2, .code yX2_liesOn cX2_liesOn 4 (some .boolean), .methodLink RX2 43 yX2_whereIs, .instanceMethod yX2_whereIs, .selects RX2 yX2_whereIs yX2_whereIs, .code yX2_whereIs cX2_whereIs 2 (some .int), .fieldLink RX2 24 "Rackrail$Store" "spots" "[I", .methodLink RX2 39 yX2_has, .instanceMethod yX2_has, .selects RX2 yX2_has yX2_has, .code yX2_has cX2_has 2 (some .boolean), .static yX3_isBelow, .initialized RX3, .code yX3_isBelow cX3_isBelow 2 (some .boolean), .static yX3_shelfAt, .code yX3_shelfAt cX3_shelfAt 1 (some .int)] ++ wsX20)
def wsX2_isWrong : List Cond := .code yX2_isWrong cX2_isWrong 3 (some .boolean) :: ([.fieldLink RX2 15 "Rackrail$Store" "climates" "[I", .methodLink RX2 43 yX2_whereIs, .instanceMethod yX2_whereIs, .selects RX2 yX2_whereIs yX2_whereIs, .initialized RX2, .code yX2_whereIs cX2_whereIs 2 (some .int), .fieldLink RX2 24 "Rackrail$Store" "spots" "[I", .methodLink RX2 39 yX2_has, .instanceMethod yX2_has, .selects RX2 yX2_has yX2_has, .code yX2_has cX2_has 2 (some .boolean), .fieldLink RX2 27 "Rackrail$Store" "count" "I", .static yX3_isBelow, .initialized RX3, .code yX3_isBelow cX3_isBelow 2 (some .boolean), .static yX3_shelfAt, .code yX3_shelfAt cX3_shelfAt 1 (some .int), .methodLink RX2 56 yX2_climateOf, .instanceMethod yX2_climateOf, .selects RX2 yX2_climateOf yX2_climateOf, .code yX2_climateOf cX2_climateOf 2 (some .int), .fieldLink RX2 9 "Rackrail$Store" "shelfClimates" "[I"] ++ wsX20)
def wsX2_countWrong_r1 : List Cond := [Cond.fieldLink RX2 27 "Rackrail$Store" "count" "I", Cond.methodLink RX2 59 yX2_isWrong, Cond.instanceMethod yX2_isWrong, Cond.selects RX2 yX2_isWrong yX2_isWrong, Cond.initialized RX2, Cond.code yX2_isWrong cX2_isWrong 3 (some .boolean), Cond.fieldLink RX2 15 "Rackrail$Store" "climates" "[I", Cond.methodLink RX2 43 yX2_whereIs, Cond.instanceMethod yX2_whereIs, Cond.selects RX2 yX2_whereIs yX2_whereIs, Cond.code yX2_whereIs cX2_whereIs 2 (some .int), Cond.fieldLink RX2 24 "Rackrail$Store" "spots" "[I", Cond.methodLink RX2 39 yX2_has, Cond.instanceMethod yX2_has, Cond.selects RX2 yX2_has yX2_has, Cond.code yX2_has cX2_has 2 (some .boolean), Cond.static yX3_isBelow, Cond.initialized RX3, Cond.code yX3_isBelow cX3_isBelow 2 (some .boolean), Cond.static yX3_shelfAt, Cond.code yX3_shelfAt cX3_shelfAt 1 (some .int), Cond.methodLink RX2 56 yX2_climateOf, Cond.instanceMethod yX2_climateOf, Cond.selects RX2 yX2_climateOf yX2_climateOf]
def wsX2_countWrong_r2 : List Cond := [Cond.code yX2_climateOf cX2_climateOf 2 (some .int), Cond.fieldLink RX2 9 "Rackrail$Store" "shelfClimates" "[I"]
def wsX2_countWrong : List Cond := .code yX2_countWrong cX2_countWrong 3 (some .int) :: ((wsX2_countWrong_r1 ++ wsX2_countWrong_r2) ++ wsX20)
def wsX3_spotAt : List Cond := .code yX3_spotAt cX3_spotAt 3 (some .int) :: ([])
def wsX2_firstFreeSpot : List Cond := .code yX2_firstFreeSpot cX2_firstFreeSpot 5 (some .int) :: ([.static yX3_spotAt, .initialized RX3, .code yX3_spotAt cX3_spotAt 3 (some .int), .methodLink RX2 66 yX2_boxIn, .instanceMethod yX2_boxIn, .selects RX2 yX2_boxIn yX2_boxIn, .initialized RX2, .code yX2_boxIn cX2_boxIn 3 (some .int), .fieldLink RX2 27 "Rackrail$Store" "count" "I", .fieldLink RX2 24 "Rackrail$Store" "spots" "[I"] ++ wsX20)
def wsX2_bestSpotFor_r1 : List Cond := [Cond.fieldLink RX2 9 "Rackrail$Store" "shelfClimates" "[I", Cond.fieldLink RX2 15 "Rackrail$Store" "climates" "[I", Cond.fieldLink RX2 18 "Rackrail$Store" "weights" "[I", Cond.fieldLink RX2 21 "Rackrail$Store" "kins" "[I", Cond.methodLink RX2 39 yX2_has, Cond.instanceMethod yX2_has, Cond.selects RX2 yX2_has yX2_has, Cond.initialized RX2, Cond.code yX2_has cX2_has 2 (some .boolean), Cond.fieldLink RX2 27 "Rackrail$Store" "count" "I", Cond.static yX3_isBelow, Cond.initialized RX3, Cond.code yX3_isBelow cX3_isBelow 2 (some .boolean), Cond.methodLink RX2 69 yX2_weightOn, Cond.instanceMethod yX2_weightOn, Cond.selects RX2 yX2_weightOn yX2_weightOn, Cond.code yX2_weightOn cX2_weightOn 4 (some .int), Cond.methodLink RX2 53 yX2_liesOn, Cond.instanceMethod yX2_liesOn, Cond.selects RX2 yX2_liesOn yX2_liesOn, Cond.code yX2_liesOn cX2_liesOn 4 (some .boolean), Cond.methodLink RX2 43 yX2_whereIs, Cond.instanceMethod yX2_whereIs, Cond.selects RX2 yX2_whereIs yX2_whereIs]
def wsX2_bestSpotFor_r2 : List Cond := [Cond.code yX2_whereIs cX2_whereIs 2 (some .int), Cond.fieldLink RX2 24 "Rackrail$Store" "spots" "[I", Cond.static yX3_shelfAt, Cond.code yX3_shelfAt cX3_shelfAt 1 (some .int), Cond.methodLink RX2 72 yX2_firstFreeSpot, Cond.instanceMethod yX2_firstFreeSpot, Cond.selects RX2 yX2_firstFreeSpot yX2_firstFreeSpot, Cond.code yX2_firstFreeSpot cX2_firstFreeSpot 5 (some .int), Cond.static yX3_spotAt, Cond.code yX3_spotAt cX3_spotAt 3 (some .int), Cond.methodLink RX2 66 yX2_boxIn, Cond.instanceMethod yX2_boxIn, Cond.selects RX2 yX2_boxIn yX2_boxIn, Cond.code yX2_boxIn cX2_boxIn 3 (some .int), Cond.methodLink RX2 75 yX2_countKin, Cond.instanceMethod yX2_countKin, Cond.selects RX2 yX2_countKin yX2_countKin, Cond.code yX2_countKin cX2_countKin 5 (some .int)]
def wsX2_bestSpotFor : List Cond := .code yX2_bestSpotFor cX2_bestSpotFor 8 (some .int) :: ((wsX2_bestSpotFor_r1 ++ wsX2_bestSpotFor_r2) ++ wsX20)
def wsX3_init_r1 : List Cond := [Cond.methodLink RX3 3 objectInit, Cond.instanceMethod objectInit, Cond.code objectInit ⟨#[0xb1]⟩ 1 none, Cond.classLink RX3 9 RX2, Cond.instantiable RX2 6, Cond.initialized RX2, Cond.fieldLink RX3 12 "Rackrail" "store" "LRackrail$Store;", Cond.classLink RX3 16 RX1, Cond.instantiable RX1 7, Cond.initialized RX1, Cond.fieldLink RX3 19 "Rackrail" "rail" "LRackrail$Rail;", Cond.classLink RX3 23 RX0, Cond.instantiable RX0 5, Cond.initialized RX0, Cond.fieldLink RX3 26 "Rackrail" "orders" "LRackrail$Orders;", Cond.fieldLink RX3 30 "Rackrail" "clock" "I", Cond.instanceMethod yX2_init, Cond.code yX2_init cX2_init 1 none, Cond.methodLink RX2 3 objectInit, Cond.arrayClass .int, Cond.fieldLink RX2 9 "Rackrail$Store" "shelfClimates" "[I", Cond.fieldLink RX2 15 "Rackrail$Store" "climates" "[I", Cond.fieldLink RX2 18 "Rackrail$Store" "weights" "[I", Cond.fieldLink RX2 21 "Rackrail$Store" "kins" "[I"]
def wsX3_init_r2 : List Cond := [Cond.fieldLink RX2 24 "Rackrail$Store" "spots" "[I", Cond.fieldLink RX2 27 "Rackrail$Store" "count" "I", Cond.instanceMethod yX1_init, Cond.code yX1_init cX1_init 1 none, Cond.methodLink RX1 3 objectInit, Cond.arrayClass .boolean, Cond.fieldLink RX1 9 "Rackrail$Rail" "doubts" "[Z", Cond.fieldLink RX1 15 "Rackrail$Rail" "inside" "[Z", Cond.fieldLink RX1 18 "Rackrail$Rail" "moves" "[I", Cond.fieldLink RX1 22 "Rackrail$Rail" "gap" "I", Cond.fieldLink RX1 26 "Rackrail$Rail" "target" "I", Cond.fieldLink RX1 29 "Rackrail$Rail" "stalled" "Z", Cond.fieldLink RX1 33 "Rackrail$Rail" "smoky" "Z", Cond.instanceMethod yX0_init, Cond.code yX0_init cX0_init 1 none, Cond.methodLink RX0 3 objectInit, Cond.fieldLink RX0 9 "Rackrail$Orders" "boxes" "[I", Cond.fieldLink RX0 15 "Rackrail$Orders" "deadlines" "[I", Cond.fieldLink RX0 18 "Rackrail$Orders" "done" "[Z", Cond.fieldLink RX0 22 "Rackrail$Orders" "count" "I", Cond.fieldLink RX0 26 "Rackrail$Orders" "lateCount" "I"]
def wsX3_init : List Cond := .code yX3_init cX3_init 1 none :: ((wsX3_init_r1 ++ wsX3_init_r2) ++ wsX20 ++ wsX30 ++ wsX10 ++ wsX00)
def wsX3_requireShelf : List Cond := .code yX3_requireShelf cX3_requireShelf 2 none :: ([.classLink RX3 218 "java/lang/IndexOutOfBoundsException", .initialized "java/lang/IndexOutOfBoundsException", .methodLink RX3 38 yX3_isBelow, .static yX3_isBelow, .initialized RX3, .code yX3_isBelow cX3_isBelow 2 (some .boolean)] ++ (vx_atS RX3 222 "java/lang/IndexOutOfBoundsException" ["java/lang/RuntimeException", "java/lang/Exception"]).filter goodWord)
def wsX3_setClimate : List Cond := .code yX3_setClimate cX3_setClimate 4 (some .int) :: ([.classLink RX3 42 "java/lang/IllegalArgumentException", .initialized "java/lang/IllegalArgumentException", .fieldLink RX3 12 "Rackrail" "store" "LRackrail$Store;", .methodLink RX3 34 yX3_requireShelf, .instanceMethod yX3_requireShelf, .selects RX3 yX3_requireShelf yX3_requireShelf, .initialized RX3, .code yX3_requireShelf cX3_requireShelf 2 none, .classLink RX3 218 "java/lang/IndexOutOfBoundsException", .initialized "java/lang/IndexOutOfBoundsException", .methodLink RX3 38 yX3_isBelow, .static yX3_isBelow, .code yX3_isBelow cX3_isBelow 2 (some .boolean), .methodLink RX3 49 yX2_climateOf, .instanceMethod yX2_climateOf, .selects RX2 yX2_climateOf yX2_climateOf, .initialized RX2, .code yX2_climateOf cX2_climateOf 2 (some .int), .fieldLink RX2 9 "Rackrail$Store" "shelfClimates" "[I", .methodLink RX3 53 yX2_changeClimate, .instanceMethod yX2_changeClimate, .selects RX2 yX2_changeClimate yX2_changeClimate, .code yX2_changeClimate cX2_changeClimate 3 none] ++ wsX30 ++ wsX20 ++ (vx_atS RX3 46 "java/lang/IllegalArgumentException" ["java/lang/RuntimeException", "java/lang/Exception"]).filter goodWord ++ (vx_atS RX3 222 "java/lang/IndexOutOfBoundsException" ["java/lang/RuntimeException", "java/lang/Exception"]).filter goodWord)
def wsX3_addBox : List Cond := .code yX3_addBox cX3_addBox 4 (some .int) :: ([.classLink RX3 42 "java/lang/IllegalArgumentException", .initialized "java/lang/IllegalArgumentException", .classLink RX3 65 "java/lang/IllegalStateException", .initialized "java/lang/IllegalStateException", .fieldLink RX3 12 "Rackrail" "store" "LRackrail$Store;", .methodLink RX3 38 yX3_isBelow, .static yX3_isBelow, .initialized RX3, .code yX3_isBelow cX3_isBelow 2 (some .boolean), .methodLink RX3 61 yX2_isFull, .instanceMethod yX2_isFull, .selects RX2 yX2_isFull yX2_isFull, .initialized RX2, .code yX2_isFull cX2_isFull 1 (some .boolean), .fieldLink RX2 27 "Rackrail$Store" "count" "I", .methodLink RX3 70 yX2_enter, .instanceMethod yX2_enter, .selects RX2 yX2_enter yX2_enter, .code yX2_enter cX2_enter 5 (some .int), .fieldLink RX2 15 "Rackrail$Store" "climates" "[I", .fieldLink RX2 18 "Rackrail$Store" "weights" "[I", .fieldLink RX2 21 "Rackrail$Store" "kins" "[I", .fieldLink RX2 24 "Rackrail$Store" "spots" "[I", .methodLink RX2 35 yX2_isFull] ++ wsX30 ++ wsX20 ++ (vx_atS RX3 46 "java/lang/IllegalArgumentException" ["java/lang/RuntimeException", "java/lang/Exception"]).filter goodWord ++ (vx_atS RX3 69 "java/lang/IllegalStateException" ["java/lang/RuntimeException", "java/lang/Exception"]).filter goodWord)
def wsX3_requireBox : List Cond := .code yX3_requireBox cX3_requireBox 2 none :: ([.classLink RX3 218 "java/lang/IndexOutOfBoundsException", .initialized "java/lang/IndexOutOfBoundsException", .fieldLink RX3 12 "Rackrail" "store" "LRackrail$Store;", .methodLink RX3 232 yX2_has, .instanceMethod yX2_has, .selects RX2 yX2_has yX2_has, .initialized RX2, .code yX2_has cX2_has 2 (some .boolean), .fieldLink RX2 27 "Rackrail$Store" "count" "I", .static yX3_isBelow, .initialized RX3, .code yX3_isBelow cX3_isBelow 2 (some .boolean)] ++ wsX30 ++ wsX20 ++ (vx_atS RX3 222 "java/lang/IndexOutOfBoundsException" ["java/lang/RuntimeException", "java/lang/Exception"]).filter goodWord)
def wsX3_requireOut : List Cond := .code yX3_requireOut cX3_requireOut 2 none :: ([.classLink RX3 65 "java/lang/IllegalStateException", .initialized "java/lang/IllegalStateException", .fieldLink RX3 12 "Rackrail" "store" "LRackrail$Store;", .methodLink RX3 88 yX2_whereIs, .instanceMethod yX2_whereIs, .selects RX2 yX2_whereIs yX2_whereIs, .initialized RX2, .code yX2_whereIs cX2_whereIs 2 (some .int), .fieldLink RX2 24 "Rackrail$Store" "spots" "[I", .methodLink RX2 39 yX2_has, .instanceMethod yX2_has, .selects RX2 yX2_has yX2_has, .code yX2_has cX2_has 2 (some .boolean), .fieldLink RX2 27 "Rackrail$Store" "count" "I", .static yX3_isBelow, .initialized RX3, .code yX3_isBelow cX3_isBelow 2 (some .boolean)] ++ wsX30 ++ wsX20 ++ (vx_atS RX3 69 "java/lang/IllegalStateException" ["java/lang/RuntimeException", "java/lang/Exception"]).filter goodWord)
def wsX3_bestSpot_r1 : List Cond := [Cond.fieldLink RX3 12 "Rackrail" "store" "LRackrail$Store;", Cond.methodLink RX3 74 yX3_requireBox, Cond.instanceMethod yX3_requireBox, Cond.selects RX3 yX3_requireBox yX3_requireBox, Cond.initialized RX3, Cond.code yX3_requireBox cX3_requireBox 2 none, Cond.classLink RX3 218 "java/lang/IndexOutOfBoundsException", Cond.initialized "java/lang/IndexOutOfBoundsException", Cond.methodLink RX3 232 yX2_has, Cond.instanceMethod yX2_has, Cond.selects RX2 yX2_has yX2_has, Cond.initialized RX2, Cond.code yX2_has cX2_has 2 (some .boolean), Cond.fieldLink RX2 27 "Rackrail$Store" "count" "I", Cond.static yX3_isBelow, Cond.code yX3_isBelow cX3_isBelow 2 (some .boolean), Cond.methodLink RX3 77 yX3_requireOut, Cond.instanceMethod yX3_requireOut, Cond.selects RX3 yX3_requireOut yX3_requireOut, Cond.code yX3_requireOut cX3_requireOut 2 none, Cond.classLink RX3 65 "java/lang/IllegalStateException", Cond.initialized "java/lang/IllegalStateException", Cond.methodLink RX3 88 yX2_whereIs, Cond.instanceMethod yX2_whereIs]
def wsX3_bestSpot_r2 : List Cond := [Cond.selects RX2 yX2_whereIs yX2_whereIs, Cond.code yX2_whereIs cX2_whereIs 2 (some .int), Cond.fieldLink RX2 24 "Rackrail$Store" "spots" "[I", Cond.methodLink RX2 39 yX2_has, Cond.methodLink RX3 80 yX2_bestSpotFor, Cond.instanceMethod yX2_bestSpotFor, Cond.selects RX2 yX2_bestSpotFor yX2_bestSpotFor, Cond.code yX2_bestSpotFor cX2_bestSpotFor 8 (some .int), Cond.fieldLink RX2 9 "Rackrail$Store" "shelfClimates" "[I", Cond.fieldLink RX2 15 "Rackrail$Store" "climates" "[I", Cond.fieldLink RX2 18 "Rackrail$Store" "weights" "[I", Cond.fieldLink RX2 21 "Rackrail$Store" "kins" "[I", Cond.methodLink RX2 69 yX2_weightOn, Cond.instanceMethod yX2_weightOn, Cond.selects RX2 yX2_weightOn yX2_weightOn, Cond.code yX2_weightOn cX2_weightOn 4 (some .int), Cond.methodLink RX2 53 yX2_liesOn, Cond.instanceMethod yX2_liesOn, Cond.selects RX2 yX2_liesOn yX2_liesOn, Cond.code yX2_liesOn cX2_liesOn 4 (some .boolean), Cond.methodLink RX2 43 yX2_whereIs, Cond.static yX3_shelfAt, Cond.code yX3_shelfAt cX3_shelfAt 1 (some .int), Cond.methodLink RX2 72 yX2_firstFreeSpot]
def wsX3_bestSpot_r3 : List Cond := [Cond.instanceMethod yX2_firstFreeSpot, Cond.selects RX2 yX2_firstFreeSpot yX2_firstFreeSpot, Cond.code yX2_firstFreeSpot cX2_firstFreeSpot 5 (some .int), Cond.static yX3_spotAt, Cond.code yX3_spotAt cX3_spotAt 3 (some .int), Cond.methodLink RX2 66 yX2_boxIn, Cond.instanceMethod yX2_boxIn, Cond.selects RX2 yX2_boxIn yX2_boxIn, Cond.code yX2_boxIn cX2_boxIn 3 (some .int), Cond.methodLink RX2 75 yX2_countKin, Cond.instanceMethod yX2_countKin, Cond.selects RX2 yX2_countKin yX2_countKin, Cond.code yX2_countKin cX2_countKin 5 (some .int)]
def wsX3_bestSpot : List Cond := .code yX3_bestSpot cX3_bestSpot 2 (some .int) :: ((wsX3_bestSpot_r1 ++ (wsX3_bestSpot_r2 ++ wsX3_bestSpot_r3)) ++ wsX30 ++ wsX20 ++ (vx_atS RX3 222 "java/lang/IndexOutOfBoundsException" ["java/lang/RuntimeException", "java/lang/Exception"]).filter goodWord ++ (vx_atS RX3 69 "java/lang/IllegalStateException" ["java/lang/RuntimeException", "java/lang/Exception"]).filter goodWord)
def wsX3_lay_r1 : List Cond := [Cond.classLink RX3 65 "java/lang/IllegalStateException", Cond.initialized "java/lang/IllegalStateException", Cond.fieldLink RX3 12 "Rackrail" "store" "LRackrail$Store;", Cond.methodLink RX3 74 yX3_requireBox, Cond.instanceMethod yX3_requireBox, Cond.selects RX3 yX3_requireBox yX3_requireBox, Cond.initialized RX3, Cond.code yX3_requireBox cX3_requireBox 2 none, Cond.classLink RX3 218 "java/lang/IndexOutOfBoundsException", Cond.initialized "java/lang/IndexOutOfBoundsException", Cond.methodLink RX3 232 yX2_has, Cond.instanceMethod yX2_has, Cond.selects RX2 yX2_has yX2_has, Cond.initialized RX2, Cond.code yX2_has cX2_has 2 (some .boolean), Cond.fieldLink RX2 27 "Rackrail$Store" "count" "I", Cond.static yX3_isBelow, Cond.code yX3_isBelow cX3_isBelow 2 (some .boolean), Cond.methodLink RX3 77 yX3_requireOut, Cond.instanceMethod yX3_requireOut, Cond.selects RX3 yX3_requireOut yX3_requireOut, Cond.code yX3_requireOut cX3_requireOut 2 none, Cond.methodLink RX3 88 yX2_whereIs, Cond.instanceMethod yX2_whereIs]
def wsX3_lay_r2 : List Cond := [Cond.selects RX2 yX2_whereIs yX2_whereIs, Cond.code yX2_whereIs cX2_whereIs 2 (some .int), Cond.fieldLink RX2 24 "Rackrail$Store" "spots" "[I", Cond.methodLink RX2 39 yX2_has, Cond.methodLink RX3 80 yX2_bestSpotFor, Cond.instanceMethod yX2_bestSpotFor, Cond.selects RX2 yX2_bestSpotFor yX2_bestSpotFor, Cond.code yX2_bestSpotFor cX2_bestSpotFor 8 (some .int), Cond.fieldLink RX2 9 "Rackrail$Store" "shelfClimates" "[I", Cond.fieldLink RX2 15 "Rackrail$Store" "climates" "[I", Cond.fieldLink RX2 18 "Rackrail$Store" "weights" "[I", Cond.fieldLink RX2 21 "Rackrail$Store" "kins" "[I", Cond.methodLink RX2 69 yX2_weightOn, Cond.instanceMethod yX2_weightOn, Cond.selects RX2 yX2_weightOn yX2_weightOn, Cond.code yX2_weightOn cX2_weightOn 4 (some .int), Cond.methodLink RX2 53 yX2_liesOn, Cond.instanceMethod yX2_liesOn, Cond.selects RX2 yX2_liesOn yX2_liesOn, Cond.code yX2_liesOn cX2_liesOn 4 (some .boolean), Cond.methodLink RX2 43 yX2_whereIs, Cond.static yX3_shelfAt, Cond.code yX3_shelfAt cX3_shelfAt 1 (some .int), Cond.methodLink RX2 72 yX2_firstFreeSpot]
def wsX3_lay_r3 : List Cond := [Cond.instanceMethod yX2_firstFreeSpot, Cond.selects RX2 yX2_firstFreeSpot yX2_firstFreeSpot, Cond.code yX2_firstFreeSpot cX2_firstFreeSpot 5 (some .int), Cond.static yX3_spotAt, Cond.code yX3_spotAt cX3_spotAt 3 (some .int), Cond.methodLink RX2 66 yX2_boxIn, Cond.instanceMethod yX2_boxIn, Cond.selects RX2 yX2_boxIn yX2_boxIn, Cond.code yX2_boxIn cX2_boxIn 3 (some .int), Cond.methodLink RX2 75 yX2_countKin, Cond.instanceMethod yX2_countKin, Cond.selects RX2 yX2_countKin yX2_countKin, Cond.code yX2_countKin cX2_countKin 5 (some .int), Cond.methodLink RX3 85 yX2_put, Cond.instanceMethod yX2_put, Cond.selects RX2 yX2_put yX2_put, Cond.code yX2_put cX2_put 3 none]
def wsX3_lay : List Cond := .code yX3_lay cX3_lay 3 (some .int) :: ((wsX3_lay_r1 ++ (wsX3_lay_r2 ++ wsX3_lay_r3)) ++ wsX30 ++ wsX20 ++ (vx_atS RX3 69 "java/lang/IllegalStateException" ["java/lang/RuntimeException", "java/lang/Exception"]).filter goodWord ++ (vx_atS RX3 222 "java/lang/IndexOutOfBoundsException" ["java/lang/RuntimeException", "java/lang/Exception"]).filter goodWord)
def wsX3_spotOf : List Cond := .code yX3_spotOf cX3_spotOf 2 (some .int) :: ([.fieldLink RX3 12 "Rackrail" "store" "LRackrail$Store;", .methodLink RX3 74 yX3_requireBox, .instanceMethod yX3_requireBox, .selects RX3 yX3_requireBox yX3_requireBox, .initialized RX3, .code yX3_requireBox cX3_requireBox 2 none, .classLink RX3 218 "java/lang/IndexOutOfBoundsException", .initialized "java/lang/IndexOutOfBoundsException", .methodLink RX3 232 yX2_has, .instanceMethod yX2_has, .selects RX2 yX2_has yX2_has, .initialized RX2, .code yX2_has cX2_has 2 (some .boolean), .fieldLink RX2 27 "Rackrail$Store" "count" "I", .static yX3_isBelow, .code yX3_isBelow cX3_isBelow 2 (some .boolean), .methodLink RX3 88 yX2_whereIs, .instanceMethod yX2_whereIs, .selects RX2 yX2_whereIs yX2_whereIs, .code yX2_whereIs cX2_whereIs 2 (some .int), .fieldLink RX2 24 "Rackrail$Store" "spots" "[I", .methodLink RX2 39 yX2_has] ++ wsX30 ++ wsX20 ++ (vx_atS RX3 222 "java/lang/IndexOutOfBoundsException" ["java/lang/RuntimeException", "java/lang/Exception"]).filter goodWord)
def wsX3_placeAt : List Cond := .code yX3_placeAt cX3_placeAt 1 (some .int) :: ([])
def wsX3_isSpot : List Cond := .code yX3_isSpot cX3_isSpot 1 (some .boolean) :: ([.methodLink RX3 241 yX3_shelfAt, .static yX3_shelfAt, .initialized RX3, .code yX3_shelfAt cX3_shelfAt 1 (some .int), .methodLink RX3 244 yX3_sideAt, .static yX3_sideAt, .code yX3_sideAt cX3_sideAt 1 (some .int), .methodLink RX3 247 yX3_placeAt, .static yX3_placeAt, .code yX3_placeAt cX3_placeAt 1 (some .int)])
def wsX3_requireSpot : List Cond := .code yX3_requireSpot cX3_requireSpot 2 none :: ([.classLink RX3 218 "java/lang/IndexOutOfBoundsException", .initialized "java/lang/IndexOutOfBoundsException", .methodLink RX3 225 yX3_isSpot, .static yX3_isSpot, .initialized RX3, .code yX3_isSpot cX3_isSpot 1 (some .boolean), .methodLink RX3 241 yX3_shelfAt, .static yX3_shelfAt, .code yX3_shelfAt cX3_shelfAt 1 (some .int), .methodLink RX3 244 yX3_sideAt, .static yX3_sideAt, .code yX3_sideAt cX3_sideAt 1 (some .int), .methodLink RX3 247 yX3_placeAt, .static yX3_placeAt, .code yX3_placeAt cX3_placeAt 1 (some .int)] ++ (vx_atS RX3 222 "java/lang/IndexOutOfBoundsException" ["java/lang/RuntimeException", "java/lang/Exception"]).filter goodWord)
def wsX3_boxAt_r1 : List Cond := [Cond.fieldLink RX3 12 "Rackrail" "store" "LRackrail$Store;", Cond.methodLink RX3 91 yX3_requireSpot, Cond.instanceMethod yX3_requireSpot, Cond.selects RX3 yX3_requireSpot yX3_requireSpot, Cond.initialized RX3, Cond.code yX3_requireSpot cX3_requireSpot 2 none, Cond.classLink RX3 218 "java/lang/IndexOutOfBoundsException", Cond.initialized "java/lang/IndexOutOfBoundsException", Cond.methodLink RX3 225 yX3_isSpot, Cond.static yX3_isSpot, Cond.code yX3_isSpot cX3_isSpot 1 (some .boolean), Cond.methodLink RX3 241 yX3_shelfAt, Cond.static yX3_shelfAt, Cond.code yX3_shelfAt cX3_shelfAt 1 (some .int), Cond.methodLink RX3 244 yX3_sideAt, Cond.static yX3_sideAt, Cond.code yX3_sideAt cX3_sideAt 1 (some .int), Cond.methodLink RX3 247 yX3_placeAt, Cond.static yX3_placeAt, Cond.code yX3_placeAt cX3_placeAt 1 (some .int), Cond.methodLink RX3 94 yX2_boxIn, Cond.instanceMethod yX2_boxIn, Cond.selects RX2 yX2_boxIn yX2_boxIn, Cond.initialized RX2]
def wsX3_boxAt_r2 : List Cond := [Cond.code yX2_boxIn cX2_boxIn 3 (some .int), Cond.fieldLink RX2 27 "Rackrail$Store" "count" "I", Cond.fieldLink RX2 24 "Rackrail$Store" "spots" "[I"]
def wsX3_boxAt : List Cond := .code yX3_boxAt cX3_boxAt 2 (some .int) :: ((wsX3_boxAt_r1 ++ wsX3_boxAt_r2) ++ wsX30 ++ wsX20 ++ (vx_atS RX3 222 "java/lang/IndexOutOfBoundsException" ["java/lang/RuntimeException", "java/lang/Exception"]).filter goodWord)
def wsX3_weight_r1 : List Cond := [Cond.fieldLink RX3 12 "Rackrail" "store" "LRackrail$Store;", Cond.methodLink RX3 34 yX3_requireShelf, Cond.instanceMethod yX3_requireShelf, Cond.selects RX3 yX3_requireShelf yX3_requireShelf, Cond.initialized RX3, Cond.code yX3_requireShelf cX3_requireShelf 2 none, Cond.classLink RX3 218 "java/lang/IndexOutOfBoundsException", Cond.initialized "java/lang/IndexOutOfBoundsException", Cond.methodLink RX3 38 yX3_isBelow, Cond.static yX3_isBelow, Cond.code yX3_isBelow cX3_isBelow 2 (some .boolean), Cond.methodLink RX3 97 yX2_weightOn, Cond.instanceMethod yX2_weightOn, Cond.selects RX2 yX2_weightOn yX2_weightOn, Cond.initialized RX2, Cond.code yX2_weightOn cX2_weightOn 4 (some .int), Cond.fieldLink RX2 27 "Rackrail$Store" "count" "I", Cond.fieldLink RX2 18 "Rackrail$Store" "weights" "[I", Cond.methodLink RX2 53 yX2_liesOn, Cond.instanceMethod yX2_liesOn, Cond.selects RX2 yX2_liesOn yX2_liesOn, Cond.code yX2_liesOn cX2_liesOn 4 (some .boolean), Cond.methodLink RX2 43 yX2_whereIs, Cond.instanceMethod yX2_whereIs]
def wsX3_weight_r2 : List Cond := [Cond.selects RX2 yX2_whereIs yX2_whereIs, Cond.code yX2_whereIs cX2_whereIs 2 (some .int), Cond.fieldLink RX2 24 "Rackrail$Store" "spots" "[I", Cond.methodLink RX2 39 yX2_has, Cond.instanceMethod yX2_has, Cond.selects RX2 yX2_has yX2_has, Cond.code yX2_has cX2_has 2 (some .boolean), Cond.static yX3_shelfAt, Cond.code yX3_shelfAt cX3_shelfAt 1 (some .int)]
def wsX3_weight : List Cond := .code yX3_weight cX3_weight 2 (some .int) :: ((wsX3_weight_r1 ++ wsX3_weight_r2) ++ wsX30 ++ wsX20 ++ (vx_atS RX3 222 "java/lang/IndexOutOfBoundsException" ["java/lang/RuntimeException", "java/lang/Exception"]).filter goodWord)
def wsX3_wrong_r1 : List Cond := [Cond.fieldLink RX3 12 "Rackrail" "store" "LRackrail$Store;", Cond.methodLink RX3 100 yX2_countWrong, Cond.instanceMethod yX2_countWrong, Cond.selects RX2 yX2_countWrong yX2_countWrong, Cond.initialized RX2, Cond.code yX2_countWrong cX2_countWrong 3 (some .int), Cond.fieldLink RX2 27 "Rackrail$Store" "count" "I", Cond.methodLink RX2 59 yX2_isWrong, Cond.instanceMethod yX2_isWrong, Cond.selects RX2 yX2_isWrong yX2_isWrong, Cond.code yX2_isWrong cX2_isWrong 3 (some .boolean), Cond.fieldLink RX2 15 "Rackrail$Store" "climates" "[I", Cond.methodLink RX2 43 yX2_whereIs, Cond.instanceMethod yX2_whereIs, Cond.selects RX2 yX2_whereIs yX2_whereIs, Cond.code yX2_whereIs cX2_whereIs 2 (some .int), Cond.fieldLink RX2 24 "Rackrail$Store" "spots" "[I", Cond.methodLink RX2 39 yX2_has, Cond.instanceMethod yX2_has, Cond.selects RX2 yX2_has yX2_has, Cond.code yX2_has cX2_has 2 (some .boolean), Cond.static yX3_isBelow, Cond.initialized RX3, Cond.code yX3_isBelow cX3_isBelow 2 (some .boolean)]
def wsX3_wrong_r2 : List Cond := [Cond.static yX3_shelfAt, Cond.code yX3_shelfAt cX3_shelfAt 1 (some .int), Cond.methodLink RX2 56 yX2_climateOf, Cond.instanceMethod yX2_climateOf, Cond.selects RX2 yX2_climateOf yX2_climateOf, Cond.code yX2_climateOf cX2_climateOf 2 (some .int), Cond.fieldLink RX2 9 "Rackrail$Store" "shelfClimates" "[I"]
def wsX3_wrong : List Cond := .code yX3_wrong cX3_wrong 1 (some .int) :: ((wsX3_wrong_r1 ++ wsX3_wrong_r2) ++ wsX30 ++ wsX20)
def wsX3_requireAisle : List Cond := .code yX3_requireAisle cX3_requireAisle 2 none :: ([.classLink RX3 218 "java/lang/IndexOutOfBoundsException", .initialized "java/lang/IndexOutOfBoundsException", .methodLink RX3 38 yX3_isBelow, .static yX3_isBelow, .initialized RX3, .code yX3_isBelow cX3_isBelow 2 (some .boolean)] ++ (vx_atS RX3 222 "java/lang/IndexOutOfBoundsException" ["java/lang/RuntimeException", "java/lang/Exception"]).filter goodWord)
def wsX3_open_r1 : List Cond := [Cond.classLink RX3 65 "java/lang/IllegalStateException", Cond.initialized "java/lang/IllegalStateException", Cond.fieldLink RX3 19 "Rackrail" "rail" "LRackrail$Rail;", Cond.methodLink RX3 104 yX3_requireAisle, Cond.instanceMethod yX3_requireAisle, Cond.selects RX3 yX3_requireAisle yX3_requireAisle, Cond.initialized RX3, Cond.code yX3_requireAisle cX3_requireAisle 2 none, Cond.classLink RX3 218 "java/lang/IndexOutOfBoundsException", Cond.initialized "java/lang/IndexOutOfBoundsException", Cond.methodLink RX3 38 yX3_isBelow, Cond.static yX3_isBelow, Cond.code yX3_isBelow cX3_isBelow 2 (some .boolean), Cond.methodLink RX3 107 yX1_mayOpen, Cond.instanceMethod yX1_mayOpen, Cond.selects RX1 yX1_mayOpen yX1_mayOpen, Cond.initialized RX1, Cond.code yX1_mayOpen cX1_mayOpen 2 (some .boolean), Cond.fieldLink RX1 29 "Rackrail$Rail" "stalled" "Z", Cond.fieldLink RX1 33 "Rackrail$Rail" "smoky" "Z", Cond.methodLink RX1 36 yX1_openAisle, Cond.instanceMethod yX1_openAisle, Cond.selects RX1 yX1_openAisle yX1_openAisle, Cond.code yX1_openAisle cX1_openAisle 1 (some .int)]
def wsX3_open_r2 : List Cond := [Cond.fieldLink RX1 22 "Rackrail$Rail" "gap" "I", Cond.fieldLink RX1 26 "Rackrail$Rail" "target" "I", Cond.methodLink RX1 40 yX1_countInside, Cond.instanceMethod yX1_countInside, Cond.selects RX1 yX1_countInside yX1_countInside, Cond.code yX1_countInside cX1_countInside 3 (some .int), Cond.fieldLink RX1 15 "Rackrail$Rail" "inside" "[Z", Cond.methodLink RX1 43 yX1_hasDoubt, Cond.instanceMethod yX1_hasDoubt, Cond.selects RX1 yX1_hasDoubt yX1_hasDoubt, Cond.code yX1_hasDoubt cX1_hasDoubt 2 (some .boolean), Cond.fieldLink RX1 9 "Rackrail$Rail" "doubts" "[Z", Cond.methodLink RX3 112 yX1_aimAt, Cond.instanceMethod yX1_aimAt, Cond.selects RX1 yX1_aimAt yX1_aimAt, Cond.code yX1_aimAt cX1_aimAt 2 none, Cond.methodLink RX3 115 yX1_movesToCome, Cond.instanceMethod yX1_movesToCome, Cond.selects RX1 yX1_movesToCome yX1_movesToCome, Cond.code yX1_movesToCome cX1_movesToCome 1 (some .int), Cond.methodLink RX1 47 Lib.Math.abs.name, Cond.static Lib.Math.abs.name, Cond.initialized "java/lang/Math", Cond.code Lib.Math.abs.name Lib.Math.abs.code 1 (some .int)]
def wsX3_open : List Cond := .code yX3_open cX3_open 2 (some .int) :: ((wsX3_open_r1 ++ wsX3_open_r2) ++ wsX30 ++ wsX10 ++ (vx_atS RX3 69 "java/lang/IllegalStateException" ["java/lang/RuntimeException", "java/lang/Exception"]).filter goodWord ++ (vx_atS RX3 222 "java/lang/IndexOutOfBoundsException" ["java/lang/RuntimeException", "java/lang/Exception"]).filter goodWord)
def wsX3_opened : List Cond := .code yX3_opened cX3_opened 1 (some .int) :: ([.fieldLink RX3 19 "Rackrail" "rail" "LRackrail$Rail;", .methodLink RX3 118 yX1_openAisle, .instanceMethod yX1_openAisle, .selects RX1 yX1_openAisle yX1_openAisle, .initialized RX1, .code yX1_openAisle cX1_openAisle 1 (some .int), .fieldLink RX1 22 "Rackrail$Rail" "gap" "I", .fieldLink RX1 26 "Rackrail$Rail" "target" "I"] ++ wsX30 ++ wsX10)
def wsX3_openedByMoves : List Cond := .code yX3_openedByMoves cX3_openedByMoves 1 (some .int) :: ([.fieldLink RX3 19 "Rackrail" "rail" "LRackrail$Rail;", .methodLink RX3 121 yX1_openAisleByMoves, .instanceMethod yX1_openAisleByMoves, .selects RX1 yX1_openAisleByMoves yX1_openAisleByMoves, .initialized RX1, .code yX1_openAisleByMoves cX1_openAisleByMoves 3 (some .int), .fieldLink RX1 18 "Rackrail$Rail" "moves" "[I", .fieldLink RX1 26 "Rackrail$Rail" "target" "I"] ++ wsX30 ++ wsX10)
def wsX3_requirePerson : List Cond := .code yX3_requirePerson cX3_requirePerson 2 none :: ([.classLink RX3 218 "java/lang/IndexOutOfBoundsException", .initialized "java/lang/IndexOutOfBoundsException", .methodLink RX3 38 yX3_isBelow, .static yX3_isBelow, .initialized RX3, .code yX3_isBelow cX3_isBelow 2 (some .boolean)] ++ (vx_atS RX3 222 "java/lang/IndexOutOfBoundsException" ["java/lang/RuntimeException", "java/lang/Exception"]).filter goodWord)
def wsX3_goIn_r1 : List Cond := [Cond.classLink RX3 65 "java/lang/IllegalStateException", Cond.initialized "java/lang/IllegalStateException", Cond.fieldLink RX3 19 "Rackrail" "rail" "LRackrail$Rail;", Cond.methodLink RX3 124 yX3_requirePerson, Cond.instanceMethod yX3_requirePerson, Cond.selects RX3 yX3_requirePerson yX3_requirePerson, Cond.initialized RX3, Cond.code yX3_requirePerson cX3_requirePerson 2 none, Cond.classLink RX3 218 "java/lang/IndexOutOfBoundsException", Cond.initialized "java/lang/IndexOutOfBoundsException", Cond.methodLink RX3 38 yX3_isBelow, Cond.static yX3_isBelow, Cond.code yX3_isBelow cX3_isBelow 2 (some .boolean), Cond.methodLink RX3 127 yX1_isInside, Cond.instanceMethod yX1_isInside, Cond.selects RX1 yX1_isInside yX1_isInside, Cond.initialized RX1, Cond.code yX1_isInside cX1_isInside 2 (some .boolean), Cond.fieldLink RX1 15 "Rackrail$Rail" "inside" "[Z", Cond.methodLink RX3 133 yX1_mayGoIn, Cond.instanceMethod yX1_mayGoIn, Cond.selects RX1 yX1_mayGoIn yX1_mayGoIn, Cond.code yX1_mayGoIn cX1_mayGoIn 1 (some .boolean), Cond.fieldLink RX1 33 "Rackrail$Rail" "smoky" "Z"]
def wsX3_goIn_r2 : List Cond := [Cond.methodLink RX1 36 yX1_openAisle, Cond.instanceMethod yX1_openAisle, Cond.selects RX1 yX1_openAisle yX1_openAisle, Cond.code yX1_openAisle cX1_openAisle 1 (some .int), Cond.fieldLink RX1 22 "Rackrail$Rail" "gap" "I", Cond.fieldLink RX1 26 "Rackrail$Rail" "target" "I", Cond.methodLink RX3 138 yX1_setInside, Cond.instanceMethod yX1_setInside, Cond.selects RX1 yX1_setInside yX1_setInside, Cond.code yX1_setInside cX1_setInside 3 none, Cond.methodLink RX3 142 yX1_countInside, Cond.instanceMethod yX1_countInside, Cond.selects RX1 yX1_countInside yX1_countInside, Cond.code yX1_countInside cX1_countInside 3 (some .int)]
def wsX3_goIn : List Cond := .code yX3_goIn cX3_goIn 2 (some .int) :: ((wsX3_goIn_r1 ++ wsX3_goIn_r2) ++ wsX30 ++ wsX10 ++ (vx_atS RX3 69 "java/lang/IllegalStateException" ["java/lang/RuntimeException", "java/lang/Exception"]).filter goodWord ++ (vx_atS RX3 222 "java/lang/IndexOutOfBoundsException" ["java/lang/RuntimeException", "java/lang/Exception"]).filter goodWord)
def wsX3_requireInside : List Cond := .code yX3_requireInside cX3_requireInside 2 none :: ([.classLink RX3 65 "java/lang/IllegalStateException", .initialized "java/lang/IllegalStateException", .fieldLink RX3 19 "Rackrail" "rail" "LRackrail$Rail;", .methodLink RX3 127 yX1_isInside, .instanceMethod yX1_isInside, .selects RX1 yX1_isInside yX1_isInside, .initialized RX1, .code yX1_isInside cX1_isInside 2 (some .boolean), .fieldLink RX1 15 "Rackrail$Rail" "inside" "[Z", .static yX3_isBelow, .initialized RX3, .code yX3_isBelow cX3_isBelow 2 (some .boolean)] ++ wsX30 ++ wsX10 ++ (vx_atS RX3 69 "java/lang/IllegalStateException" ["java/lang/RuntimeException", "java/lang/Exception"]).filter goodWord)
def wsX3_goOut_r1 : List Cond := [Cond.fieldLink RX3 19 "Rackrail" "rail" "LRackrail$Rail;", Cond.methodLink RX3 124 yX3_requirePerson, Cond.instanceMethod yX3_requirePerson, Cond.selects RX3 yX3_requirePerson yX3_requirePerson, Cond.initialized RX3, Cond.code yX3_requirePerson cX3_requirePerson 2 none, Cond.classLink RX3 218 "java/lang/IndexOutOfBoundsException", Cond.initialized "java/lang/IndexOutOfBoundsException", Cond.methodLink RX3 38 yX3_isBelow, Cond.static yX3_isBelow, Cond.code yX3_isBelow cX3_isBelow 2 (some .boolean), Cond.methodLink RX3 145 yX3_requireInside, Cond.instanceMethod yX3_requireInside, Cond.selects RX3 yX3_requireInside yX3_requireInside, Cond.code yX3_requireInside cX3_requireInside 2 none, Cond.classLink RX3 65 "java/lang/IllegalStateException", Cond.initialized "java/lang/IllegalStateException", Cond.methodLink RX3 127 yX1_isInside, Cond.instanceMethod yX1_isInside, Cond.selects RX1 yX1_isInside yX1_isInside, Cond.initialized RX1, Cond.code yX1_isInside cX1_isInside 2 (some .boolean), Cond.fieldLink RX1 15 "Rackrail$Rail" "inside" "[Z", Cond.methodLink RX3 138 yX1_setInside]
def wsX3_goOut_r2 : List Cond := [Cond.instanceMethod yX1_setInside, Cond.selects RX1 yX1_setInside yX1_setInside, Cond.code yX1_setInside cX1_setInside 3 none, Cond.methodLink RX3 142 yX1_countInside, Cond.instanceMethod yX1_countInside, Cond.selects RX1 yX1_countInside yX1_countInside, Cond.code yX1_countInside cX1_countInside 3 (some .int)]
def wsX3_goOut : List Cond := .code yX3_goOut cX3_goOut 2 (some .int) :: ((wsX3_goOut_r1 ++ wsX3_goOut_r2) ++ wsX30 ++ wsX10 ++ (vx_atS RX3 222 "java/lang/IndexOutOfBoundsException" ["java/lang/RuntimeException", "java/lang/Exception"]).filter goodWord ++ (vx_atS RX3 69 "java/lang/IllegalStateException" ["java/lang/RuntimeException", "java/lang/Exception"]).filter goodWord)
def wsX3_doubt : List Cond := .code yX3_doubt cX3_doubt 3 (some .boolean) :: ([.fieldLink RX3 19 "Rackrail" "rail" "LRackrail$Rail;", .methodLink RX3 104 yX3_requireAisle, .instanceMethod yX3_requireAisle, .selects RX3 yX3_requireAisle yX3_requireAisle, .initialized RX3, .code yX3_requireAisle cX3_requireAisle 2 none, .classLink RX3 218 "java/lang/IndexOutOfBoundsException", .initialized "java/lang/IndexOutOfBoundsException", .methodLink RX3 38 yX3_isBelow, .static yX3_isBelow, .code yX3_isBelow cX3_isBelow 2 (some .boolean), .methodLink RX3 148 yX1_hasDoubt, .instanceMethod yX1_hasDoubt, .selects RX1 yX1_hasDoubt yX1_hasDoubt, .initialized RX1, .code yX1_hasDoubt cX1_hasDoubt 2 (some .boolean), .fieldLink RX1 9 "Rackrail$Rail" "doubts" "[Z", .methodLink RX3 151 yX1_setDoubt, .instanceMethod yX1_setDoubt, .selects RX1 yX1_setDoubt yX1_setDoubt, .code yX1_setDoubt cX1_setDoubt 3 none] ++ wsX30 ++ wsX10 ++ (vx_atS RX3 222 "java/lang/IndexOutOfBoundsException" ["java/lang/RuntimeException", "java/lang/Exception"]).filter goodWord)
def wsX3_look : List Cond := .code yX3_look cX3_look 3 (some .boolean) :: ([.classLink RX3 65 "java/lang/IllegalStateException", .initialized "java/lang/IllegalStateException", .fieldLink RX3 19 "Rackrail" "rail" "LRackrail$Rail;", .methodLink RX3 118 yX1_openAisle, .instanceMethod yX1_openAisle, .selects RX1 yX1_openAisle yX1_openAisle, .initialized RX1, .code yX1_openAisle cX1_openAisle 1 (some .int), .fieldLink RX1 22 "Rackrail$Rail" "gap" "I", .fieldLink RX1 26 "Rackrail$Rail" "target" "I", .methodLink RX3 148 yX1_hasDoubt, .instanceMethod yX1_hasDoubt, .selects RX1 yX1_hasDoubt yX1_hasDoubt, .code yX1_hasDoubt cX1_hasDoubt 2 (some .boolean), .fieldLink RX1 9 "Rackrail$Rail" "doubts" "[Z", .static yX3_isBelow, .initialized RX3, .code yX3_isBelow cX3_isBelow 2 (some .boolean), .methodLink RX3 151 yX1_setDoubt, .instanceMethod yX1_setDoubt, .selects RX1 yX1_setDoubt yX1_setDoubt, .code yX1_setDoubt cX1_setDoubt 3 none] ++ wsX30 ++ wsX10 ++ (vx_atS RX3 69 "java/lang/IllegalStateException" ["java/lang/RuntimeException", "java/lang/Exception"]).filter goodWord)
def wsX3_stall : List Cond := .code yX3_stall cX3_stall 2 (some .boolean) :: ([.fieldLink RX3 19 "Rackrail" "rail" "LRackrail$Rail;", .methodLink RX3 156 yX1_changeStall, .instanceMethod yX1_changeStall, .selects RX1 yX1_changeStall yX1_changeStall, .initialized RX1, .code yX1_changeStall cX1_changeStall 3 (some .boolean), .fieldLink RX1 29 "Rackrail$Rail" "stalled" "Z"] ++ wsX30 ++ wsX10)
def wsX3_smoke : List Cond := .code yX3_smoke cX3_smoke 2 (some .int) :: ([.fieldLink RX3 19 "Rackrail" "rail" "LRackrail$Rail;", .methodLink RX3 160 yX1_changeSmoke, .instanceMethod yX1_changeSmoke, .selects RX1 yX1_changeSmoke yX1_changeSmoke, .initialized RX1, .code yX1_changeSmoke cX1_changeSmoke 2 none, .fieldLink RX1 33 "Rackrail$Rail" "smoky" "Z", .methodLink RX3 164 yX1_sendAllOut, .instanceMethod yX1_sendAllOut, .selects RX1 yX1_sendAllOut yX1_sendAllOut, .code yX1_sendAllOut cX1_sendAllOut 3 (some .int), .fieldLink RX1 15 "Rackrail$Rail" "inside" "[Z", .methodLink RX1 40 yX1_countInside, .instanceMethod yX1_countInside, .selects RX1 yX1_countInside yX1_countInside, .code yX1_countInside cX1_countInside 3 (some .int)] ++ wsX30 ++ wsX10)
def wsX3_pass_r1 : List Cond := [Cond.classLink RX3 42 "java/lang/IllegalArgumentException", Cond.initialized "java/lang/IllegalArgumentException", Cond.classLink RX3 65 "java/lang/IllegalStateException", Cond.initialized "java/lang/IllegalStateException", Cond.fieldLink RX3 30 "Rackrail" "clock" "I", Cond.fieldLink RX3 19 "Rackrail" "rail" "LRackrail$Rail;", Cond.methodLink RX3 171 yX1_moveFor, Cond.instanceMethod yX1_moveFor, Cond.selects RX1 yX1_moveFor yX1_moveFor, Cond.initialized RX1, Cond.code yX1_moveFor cX1_moveFor 4 none, Cond.fieldLink RX1 29 "Rackrail$Rail" "stalled" "Z", Cond.fieldLink RX1 33 "Rackrail$Rail" "smoky" "Z", Cond.methodLink RX1 56 Lib.Math.min.name, Cond.static Lib.Math.min.name, Cond.initialized "java/lang/Math", Cond.code Lib.Math.min.name Lib.Math.min.code 2 (some .int), Cond.methodLink RX1 53 yX1_movesToCome, Cond.instanceMethod yX1_movesToCome, Cond.selects RX1 yX1_movesToCome yX1_movesToCome, Cond.code yX1_movesToCome cX1_movesToCome 1 (some .int), Cond.fieldLink RX1 26 "Rackrail$Rail" "target" "I", Cond.fieldLink RX1 22 "Rackrail$Rail" "gap" "I", Cond.methodLink RX1 47 Lib.Math.abs.name]
def wsX3_pass_r2 : List Cond := [Cond.static Lib.Math.abs.name, Cond.code Lib.Math.abs.name Lib.Math.abs.code 1 (some .int), Cond.methodLink RX1 60 yX1_moveOne, Cond.instanceMethod yX1_moveOne, Cond.selects RX1 yX1_moveOne yX1_moveOne, Cond.code yX1_moveOne cX1_moveOne 3 none, Cond.fieldLink RX1 18 "Rackrail$Rail" "moves" "[I", Cond.static yX3_isBelow, Cond.initialized RX3, Cond.code yX3_isBelow cX3_isBelow 2 (some .boolean)]
def wsX3_pass : List Cond := .code yX3_pass cX3_pass 2 (some .int) :: ((wsX3_pass_r1 ++ wsX3_pass_r2) ++ wsX30 ++ wsX10 ++ (vx_atS RX3 46 "java/lang/IllegalArgumentException" ["java/lang/RuntimeException", "java/lang/Exception"]).filter goodWord ++ (vx_atS RX3 69 "java/lang/IllegalStateException" ["java/lang/RuntimeException", "java/lang/Exception"]).filter goodWord)
def wsX3_order_r1 : List Cond := [Cond.classLink RX3 42 "java/lang/IllegalArgumentException", Cond.initialized "java/lang/IllegalArgumentException", Cond.classLink RX3 65 "java/lang/IllegalStateException", Cond.initialized "java/lang/IllegalStateException", Cond.fieldLink RX3 26 "Rackrail" "orders" "LRackrail$Orders;", Cond.methodLink RX3 74 yX3_requireBox, Cond.instanceMethod yX3_requireBox, Cond.selects RX3 yX3_requireBox yX3_requireBox, Cond.initialized RX3, Cond.code yX3_requireBox cX3_requireBox 2 none, Cond.classLink RX3 218 "java/lang/IndexOutOfBoundsException", Cond.initialized "java/lang/IndexOutOfBoundsException", Cond.fieldLink RX3 12 "Rackrail" "store" "LRackrail$Store;", Cond.methodLink RX3 232 yX2_has, Cond.instanceMethod yX2_has, Cond.selects RX2 yX2_has yX2_has, Cond.initialized RX2, Cond.code yX2_has cX2_has 2 (some .boolean), Cond.fieldLink RX2 27 "Rackrail$Store" "count" "I", Cond.static yX3_isBelow, Cond.code yX3_isBelow cX3_isBelow 2 (some .boolean), Cond.methodLink RX3 176 yX0_isOpenFor, Cond.instanceMethod yX0_isOpenFor, Cond.selects RX0 yX0_isOpenFor yX0_isOpenFor]
def wsX3_order_r2 : List Cond := [Cond.initialized RX0, Cond.code yX0_isOpenFor cX0_isOpenFor 3 (some .boolean), Cond.fieldLink RX0 22 "Rackrail$Orders" "count" "I", Cond.fieldLink RX0 18 "Rackrail$Orders" "done" "[Z", Cond.fieldLink RX0 9 "Rackrail$Orders" "boxes" "[I", Cond.methodLink RX3 181 yX0_isFull, Cond.instanceMethod yX0_isFull, Cond.selects RX0 yX0_isFull yX0_isFull, Cond.code yX0_isFull cX0_isFull 1 (some .boolean), Cond.methodLink RX3 184 yX0_enter, Cond.instanceMethod yX0_enter, Cond.selects RX0 yX0_enter yX0_enter, Cond.code yX0_enter cX0_enter 4 (some .int), Cond.fieldLink RX0 15 "Rackrail$Orders" "deadlines" "[I", Cond.methodLink RX0 29 yX0_isFull]
def wsX3_order : List Cond := .code yX3_order cX3_order 3 (some .int) :: ((wsX3_order_r1 ++ wsX3_order_r2) ++ wsX30 ++ wsX20 ++ wsX00 ++ (vx_atS RX3 46 "java/lang/IllegalArgumentException" ["java/lang/RuntimeException", "java/lang/Exception"]).filter goodWord ++ (vx_atS RX3 69 "java/lang/IllegalStateException" ["java/lang/RuntimeException", "java/lang/Exception"]).filter goodWord ++ (vx_atS RX3 222 "java/lang/IndexOutOfBoundsException" ["java/lang/RuntimeException", "java/lang/Exception"]).filter goodWord)
def wsX3_nextAisle_r1 : List Cond := [Cond.fieldLink RX3 26 "Rackrail" "orders" "LRackrail$Orders;", Cond.fieldLink RX3 12 "Rackrail" "store" "LRackrail$Store;", Cond.methodLink RX3 187 yX0_earliest, Cond.instanceMethod yX0_earliest, Cond.selects RX0 yX0_earliest yX0_earliest, Cond.initialized RX0, Cond.code yX0_earliest cX0_earliest 8 (some .int), Cond.fieldLink RX0 22 "Rackrail$Orders" "count" "I", Cond.fieldLink RX0 9 "Rackrail$Orders" "boxes" "[I", Cond.fieldLink RX0 18 "Rackrail$Orders" "done" "[Z", Cond.fieldLink RX0 15 "Rackrail$Orders" "deadlines" "[I", Cond.methodLink RX0 37 yX2_aisleOfBox, Cond.instanceMethod yX2_aisleOfBox, Cond.selects RX2 yX2_aisleOfBox yX2_aisleOfBox, Cond.initialized RX2, Cond.code yX2_aisleOfBox cX2_aisleOfBox 3 (some .int), Cond.methodLink RX2 43 yX2_whereIs, Cond.instanceMethod yX2_whereIs, Cond.selects RX2 yX2_whereIs yX2_whereIs, Cond.code yX2_whereIs cX2_whereIs 2 (some .int), Cond.fieldLink RX2 24 "Rackrail$Store" "spots" "[I", Cond.methodLink RX2 39 yX2_has, Cond.instanceMethod yX2_has, Cond.selects RX2 yX2_has yX2_has]
def wsX3_nextAisle_r2 : List Cond := [Cond.code yX2_has cX2_has 2 (some .boolean), Cond.fieldLink RX2 27 "Rackrail$Store" "count" "I", Cond.static yX3_isBelow, Cond.initialized RX3, Cond.code yX3_isBelow cX3_isBelow 2 (some .boolean), Cond.static yX3_aisleAt, Cond.code yX3_aisleAt cX3_aisleAt 1 (some .int), Cond.methodLink RX3 241 yX3_shelfAt, Cond.static yX3_shelfAt, Cond.code yX3_shelfAt cX3_shelfAt 1 (some .int), Cond.methodLink RX3 244 yX3_sideAt, Cond.static yX3_sideAt, Cond.code yX3_sideAt cX3_sideAt 1 (some .int), Cond.methodLink RX3 191 yX0_boxOf, Cond.instanceMethod yX0_boxOf, Cond.selects RX0 yX0_boxOf yX0_boxOf, Cond.code yX0_boxOf cX0_boxOf 2 (some .int), Cond.methodLink RX3 194 yX2_aisleOfBox]
def wsX3_nextAisle : List Cond := .code yX3_nextAisle cX3_nextAisle 2 (some .int) :: ((wsX3_nextAisle_r1 ++ wsX3_nextAisle_r2) ++ wsX30 ++ wsX00 ++ wsX20)
def wsX3_fetch_r1 : List Cond := [Cond.classLink RX3 65 "java/lang/IllegalStateException", Cond.initialized "java/lang/IllegalStateException", Cond.fieldLink RX3 26 "Rackrail" "orders" "LRackrail$Orders;", Cond.fieldLink RX3 12 "Rackrail" "store" "LRackrail$Store;", Cond.fieldLink RX3 19 "Rackrail" "rail" "LRackrail$Rail;", Cond.fieldLink RX3 30 "Rackrail" "clock" "I", Cond.methodLink RX3 124 yX3_requirePerson, Cond.instanceMethod yX3_requirePerson, Cond.selects RX3 yX3_requirePerson yX3_requirePerson, Cond.initialized RX3, Cond.code yX3_requirePerson cX3_requirePerson 2 none, Cond.classLink RX3 218 "java/lang/IndexOutOfBoundsException", Cond.initialized "java/lang/IndexOutOfBoundsException", Cond.methodLink RX3 38 yX3_isBelow, Cond.static yX3_isBelow, Cond.code yX3_isBelow cX3_isBelow 2 (some .boolean), Cond.methodLink RX3 145 yX3_requireInside, Cond.instanceMethod yX3_requireInside, Cond.selects RX3 yX3_requireInside yX3_requireInside, Cond.code yX3_requireInside cX3_requireInside 2 none, Cond.methodLink RX3 127 yX1_isInside, Cond.instanceMethod yX1_isInside, Cond.selects RX1 yX1_isInside yX1_isInside, Cond.initialized RX1]
def wsX3_fetch_r2 : List Cond := [Cond.code yX1_isInside cX1_isInside 2 (some .boolean), Cond.fieldLink RX1 15 "Rackrail$Rail" "inside" "[Z", Cond.methodLink RX3 118 yX1_openAisle, Cond.instanceMethod yX1_openAisle, Cond.selects RX1 yX1_openAisle yX1_openAisle, Cond.code yX1_openAisle cX1_openAisle 1 (some .int), Cond.fieldLink RX1 22 "Rackrail$Rail" "gap" "I", Cond.fieldLink RX1 26 "Rackrail$Rail" "target" "I", Cond.methodLink RX3 187 yX0_earliest, Cond.instanceMethod yX0_earliest, Cond.selects RX0 yX0_earliest yX0_earliest, Cond.initialized RX0, Cond.code yX0_earliest cX0_earliest 8 (some .int), Cond.fieldLink RX0 22 "Rackrail$Orders" "count" "I", Cond.fieldLink RX0 9 "Rackrail$Orders" "boxes" "[I", Cond.fieldLink RX0 18 "Rackrail$Orders" "done" "[Z", Cond.fieldLink RX0 15 "Rackrail$Orders" "deadlines" "[I", Cond.methodLink RX0 37 yX2_aisleOfBox, Cond.instanceMethod yX2_aisleOfBox, Cond.selects RX2 yX2_aisleOfBox yX2_aisleOfBox, Cond.initialized RX2, Cond.code yX2_aisleOfBox cX2_aisleOfBox 3 (some .int), Cond.methodLink RX2 43 yX2_whereIs, Cond.instanceMethod yX2_whereIs]
def wsX3_fetch_r3 : List Cond := [Cond.selects RX2 yX2_whereIs yX2_whereIs, Cond.code yX2_whereIs cX2_whereIs 2 (some .int), Cond.fieldLink RX2 24 "Rackrail$Store" "spots" "[I", Cond.methodLink RX2 39 yX2_has, Cond.instanceMethod yX2_has, Cond.selects RX2 yX2_has yX2_has, Cond.code yX2_has cX2_has 2 (some .boolean), Cond.fieldLink RX2 27 "Rackrail$Store" "count" "I", Cond.static yX3_aisleAt, Cond.code yX3_aisleAt cX3_aisleAt 1 (some .int), Cond.methodLink RX3 241 yX3_shelfAt, Cond.static yX3_shelfAt, Cond.code yX3_shelfAt cX3_shelfAt 1 (some .int), Cond.methodLink RX3 244 yX3_sideAt, Cond.static yX3_sideAt, Cond.code yX3_sideAt cX3_sideAt 1 (some .int), Cond.methodLink RX3 199 yX0_finish, Cond.instanceMethod yX0_finish, Cond.selects RX0 yX0_finish yX0_finish, Cond.code yX0_finish cX0_finish 3 none, Cond.fieldLink RX0 26 "Rackrail$Orders" "lateCount" "I", Cond.methodLink RX3 191 yX0_boxOf, Cond.instanceMethod yX0_boxOf, Cond.selects RX0 yX0_boxOf yX0_boxOf]
def wsX3_fetch_r4 : List Cond := [Cond.code yX0_boxOf cX0_boxOf 2 (some .int), Cond.methodLink RX3 85 yX2_put, Cond.instanceMethod yX2_put, Cond.selects RX2 yX2_put yX2_put, Cond.code yX2_put cX2_put 3 none]
def wsX3_fetch : List Cond := .code yX3_fetch cX3_fetch 3 (some .int) :: ((wsX3_fetch_r1 ++ (wsX3_fetch_r2 ++ (wsX3_fetch_r3 ++ wsX3_fetch_r4))) ++ wsX30 ++ wsX10 ++ wsX00 ++ wsX20 ++ (vx_atS RX3 69 "java/lang/IllegalStateException" ["java/lang/RuntimeException", "java/lang/Exception"]).filter goodWord ++ (vx_atS RX3 222 "java/lang/IndexOutOfBoundsException" ["java/lang/RuntimeException", "java/lang/Exception"]).filter goodWord)
def wsX3_giveBack_r1 : List Cond := [Cond.classLink RX3 65 "java/lang/IllegalStateException", Cond.initialized "java/lang/IllegalStateException", Cond.fieldLink RX3 19 "Rackrail" "rail" "LRackrail$Rail;", Cond.fieldLink RX3 12 "Rackrail" "store" "LRackrail$Store;", Cond.methodLink RX3 124 yX3_requirePerson, Cond.instanceMethod yX3_requirePerson, Cond.selects RX3 yX3_requirePerson yX3_requirePerson, Cond.initialized RX3, Cond.code yX3_requirePerson cX3_requirePerson 2 none, Cond.classLink RX3 218 "java/lang/IndexOutOfBoundsException", Cond.initialized "java/lang/IndexOutOfBoundsException", Cond.methodLink RX3 38 yX3_isBelow, Cond.static yX3_isBelow, Cond.code yX3_isBelow cX3_isBelow 2 (some .boolean), Cond.methodLink RX3 74 yX3_requireBox, Cond.instanceMethod yX3_requireBox, Cond.selects RX3 yX3_requireBox yX3_requireBox, Cond.code yX3_requireBox cX3_requireBox 2 none, Cond.methodLink RX3 232 yX2_has, Cond.instanceMethod yX2_has, Cond.selects RX2 yX2_has yX2_has, Cond.initialized RX2, Cond.code yX2_has cX2_has 2 (some .boolean), Cond.fieldLink RX2 27 "Rackrail$Store" "count" "I"]
def wsX3_giveBack_r2 : List Cond := [Cond.methodLink RX3 91 yX3_requireSpot, Cond.instanceMethod yX3_requireSpot, Cond.selects RX3 yX3_requireSpot yX3_requireSpot, Cond.code yX3_requireSpot cX3_requireSpot 2 none, Cond.methodLink RX3 225 yX3_isSpot, Cond.static yX3_isSpot, Cond.code yX3_isSpot cX3_isSpot 1 (some .boolean), Cond.methodLink RX3 241 yX3_shelfAt, Cond.static yX3_shelfAt, Cond.code yX3_shelfAt cX3_shelfAt 1 (some .int), Cond.methodLink RX3 244 yX3_sideAt, Cond.static yX3_sideAt, Cond.code yX3_sideAt cX3_sideAt 1 (some .int), Cond.methodLink RX3 247 yX3_placeAt, Cond.static yX3_placeAt, Cond.code yX3_placeAt cX3_placeAt 1 (some .int), Cond.methodLink RX3 145 yX3_requireInside, Cond.instanceMethod yX3_requireInside, Cond.selects RX3 yX3_requireInside yX3_requireInside, Cond.code yX3_requireInside cX3_requireInside 2 none, Cond.methodLink RX3 127 yX1_isInside, Cond.instanceMethod yX1_isInside, Cond.selects RX1 yX1_isInside yX1_isInside, Cond.initialized RX1]
def wsX3_giveBack_r3 : List Cond := [Cond.code yX1_isInside cX1_isInside 2 (some .boolean), Cond.fieldLink RX1 15 "Rackrail$Rail" "inside" "[Z", Cond.methodLink RX3 77 yX3_requireOut, Cond.instanceMethod yX3_requireOut, Cond.selects RX3 yX3_requireOut yX3_requireOut, Cond.code yX3_requireOut cX3_requireOut 2 none, Cond.methodLink RX3 88 yX2_whereIs, Cond.instanceMethod yX2_whereIs, Cond.selects RX2 yX2_whereIs yX2_whereIs, Cond.code yX2_whereIs cX2_whereIs 2 (some .int), Cond.fieldLink RX2 24 "Rackrail$Store" "spots" "[I", Cond.methodLink RX2 39 yX2_has, Cond.methodLink RX3 202 yX3_aisleAt, Cond.static yX3_aisleAt, Cond.code yX3_aisleAt cX3_aisleAt 1 (some .int), Cond.methodLink RX3 118 yX1_openAisle, Cond.instanceMethod yX1_openAisle, Cond.selects RX1 yX1_openAisle yX1_openAisle, Cond.code yX1_openAisle cX1_openAisle 1 (some .int), Cond.fieldLink RX1 22 "Rackrail$Rail" "gap" "I", Cond.fieldLink RX1 26 "Rackrail$Rail" "target" "I", Cond.methodLink RX3 94 yX2_boxIn, Cond.instanceMethod yX2_boxIn, Cond.selects RX2 yX2_boxIn yX2_boxIn]
def wsX3_giveBack_r4 : List Cond := [Cond.code yX2_boxIn cX2_boxIn 3 (some .int), Cond.methodLink RX3 85 yX2_put, Cond.instanceMethod yX2_put, Cond.selects RX2 yX2_put yX2_put, Cond.code yX2_put cX2_put 3 none, Cond.methodLink RX3 209 yX2_isWrong, Cond.instanceMethod yX2_isWrong, Cond.selects RX2 yX2_isWrong yX2_isWrong, Cond.code yX2_isWrong cX2_isWrong 3 (some .boolean), Cond.fieldLink RX2 15 "Rackrail$Store" "climates" "[I", Cond.methodLink RX2 43 yX2_whereIs, Cond.methodLink RX2 56 yX2_climateOf, Cond.instanceMethod yX2_climateOf, Cond.selects RX2 yX2_climateOf yX2_climateOf, Cond.code yX2_climateOf cX2_climateOf 2 (some .int), Cond.fieldLink RX2 9 "Rackrail$Store" "shelfClimates" "[I"]
def wsX3_giveBack : List Cond := .code yX3_giveBack cX3_giveBack 4 (some .boolean) :: ((wsX3_giveBack_r1 ++ (wsX3_giveBack_r2 ++ (wsX3_giveBack_r3 ++ wsX3_giveBack_r4))) ++ wsX30 ++ wsX20 ++ wsX10 ++ (vx_atS RX3 69 "java/lang/IllegalStateException" ["java/lang/RuntimeException", "java/lang/Exception"]).filter goodWord ++ (vx_atS RX3 222 "java/lang/IndexOutOfBoundsException" ["java/lang/RuntimeException", "java/lang/Exception"]).filter goodWord)
def wsX3_waiting : List Cond := .code yX3_waiting cX3_waiting 1 (some .int) :: ([.fieldLink RX3 26 "Rackrail" "orders" "LRackrail$Orders;", .methodLink RX3 212 yX0_countOpen, .instanceMethod yX0_countOpen, .selects RX0 yX0_countOpen yX0_countOpen, .initialized RX0, .code yX0_countOpen cX0_countOpen 3 (some .int), .fieldLink RX0 22 "Rackrail$Orders" "count" "I", .fieldLink RX0 18 "Rackrail$Orders" "done" "[Z"] ++ wsX30 ++ wsX00)
def wsX3_late : List Cond := .code yX3_late cX3_late 1 (some .int) :: ([.fieldLink RX3 26 "Rackrail" "orders" "LRackrail$Orders;", .methodLink RX3 215 yX0_countLate, .instanceMethod yX0_countLate, .selects RX0 yX0_countLate yX0_countLate, .initialized RX0, .code yX0_countLate cX0_countLate 1 (some .int), .fieldLink RX0 26 "Rackrail$Orders" "lateCount" "I"] ++ wsX30 ++ wsX00)
def wsX4_init : List Cond := .code yX4_init cX4_init 1 none :: ([.methodLink RX4 1 objectInit, .instanceMethod objectInit, .code objectInit ⟨#[0xb1]⟩ 1 none, .arrayClass .int, .fieldLink RX4 7 "RackrailModel" "climates" "[I", .fieldLink RX4 13 "RackrailModel" "boxClimates" "[I", .fieldLink RX4 16 "RackrailModel" "weights" "[I", .fieldLink RX4 19 "RackrailModel" "kins" "[I", .fieldLink RX4 22 "RackrailModel" "lies" "[I", .arrayClass .boolean, .fieldLink RX4 25 "RackrailModel" "doubts" "[Z", .fieldLink RX4 29 "RackrailModel" "isInside" "[Z", .fieldLink RX4 32 "RackrailModel" "orderBoxes" "[I", .fieldLink RX4 35 "RackrailModel" "deadlines" "[I", .fieldLink RX4 38 "RackrailModel" "isDone" "[Z", .fieldLink RX4 41 "RackrailModel" "thrown" "I"] ++ wsX40)
def wsX4_thrown : List Cond := .code yX4_thrown cX4_thrown 1 (some .int) :: ([.fieldLink RX4 41 "RackrailModel" "thrown" "I"] ++ wsX40)
def wsX4_fails : List Cond := .code yX4_fails cX4_fails 2 (some .int) :: ([.fieldLink RX4 41 "RackrailModel" "thrown" "I"] ++ wsX40)
def wsX4_in : List Cond := .code yX4_in cX4_in 3 (some .boolean) :: ([])
def wsX4_isShelf : List Cond := .code yX4_isShelf cX4_isShelf 1 (some .boolean) :: ([.methodLink RX4 45 yX4_in, .static yX4_in, .initialized RX4, .code yX4_in cX4_in 3 (some .boolean)])
def wsX4_isBox : List Cond := .code yX4_isBox cX4_isBox 2 (some .boolean) :: ([.fieldLink RX4 49 "RackrailModel" "boxMany" "I", .methodLink RX4 45 yX4_in, .static yX4_in, .initialized RX4, .code yX4_in cX4_in 3 (some .boolean)] ++ wsX40)
def wsX4_isPerson : List Cond := .code yX4_isPerson cX4_isPerson 1 (some .boolean) :: ([.methodLink RX4 45 yX4_in, .static yX4_in, .initialized RX4, .code yX4_in cX4_in 3 (some .boolean)])
def wsX4_row : List Cond := .code yX4_row cX4_row 2 (some .int) :: ([.methodLink RX4 45 yX4_in, .static yX4_in, .initialized RX4, .code yX4_in cX4_in 3 (some .boolean)])
def wsX4_told : List Cond := .code yX4_told cX4_told 1 (some .int) :: ([])
def wsX4_aisleOf : List Cond := .code yX4_aisleOf cX4_aisleOf 1 (some .int) :: ([])
def wsX4_spot : List Cond := .code yX4_spot cX4_spot 4 (some .int) :: ([.fieldLink RX4 22 "RackrailModel" "lies" "[I"] ++ wsX40)
def wsX4_setClimate : List Cond := .code yX4_setClimate cX4_setClimate 4 (some .int) :: ([.fieldLink RX4 41 "RackrailModel" "thrown" "I", .fieldLink RX4 7 "RackrailModel" "climates" "[I", .methodLink RX4 52 yX4_isShelf, .static yX4_isShelf, .initialized RX4, .code yX4_isShelf cX4_isShelf 1 (some .boolean), .methodLink RX4 45 yX4_in, .static yX4_in, .code yX4_in cX4_in 3 (some .boolean)] ++ wsX40)
def wsX4_addBox : List Cond := .code yX4_addBox cX4_addBox 5 (some .int) :: ([.fieldLink RX4 49 "RackrailModel" "boxMany" "I", .fieldLink RX4 41 "RackrailModel" "thrown" "I", .fieldLink RX4 13 "RackrailModel" "boxClimates" "[I", .fieldLink RX4 16 "RackrailModel" "weights" "[I", .fieldLink RX4 19 "RackrailModel" "kins" "[I", .methodLink RX4 45 yX4_in, .static yX4_in, .initialized RX4, .code yX4_in cX4_in 3 (some .boolean)] ++ wsX40)
def wsX4_weighs : List Cond := .code yX4_weighs cX4_weighs 4 (some .int) :: ([.fieldLink RX4 22 "RackrailModel" "lies" "[I", .fieldLink RX4 16 "RackrailModel" "weights" "[I"] ++ wsX40)
def wsX4_kin : List Cond := .code yX4_kin cX4_kin 5 (some .int) :: ([.fieldLink RX4 22 "RackrailModel" "lies" "[I", .fieldLink RX4 19 "RackrailModel" "kins" "[I"] ++ wsX40)
def wsX4_best : List Cond := .code yX4_best cX4_best 7 (some .int) :: ([.fieldLink RX4 22 "RackrailModel" "lies" "[I", .fieldLink RX4 7 "RackrailModel" "climates" "[I", .fieldLink RX4 13 "RackrailModel" "boxClimates" "[I", .fieldLink RX4 16 "RackrailModel" "weights" "[I", .fieldLink RX4 19 "RackrailModel" "kins" "[I", .methodLink RX4 56 yX4_weighs, .instanceMethod yX4_weighs, .selects RX4 yX4_weighs yX4_weighs, .initialized RX4, .code yX4_weighs cX4_weighs 4 (some .int), .methodLink RX4 60 yX4_kin, .instanceMethod yX4_kin, .selects RX4 yX4_kin yX4_kin, .code yX4_kin cX4_kin 5 (some .int)] ++ wsX40)
def wsX4_bestSpot_r1 : List Cond := [Cond.fieldLink RX4 41 "RackrailModel" "thrown" "I", Cond.methodLink RX4 64 yX4_isBox, Cond.instanceMethod yX4_isBox, Cond.selects RX4 yX4_isBox yX4_isBox, Cond.initialized RX4, Cond.code yX4_isBox cX4_isBox 2 (some .boolean), Cond.fieldLink RX4 49 "RackrailModel" "boxMany" "I", Cond.methodLink RX4 45 yX4_in, Cond.static yX4_in, Cond.code yX4_in cX4_in 3 (some .boolean), Cond.methodLink RX4 67 yX4_spot, Cond.instanceMethod yX4_spot, Cond.selects RX4 yX4_spot yX4_spot, Cond.code yX4_spot cX4_spot 4 (some .int), Cond.fieldLink RX4 22 "RackrailModel" "lies" "[I", Cond.methodLink RX4 70 yX4_best, Cond.instanceMethod yX4_best, Cond.selects RX4 yX4_best yX4_best, Cond.code yX4_best cX4_best 7 (some .int), Cond.fieldLink RX4 7 "RackrailModel" "climates" "[I", Cond.fieldLink RX4 13 "RackrailModel" "boxClimates" "[I", Cond.fieldLink RX4 16 "RackrailModel" "weights" "[I", Cond.fieldLink RX4 19 "RackrailModel" "kins" "[I", Cond.methodLink RX4 56 yX4_weighs]
def wsX4_bestSpot_r2 : List Cond := [Cond.instanceMethod yX4_weighs, Cond.selects RX4 yX4_weighs yX4_weighs, Cond.code yX4_weighs cX4_weighs 4 (some .int), Cond.methodLink RX4 60 yX4_kin, Cond.instanceMethod yX4_kin, Cond.selects RX4 yX4_kin yX4_kin, Cond.code yX4_kin cX4_kin 5 (some .int), Cond.methodLink RX4 73 yX4_told, Cond.static yX4_told, Cond.code yX4_told cX4_told 1 (some .int)]
def wsX4_bestSpot : List Cond := .code yX4_bestSpot cX4_bestSpot 3 (some .int) :: ((wsX4_bestSpot_r1 ++ wsX4_bestSpot_r2) ++ wsX40)
def wsX4_lay_r1 : List Cond := [Cond.fieldLink RX4 41 "RackrailModel" "thrown" "I", Cond.fieldLink RX4 22 "RackrailModel" "lies" "[I", Cond.methodLink RX4 64 yX4_isBox, Cond.instanceMethod yX4_isBox, Cond.selects RX4 yX4_isBox yX4_isBox, Cond.initialized RX4, Cond.code yX4_isBox cX4_isBox 2 (some .boolean), Cond.fieldLink RX4 49 "RackrailModel" "boxMany" "I", Cond.methodLink RX4 45 yX4_in, Cond.static yX4_in, Cond.code yX4_in cX4_in 3 (some .boolean), Cond.methodLink RX4 67 yX4_spot, Cond.instanceMethod yX4_spot, Cond.selects RX4 yX4_spot yX4_spot, Cond.code yX4_spot cX4_spot 4 (some .int), Cond.methodLink RX4 70 yX4_best, Cond.instanceMethod yX4_best, Cond.selects RX4 yX4_best yX4_best, Cond.code yX4_best cX4_best 7 (some .int), Cond.fieldLink RX4 7 "RackrailModel" "climates" "[I", Cond.fieldLink RX4 13 "RackrailModel" "boxClimates" "[I", Cond.fieldLink RX4 16 "RackrailModel" "weights" "[I", Cond.fieldLink RX4 19 "RackrailModel" "kins" "[I", Cond.methodLink RX4 56 yX4_weighs]
def wsX4_lay_r2 : List Cond := [Cond.instanceMethod yX4_weighs, Cond.selects RX4 yX4_weighs yX4_weighs, Cond.code yX4_weighs cX4_weighs 4 (some .int), Cond.methodLink RX4 60 yX4_kin, Cond.instanceMethod yX4_kin, Cond.selects RX4 yX4_kin yX4_kin, Cond.code yX4_kin cX4_kin 5 (some .int), Cond.methodLink RX4 73 yX4_told, Cond.static yX4_told, Cond.code yX4_told cX4_told 1 (some .int)]
def wsX4_lay : List Cond := .code yX4_lay cX4_lay 3 (some .int) :: ((wsX4_lay_r1 ++ wsX4_lay_r2) ++ wsX40)
def wsX4_spotOf : List Cond := .code yX4_spotOf cX4_spotOf 2 (some .int) :: ([.fieldLink RX4 41 "RackrailModel" "thrown" "I", .methodLink RX4 64 yX4_isBox, .instanceMethod yX4_isBox, .selects RX4 yX4_isBox yX4_isBox, .initialized RX4, .code yX4_isBox cX4_isBox 2 (some .boolean), .fieldLink RX4 49 "RackrailModel" "boxMany" "I", .methodLink RX4 45 yX4_in, .static yX4_in, .code yX4_in cX4_in 3 (some .boolean), .methodLink RX4 67 yX4_spot, .instanceMethod yX4_spot, .selects RX4 yX4_spot yX4_spot, .code yX4_spot cX4_spot 4 (some .int), .fieldLink RX4 22 "RackrailModel" "lies" "[I", .methodLink RX4 73 yX4_told, .static yX4_told, .code yX4_told cX4_told 1 (some .int)] ++ wsX40)
def wsX4_boxAt : List Cond := .code yX4_boxAt cX4_boxAt 2 (some .int) :: ([.fieldLink RX4 41 "RackrailModel" "thrown" "I", .fieldLink RX4 22 "RackrailModel" "lies" "[I", .methodLink RX4 76 yX4_row, .static yX4_row, .initialized RX4, .code yX4_row cX4_row 2 (some .int), .methodLink RX4 45 yX4_in, .static yX4_in, .code yX4_in cX4_in 3 (some .boolean), .methodLink RX4 79 yX4_fails, .instanceMethod yX4_fails, .selects RX4 yX4_fails yX4_fails, .code yX4_fails cX4_fails 2 (some .int)] ++ wsX40)
def wsX4_weight : List Cond := .code yX4_weight cX4_weight 2 (some .int) :: ([.fieldLink RX4 41 "RackrailModel" "thrown" "I", .methodLink RX4 52 yX4_isShelf, .static yX4_isShelf, .initialized RX4, .code yX4_isShelf cX4_isShelf 1 (some .boolean), .methodLink RX4 45 yX4_in, .static yX4_in, .code yX4_in cX4_in 3 (some .boolean), .methodLink RX4 56 yX4_weighs, .instanceMethod yX4_weighs, .selects RX4 yX4_weighs yX4_weighs, .code yX4_weighs cX4_weighs 4 (some .int), .fieldLink RX4 22 "RackrailModel" "lies" "[I", .fieldLink RX4 16 "RackrailModel" "weights" "[I", .methodLink RX4 79 yX4_fails, .instanceMethod yX4_fails, .selects RX4 yX4_fails yX4_fails, .code yX4_fails cX4_fails 2 (some .int)] ++ wsX40)
def wsX4_wrong : List Cond := .code yX4_wrong cX4_wrong 3 (some .int) :: ([.fieldLink RX4 41 "RackrailModel" "thrown" "I", .fieldLink RX4 22 "RackrailModel" "lies" "[I", .fieldLink RX4 13 "RackrailModel" "boxClimates" "[I", .fieldLink RX4 7 "RackrailModel" "climates" "[I"] ++ wsX40)
def wsX4_inside : List Cond := .code yX4_inside cX4_inside 3 (some .int) :: ([.fieldLink RX4 29 "RackrailModel" "isInside" "[Z"] ++ wsX40)
def wsX4_open : List Cond := .code yX4_open cX4_open 3 (some .int) :: ([.fieldLink RX4 86 "RackrailModel" "toMove" "I", .fieldLink RX4 25 "RackrailModel" "doubts" "[Z", .fieldLink RX4 89 "RackrailModel" "aisle" "I", .fieldLink RX4 92 "RackrailModel" "isStalled" "Z", .fieldLink RX4 96 "RackrailModel" "isSmoke" "Z", .fieldLink RX4 41 "RackrailModel" "thrown" "I", .methodLink RX4 82 yX4_inside, .instanceMethod yX4_inside, .selects RX4 yX4_inside yX4_inside, .initialized RX4, .code yX4_inside cX4_inside 3 (some .int), .fieldLink RX4 29 "RackrailModel" "isInside" "[Z", .methodLink RX4 45 yX4_in, .static yX4_in, .code yX4_in cX4_in 3 (some .boolean)] ++ wsX40)
def wsX4_opened : List Cond := .code yX4_opened cX4_opened 1 (some .int) :: ([.fieldLink RX4 41 "RackrailModel" "thrown" "I", .fieldLink RX4 86 "RackrailModel" "toMove" "I", .fieldLink RX4 89 "RackrailModel" "aisle" "I"] ++ wsX40)
def wsX4_openedByMoves : List Cond := .code yX4_openedByMoves cX4_openedByMoves 1 (some .int) :: ([.methodLink RX4 99 yX4_opened, .instanceMethod yX4_opened, .selects RX4 yX4_opened yX4_opened, .initialized RX4, .code yX4_opened cX4_opened 1 (some .int), .fieldLink RX4 41 "RackrailModel" "thrown" "I", .fieldLink RX4 86 "RackrailModel" "toMove" "I", .fieldLink RX4 89 "RackrailModel" "aisle" "I"] ++ wsX40)
def wsX4_goIn : List Cond := .code yX4_goIn cX4_goIn 2 (some .int) :: ([.fieldLink RX4 29 "RackrailModel" "isInside" "[Z", .fieldLink RX4 86 "RackrailModel" "toMove" "I", .fieldLink RX4 96 "RackrailModel" "isSmoke" "Z", .fieldLink RX4 41 "RackrailModel" "thrown" "I", .methodLink RX4 102 yX4_isPerson, .static yX4_isPerson, .initialized RX4, .code yX4_isPerson cX4_isPerson 1 (some .boolean), .methodLink RX4 45 yX4_in, .static yX4_in, .code yX4_in cX4_in 3 (some .boolean), .methodLink RX4 82 yX4_inside, .instanceMethod yX4_inside, .selects RX4 yX4_inside yX4_inside, .code yX4_inside cX4_inside 3 (some .int)] ++ wsX40)
def wsX4_goOut : List Cond := .code yX4_goOut cX4_goOut 2 (some .int) :: ([.fieldLink RX4 29 "RackrailModel" "isInside" "[Z", .fieldLink RX4 41 "RackrailModel" "thrown" "I", .methodLink RX4 102 yX4_isPerson, .static yX4_isPerson, .initialized RX4, .code yX4_isPerson cX4_isPerson 1 (some .boolean), .methodLink RX4 45 yX4_in, .static yX4_in, .code yX4_in cX4_in 3 (some .boolean), .methodLink RX4 82 yX4_inside, .instanceMethod yX4_inside, .selects RX4 yX4_inside yX4_inside, .code yX4_inside cX4_inside 3 (some .int)] ++ wsX40)
def wsX4_doubt : List Cond := .code yX4_doubt cX4_doubt 3 (some .boolean) :: ([.fieldLink RX4 41 "RackrailModel" "thrown" "I", .fieldLink RX4 25 "RackrailModel" "doubts" "[Z", .methodLink RX4 45 yX4_in, .static yX4_in, .initialized RX4, .code yX4_in cX4_in 3 (some .boolean)] ++ wsX40)
def wsX4_look : List Cond := .code yX4_look cX4_look 2 (some .boolean) :: ([.fieldLink RX4 86 "RackrailModel" "toMove" "I", .fieldLink RX4 41 "RackrailModel" "thrown" "I", .fieldLink RX4 25 "RackrailModel" "doubts" "[Z", .fieldLink RX4 89 "RackrailModel" "aisle" "I"] ++ wsX40)
def wsX4_stall : List Cond := .code yX4_stall cX4_stall 3 (some .boolean) :: ([.fieldLink RX4 41 "RackrailModel" "thrown" "I", .fieldLink RX4 92 "RackrailModel" "isStalled" "Z"] ++ wsX40)
def wsX4_smoke : List Cond := .code yX4_smoke cX4_smoke 4 (some .int) :: ([.fieldLink RX4 41 "RackrailModel" "thrown" "I", .fieldLink RX4 96 "RackrailModel" "isSmoke" "Z", .fieldLink RX4 29 "RackrailModel" "isInside" "[Z", .methodLink RX4 82 yX4_inside, .instanceMethod yX4_inside, .selects RX4 yX4_inside yX4_inside, .initialized RX4, .code yX4_inside cX4_inside 3 (some .int)] ++ wsX40)
def wsX4_pass : List Cond := .code yX4_pass cX4_pass 2 (some .int) :: ([.fieldLink RX4 105 "RackrailModel" "clock" "I", .fieldLink RX4 41 "RackrailModel" "thrown" "I", .fieldLink RX4 92 "RackrailModel" "isStalled" "Z", .fieldLink RX4 96 "RackrailModel" "isSmoke" "Z", .fieldLink RX4 86 "RackrailModel" "toMove" "I", .methodLink RX4 45 yX4_in, .static yX4_in, .initialized RX4, .code yX4_in cX4_in 3 (some .boolean)] ++ wsX40)
def wsX4_hasOpen : List Cond := .code yX4_hasOpen cX4_hasOpen 4 (some .boolean) :: ([.fieldLink RX4 108 "RackrailModel" "orderMany" "I", .fieldLink RX4 32 "RackrailModel" "orderBoxes" "[I", .fieldLink RX4 38 "RackrailModel" "isDone" "[Z"] ++ wsX40)
def wsX4_order : List Cond := .code yX4_order cX4_order 3 (some .int) :: ([.fieldLink RX4 108 "RackrailModel" "orderMany" "I", .fieldLink RX4 41 "RackrailModel" "thrown" "I", .fieldLink RX4 32 "RackrailModel" "orderBoxes" "[I", .fieldLink RX4 35 "RackrailModel" "deadlines" "[I", .methodLink RX4 64 yX4_isBox, .instanceMethod yX4_isBox, .selects RX4 yX4_isBox yX4_isBox, .initialized RX4, .code yX4_isBox cX4_isBox 2 (some .boolean), .fieldLink RX4 49 "RackrailModel" "boxMany" "I", .methodLink RX4 45 yX4_in, .static yX4_in, .code yX4_in cX4_in 3 (some .boolean), .methodLink RX4 111 yX4_hasOpen, .instanceMethod yX4_hasOpen, .selects RX4 yX4_hasOpen yX4_hasOpen, .code yX4_hasOpen cX4_hasOpen 4 (some .boolean), .fieldLink RX4 38 "RackrailModel" "isDone" "[Z"] ++ wsX40)
def wsX4_first : List Cond := .code yX4_first cX4_first 6 (some .int) :: ([.fieldLink RX4 108 "RackrailModel" "orderMany" "I", .fieldLink RX4 38 "RackrailModel" "isDone" "[Z", .fieldLink RX4 32 "RackrailModel" "orderBoxes" "[I", .fieldLink RX4 35 "RackrailModel" "deadlines" "[I", .methodLink RX4 67 yX4_spot, .instanceMethod yX4_spot, .selects RX4 yX4_spot yX4_spot, .initialized RX4, .code yX4_spot cX4_spot 4 (some .int), .fieldLink RX4 22 "RackrailModel" "lies" "[I", .methodLink RX4 114 yX4_aisleOf, .static yX4_aisleOf, .code yX4_aisleOf cX4_aisleOf 1 (some .int)] ++ wsX40)
def wsX4_nextAisle : List Cond := .code yX4_nextAisle cX4_nextAisle 2 (some .int) :: ([.fieldLink RX4 41 "RackrailModel" "thrown" "I", .fieldLink RX4 32 "RackrailModel" "orderBoxes" "[I", .methodLink RX4 117 yX4_first, .instanceMethod yX4_first, .selects RX4 yX4_first yX4_first, .initialized RX4, .code yX4_first cX4_first 6 (some .int), .fieldLink RX4 108 "RackrailModel" "orderMany" "I", .fieldLink RX4 38 "RackrailModel" "isDone" "[Z", .fieldLink RX4 35 "RackrailModel" "deadlines" "[I", .methodLink RX4 67 yX4_spot, .instanceMethod yX4_spot, .selects RX4 yX4_spot yX4_spot, .code yX4_spot cX4_spot 4 (some .int), .fieldLink RX4 22 "RackrailModel" "lies" "[I", .methodLink RX4 114 yX4_aisleOf, .static yX4_aisleOf, .code yX4_aisleOf cX4_aisleOf 1 (some .int)] ++ wsX40)
def wsX4_fetch_r1 : List Cond := [Cond.fieldLink RX4 29 "RackrailModel" "isInside" "[Z", Cond.fieldLink RX4 89 "RackrailModel" "aisle" "I", Cond.fieldLink RX4 41 "RackrailModel" "thrown" "I", Cond.fieldLink RX4 22 "RackrailModel" "lies" "[I", Cond.fieldLink RX4 32 "RackrailModel" "orderBoxes" "[I", Cond.fieldLink RX4 38 "RackrailModel" "isDone" "[Z", Cond.fieldLink RX4 120 "RackrailModel" "lateMany" "I", Cond.fieldLink RX4 105 "RackrailModel" "clock" "I", Cond.fieldLink RX4 35 "RackrailModel" "deadlines" "[I", Cond.methodLink RX4 102 yX4_isPerson, Cond.static yX4_isPerson, Cond.initialized RX4, Cond.code yX4_isPerson cX4_isPerson 1 (some .boolean), Cond.methodLink RX4 45 yX4_in, Cond.static yX4_in, Cond.code yX4_in cX4_in 3 (some .boolean), Cond.methodLink RX4 117 yX4_first, Cond.instanceMethod yX4_first, Cond.selects RX4 yX4_first yX4_first, Cond.code yX4_first cX4_first 6 (some .int), Cond.fieldLink RX4 108 "RackrailModel" "orderMany" "I", Cond.methodLink RX4 67 yX4_spot, Cond.instanceMethod yX4_spot, Cond.selects RX4 yX4_spot yX4_spot]
def wsX4_fetch_r2 : List Cond := [Cond.code yX4_spot cX4_spot 4 (some .int), Cond.methodLink RX4 114 yX4_aisleOf, Cond.static yX4_aisleOf, Cond.code yX4_aisleOf cX4_aisleOf 1 (some .int)]
def wsX4_fetch : List Cond := .code yX4_fetch cX4_fetch 3 (some .int) :: ((wsX4_fetch_r1 ++ wsX4_fetch_r2) ++ wsX40)
def wsX4_giveBack_r1 : List Cond := [Cond.fieldLink RX4 41 "RackrailModel" "thrown" "I", Cond.fieldLink RX4 29 "RackrailModel" "isInside" "[Z", Cond.fieldLink RX4 89 "RackrailModel" "aisle" "I", Cond.fieldLink RX4 22 "RackrailModel" "lies" "[I", Cond.fieldLink RX4 7 "RackrailModel" "climates" "[I", Cond.fieldLink RX4 13 "RackrailModel" "boxClimates" "[I", Cond.methodLink RX4 76 yX4_row, Cond.static yX4_row, Cond.initialized RX4, Cond.code yX4_row cX4_row 2 (some .int), Cond.methodLink RX4 45 yX4_in, Cond.static yX4_in, Cond.code yX4_in cX4_in 3 (some .boolean), Cond.methodLink RX4 102 yX4_isPerson, Cond.static yX4_isPerson, Cond.code yX4_isPerson cX4_isPerson 1 (some .boolean), Cond.methodLink RX4 64 yX4_isBox, Cond.instanceMethod yX4_isBox, Cond.selects RX4 yX4_isBox yX4_isBox, Cond.code yX4_isBox cX4_isBox 2 (some .boolean), Cond.fieldLink RX4 49 "RackrailModel" "boxMany" "I", Cond.methodLink RX4 67 yX4_spot, Cond.instanceMethod yX4_spot, Cond.selects RX4 yX4_spot yX4_spot]
def wsX4_giveBack_r2 : List Cond := [Cond.code yX4_spot cX4_spot 4 (some .int), Cond.methodLink RX4 114 yX4_aisleOf, Cond.static yX4_aisleOf, Cond.code yX4_aisleOf cX4_aisleOf 1 (some .int), Cond.methodLink RX4 79 yX4_fails, Cond.instanceMethod yX4_fails, Cond.selects RX4 yX4_fails yX4_fails, Cond.code yX4_fails cX4_fails 2 (some .int)]
def wsX4_giveBack : List Cond := .code yX4_giveBack cX4_giveBack 6 (some .boolean) :: ((wsX4_giveBack_r1 ++ wsX4_giveBack_r2) ++ wsX40)
def wsX4_waiting : List Cond := .code yX4_waiting cX4_waiting 3 (some .int) :: ([.fieldLink RX4 41 "RackrailModel" "thrown" "I", .fieldLink RX4 108 "RackrailModel" "orderMany" "I", .fieldLink RX4 38 "RackrailModel" "isDone" "[Z"] ++ wsX40)
def wsX4_late : List Cond := .code yX4_late cX4_late 1 (some .int) :: ([.fieldLink RX4 41 "RackrailModel" "thrown" "I", .fieldLink RX4 120 "RackrailModel" "lateMany" "I"] ++ wsX40)
def wsJ9_abs_0f7a4 : List Cond := .code yJ9_abs_0f7a4 cJ9_abs_0f7a4 1 (some .int) :: ([])
def wsJ9_min_7cf53 : List Cond := .code yJ9_min_7cf53 cJ9_min_7cf53 2 (some .int) :: ([])
def wsL_setClimate_r1 : List Cond := [Cond.classLink RL 13 "java/lang/IndexOutOfBoundsException", Cond.classLink RL 15 "java/lang/IllegalArgumentException", Cond.methodLink RL 7 yX3_setClimate, Cond.instanceMethod yX3_setClimate, Cond.selects RX3 yX3_setClimate yX3_setClimate, Cond.initialized RX3, Cond.code yX3_setClimate cX3_setClimate 4 (some .int), Cond.classLink RX3 42 "java/lang/IllegalArgumentException", Cond.initialized "java/lang/IllegalArgumentException", Cond.fieldLink RX3 12 "Rackrail" "store" "LRackrail$Store;", Cond.methodLink RX3 34 yX3_requireShelf, Cond.instanceMethod yX3_requireShelf, Cond.selects RX3 yX3_requireShelf yX3_requireShelf, Cond.code yX3_requireShelf cX3_requireShelf 2 none, Cond.classLink RX3 218 "java/lang/IndexOutOfBoundsException", Cond.initialized "java/lang/IndexOutOfBoundsException", Cond.methodLink RX3 38 yX3_isBelow, Cond.static yX3_isBelow, Cond.code yX3_isBelow cX3_isBelow 2 (some .boolean), Cond.methodLink RX3 49 yX2_climateOf, Cond.instanceMethod yX2_climateOf, Cond.selects RX2 yX2_climateOf yX2_climateOf, Cond.initialized RX2, Cond.code yX2_climateOf cX2_climateOf 2 (some .int)]
def wsL_setClimate_r2 : List Cond := [Cond.fieldLink RX2 9 "Rackrail$Store" "shelfClimates" "[I", Cond.methodLink RX3 53 yX2_changeClimate, Cond.instanceMethod yX2_changeClimate, Cond.selects RX2 yX2_changeClimate yX2_changeClimate, Cond.code yX2_changeClimate cX2_changeClimate 3 none]
def wsL_setClimate : List Cond := .codeWith yL_setClimate cL_setClimate 5 (some .int) [(0, 10, 13, 13), (0, 10, 17, 15)] :: ((wsL_setClimate_r1 ++ wsL_setClimate_r2) ++ wsX30 ++ wsX20 ++ (vx_atS RX3 46 "java/lang/IllegalArgumentException" ["java/lang/RuntimeException", "java/lang/Exception"]).filter goodWord ++ (vx_atS RX3 222 "java/lang/IndexOutOfBoundsException" ["java/lang/RuntimeException", "java/lang/Exception"]).filter goodWord)
def wsL_addBox_r1 : List Cond := [Cond.classLink RL 15 "java/lang/IllegalArgumentException", Cond.classLink RL 21 "java/lang/IllegalStateException", Cond.methodLink RL 17 yX3_addBox, Cond.instanceMethod yX3_addBox, Cond.selects RX3 yX3_addBox yX3_addBox, Cond.initialized RX3, Cond.code yX3_addBox cX3_addBox 4 (some .int), Cond.classLink RX3 42 "java/lang/IllegalArgumentException", Cond.initialized "java/lang/IllegalArgumentException", Cond.classLink RX3 65 "java/lang/IllegalStateException", Cond.initialized "java/lang/IllegalStateException", Cond.fieldLink RX3 12 "Rackrail" "store" "LRackrail$Store;", Cond.methodLink RX3 38 yX3_isBelow, Cond.static yX3_isBelow, Cond.code yX3_isBelow cX3_isBelow 2 (some .boolean), Cond.methodLink RX3 61 yX2_isFull, Cond.instanceMethod yX2_isFull, Cond.selects RX2 yX2_isFull yX2_isFull, Cond.initialized RX2, Cond.code yX2_isFull cX2_isFull 1 (some .boolean), Cond.fieldLink RX2 27 "Rackrail$Store" "count" "I", Cond.methodLink RX3 70 yX2_enter, Cond.instanceMethod yX2_enter, Cond.selects RX2 yX2_enter yX2_enter]
def wsL_addBox_r2 : List Cond := [Cond.code yX2_enter cX2_enter 5 (some .int), Cond.fieldLink RX2 15 "Rackrail$Store" "climates" "[I", Cond.fieldLink RX2 18 "Rackrail$Store" "weights" "[I", Cond.fieldLink RX2 21 "Rackrail$Store" "kins" "[I", Cond.fieldLink RX2 24 "Rackrail$Store" "spots" "[I", Cond.methodLink RX2 35 yX2_isFull]
def wsL_addBox : List Cond := .codeWith yL_addBox cL_addBox 6 (some .int) [(0, 12, 15, 15), (0, 12, 19, 21)] :: ((wsL_addBox_r1 ++ wsL_addBox_r2) ++ wsX30 ++ wsX20 ++ (vx_atS RX3 46 "java/lang/IllegalArgumentException" ["java/lang/RuntimeException", "java/lang/Exception"]).filter goodWord ++ (vx_atS RX3 69 "java/lang/IllegalStateException" ["java/lang/RuntimeException", "java/lang/Exception"]).filter goodWord)
def wsL_bestSpot_r1 : List Cond := [Cond.classLink RL 13 "java/lang/IndexOutOfBoundsException", Cond.classLink RL 21 "java/lang/IllegalStateException", Cond.methodLink RL 23 yX3_bestSpot, Cond.instanceMethod yX3_bestSpot, Cond.selects RX3 yX3_bestSpot yX3_bestSpot, Cond.initialized RX3, Cond.code yX3_bestSpot cX3_bestSpot 2 (some .int), Cond.fieldLink RX3 12 "Rackrail" "store" "LRackrail$Store;", Cond.methodLink RX3 74 yX3_requireBox, Cond.instanceMethod yX3_requireBox, Cond.selects RX3 yX3_requireBox yX3_requireBox, Cond.code yX3_requireBox cX3_requireBox 2 none, Cond.classLink RX3 218 "java/lang/IndexOutOfBoundsException", Cond.initialized "java/lang/IndexOutOfBoundsException", Cond.methodLink RX3 232 yX2_has, Cond.instanceMethod yX2_has, Cond.selects RX2 yX2_has yX2_has, Cond.initialized RX2, Cond.code yX2_has cX2_has 2 (some .boolean), Cond.fieldLink RX2 27 "Rackrail$Store" "count" "I", Cond.static yX3_isBelow, Cond.code yX3_isBelow cX3_isBelow 2 (some .boolean), Cond.methodLink RX3 77 yX3_requireOut, Cond.instanceMethod yX3_requireOut]
def wsL_bestSpot_r2 : List Cond := [Cond.selects RX3 yX3_requireOut yX3_requireOut, Cond.code yX3_requireOut cX3_requireOut 2 none, Cond.classLink RX3 65 "java/lang/IllegalStateException", Cond.initialized "java/lang/IllegalStateException", Cond.methodLink RX3 88 yX2_whereIs, Cond.instanceMethod yX2_whereIs, Cond.selects RX2 yX2_whereIs yX2_whereIs, Cond.code yX2_whereIs cX2_whereIs 2 (some .int), Cond.fieldLink RX2 24 "Rackrail$Store" "spots" "[I", Cond.methodLink RX2 39 yX2_has, Cond.methodLink RX3 80 yX2_bestSpotFor, Cond.instanceMethod yX2_bestSpotFor, Cond.selects RX2 yX2_bestSpotFor yX2_bestSpotFor, Cond.code yX2_bestSpotFor cX2_bestSpotFor 8 (some .int), Cond.fieldLink RX2 9 "Rackrail$Store" "shelfClimates" "[I", Cond.fieldLink RX2 15 "Rackrail$Store" "climates" "[I", Cond.fieldLink RX2 18 "Rackrail$Store" "weights" "[I", Cond.fieldLink RX2 21 "Rackrail$Store" "kins" "[I", Cond.methodLink RX2 69 yX2_weightOn, Cond.instanceMethod yX2_weightOn, Cond.selects RX2 yX2_weightOn yX2_weightOn, Cond.code yX2_weightOn cX2_weightOn 4 (some .int), Cond.methodLink RX2 53 yX2_liesOn, Cond.instanceMethod yX2_liesOn]
def wsL_bestSpot_r3 : List Cond := [Cond.selects RX2 yX2_liesOn yX2_liesOn, Cond.code yX2_liesOn cX2_liesOn 4 (some .boolean), Cond.methodLink RX2 43 yX2_whereIs, Cond.static yX3_shelfAt, Cond.code yX3_shelfAt cX3_shelfAt 1 (some .int), Cond.methodLink RX2 72 yX2_firstFreeSpot, Cond.instanceMethod yX2_firstFreeSpot, Cond.selects RX2 yX2_firstFreeSpot yX2_firstFreeSpot, Cond.code yX2_firstFreeSpot cX2_firstFreeSpot 5 (some .int), Cond.static yX3_spotAt, Cond.code yX3_spotAt cX3_spotAt 3 (some .int), Cond.methodLink RX2 66 yX2_boxIn, Cond.instanceMethod yX2_boxIn, Cond.selects RX2 yX2_boxIn yX2_boxIn, Cond.code yX2_boxIn cX2_boxIn 3 (some .int), Cond.methodLink RX2 75 yX2_countKin, Cond.instanceMethod yX2_countKin, Cond.selects RX2 yX2_countKin yX2_countKin, Cond.code yX2_countKin cX2_countKin 5 (some .int)]
def wsL_bestSpot : List Cond := .codeWith yL_bestSpot cL_bestSpot 4 (some .int) [(0, 9, 12, 13), (0, 9, 15, 21)] :: ((wsL_bestSpot_r1 ++ (wsL_bestSpot_r2 ++ wsL_bestSpot_r3)) ++ wsX30 ++ wsX20 ++ (vx_atS RX3 222 "java/lang/IndexOutOfBoundsException" ["java/lang/RuntimeException", "java/lang/Exception"]).filter goodWord ++ (vx_atS RX3 69 "java/lang/IllegalStateException" ["java/lang/RuntimeException", "java/lang/Exception"]).filter goodWord)
def wsL_lay_r1 : List Cond := [Cond.classLink RL 13 "java/lang/IndexOutOfBoundsException", Cond.classLink RL 21 "java/lang/IllegalStateException", Cond.methodLink RL 27 yX3_lay, Cond.instanceMethod yX3_lay, Cond.selects RX3 yX3_lay yX3_lay, Cond.initialized RX3, Cond.code yX3_lay cX3_lay 3 (some .int), Cond.classLink RX3 65 "java/lang/IllegalStateException", Cond.initialized "java/lang/IllegalStateException", Cond.fieldLink RX3 12 "Rackrail" "store" "LRackrail$Store;", Cond.methodLink RX3 74 yX3_requireBox, Cond.instanceMethod yX3_requireBox, Cond.selects RX3 yX3_requireBox yX3_requireBox, Cond.code yX3_requireBox cX3_requireBox 2 none, Cond.classLink RX3 218 "java/lang/IndexOutOfBoundsException", Cond.initialized "java/lang/IndexOutOfBoundsException", Cond.methodLink RX3 232 yX2_has, Cond.instanceMethod yX2_has, Cond.selects RX2 yX2_has yX2_has, Cond.initialized RX2, Cond.code yX2_has cX2_has 2 (some .boolean), Cond.fieldLink RX2 27 "Rackrail$Store" "count" "I", Cond.static yX3_isBelow, Cond.code yX3_isBelow cX3_isBelow 2 (some .boolean)]
def wsL_lay_r2 : List Cond := [Cond.methodLink RX3 77 yX3_requireOut, Cond.instanceMethod yX3_requireOut, Cond.selects RX3 yX3_requireOut yX3_requireOut, Cond.code yX3_requireOut cX3_requireOut 2 none, Cond.methodLink RX3 88 yX2_whereIs, Cond.instanceMethod yX2_whereIs, Cond.selects RX2 yX2_whereIs yX2_whereIs, Cond.code yX2_whereIs cX2_whereIs 2 (some .int), Cond.fieldLink RX2 24 "Rackrail$Store" "spots" "[I", Cond.methodLink RX2 39 yX2_has, Cond.methodLink RX3 80 yX2_bestSpotFor, Cond.instanceMethod yX2_bestSpotFor, Cond.selects RX2 yX2_bestSpotFor yX2_bestSpotFor, Cond.code yX2_bestSpotFor cX2_bestSpotFor 8 (some .int), Cond.fieldLink RX2 9 "Rackrail$Store" "shelfClimates" "[I", Cond.fieldLink RX2 15 "Rackrail$Store" "climates" "[I", Cond.fieldLink RX2 18 "Rackrail$Store" "weights" "[I", Cond.fieldLink RX2 21 "Rackrail$Store" "kins" "[I", Cond.methodLink RX2 69 yX2_weightOn, Cond.instanceMethod yX2_weightOn, Cond.selects RX2 yX2_weightOn yX2_weightOn, Cond.code yX2_weightOn cX2_weightOn 4 (some .int), Cond.methodLink RX2 53 yX2_liesOn, Cond.instanceMethod yX2_liesOn]
def wsL_lay_r3 : List Cond := [Cond.selects RX2 yX2_liesOn yX2_liesOn, Cond.code yX2_liesOn cX2_liesOn 4 (some .boolean), Cond.methodLink RX2 43 yX2_whereIs, Cond.static yX3_shelfAt, Cond.code yX3_shelfAt cX3_shelfAt 1 (some .int), Cond.methodLink RX2 72 yX2_firstFreeSpot, Cond.instanceMethod yX2_firstFreeSpot, Cond.selects RX2 yX2_firstFreeSpot yX2_firstFreeSpot, Cond.code yX2_firstFreeSpot cX2_firstFreeSpot 5 (some .int), Cond.static yX3_spotAt, Cond.code yX3_spotAt cX3_spotAt 3 (some .int), Cond.methodLink RX2 66 yX2_boxIn, Cond.instanceMethod yX2_boxIn, Cond.selects RX2 yX2_boxIn yX2_boxIn, Cond.code yX2_boxIn cX2_boxIn 3 (some .int), Cond.methodLink RX2 75 yX2_countKin, Cond.instanceMethod yX2_countKin, Cond.selects RX2 yX2_countKin yX2_countKin, Cond.code yX2_countKin cX2_countKin 5 (some .int), Cond.methodLink RX3 85 yX2_put, Cond.instanceMethod yX2_put, Cond.selects RX2 yX2_put yX2_put, Cond.code yX2_put cX2_put 3 none]
def wsL_lay : List Cond := .codeWith yL_lay cL_lay 4 (some .int) [(0, 9, 12, 13), (0, 9, 15, 21)] :: ((wsL_lay_r1 ++ (wsL_lay_r2 ++ wsL_lay_r3)) ++ wsX30 ++ wsX20 ++ (vx_atS RX3 69 "java/lang/IllegalStateException" ["java/lang/RuntimeException", "java/lang/Exception"]).filter goodWord ++ (vx_atS RX3 222 "java/lang/IndexOutOfBoundsException" ["java/lang/RuntimeException", "java/lang/Exception"]).filter goodWord)
def wsL_spotOf_r1 : List Cond := [Cond.classLink RL 13 "java/lang/IndexOutOfBoundsException", Cond.methodLink RL 30 yX3_spotOf, Cond.instanceMethod yX3_spotOf, Cond.selects RX3 yX3_spotOf yX3_spotOf, Cond.initialized RX3, Cond.code yX3_spotOf cX3_spotOf 2 (some .int), Cond.fieldLink RX3 12 "Rackrail" "store" "LRackrail$Store;", Cond.methodLink RX3 74 yX3_requireBox, Cond.instanceMethod yX3_requireBox, Cond.selects RX3 yX3_requireBox yX3_requireBox, Cond.code yX3_requireBox cX3_requireBox 2 none, Cond.classLink RX3 218 "java/lang/IndexOutOfBoundsException", Cond.initialized "java/lang/IndexOutOfBoundsException", Cond.methodLink RX3 232 yX2_has, Cond.instanceMethod yX2_has, Cond.selects RX2 yX2_has yX2_has, Cond.initialized RX2, Cond.code yX2_has cX2_has 2 (some .boolean), Cond.fieldLink RX2 27 "Rackrail$Store" "count" "I", Cond.static yX3_isBelow, Cond.code yX3_isBelow cX3_isBelow 2 (some .boolean), Cond.methodLink RX3 88 yX2_whereIs, Cond.instanceMethod yX2_whereIs, Cond.selects RX2 yX2_whereIs yX2_whereIs]
def wsL_spotOf_r2 : List Cond := [Cond.code yX2_whereIs cX2_whereIs 2 (some .int), Cond.fieldLink RX2 24 "Rackrail$Store" "spots" "[I", Cond.methodLink RX2 39 yX2_has]
def wsL_spotOf : List Cond := .codeWith yL_spotOf cL_spotOf 4 (some .int) [(0, 9, 12, 13)] :: ((wsL_spotOf_r1 ++ wsL_spotOf_r2) ++ wsX30 ++ wsX20 ++ (vx_atS RX3 222 "java/lang/IndexOutOfBoundsException" ["java/lang/RuntimeException", "java/lang/Exception"]).filter goodWord)
def wsL_boxAt_r1 : List Cond := [Cond.classLink RL 13 "java/lang/IndexOutOfBoundsException", Cond.methodLink RL 33 yX3_boxAt, Cond.instanceMethod yX3_boxAt, Cond.selects RX3 yX3_boxAt yX3_boxAt, Cond.initialized RX3, Cond.code yX3_boxAt cX3_boxAt 2 (some .int), Cond.fieldLink RX3 12 "Rackrail" "store" "LRackrail$Store;", Cond.methodLink RX3 91 yX3_requireSpot, Cond.instanceMethod yX3_requireSpot, Cond.selects RX3 yX3_requireSpot yX3_requireSpot, Cond.code yX3_requireSpot cX3_requireSpot 2 none, Cond.classLink RX3 218 "java/lang/IndexOutOfBoundsException", Cond.initialized "java/lang/IndexOutOfBoundsException", Cond.methodLink RX3 225 yX3_isSpot, Cond.static yX3_isSpot, Cond.code yX3_isSpot cX3_isSpot 1 (some .boolean), Cond.methodLink RX3 241 yX3_shelfAt, Cond.static yX3_shelfAt, Cond.code yX3_shelfAt cX3_shelfAt 1 (some .int), Cond.methodLink RX3 244 yX3_sideAt, Cond.static yX3_sideAt, Cond.code yX3_sideAt cX3_sideAt 1 (some .int), Cond.methodLink RX3 247 yX3_placeAt, Cond.static yX3_placeAt]
def wsL_boxAt_r2 : List Cond := [Cond.code yX3_placeAt cX3_placeAt 1 (some .int), Cond.methodLink RX3 94 yX2_boxIn, Cond.instanceMethod yX2_boxIn, Cond.selects RX2 yX2_boxIn yX2_boxIn, Cond.initialized RX2, Cond.code yX2_boxIn cX2_boxIn 3 (some .int), Cond.fieldLink RX2 27 "Rackrail$Store" "count" "I", Cond.fieldLink RX2 24 "Rackrail$Store" "spots" "[I"]
def wsL_boxAt : List Cond := .codeWith yL_boxAt cL_boxAt 4 (some .int) [(0, 9, 12, 13)] :: ((wsL_boxAt_r1 ++ wsL_boxAt_r2) ++ wsX30 ++ wsX20 ++ (vx_atS RX3 222 "java/lang/IndexOutOfBoundsException" ["java/lang/RuntimeException", "java/lang/Exception"]).filter goodWord)
def wsL_weight_r1 : List Cond := [Cond.classLink RL 13 "java/lang/IndexOutOfBoundsException", Cond.methodLink RL 36 yX3_weight, Cond.instanceMethod yX3_weight, Cond.selects RX3 yX3_weight yX3_weight, Cond.initialized RX3, Cond.code yX3_weight cX3_weight 2 (some .int), Cond.fieldLink RX3 12 "Rackrail" "store" "LRackrail$Store;", Cond.methodLink RX3 34 yX3_requireShelf, Cond.instanceMethod yX3_requireShelf, Cond.selects RX3 yX3_requireShelf yX3_requireShelf, Cond.code yX3_requireShelf cX3_requireShelf 2 none, Cond.classLink RX3 218 "java/lang/IndexOutOfBoundsException", Cond.initialized "java/lang/IndexOutOfBoundsException", Cond.methodLink RX3 38 yX3_isBelow, Cond.static yX3_isBelow, Cond.code yX3_isBelow cX3_isBelow 2 (some .boolean), Cond.methodLink RX3 97 yX2_weightOn, Cond.instanceMethod yX2_weightOn, Cond.selects RX2 yX2_weightOn yX2_weightOn, Cond.initialized RX2, Cond.code yX2_weightOn cX2_weightOn 4 (some .int), Cond.fieldLink RX2 27 "Rackrail$Store" "count" "I", Cond.fieldLink RX2 18 "Rackrail$Store" "weights" "[I", Cond.methodLink RX2 53 yX2_liesOn]
def wsL_weight_r2 : List Cond := [Cond.instanceMethod yX2_liesOn, Cond.selects RX2 yX2_liesOn yX2_liesOn, Cond.code yX2_liesOn cX2_liesOn 4 (some .boolean), Cond.methodLink RX2 43 yX2_whereIs, Cond.instanceMethod yX2_whereIs, Cond.selects RX2 yX2_whereIs yX2_whereIs, Cond.code yX2_whereIs cX2_whereIs 2 (some .int), Cond.fieldLink RX2 24 "Rackrail$Store" "spots" "[I", Cond.methodLink RX2 39 yX2_has, Cond.instanceMethod yX2_has, Cond.selects RX2 yX2_has yX2_has, Cond.code yX2_has cX2_has 2 (some .boolean), Cond.static yX3_shelfAt, Cond.code yX3_shelfAt cX3_shelfAt 1 (some .int)]
def wsL_weight : List Cond := .codeWith yL_weight cL_weight 4 (some .int) [(0, 9, 12, 13)] :: ((wsL_weight_r1 ++ wsL_weight_r2) ++ wsX30 ++ wsX20 ++ (vx_atS RX3 222 "java/lang/IndexOutOfBoundsException" ["java/lang/RuntimeException", "java/lang/Exception"]).filter goodWord)
def wsL_open_r1 : List Cond := [Cond.classLink RL 13 "java/lang/IndexOutOfBoundsException", Cond.classLink RL 21 "java/lang/IllegalStateException", Cond.methodLink RL 39 yX3_open, Cond.instanceMethod yX3_open, Cond.selects RX3 yX3_open yX3_open, Cond.initialized RX3, Cond.code yX3_open cX3_open 2 (some .int), Cond.classLink RX3 65 "java/lang/IllegalStateException", Cond.initialized "java/lang/IllegalStateException", Cond.fieldLink RX3 19 "Rackrail" "rail" "LRackrail$Rail;", Cond.methodLink RX3 104 yX3_requireAisle, Cond.instanceMethod yX3_requireAisle, Cond.selects RX3 yX3_requireAisle yX3_requireAisle, Cond.code yX3_requireAisle cX3_requireAisle 2 none, Cond.classLink RX3 218 "java/lang/IndexOutOfBoundsException", Cond.initialized "java/lang/IndexOutOfBoundsException", Cond.methodLink RX3 38 yX3_isBelow, Cond.static yX3_isBelow, Cond.code yX3_isBelow cX3_isBelow 2 (some .boolean), Cond.methodLink RX3 107 yX1_mayOpen, Cond.instanceMethod yX1_mayOpen, Cond.selects RX1 yX1_mayOpen yX1_mayOpen, Cond.initialized RX1, Cond.code yX1_mayOpen cX1_mayOpen 2 (some .boolean)]
def wsL_open_r2 : List Cond := [Cond.fieldLink RX1 29 "Rackrail$Rail" "stalled" "Z", Cond.fieldLink RX1 33 "Rackrail$Rail" "smoky" "Z", Cond.methodLink RX1 36 yX1_openAisle, Cond.instanceMethod yX1_openAisle, Cond.selects RX1 yX1_openAisle yX1_openAisle, Cond.code yX1_openAisle cX1_openAisle 1 (some .int), Cond.fieldLink RX1 22 "Rackrail$Rail" "gap" "I", Cond.fieldLink RX1 26 "Rackrail$Rail" "target" "I", Cond.methodLink RX1 40 yX1_countInside, Cond.instanceMethod yX1_countInside, Cond.selects RX1 yX1_countInside yX1_countInside, Cond.code yX1_countInside cX1_countInside 3 (some .int), Cond.fieldLink RX1 15 "Rackrail$Rail" "inside" "[Z", Cond.methodLink RX1 43 yX1_hasDoubt, Cond.instanceMethod yX1_hasDoubt, Cond.selects RX1 yX1_hasDoubt yX1_hasDoubt, Cond.code yX1_hasDoubt cX1_hasDoubt 2 (some .boolean), Cond.fieldLink RX1 9 "Rackrail$Rail" "doubts" "[Z", Cond.methodLink RX3 112 yX1_aimAt, Cond.instanceMethod yX1_aimAt, Cond.selects RX1 yX1_aimAt yX1_aimAt, Cond.code yX1_aimAt cX1_aimAt 2 none, Cond.methodLink RX3 115 yX1_movesToCome, Cond.instanceMethod yX1_movesToCome]
def wsL_open_r3 : List Cond := [Cond.selects RX1 yX1_movesToCome yX1_movesToCome, Cond.code yX1_movesToCome cX1_movesToCome 1 (some .int), Cond.methodLink RX1 47 Lib.Math.abs.name, Cond.static Lib.Math.abs.name, Cond.initialized "java/lang/Math", Cond.code Lib.Math.abs.name Lib.Math.abs.code 1 (some .int)]
def wsL_open : List Cond := .codeWith yL_open cL_open 4 (some .int) [(0, 9, 12, 13), (0, 9, 15, 21)] :: ((wsL_open_r1 ++ (wsL_open_r2 ++ wsL_open_r3)) ++ wsX30 ++ wsX10 ++ (vx_atS RX3 69 "java/lang/IllegalStateException" ["java/lang/RuntimeException", "java/lang/Exception"]).filter goodWord ++ (vx_atS RX3 222 "java/lang/IndexOutOfBoundsException" ["java/lang/RuntimeException", "java/lang/Exception"]).filter goodWord)
def wsL_goIn_r1 : List Cond := [Cond.classLink RL 13 "java/lang/IndexOutOfBoundsException", Cond.classLink RL 21 "java/lang/IllegalStateException", Cond.methodLink RL 42 yX3_goIn, Cond.instanceMethod yX3_goIn, Cond.selects RX3 yX3_goIn yX3_goIn, Cond.initialized RX3, Cond.code yX3_goIn cX3_goIn 2 (some .int), Cond.classLink RX3 65 "java/lang/IllegalStateException", Cond.initialized "java/lang/IllegalStateException", Cond.fieldLink RX3 19 "Rackrail" "rail" "LRackrail$Rail;", Cond.methodLink RX3 124 yX3_requirePerson, Cond.instanceMethod yX3_requirePerson, Cond.selects RX3 yX3_requirePerson yX3_requirePerson, Cond.code yX3_requirePerson cX3_requirePerson 2 none, Cond.classLink RX3 218 "java/lang/IndexOutOfBoundsException", Cond.initialized "java/lang/IndexOutOfBoundsException", Cond.methodLink RX3 38 yX3_isBelow, Cond.static yX3_isBelow, Cond.code yX3_isBelow cX3_isBelow 2 (some .boolean), Cond.methodLink RX3 127 yX1_isInside, Cond.instanceMethod yX1_isInside, Cond.selects RX1 yX1_isInside yX1_isInside, Cond.initialized RX1, Cond.code yX1_isInside cX1_isInside 2 (some .boolean)]
def wsL_goIn_r2 : List Cond := [Cond.fieldLink RX1 15 "Rackrail$Rail" "inside" "[Z", Cond.methodLink RX3 133 yX1_mayGoIn, Cond.instanceMethod yX1_mayGoIn, Cond.selects RX1 yX1_mayGoIn yX1_mayGoIn, Cond.code yX1_mayGoIn cX1_mayGoIn 1 (some .boolean), Cond.fieldLink RX1 33 "Rackrail$Rail" "smoky" "Z", Cond.methodLink RX1 36 yX1_openAisle, Cond.instanceMethod yX1_openAisle, Cond.selects RX1 yX1_openAisle yX1_openAisle, Cond.code yX1_openAisle cX1_openAisle 1 (some .int), Cond.fieldLink RX1 22 "Rackrail$Rail" "gap" "I", Cond.fieldLink RX1 26 "Rackrail$Rail" "target" "I", Cond.methodLink RX3 138 yX1_setInside, Cond.instanceMethod yX1_setInside, Cond.selects RX1 yX1_setInside yX1_setInside, Cond.code yX1_setInside cX1_setInside 3 none, Cond.methodLink RX3 142 yX1_countInside, Cond.instanceMethod yX1_countInside, Cond.selects RX1 yX1_countInside yX1_countInside, Cond.code yX1_countInside cX1_countInside 3 (some .int)]
def wsL_goIn : List Cond := .codeWith yL_goIn cL_goIn 4 (some .int) [(0, 9, 12, 13), (0, 9, 15, 21)] :: ((wsL_goIn_r1 ++ wsL_goIn_r2) ++ wsX30 ++ wsX10 ++ (vx_atS RX3 69 "java/lang/IllegalStateException" ["java/lang/RuntimeException", "java/lang/Exception"]).filter goodWord ++ (vx_atS RX3 222 "java/lang/IndexOutOfBoundsException" ["java/lang/RuntimeException", "java/lang/Exception"]).filter goodWord)
def wsL_goOut_r1 : List Cond := [Cond.classLink RL 13 "java/lang/IndexOutOfBoundsException", Cond.classLink RL 21 "java/lang/IllegalStateException", Cond.methodLink RL 45 yX3_goOut, Cond.instanceMethod yX3_goOut, Cond.selects RX3 yX3_goOut yX3_goOut, Cond.initialized RX3, Cond.code yX3_goOut cX3_goOut 2 (some .int), Cond.fieldLink RX3 19 "Rackrail" "rail" "LRackrail$Rail;", Cond.methodLink RX3 124 yX3_requirePerson, Cond.instanceMethod yX3_requirePerson, Cond.selects RX3 yX3_requirePerson yX3_requirePerson, Cond.code yX3_requirePerson cX3_requirePerson 2 none, Cond.classLink RX3 218 "java/lang/IndexOutOfBoundsException", Cond.initialized "java/lang/IndexOutOfBoundsException", Cond.methodLink RX3 38 yX3_isBelow, Cond.static yX3_isBelow, Cond.code yX3_isBelow cX3_isBelow 2 (some .boolean), Cond.methodLink RX3 145 yX3_requireInside, Cond.instanceMethod yX3_requireInside, Cond.selects RX3 yX3_requireInside yX3_requireInside, Cond.code yX3_requireInside cX3_requireInside 2 none, Cond.classLink RX3 65 "java/lang/IllegalStateException", Cond.initialized "java/lang/IllegalStateException", Cond.methodLink RX3 127 yX1_isInside]
def wsL_goOut_r2 : List Cond := [Cond.instanceMethod yX1_isInside, Cond.selects RX1 yX1_isInside yX1_isInside, Cond.initialized RX1, Cond.code yX1_isInside cX1_isInside 2 (some .boolean), Cond.fieldLink RX1 15 "Rackrail$Rail" "inside" "[Z", Cond.methodLink RX3 138 yX1_setInside, Cond.instanceMethod yX1_setInside, Cond.selects RX1 yX1_setInside yX1_setInside, Cond.code yX1_setInside cX1_setInside 3 none, Cond.methodLink RX3 142 yX1_countInside, Cond.instanceMethod yX1_countInside, Cond.selects RX1 yX1_countInside yX1_countInside, Cond.code yX1_countInside cX1_countInside 3 (some .int)]
def wsL_goOut : List Cond := .codeWith yL_goOut cL_goOut 4 (some .int) [(0, 9, 12, 13), (0, 9, 15, 21)] :: ((wsL_goOut_r1 ++ wsL_goOut_r2) ++ wsX30 ++ wsX10 ++ (vx_atS RX3 222 "java/lang/IndexOutOfBoundsException" ["java/lang/RuntimeException", "java/lang/Exception"]).filter goodWord ++ (vx_atS RX3 69 "java/lang/IllegalStateException" ["java/lang/RuntimeException", "java/lang/Exception"]).filter goodWord)
def wsL_doubt_r1 : List Cond := [Cond.classLink RL 13 "java/lang/IndexOutOfBoundsException", Cond.methodLink RL 48 yX3_doubt, Cond.instanceMethod yX3_doubt, Cond.selects RX3 yX3_doubt yX3_doubt, Cond.initialized RX3, Cond.code yX3_doubt cX3_doubt 3 (some .boolean), Cond.fieldLink RX3 19 "Rackrail" "rail" "LRackrail$Rail;", Cond.methodLink RX3 104 yX3_requireAisle, Cond.instanceMethod yX3_requireAisle, Cond.selects RX3 yX3_requireAisle yX3_requireAisle, Cond.code yX3_requireAisle cX3_requireAisle 2 none, Cond.classLink RX3 218 "java/lang/IndexOutOfBoundsException", Cond.initialized "java/lang/IndexOutOfBoundsException", Cond.methodLink RX3 38 yX3_isBelow, Cond.static yX3_isBelow, Cond.code yX3_isBelow cX3_isBelow 2 (some .boolean), Cond.methodLink RX3 148 yX1_hasDoubt, Cond.instanceMethod yX1_hasDoubt, Cond.selects RX1 yX1_hasDoubt yX1_hasDoubt, Cond.initialized RX1, Cond.code yX1_hasDoubt cX1_hasDoubt 2 (some .boolean), Cond.fieldLink RX1 9 "Rackrail$Rail" "doubts" "[Z", Cond.methodLink RX3 151 yX1_setDoubt, Cond.instanceMethod yX1_setDoubt]
def wsL_doubt_r2 : List Cond := [Cond.selects RX1 yX1_setDoubt yX1_setDoubt, Cond.code yX1_setDoubt cX1_setDoubt 3 none]
def wsL_doubt : List Cond := .codeWith yL_doubt cL_doubt 4 (some .int) [(0, 16, 19, 13)] :: ((wsL_doubt_r1 ++ wsL_doubt_r2) ++ wsX30 ++ wsX10 ++ (vx_atS RX3 222 "java/lang/IndexOutOfBoundsException" ["java/lang/RuntimeException", "java/lang/Exception"]).filter goodWord)
def wsL_look_r1 : List Cond := [Cond.classLink RL 21 "java/lang/IllegalStateException", Cond.methodLink RL 52 yX3_look, Cond.instanceMethod yX3_look, Cond.selects RX3 yX3_look yX3_look, Cond.initialized RX3, Cond.code yX3_look cX3_look 3 (some .boolean), Cond.classLink RX3 65 "java/lang/IllegalStateException", Cond.initialized "java/lang/IllegalStateException", Cond.fieldLink RX3 19 "Rackrail" "rail" "LRackrail$Rail;", Cond.methodLink RX3 118 yX1_openAisle, Cond.instanceMethod yX1_openAisle, Cond.selects RX1 yX1_openAisle yX1_openAisle, Cond.initialized RX1, Cond.code yX1_openAisle cX1_openAisle 1 (some .int), Cond.fieldLink RX1 22 "Rackrail$Rail" "gap" "I", Cond.fieldLink RX1 26 "Rackrail$Rail" "target" "I", Cond.methodLink RX3 148 yX1_hasDoubt, Cond.instanceMethod yX1_hasDoubt, Cond.selects RX1 yX1_hasDoubt yX1_hasDoubt, Cond.code yX1_hasDoubt cX1_hasDoubt 2 (some .boolean), Cond.fieldLink RX1 9 "Rackrail$Rail" "doubts" "[Z", Cond.static yX3_isBelow, Cond.code yX3_isBelow cX3_isBelow 2 (some .boolean), Cond.methodLink RX3 151 yX1_setDoubt]
def wsL_look_r2 : List Cond := [Cond.instanceMethod yX1_setDoubt, Cond.selects RX1 yX1_setDoubt yX1_setDoubt, Cond.code yX1_setDoubt cX1_setDoubt 3 none]
def wsL_look : List Cond := .codeWith yL_look cL_look 3 (some .int) [(0, 15, 18, 21)] :: ((wsL_look_r1 ++ wsL_look_r2) ++ wsX30 ++ wsX10 ++ (vx_atS RX3 69 "java/lang/IllegalStateException" ["java/lang/RuntimeException", "java/lang/Exception"]).filter goodWord)
def wsL_pass_r1 : List Cond := [Cond.classLink RL 15 "java/lang/IllegalArgumentException", Cond.classLink RL 21 "java/lang/IllegalStateException", Cond.methodLink RL 56 yX3_pass, Cond.instanceMethod yX3_pass, Cond.selects RX3 yX3_pass yX3_pass, Cond.initialized RX3, Cond.code yX3_pass cX3_pass 2 (some .int), Cond.classLink RX3 42 "java/lang/IllegalArgumentException", Cond.initialized "java/lang/IllegalArgumentException", Cond.classLink RX3 65 "java/lang/IllegalStateException", Cond.initialized "java/lang/IllegalStateException", Cond.fieldLink RX3 30 "Rackrail" "clock" "I", Cond.fieldLink RX3 19 "Rackrail" "rail" "LRackrail$Rail;", Cond.methodLink RX3 171 yX1_moveFor, Cond.instanceMethod yX1_moveFor, Cond.selects RX1 yX1_moveFor yX1_moveFor, Cond.initialized RX1, Cond.code yX1_moveFor cX1_moveFor 4 none, Cond.fieldLink RX1 29 "Rackrail$Rail" "stalled" "Z", Cond.fieldLink RX1 33 "Rackrail$Rail" "smoky" "Z", Cond.methodLink RX1 56 Lib.Math.min.name, Cond.static Lib.Math.min.name, Cond.initialized "java/lang/Math", Cond.code Lib.Math.min.name Lib.Math.min.code 2 (some .int)]
def wsL_pass_r2 : List Cond := [Cond.methodLink RX1 53 yX1_movesToCome, Cond.instanceMethod yX1_movesToCome, Cond.selects RX1 yX1_movesToCome yX1_movesToCome, Cond.code yX1_movesToCome cX1_movesToCome 1 (some .int), Cond.fieldLink RX1 26 "Rackrail$Rail" "target" "I", Cond.fieldLink RX1 22 "Rackrail$Rail" "gap" "I", Cond.methodLink RX1 47 Lib.Math.abs.name, Cond.static Lib.Math.abs.name, Cond.code Lib.Math.abs.name Lib.Math.abs.code 1 (some .int), Cond.methodLink RX1 60 yX1_moveOne, Cond.instanceMethod yX1_moveOne, Cond.selects RX1 yX1_moveOne yX1_moveOne, Cond.code yX1_moveOne cX1_moveOne 3 none, Cond.fieldLink RX1 18 "Rackrail$Rail" "moves" "[I", Cond.static yX3_isBelow, Cond.code yX3_isBelow cX3_isBelow 2 (some .boolean)]
def wsL_pass : List Cond := .codeWith yL_pass cL_pass 4 (some .int) [(0, 9, 12, 15), (0, 9, 15, 21)] :: ((wsL_pass_r1 ++ wsL_pass_r2) ++ wsX30 ++ wsX10 ++ (vx_atS RX3 46 "java/lang/IllegalArgumentException" ["java/lang/RuntimeException", "java/lang/Exception"]).filter goodWord ++ (vx_atS RX3 69 "java/lang/IllegalStateException" ["java/lang/RuntimeException", "java/lang/Exception"]).filter goodWord)
def wsL_order_r1 : List Cond := [Cond.classLink RL 13 "java/lang/IndexOutOfBoundsException", Cond.classLink RL 15 "java/lang/IllegalArgumentException", Cond.classLink RL 21 "java/lang/IllegalStateException", Cond.methodLink RL 59 yX3_order, Cond.instanceMethod yX3_order, Cond.selects RX3 yX3_order yX3_order, Cond.initialized RX3, Cond.code yX3_order cX3_order 3 (some .int), Cond.classLink RX3 42 "java/lang/IllegalArgumentException", Cond.initialized "java/lang/IllegalArgumentException", Cond.classLink RX3 65 "java/lang/IllegalStateException", Cond.initialized "java/lang/IllegalStateException", Cond.fieldLink RX3 26 "Rackrail" "orders" "LRackrail$Orders;", Cond.methodLink RX3 74 yX3_requireBox, Cond.instanceMethod yX3_requireBox, Cond.selects RX3 yX3_requireBox yX3_requireBox, Cond.code yX3_requireBox cX3_requireBox 2 none, Cond.classLink RX3 218 "java/lang/IndexOutOfBoundsException", Cond.initialized "java/lang/IndexOutOfBoundsException", Cond.fieldLink RX3 12 "Rackrail" "store" "LRackrail$Store;", Cond.methodLink RX3 232 yX2_has, Cond.instanceMethod yX2_has, Cond.selects RX2 yX2_has yX2_has, Cond.initialized RX2]
def wsL_order_r2 : List Cond := [Cond.code yX2_has cX2_has 2 (some .boolean), Cond.fieldLink RX2 27 "Rackrail$Store" "count" "I", Cond.static yX3_isBelow, Cond.code yX3_isBelow cX3_isBelow 2 (some .boolean), Cond.methodLink RX3 176 yX0_isOpenFor, Cond.instanceMethod yX0_isOpenFor, Cond.selects RX0 yX0_isOpenFor yX0_isOpenFor, Cond.initialized RX0, Cond.code yX0_isOpenFor cX0_isOpenFor 3 (some .boolean), Cond.fieldLink RX0 22 "Rackrail$Orders" "count" "I", Cond.fieldLink RX0 18 "Rackrail$Orders" "done" "[Z", Cond.fieldLink RX0 9 "Rackrail$Orders" "boxes" "[I", Cond.methodLink RX3 181 yX0_isFull, Cond.instanceMethod yX0_isFull, Cond.selects RX0 yX0_isFull yX0_isFull, Cond.code yX0_isFull cX0_isFull 1 (some .boolean), Cond.methodLink RX3 184 yX0_enter, Cond.instanceMethod yX0_enter, Cond.selects RX0 yX0_enter yX0_enter, Cond.code yX0_enter cX0_enter 4 (some .int), Cond.fieldLink RX0 15 "Rackrail$Orders" "deadlines" "[I", Cond.methodLink RX0 29 yX0_isFull]
def wsL_order : List Cond := .codeWith yL_order cL_order 5 (some .int) [(0, 10, 13, 13), (0, 10, 17, 15), (0, 10, 21, 21)] :: ((wsL_order_r1 ++ wsL_order_r2) ++ wsX30 ++ wsX20 ++ wsX00 ++ (vx_atS RX3 46 "java/lang/IllegalArgumentException" ["java/lang/RuntimeException", "java/lang/Exception"]).filter goodWord ++ (vx_atS RX3 69 "java/lang/IllegalStateException" ["java/lang/RuntimeException", "java/lang/Exception"]).filter goodWord ++ (vx_atS RX3 222 "java/lang/IndexOutOfBoundsException" ["java/lang/RuntimeException", "java/lang/Exception"]).filter goodWord)
def wsL_fetch_r1 : List Cond := [Cond.classLink RL 13 "java/lang/IndexOutOfBoundsException", Cond.classLink RL 21 "java/lang/IllegalStateException", Cond.methodLink RL 62 yX3_fetch, Cond.instanceMethod yX3_fetch, Cond.selects RX3 yX3_fetch yX3_fetch, Cond.initialized RX3, Cond.code yX3_fetch cX3_fetch 3 (some .int), Cond.classLink RX3 65 "java/lang/IllegalStateException", Cond.initialized "java/lang/IllegalStateException", Cond.fieldLink RX3 26 "Rackrail" "orders" "LRackrail$Orders;", Cond.fieldLink RX3 12 "Rackrail" "store" "LRackrail$Store;", Cond.fieldLink RX3 19 "Rackrail" "rail" "LRackrail$Rail;", Cond.fieldLink RX3 30 "Rackrail" "clock" "I", Cond.methodLink RX3 124 yX3_requirePerson, Cond.instanceMethod yX3_requirePerson, Cond.selects RX3 yX3_requirePerson yX3_requirePerson, Cond.code yX3_requirePerson cX3_requirePerson 2 none, Cond.classLink RX3 218 "java/lang/IndexOutOfBoundsException", Cond.initialized "java/lang/IndexOutOfBoundsException", Cond.methodLink RX3 38 yX3_isBelow, Cond.static yX3_isBelow, Cond.code yX3_isBelow cX3_isBelow 2 (some .boolean), Cond.methodLink RX3 145 yX3_requireInside, Cond.instanceMethod yX3_requireInside]
def wsL_fetch_r2 : List Cond := [Cond.selects RX3 yX3_requireInside yX3_requireInside, Cond.code yX3_requireInside cX3_requireInside 2 none, Cond.methodLink RX3 127 yX1_isInside, Cond.instanceMethod yX1_isInside, Cond.selects RX1 yX1_isInside yX1_isInside, Cond.initialized RX1, Cond.code yX1_isInside cX1_isInside 2 (some .boolean), Cond.fieldLink RX1 15 "Rackrail$Rail" "inside" "[Z", Cond.methodLink RX3 118 yX1_openAisle, Cond.instanceMethod yX1_openAisle, Cond.selects RX1 yX1_openAisle yX1_openAisle, Cond.code yX1_openAisle cX1_openAisle 1 (some .int), Cond.fieldLink RX1 22 "Rackrail$Rail" "gap" "I", Cond.fieldLink RX1 26 "Rackrail$Rail" "target" "I", Cond.methodLink RX3 187 yX0_earliest, Cond.instanceMethod yX0_earliest, Cond.selects RX0 yX0_earliest yX0_earliest, Cond.initialized RX0, Cond.code yX0_earliest cX0_earliest 8 (some .int), Cond.fieldLink RX0 22 "Rackrail$Orders" "count" "I", Cond.fieldLink RX0 9 "Rackrail$Orders" "boxes" "[I", Cond.fieldLink RX0 18 "Rackrail$Orders" "done" "[Z", Cond.fieldLink RX0 15 "Rackrail$Orders" "deadlines" "[I", Cond.methodLink RX0 37 yX2_aisleOfBox]
def wsL_fetch_r3 : List Cond := [Cond.instanceMethod yX2_aisleOfBox, Cond.selects RX2 yX2_aisleOfBox yX2_aisleOfBox, Cond.initialized RX2, Cond.code yX2_aisleOfBox cX2_aisleOfBox 3 (some .int), Cond.methodLink RX2 43 yX2_whereIs, Cond.instanceMethod yX2_whereIs, Cond.selects RX2 yX2_whereIs yX2_whereIs, Cond.code yX2_whereIs cX2_whereIs 2 (some .int), Cond.fieldLink RX2 24 "Rackrail$Store" "spots" "[I", Cond.methodLink RX2 39 yX2_has, Cond.instanceMethod yX2_has, Cond.selects RX2 yX2_has yX2_has, Cond.code yX2_has cX2_has 2 (some .boolean), Cond.fieldLink RX2 27 "Rackrail$Store" "count" "I", Cond.static yX3_aisleAt, Cond.code yX3_aisleAt cX3_aisleAt 1 (some .int), Cond.methodLink RX3 241 yX3_shelfAt, Cond.static yX3_shelfAt, Cond.code yX3_shelfAt cX3_shelfAt 1 (some .int), Cond.methodLink RX3 244 yX3_sideAt, Cond.static yX3_sideAt, Cond.code yX3_sideAt cX3_sideAt 1 (some .int), Cond.methodLink RX3 199 yX0_finish, Cond.instanceMethod yX0_finish]
def wsL_fetch_r4 : List Cond := [Cond.selects RX0 yX0_finish yX0_finish, Cond.code yX0_finish cX0_finish 3 none, Cond.fieldLink RX0 26 "Rackrail$Orders" "lateCount" "I", Cond.methodLink RX3 191 yX0_boxOf, Cond.instanceMethod yX0_boxOf, Cond.selects RX0 yX0_boxOf yX0_boxOf, Cond.code yX0_boxOf cX0_boxOf 2 (some .int), Cond.methodLink RX3 85 yX2_put, Cond.instanceMethod yX2_put, Cond.selects RX2 yX2_put yX2_put, Cond.code yX2_put cX2_put 3 none]
def wsL_fetch : List Cond := .codeWith yL_fetch cL_fetch 4 (some .int) [(0, 9, 12, 13), (0, 9, 15, 21)] :: ((wsL_fetch_r1 ++ (wsL_fetch_r2 ++ (wsL_fetch_r3 ++ wsL_fetch_r4))) ++ wsX30 ++ wsX10 ++ wsX00 ++ wsX20 ++ (vx_atS RX3 69 "java/lang/IllegalStateException" ["java/lang/RuntimeException", "java/lang/Exception"]).filter goodWord ++ (vx_atS RX3 222 "java/lang/IndexOutOfBoundsException" ["java/lang/RuntimeException", "java/lang/Exception"]).filter goodWord)
def wsL_giveBack_r1 : List Cond := [Cond.classLink RL 13 "java/lang/IndexOutOfBoundsException", Cond.classLink RL 21 "java/lang/IllegalStateException", Cond.methodLink RL 65 yX3_giveBack, Cond.instanceMethod yX3_giveBack, Cond.selects RX3 yX3_giveBack yX3_giveBack, Cond.initialized RX3, Cond.code yX3_giveBack cX3_giveBack 4 (some .boolean), Cond.classLink RX3 65 "java/lang/IllegalStateException", Cond.initialized "java/lang/IllegalStateException", Cond.fieldLink RX3 19 "Rackrail" "rail" "LRackrail$Rail;", Cond.fieldLink RX3 12 "Rackrail" "store" "LRackrail$Store;", Cond.methodLink RX3 124 yX3_requirePerson, Cond.instanceMethod yX3_requirePerson, Cond.selects RX3 yX3_requirePerson yX3_requirePerson, Cond.code yX3_requirePerson cX3_requirePerson 2 none, Cond.classLink RX3 218 "java/lang/IndexOutOfBoundsException", Cond.initialized "java/lang/IndexOutOfBoundsException", Cond.methodLink RX3 38 yX3_isBelow, Cond.static yX3_isBelow, Cond.code yX3_isBelow cX3_isBelow 2 (some .boolean), Cond.methodLink RX3 74 yX3_requireBox, Cond.instanceMethod yX3_requireBox, Cond.selects RX3 yX3_requireBox yX3_requireBox, Cond.code yX3_requireBox cX3_requireBox 2 none]
def wsL_giveBack_r2 : List Cond := [Cond.methodLink RX3 232 yX2_has, Cond.instanceMethod yX2_has, Cond.selects RX2 yX2_has yX2_has, Cond.initialized RX2, Cond.code yX2_has cX2_has 2 (some .boolean), Cond.fieldLink RX2 27 "Rackrail$Store" "count" "I", Cond.methodLink RX3 91 yX3_requireSpot, Cond.instanceMethod yX3_requireSpot, Cond.selects RX3 yX3_requireSpot yX3_requireSpot, Cond.code yX3_requireSpot cX3_requireSpot 2 none, Cond.methodLink RX3 225 yX3_isSpot, Cond.static yX3_isSpot, Cond.code yX3_isSpot cX3_isSpot 1 (some .boolean), Cond.methodLink RX3 241 yX3_shelfAt, Cond.static yX3_shelfAt, Cond.code yX3_shelfAt cX3_shelfAt 1 (some .int), Cond.methodLink RX3 244 yX3_sideAt, Cond.static yX3_sideAt, Cond.code yX3_sideAt cX3_sideAt 1 (some .int), Cond.methodLink RX3 247 yX3_placeAt, Cond.static yX3_placeAt, Cond.code yX3_placeAt cX3_placeAt 1 (some .int), Cond.methodLink RX3 145 yX3_requireInside, Cond.instanceMethod yX3_requireInside]
def wsL_giveBack_r3 : List Cond := [Cond.selects RX3 yX3_requireInside yX3_requireInside, Cond.code yX3_requireInside cX3_requireInside 2 none, Cond.methodLink RX3 127 yX1_isInside, Cond.instanceMethod yX1_isInside, Cond.selects RX1 yX1_isInside yX1_isInside, Cond.initialized RX1, Cond.code yX1_isInside cX1_isInside 2 (some .boolean), Cond.fieldLink RX1 15 "Rackrail$Rail" "inside" "[Z", Cond.methodLink RX3 77 yX3_requireOut, Cond.instanceMethod yX3_requireOut, Cond.selects RX3 yX3_requireOut yX3_requireOut, Cond.code yX3_requireOut cX3_requireOut 2 none, Cond.methodLink RX3 88 yX2_whereIs, Cond.instanceMethod yX2_whereIs, Cond.selects RX2 yX2_whereIs yX2_whereIs, Cond.code yX2_whereIs cX2_whereIs 2 (some .int), Cond.fieldLink RX2 24 "Rackrail$Store" "spots" "[I", Cond.methodLink RX2 39 yX2_has, Cond.methodLink RX3 202 yX3_aisleAt, Cond.static yX3_aisleAt, Cond.code yX3_aisleAt cX3_aisleAt 1 (some .int), Cond.methodLink RX3 118 yX1_openAisle, Cond.instanceMethod yX1_openAisle, Cond.selects RX1 yX1_openAisle yX1_openAisle]
def wsL_giveBack_r4 : List Cond := [Cond.code yX1_openAisle cX1_openAisle 1 (some .int), Cond.fieldLink RX1 22 "Rackrail$Rail" "gap" "I", Cond.fieldLink RX1 26 "Rackrail$Rail" "target" "I", Cond.methodLink RX3 94 yX2_boxIn, Cond.instanceMethod yX2_boxIn, Cond.selects RX2 yX2_boxIn yX2_boxIn, Cond.code yX2_boxIn cX2_boxIn 3 (some .int), Cond.methodLink RX3 85 yX2_put, Cond.instanceMethod yX2_put, Cond.selects RX2 yX2_put yX2_put, Cond.code yX2_put cX2_put 3 none, Cond.methodLink RX3 209 yX2_isWrong, Cond.instanceMethod yX2_isWrong, Cond.selects RX2 yX2_isWrong yX2_isWrong, Cond.code yX2_isWrong cX2_isWrong 3 (some .boolean), Cond.fieldLink RX2 15 "Rackrail$Store" "climates" "[I", Cond.methodLink RX2 43 yX2_whereIs, Cond.methodLink RX2 56 yX2_climateOf, Cond.instanceMethod yX2_climateOf, Cond.selects RX2 yX2_climateOf yX2_climateOf, Cond.code yX2_climateOf cX2_climateOf 2 (some .int), Cond.fieldLink RX2 9 "Rackrail$Store" "shelfClimates" "[I"]
def wsL_giveBack : List Cond := .codeWith yL_giveBack cL_giveBack 6 (some .int) [(0, 19, 22, 13), (0, 19, 26, 21)] :: ((wsL_giveBack_r1 ++ (wsL_giveBack_r2 ++ (wsL_giveBack_r3 ++ wsL_giveBack_r4))) ++ wsX30 ++ wsX20 ++ wsX10 ++ (vx_atS RX3 69 "java/lang/IllegalStateException" ["java/lang/RuntimeException", "java/lang/Exception"]).filter goodWord ++ (vx_atS RX3 222 "java/lang/IndexOutOfBoundsException" ["java/lang/RuntimeException", "java/lang/Exception"]).filter goodWord)
def wsL_law0_r1 : List Cond := [Cond.classLink RL 8 RX3, Cond.instantiable RX3 4, Cond.initialized RX3, Cond.classLink RL 70 RX4, Cond.instantiable RX4 19, Cond.initialized RX4, Cond.arrayClass .long, Cond.methodLink RL 69 yX3_init, Cond.instanceMethod yX3_init, Cond.code yX3_init cX3_init 1 none, Cond.methodLink RX3 3 objectInit, Cond.instanceMethod objectInit, Cond.code objectInit ⟨#[0xb1]⟩ 1 none, Cond.classLink RX3 9 RX2, Cond.instantiable RX2 6, Cond.initialized RX2, Cond.fieldLink RX3 12 "Rackrail" "store" "LRackrail$Store;", Cond.classLink RX3 16 RX1, Cond.instantiable RX1 7, Cond.initialized RX1, Cond.fieldLink RX3 19 "Rackrail" "rail" "LRackrail$Rail;", Cond.classLink RX3 23 RX0, Cond.instantiable RX0 5, Cond.initialized RX0]
def wsL_law0_r2 : List Cond := [Cond.fieldLink RX3 26 "Rackrail" "orders" "LRackrail$Orders;", Cond.fieldLink RX3 30 "Rackrail" "clock" "I", Cond.instanceMethod yX2_init, Cond.code yX2_init cX2_init 1 none, Cond.methodLink RX2 3 objectInit, Cond.arrayClass .int, Cond.fieldLink RX2 9 "Rackrail$Store" "shelfClimates" "[I", Cond.fieldLink RX2 15 "Rackrail$Store" "climates" "[I", Cond.fieldLink RX2 18 "Rackrail$Store" "weights" "[I", Cond.fieldLink RX2 21 "Rackrail$Store" "kins" "[I", Cond.fieldLink RX2 24 "Rackrail$Store" "spots" "[I", Cond.fieldLink RX2 27 "Rackrail$Store" "count" "I", Cond.instanceMethod yX1_init, Cond.code yX1_init cX1_init 1 none, Cond.methodLink RX1 3 objectInit, Cond.arrayClass .boolean, Cond.fieldLink RX1 9 "Rackrail$Rail" "doubts" "[Z", Cond.fieldLink RX1 15 "Rackrail$Rail" "inside" "[Z", Cond.fieldLink RX1 18 "Rackrail$Rail" "moves" "[I", Cond.fieldLink RX1 22 "Rackrail$Rail" "gap" "I", Cond.fieldLink RX1 26 "Rackrail$Rail" "target" "I", Cond.fieldLink RX1 29 "Rackrail$Rail" "stalled" "Z", Cond.fieldLink RX1 33 "Rackrail$Rail" "smoky" "Z", Cond.instanceMethod yX0_init]
def wsL_law0_r3 : List Cond := [Cond.code yX0_init cX0_init 1 none, Cond.methodLink RX0 3 objectInit, Cond.fieldLink RX0 9 "Rackrail$Orders" "boxes" "[I", Cond.fieldLink RX0 15 "Rackrail$Orders" "deadlines" "[I", Cond.fieldLink RX0 18 "Rackrail$Orders" "done" "[Z", Cond.fieldLink RX0 22 "Rackrail$Orders" "count" "I", Cond.fieldLink RX0 26 "Rackrail$Orders" "lateCount" "I", Cond.methodLink RL 72 yX4_init, Cond.instanceMethod yX4_init, Cond.code yX4_init cX4_init 1 none, Cond.methodLink RX4 1 objectInit, Cond.fieldLink RX4 7 "RackrailModel" "climates" "[I", Cond.fieldLink RX4 13 "RackrailModel" "boxClimates" "[I", Cond.fieldLink RX4 16 "RackrailModel" "weights" "[I", Cond.fieldLink RX4 19 "RackrailModel" "kins" "[I", Cond.fieldLink RX4 22 "RackrailModel" "lies" "[I", Cond.fieldLink RX4 25 "RackrailModel" "doubts" "[Z", Cond.fieldLink RX4 29 "RackrailModel" "isInside" "[Z", Cond.fieldLink RX4 32 "RackrailModel" "orderBoxes" "[I", Cond.fieldLink RX4 35 "RackrailModel" "deadlines" "[I", Cond.fieldLink RX4 38 "RackrailModel" "isDone" "[Z", Cond.fieldLink RX4 41 "RackrailModel" "thrown" "I", Cond.methodLink RL 73 yL_setClimate, Cond.static yL_setClimate]
def wsL_law0_r4 : List Cond := [Cond.initialized RL, Cond.codeWith yL_setClimate cL_setClimate 5 (some .int) [(0, 10, 13, 13), (0, 10, 17, 15)], Cond.classLink RL 13 "java/lang/IndexOutOfBoundsException", Cond.classLink RL 15 "java/lang/IllegalArgumentException", Cond.methodLink RL 7 yX3_setClimate, Cond.instanceMethod yX3_setClimate, Cond.selects RX3 yX3_setClimate yX3_setClimate, Cond.code yX3_setClimate cX3_setClimate 4 (some .int), Cond.classLink RX3 42 "java/lang/IllegalArgumentException", Cond.initialized "java/lang/IllegalArgumentException", Cond.methodLink RX3 34 yX3_requireShelf, Cond.instanceMethod yX3_requireShelf, Cond.selects RX3 yX3_requireShelf yX3_requireShelf, Cond.code yX3_requireShelf cX3_requireShelf 2 none, Cond.classLink RX3 218 "java/lang/IndexOutOfBoundsException", Cond.initialized "java/lang/IndexOutOfBoundsException", Cond.methodLink RX3 38 yX3_isBelow, Cond.static yX3_isBelow, Cond.code yX3_isBelow cX3_isBelow 2 (some .boolean), Cond.methodLink RX3 49 yX2_climateOf, Cond.instanceMethod yX2_climateOf, Cond.selects RX2 yX2_climateOf yX2_climateOf, Cond.code yX2_climateOf cX2_climateOf 2 (some .int), Cond.methodLink RX3 53 yX2_changeClimate]
def wsL_law0_r5 : List Cond := [Cond.instanceMethod yX2_changeClimate, Cond.selects RX2 yX2_changeClimate yX2_changeClimate, Cond.code yX2_changeClimate cX2_changeClimate 3 none, Cond.methodLink RL 78 yX4_setClimate, Cond.instanceMethod yX4_setClimate, Cond.selects RX4 yX4_setClimate yX4_setClimate, Cond.code yX4_setClimate cX4_setClimate 4 (some .int), Cond.methodLink RX4 52 yX4_isShelf, Cond.static yX4_isShelf, Cond.code yX4_isShelf cX4_isShelf 1 (some .boolean), Cond.methodLink RX4 45 yX4_in, Cond.static yX4_in, Cond.code yX4_in cX4_in 3 (some .boolean), Cond.methodLink RL 79 yX4_thrown, Cond.instanceMethod yX4_thrown, Cond.selects RX4 yX4_thrown yX4_thrown, Cond.code yX4_thrown cX4_thrown 1 (some .int), Cond.methodLink RL 83 yL_addBox, Cond.static yL_addBox, Cond.codeWith yL_addBox cL_addBox 6 (some .int) [(0, 12, 15, 15), (0, 12, 19, 21)], Cond.classLink RL 21 "java/lang/IllegalStateException", Cond.methodLink RL 17 yX3_addBox, Cond.instanceMethod yX3_addBox, Cond.selects RX3 yX3_addBox yX3_addBox]
def wsL_law0_r6 : List Cond := [Cond.code yX3_addBox cX3_addBox 4 (some .int), Cond.classLink RX3 65 "java/lang/IllegalStateException", Cond.initialized "java/lang/IllegalStateException", Cond.methodLink RX3 61 yX2_isFull, Cond.instanceMethod yX2_isFull, Cond.selects RX2 yX2_isFull yX2_isFull, Cond.code yX2_isFull cX2_isFull 1 (some .boolean), Cond.methodLink RX3 70 yX2_enter, Cond.instanceMethod yX2_enter, Cond.selects RX2 yX2_enter yX2_enter, Cond.code yX2_enter cX2_enter 5 (some .int), Cond.methodLink RX2 35 yX2_isFull, Cond.methodLink RL 86 yX4_addBox, Cond.instanceMethod yX4_addBox, Cond.selects RX4 yX4_addBox yX4_addBox, Cond.code yX4_addBox cX4_addBox 5 (some .int), Cond.fieldLink RX4 49 "RackrailModel" "boxMany" "I", Cond.methodLink RL 87 yL_bestSpot, Cond.static yL_bestSpot, Cond.codeWith yL_bestSpot cL_bestSpot 4 (some .int) [(0, 9, 12, 13), (0, 9, 15, 21)], Cond.methodLink RL 23 yX3_bestSpot, Cond.instanceMethod yX3_bestSpot, Cond.selects RX3 yX3_bestSpot yX3_bestSpot, Cond.code yX3_bestSpot cX3_bestSpot 2 (some .int)]
def wsL_law0_r7 : List Cond := [Cond.methodLink RX3 74 yX3_requireBox, Cond.instanceMethod yX3_requireBox, Cond.selects RX3 yX3_requireBox yX3_requireBox, Cond.code yX3_requireBox cX3_requireBox 2 none, Cond.methodLink RX3 232 yX2_has, Cond.instanceMethod yX2_has, Cond.selects RX2 yX2_has yX2_has, Cond.code yX2_has cX2_has 2 (some .boolean), Cond.methodLink RX3 77 yX3_requireOut, Cond.instanceMethod yX3_requireOut, Cond.selects RX3 yX3_requireOut yX3_requireOut, Cond.code yX3_requireOut cX3_requireOut 2 none, Cond.methodLink RX3 88 yX2_whereIs, Cond.instanceMethod yX2_whereIs, Cond.selects RX2 yX2_whereIs yX2_whereIs, Cond.code yX2_whereIs cX2_whereIs 2 (some .int), Cond.methodLink RX2 39 yX2_has, Cond.methodLink RX3 80 yX2_bestSpotFor, Cond.instanceMethod yX2_bestSpotFor, Cond.selects RX2 yX2_bestSpotFor yX2_bestSpotFor, Cond.code yX2_bestSpotFor cX2_bestSpotFor 8 (some .int), Cond.methodLink RX2 69 yX2_weightOn, Cond.instanceMethod yX2_weightOn, Cond.selects RX2 yX2_weightOn yX2_weightOn]
def wsL_law0_r8 : List Cond := [Cond.code yX2_weightOn cX2_weightOn 4 (some .int), Cond.methodLink RX2 53 yX2_liesOn, Cond.instanceMethod yX2_liesOn, Cond.selects RX2 yX2_liesOn yX2_liesOn, Cond.code yX2_liesOn cX2_liesOn 4 (some .boolean), Cond.methodLink RX2 43 yX2_whereIs, Cond.static yX3_shelfAt, Cond.code yX3_shelfAt cX3_shelfAt 1 (some .int), Cond.methodLink RX2 72 yX2_firstFreeSpot, Cond.instanceMethod yX2_firstFreeSpot, Cond.selects RX2 yX2_firstFreeSpot yX2_firstFreeSpot, Cond.code yX2_firstFreeSpot cX2_firstFreeSpot 5 (some .int), Cond.static yX3_spotAt, Cond.code yX3_spotAt cX3_spotAt 3 (some .int), Cond.methodLink RX2 66 yX2_boxIn, Cond.instanceMethod yX2_boxIn, Cond.selects RX2 yX2_boxIn yX2_boxIn, Cond.code yX2_boxIn cX2_boxIn 3 (some .int), Cond.methodLink RX2 75 yX2_countKin, Cond.instanceMethod yX2_countKin, Cond.selects RX2 yX2_countKin yX2_countKin, Cond.code yX2_countKin cX2_countKin 5 (some .int), Cond.methodLink RL 90 yX4_bestSpot, Cond.instanceMethod yX4_bestSpot]
def wsL_law0_r9 : List Cond := [Cond.selects RX4 yX4_bestSpot yX4_bestSpot, Cond.code yX4_bestSpot cX4_bestSpot 3 (some .int), Cond.methodLink RX4 64 yX4_isBox, Cond.instanceMethod yX4_isBox, Cond.selects RX4 yX4_isBox yX4_isBox, Cond.code yX4_isBox cX4_isBox 2 (some .boolean), Cond.methodLink RX4 67 yX4_spot, Cond.instanceMethod yX4_spot, Cond.selects RX4 yX4_spot yX4_spot, Cond.code yX4_spot cX4_spot 4 (some .int), Cond.methodLink RX4 70 yX4_best, Cond.instanceMethod yX4_best, Cond.selects RX4 yX4_best yX4_best, Cond.code yX4_best cX4_best 7 (some .int), Cond.methodLink RX4 56 yX4_weighs, Cond.instanceMethod yX4_weighs, Cond.selects RX4 yX4_weighs yX4_weighs, Cond.code yX4_weighs cX4_weighs 4 (some .int), Cond.methodLink RX4 60 yX4_kin, Cond.instanceMethod yX4_kin, Cond.selects RX4 yX4_kin yX4_kin, Cond.code yX4_kin cX4_kin 5 (some .int), Cond.methodLink RX4 73 yX4_told, Cond.static yX4_told]
def wsL_law0_r10 : List Cond := [Cond.code yX4_told cX4_told 1 (some .int), Cond.methodLink RL 91 yL_lay, Cond.static yL_lay, Cond.codeWith yL_lay cL_lay 4 (some .int) [(0, 9, 12, 13), (0, 9, 15, 21)], Cond.methodLink RL 27 yX3_lay, Cond.instanceMethod yX3_lay, Cond.selects RX3 yX3_lay yX3_lay, Cond.code yX3_lay cX3_lay 3 (some .int), Cond.methodLink RX3 85 yX2_put, Cond.instanceMethod yX2_put, Cond.selects RX2 yX2_put yX2_put, Cond.code yX2_put cX2_put 3 none, Cond.methodLink RL 93 yX4_lay, Cond.instanceMethod yX4_lay, Cond.selects RX4 yX4_lay yX4_lay, Cond.code yX4_lay cX4_lay 3 (some .int), Cond.methodLink RL 94 yL_spotOf, Cond.static yL_spotOf, Cond.codeWith yL_spotOf cL_spotOf 4 (some .int) [(0, 9, 12, 13)], Cond.methodLink RL 30 yX3_spotOf, Cond.instanceMethod yX3_spotOf, Cond.selects RX3 yX3_spotOf yX3_spotOf, Cond.code yX3_spotOf cX3_spotOf 2 (some .int), Cond.methodLink RL 96 yX4_spotOf]
def wsL_law0_r11 : List Cond := [Cond.instanceMethod yX4_spotOf, Cond.selects RX4 yX4_spotOf yX4_spotOf, Cond.code yX4_spotOf cX4_spotOf 2 (some .int), Cond.methodLink RL 97 yL_boxAt, Cond.static yL_boxAt, Cond.codeWith yL_boxAt cL_boxAt 4 (some .int) [(0, 9, 12, 13)], Cond.methodLink RL 33 yX3_boxAt, Cond.instanceMethod yX3_boxAt, Cond.selects RX3 yX3_boxAt yX3_boxAt, Cond.code yX3_boxAt cX3_boxAt 2 (some .int), Cond.methodLink RX3 91 yX3_requireSpot, Cond.instanceMethod yX3_requireSpot, Cond.selects RX3 yX3_requireSpot yX3_requireSpot, Cond.code yX3_requireSpot cX3_requireSpot 2 none, Cond.methodLink RX3 225 yX3_isSpot, Cond.static yX3_isSpot, Cond.code yX3_isSpot cX3_isSpot 1 (some .boolean), Cond.methodLink RX3 241 yX3_shelfAt, Cond.methodLink RX3 244 yX3_sideAt, Cond.static yX3_sideAt, Cond.code yX3_sideAt cX3_sideAt 1 (some .int), Cond.methodLink RX3 247 yX3_placeAt, Cond.static yX3_placeAt, Cond.code yX3_placeAt cX3_placeAt 1 (some .int)]
def wsL_law0_r12 : List Cond := [Cond.methodLink RX3 94 yX2_boxIn, Cond.methodLink RL 99 yX4_boxAt, Cond.instanceMethod yX4_boxAt, Cond.selects RX4 yX4_boxAt yX4_boxAt, Cond.code yX4_boxAt cX4_boxAt 2 (some .int), Cond.methodLink RX4 76 yX4_row, Cond.static yX4_row, Cond.code yX4_row cX4_row 2 (some .int), Cond.methodLink RX4 79 yX4_fails, Cond.instanceMethod yX4_fails, Cond.selects RX4 yX4_fails yX4_fails, Cond.code yX4_fails cX4_fails 2 (some .int), Cond.methodLink RL 100 yL_weight, Cond.static yL_weight, Cond.codeWith yL_weight cL_weight 4 (some .int) [(0, 9, 12, 13)], Cond.methodLink RL 36 yX3_weight, Cond.instanceMethod yX3_weight, Cond.selects RX3 yX3_weight yX3_weight, Cond.code yX3_weight cX3_weight 2 (some .int), Cond.methodLink RX3 97 yX2_weightOn, Cond.methodLink RL 102 yX4_weight, Cond.instanceMethod yX4_weight, Cond.selects RX4 yX4_weight yX4_weight, Cond.code yX4_weight cX4_weight 2 (some .int)]
def wsL_law0_r13 : List Cond := [Cond.methodLink RL 103 yX3_wrong, Cond.instanceMethod yX3_wrong, Cond.selects RX3 yX3_wrong yX3_wrong, Cond.code yX3_wrong cX3_wrong 1 (some .int), Cond.methodLink RX3 100 yX2_countWrong, Cond.instanceMethod yX2_countWrong, Cond.selects RX2 yX2_countWrong yX2_countWrong, Cond.code yX2_countWrong cX2_countWrong 3 (some .int), Cond.methodLink RX2 59 yX2_isWrong, Cond.instanceMethod yX2_isWrong, Cond.selects RX2 yX2_isWrong yX2_isWrong, Cond.code yX2_isWrong cX2_isWrong 3 (some .boolean), Cond.methodLink RX2 56 yX2_climateOf, Cond.methodLink RL 106 yX4_wrong, Cond.instanceMethod yX4_wrong, Cond.selects RX4 yX4_wrong yX4_wrong, Cond.code yX4_wrong cX4_wrong 3 (some .int), Cond.methodLink RL 107 yL_open, Cond.static yL_open, Cond.codeWith yL_open cL_open 4 (some .int) [(0, 9, 12, 13), (0, 9, 15, 21)], Cond.methodLink RL 39 yX3_open, Cond.instanceMethod yX3_open, Cond.selects RX3 yX3_open yX3_open, Cond.code yX3_open cX3_open 2 (some .int)]
def wsL_law0_r14 : List Cond := [Cond.methodLink RX3 104 yX3_requireAisle, Cond.instanceMethod yX3_requireAisle, Cond.selects RX3 yX3_requireAisle yX3_requireAisle, Cond.code yX3_requireAisle cX3_requireAisle 2 none, Cond.methodLink RX3 107 yX1_mayOpen, Cond.instanceMethod yX1_mayOpen, Cond.selects RX1 yX1_mayOpen yX1_mayOpen, Cond.code yX1_mayOpen cX1_mayOpen 2 (some .boolean), Cond.methodLink RX1 36 yX1_openAisle, Cond.instanceMethod yX1_openAisle, Cond.selects RX1 yX1_openAisle yX1_openAisle, Cond.code yX1_openAisle cX1_openAisle 1 (some .int), Cond.methodLink RX1 40 yX1_countInside, Cond.instanceMethod yX1_countInside, Cond.selects RX1 yX1_countInside yX1_countInside, Cond.code yX1_countInside cX1_countInside 3 (some .int), Cond.methodLink RX1 43 yX1_hasDoubt, Cond.instanceMethod yX1_hasDoubt, Cond.selects RX1 yX1_hasDoubt yX1_hasDoubt, Cond.code yX1_hasDoubt cX1_hasDoubt 2 (some .boolean), Cond.methodLink RX3 112 yX1_aimAt, Cond.instanceMethod yX1_aimAt, Cond.selects RX1 yX1_aimAt yX1_aimAt, Cond.code yX1_aimAt cX1_aimAt 2 none]
def wsL_law0_r15 : List Cond := [Cond.methodLink RX3 115 yX1_movesToCome, Cond.instanceMethod yX1_movesToCome, Cond.selects RX1 yX1_movesToCome yX1_movesToCome, Cond.code yX1_movesToCome cX1_movesToCome 1 (some .int), Cond.methodLink RX1 47 Lib.Math.abs.name, Cond.static Lib.Math.abs.name, Cond.initialized "java/lang/Math", Cond.code Lib.Math.abs.name Lib.Math.abs.code 1 (some .int), Cond.methodLink RL 109 yX4_open, Cond.instanceMethod yX4_open, Cond.selects RX4 yX4_open yX4_open, Cond.code yX4_open cX4_open 3 (some .int), Cond.fieldLink RX4 86 "RackrailModel" "toMove" "I", Cond.fieldLink RX4 89 "RackrailModel" "aisle" "I", Cond.fieldLink RX4 92 "RackrailModel" "isStalled" "Z", Cond.fieldLink RX4 96 "RackrailModel" "isSmoke" "Z", Cond.methodLink RX4 82 yX4_inside, Cond.instanceMethod yX4_inside, Cond.selects RX4 yX4_inside yX4_inside, Cond.code yX4_inside cX4_inside 3 (some .int), Cond.methodLink RL 110 yX3_opened, Cond.instanceMethod yX3_opened, Cond.selects RX3 yX3_opened yX3_opened, Cond.code yX3_opened cX3_opened 1 (some .int)]
def wsL_law0_r16 : List Cond := [Cond.methodLink RX3 118 yX1_openAisle, Cond.methodLink RL 113 yX4_opened, Cond.instanceMethod yX4_opened, Cond.selects RX4 yX4_opened yX4_opened, Cond.code yX4_opened cX4_opened 1 (some .int), Cond.methodLink RL 114 yX3_openedByMoves, Cond.instanceMethod yX3_openedByMoves, Cond.selects RX3 yX3_openedByMoves yX3_openedByMoves, Cond.code yX3_openedByMoves cX3_openedByMoves 1 (some .int), Cond.methodLink RX3 121 yX1_openAisleByMoves, Cond.instanceMethod yX1_openAisleByMoves, Cond.selects RX1 yX1_openAisleByMoves yX1_openAisleByMoves, Cond.code yX1_openAisleByMoves cX1_openAisleByMoves 3 (some .int), Cond.methodLink RL 117 yX4_openedByMoves, Cond.instanceMethod yX4_openedByMoves, Cond.selects RX4 yX4_openedByMoves yX4_openedByMoves, Cond.code yX4_openedByMoves cX4_openedByMoves 1 (some .int), Cond.methodLink RX4 99 yX4_opened, Cond.methodLink RL 118 yL_goIn, Cond.static yL_goIn, Cond.codeWith yL_goIn cL_goIn 4 (some .int) [(0, 9, 12, 13), (0, 9, 15, 21)], Cond.methodLink RL 42 yX3_goIn, Cond.instanceMethod yX3_goIn, Cond.selects RX3 yX3_goIn yX3_goIn]
def wsL_law0_r17 : List Cond := [Cond.code yX3_goIn cX3_goIn 2 (some .int), Cond.methodLink RX3 124 yX3_requirePerson, Cond.instanceMethod yX3_requirePerson, Cond.selects RX3 yX3_requirePerson yX3_requirePerson, Cond.code yX3_requirePerson cX3_requirePerson 2 none, Cond.methodLink RX3 127 yX1_isInside, Cond.instanceMethod yX1_isInside, Cond.selects RX1 yX1_isInside yX1_isInside, Cond.code yX1_isInside cX1_isInside 2 (some .boolean), Cond.methodLink RX3 133 yX1_mayGoIn, Cond.instanceMethod yX1_mayGoIn, Cond.selects RX1 yX1_mayGoIn yX1_mayGoIn, Cond.code yX1_mayGoIn cX1_mayGoIn 1 (some .boolean), Cond.methodLink RX3 138 yX1_setInside, Cond.instanceMethod yX1_setInside, Cond.selects RX1 yX1_setInside yX1_setInside, Cond.code yX1_setInside cX1_setInside 3 none, Cond.methodLink RX3 142 yX1_countInside, Cond.methodLink RL 120 yX4_goIn, Cond.instanceMethod yX4_goIn, Cond.selects RX4 yX4_goIn yX4_goIn, Cond.code yX4_goIn cX4_goIn 2 (some .int), Cond.methodLink RX4 102 yX4_isPerson, Cond.static yX4_isPerson]
def wsL_law0_r18 : List Cond := [Cond.code yX4_isPerson cX4_isPerson 1 (some .boolean), Cond.methodLink RL 121 yL_goOut, Cond.static yL_goOut, Cond.codeWith yL_goOut cL_goOut 4 (some .int) [(0, 9, 12, 13), (0, 9, 15, 21)], Cond.methodLink RL 45 yX3_goOut, Cond.instanceMethod yX3_goOut, Cond.selects RX3 yX3_goOut yX3_goOut, Cond.code yX3_goOut cX3_goOut 2 (some .int), Cond.methodLink RX3 145 yX3_requireInside, Cond.instanceMethod yX3_requireInside, Cond.selects RX3 yX3_requireInside yX3_requireInside, Cond.code yX3_requireInside cX3_requireInside 2 none, Cond.methodLink RL 123 yX4_goOut, Cond.instanceMethod yX4_goOut, Cond.selects RX4 yX4_goOut yX4_goOut, Cond.code yX4_goOut cX4_goOut 2 (some .int), Cond.methodLink RL 124 yL_doubt, Cond.static yL_doubt, Cond.codeWith yL_doubt cL_doubt 4 (some .int) [(0, 16, 19, 13)], Cond.methodLink RL 48 yX3_doubt, Cond.instanceMethod yX3_doubt, Cond.selects RX3 yX3_doubt yX3_doubt, Cond.code yX3_doubt cX3_doubt 3 (some .boolean), Cond.methodLink RX3 148 yX1_hasDoubt]
def wsL_law0_r19 : List Cond := [Cond.methodLink RX3 151 yX1_setDoubt, Cond.instanceMethod yX1_setDoubt, Cond.selects RX1 yX1_setDoubt yX1_setDoubt, Cond.code yX1_setDoubt cX1_setDoubt 3 none, Cond.methodLink RL 126 yX4_doubt, Cond.instanceMethod yX4_doubt, Cond.selects RX4 yX4_doubt yX4_doubt, Cond.code yX4_doubt cX4_doubt 3 (some .boolean), Cond.methodLink RL 127 yL_look, Cond.static yL_look, Cond.codeWith yL_look cL_look 3 (some .int) [(0, 15, 18, 21)], Cond.methodLink RL 52 yX3_look, Cond.instanceMethod yX3_look, Cond.selects RX3 yX3_look yX3_look, Cond.code yX3_look cX3_look 3 (some .boolean), Cond.methodLink RL 130 yX4_look, Cond.instanceMethod yX4_look, Cond.selects RX4 yX4_look yX4_look, Cond.code yX4_look cX4_look 2 (some .boolean), Cond.methodLink RL 131 yX3_stall, Cond.instanceMethod yX3_stall, Cond.selects RX3 yX3_stall yX3_stall, Cond.code yX3_stall cX3_stall 2 (some .boolean), Cond.methodLink RX3 156 yX1_changeStall]
def wsL_law0_r20 : List Cond := [Cond.instanceMethod yX1_changeStall, Cond.selects RX1 yX1_changeStall yX1_changeStall, Cond.code yX1_changeStall cX1_changeStall 3 (some .boolean), Cond.methodLink RL 135 yX4_stall, Cond.instanceMethod yX4_stall, Cond.selects RX4 yX4_stall yX4_stall, Cond.code yX4_stall cX4_stall 3 (some .boolean), Cond.methodLink RL 136 yX3_smoke, Cond.instanceMethod yX3_smoke, Cond.selects RX3 yX3_smoke yX3_smoke, Cond.code yX3_smoke cX3_smoke 2 (some .int), Cond.methodLink RX3 160 yX1_changeSmoke, Cond.instanceMethod yX1_changeSmoke, Cond.selects RX1 yX1_changeSmoke yX1_changeSmoke, Cond.code yX1_changeSmoke cX1_changeSmoke 2 none, Cond.methodLink RX3 164 yX1_sendAllOut, Cond.instanceMethod yX1_sendAllOut, Cond.selects RX1 yX1_sendAllOut yX1_sendAllOut, Cond.code yX1_sendAllOut cX1_sendAllOut 3 (some .int), Cond.methodLink RL 140 yX4_smoke, Cond.instanceMethod yX4_smoke, Cond.selects RX4 yX4_smoke yX4_smoke, Cond.code yX4_smoke cX4_smoke 4 (some .int), Cond.methodLink RL 141 yL_pass]
def wsL_law0_r21 : List Cond := [Cond.static yL_pass, Cond.codeWith yL_pass cL_pass 4 (some .int) [(0, 9, 12, 15), (0, 9, 15, 21)], Cond.methodLink RL 56 yX3_pass, Cond.instanceMethod yX3_pass, Cond.selects RX3 yX3_pass yX3_pass, Cond.code yX3_pass cX3_pass 2 (some .int), Cond.methodLink RX3 171 yX1_moveFor, Cond.instanceMethod yX1_moveFor, Cond.selects RX1 yX1_moveFor yX1_moveFor, Cond.code yX1_moveFor cX1_moveFor 4 none, Cond.methodLink RX1 56 Lib.Math.min.name, Cond.static Lib.Math.min.name, Cond.code Lib.Math.min.name Lib.Math.min.code 2 (some .int), Cond.methodLink RX1 53 yX1_movesToCome, Cond.methodLink RX1 60 yX1_moveOne, Cond.instanceMethod yX1_moveOne, Cond.selects RX1 yX1_moveOne yX1_moveOne, Cond.code yX1_moveOne cX1_moveOne 3 none, Cond.methodLink RL 143 yX4_pass, Cond.instanceMethod yX4_pass, Cond.selects RX4 yX4_pass yX4_pass, Cond.code yX4_pass cX4_pass 2 (some .int), Cond.fieldLink RX4 105 "RackrailModel" "clock" "I", Cond.methodLink RL 144 yL_order]
def wsL_law0_r22 : List Cond := [Cond.static yL_order, Cond.codeWith yL_order cL_order 5 (some .int) [(0, 10, 13, 13), (0, 10, 17, 15), (0, 10, 21, 21)], Cond.methodLink RL 59 yX3_order, Cond.instanceMethod yX3_order, Cond.selects RX3 yX3_order yX3_order, Cond.code yX3_order cX3_order 3 (some .int), Cond.methodLink RX3 176 yX0_isOpenFor, Cond.instanceMethod yX0_isOpenFor, Cond.selects RX0 yX0_isOpenFor yX0_isOpenFor, Cond.code yX0_isOpenFor cX0_isOpenFor 3 (some .boolean), Cond.methodLink RX3 181 yX0_isFull, Cond.instanceMethod yX0_isFull, Cond.selects RX0 yX0_isFull yX0_isFull, Cond.code yX0_isFull cX0_isFull 1 (some .boolean), Cond.methodLink RX3 184 yX0_enter, Cond.instanceMethod yX0_enter, Cond.selects RX0 yX0_enter yX0_enter, Cond.code yX0_enter cX0_enter 4 (some .int), Cond.methodLink RX0 29 yX0_isFull, Cond.methodLink RL 146 yX4_order, Cond.instanceMethod yX4_order, Cond.selects RX4 yX4_order yX4_order, Cond.code yX4_order cX4_order 3 (some .int), Cond.fieldLink RX4 108 "RackrailModel" "orderMany" "I"]
def wsL_law0_r23 : List Cond := [Cond.methodLink RX4 111 yX4_hasOpen, Cond.instanceMethod yX4_hasOpen, Cond.selects RX4 yX4_hasOpen yX4_hasOpen, Cond.code yX4_hasOpen cX4_hasOpen 4 (some .boolean), Cond.methodLink RL 147 yX3_nextAisle, Cond.instanceMethod yX3_nextAisle, Cond.selects RX3 yX3_nextAisle yX3_nextAisle, Cond.code yX3_nextAisle cX3_nextAisle 2 (some .int), Cond.methodLink RX3 187 yX0_earliest, Cond.instanceMethod yX0_earliest, Cond.selects RX0 yX0_earliest yX0_earliest, Cond.code yX0_earliest cX0_earliest 8 (some .int), Cond.methodLink RX0 37 yX2_aisleOfBox, Cond.instanceMethod yX2_aisleOfBox, Cond.selects RX2 yX2_aisleOfBox yX2_aisleOfBox, Cond.code yX2_aisleOfBox cX2_aisleOfBox 3 (some .int), Cond.static yX3_aisleAt, Cond.code yX3_aisleAt cX3_aisleAt 1 (some .int), Cond.methodLink RX3 191 yX0_boxOf, Cond.instanceMethod yX0_boxOf, Cond.selects RX0 yX0_boxOf yX0_boxOf, Cond.code yX0_boxOf cX0_boxOf 2 (some .int), Cond.methodLink RX3 194 yX2_aisleOfBox, Cond.methodLink RL 150 yX4_nextAisle]
def wsL_law0_r24 : List Cond := [Cond.instanceMethod yX4_nextAisle, Cond.selects RX4 yX4_nextAisle yX4_nextAisle, Cond.code yX4_nextAisle cX4_nextAisle 2 (some .int), Cond.methodLink RX4 117 yX4_first, Cond.instanceMethod yX4_first, Cond.selects RX4 yX4_first yX4_first, Cond.code yX4_first cX4_first 6 (some .int), Cond.methodLink RX4 114 yX4_aisleOf, Cond.static yX4_aisleOf, Cond.code yX4_aisleOf cX4_aisleOf 1 (some .int), Cond.methodLink RL 151 yL_fetch, Cond.static yL_fetch, Cond.codeWith yL_fetch cL_fetch 4 (some .int) [(0, 9, 12, 13), (0, 9, 15, 21)], Cond.methodLink RL 62 yX3_fetch, Cond.instanceMethod yX3_fetch, Cond.selects RX3 yX3_fetch yX3_fetch, Cond.code yX3_fetch cX3_fetch 3 (some .int), Cond.methodLink RX3 199 yX0_finish, Cond.instanceMethod yX0_finish, Cond.selects RX0 yX0_finish yX0_finish, Cond.code yX0_finish cX0_finish 3 none, Cond.methodLink RL 153 yX4_fetch, Cond.instanceMethod yX4_fetch, Cond.selects RX4 yX4_fetch yX4_fetch]
def wsL_law0_r25 : List Cond := [Cond.code yX4_fetch cX4_fetch 3 (some .int), Cond.fieldLink RX4 120 "RackrailModel" "lateMany" "I", Cond.methodLink RL 154 yL_giveBack, Cond.static yL_giveBack, Cond.codeWith yL_giveBack cL_giveBack 6 (some .int) [(0, 19, 22, 13), (0, 19, 26, 21)], Cond.methodLink RL 65 yX3_giveBack, Cond.instanceMethod yX3_giveBack, Cond.selects RX3 yX3_giveBack yX3_giveBack, Cond.code yX3_giveBack cX3_giveBack 4 (some .boolean), Cond.methodLink RX3 202 yX3_aisleAt, Cond.methodLink RX3 209 yX2_isWrong, Cond.methodLink RL 156 yX4_giveBack, Cond.instanceMethod yX4_giveBack, Cond.selects RX4 yX4_giveBack yX4_giveBack, Cond.code yX4_giveBack cX4_giveBack 6 (some .boolean), Cond.methodLink RL 157 yX3_waiting, Cond.instanceMethod yX3_waiting, Cond.selects RX3 yX3_waiting yX3_waiting, Cond.code yX3_waiting cX3_waiting 1 (some .int), Cond.methodLink RX3 212 yX0_countOpen, Cond.instanceMethod yX0_countOpen, Cond.selects RX0 yX0_countOpen yX0_countOpen, Cond.code yX0_countOpen cX0_countOpen 3 (some .int), Cond.methodLink RL 160 yX4_waiting]
def wsL_law0_r26 : List Cond := [Cond.instanceMethod yX4_waiting, Cond.selects RX4 yX4_waiting yX4_waiting, Cond.code yX4_waiting cX4_waiting 3 (some .int), Cond.methodLink RL 161 yX3_late, Cond.instanceMethod yX3_late, Cond.selects RX3 yX3_late yX3_late, Cond.code yX3_late cX3_late 1 (some .int), Cond.methodLink RX3 215 yX0_countLate, Cond.instanceMethod yX0_countLate, Cond.selects RX0 yX0_countLate yX0_countLate, Cond.code yX0_countLate cX0_countLate 1 (some .int), Cond.methodLink RL 164 yX4_late, Cond.instanceMethod yX4_late, Cond.selects RX4 yX4_late yX4_late, Cond.code yX4_late cX4_late 1 (some .int)]
def wsL_law0 : List Cond := (wsL_law0_r1 ++ (wsL_law0_r2 ++ (wsL_law0_r3 ++ (wsL_law0_r4 ++ (wsL_law0_r5 ++ (wsL_law0_r6 ++ (wsL_law0_r7 ++ (wsL_law0_r8 ++ (wsL_law0_r9 ++ (wsL_law0_r10 ++ (wsL_law0_r11 ++ (wsL_law0_r12 ++ (wsL_law0_r13 ++ (wsL_law0_r14 ++ (wsL_law0_r15 ++ (wsL_law0_r16 ++ (wsL_law0_r17 ++ (wsL_law0_r18 ++ (wsL_law0_r19 ++ (wsL_law0_r20 ++ (wsL_law0_r21 ++ (wsL_law0_r22 ++ (wsL_law0_r23 ++ (wsL_law0_r24 ++ (wsL_law0_r25 ++ wsL_law0_r26))))))))))))))))))))))))) ++ wsX30 ++ wsX40 ++ wsX20 ++ wsX10 ++ wsX00 ++ ([] : List Cond)
def wsL_law : List Cond := wsL_law0 ++ (vx_atS RX3 46 "java/lang/IllegalArgumentException" ["java/lang/RuntimeException", "java/lang/Exception"]).filter goodWord ++ (vx_atS RX3 222 "java/lang/IndexOutOfBoundsException" ["java/lang/RuntimeException", "java/lang/Exception"]).filter goodWord ++ (vx_atS RX3 69 "java/lang/IllegalStateException" ["java/lang/RuntimeException", "java/lang/Exception"]).filter goodWord
end
section
set_option maxRecDepth 20000 in
theorem wsL_law0_r1_in : ∀ w ∈ wsL_law0_r1, w ∈ lw_tbl := fun w h => (goodIn_p wsL_law0_r1 [38, 41] (by decide +kernel) (by decide +kernel) w h).1
set_option maxRecDepth 20000 in
theorem wsL_law0_r2_in : ∀ w ∈ wsL_law0_r2, w ∈ lw_tbl := fun w h => (goodIn_p wsL_law0_r2 [46, 72] (by decide +kernel) (by decide +kernel) w h).1
set_option maxRecDepth 20000 in
theorem wsL_law0_r3_in : ∀ w ∈ wsL_law0_r3, w ∈ lw_tbl := fun w h => (goodIn_p wsL_law0_r3 [101, 637] (by decide +kernel) (by decide +kernel) w h).1
set_option maxRecDepth 20000 in
theorem wsL_law0_r4_in : ∀ w ∈ wsL_law0_r4, w ∈ lw_tbl := fun w h => (goodIn_p wsL_law0_r4 [251, 255, 154, 161] (by decide +kernel) (by decide +kernel) w h).1
set_option maxRecDepth 20000 in
theorem wsL_law0_r5_in : ∀ w ∈ wsL_law0_r5, w ∈ lw_tbl := fun w h => (goodIn_p wsL_law0_r5 [345, 704, 707, 710, 700] (by decide +kernel) (by decide +kernel) w h).1
set_option maxRecDepth 20000 in
theorem wsL_law0_r6_in : ∀ w ∈ wsL_law0_r6, w ∈ lw_tbl := fun w h => (goodIn_p wsL_law0_r6 [353, 359, 379, 714, 387] (by decide +kernel) (by decide +kernel) w h).1
set_option maxRecDepth 20000 in
theorem wsL_law0_r7_in : ∀ w ∈ wsL_law0_r7, w ∈ lw_tbl := fun w h => (goodIn_p wsL_law0_r7 [391, 151, 397, 147, 403] (by decide +kernel) (by decide +kernel) w h).1
set_option maxRecDepth 20000 in
theorem wsL_law0_r8_in : ∀ w ∈ wsL_law0_r8, w ∈ lw_tbl := fun w h => (goodIn_p wsL_law0_r8 [407, 411, 157, 415, 418, 422, 426] (by decide +kernel) (by decide +kernel) w h).1
set_option maxRecDepth 20000 in
theorem wsL_law0_r9_in : ∀ w ∈ wsL_law0_r9, w ∈ lw_tbl := fun w h => (goodIn_p wsL_law0_r9 [718, 722, 726, 730, 734, 738] (by decide +kernel) (by decide +kernel) w h).1
set_option maxRecDepth 20000 in
theorem wsL_law0_r10_in : ∀ w ∈ wsL_law0_r10, w ∈ lw_tbl := fun w h => (goodIn_p wsL_law0_r10 [741, 433, 438, 745, 445] (by decide +kernel) (by decide +kernel) w h).1
set_option maxRecDepth 20000 in
theorem wsL_law0_r11_in : ∀ w ∈ wsL_law0_r11, w ∈ lw_tbl := fun w h => (goodIn_p wsL_law0_r11 [749, 452, 456, 459, 220, 462] (by decide +kernel) (by decide +kernel) w h).1
set_option maxRecDepth 20000 in
theorem wsL_law0_r12_in : ∀ w ∈ wsL_law0_r12, w ∈ lw_tbl := fun w h => (goodIn_p wsL_law0_r12 [753, 756, 760, 471, 764] (by decide +kernel) (by decide +kernel) w h).1
set_option maxRecDepth 20000 in
theorem wsL_law0_r13_in : ∀ w ∈ wsL_law0_r13, w ∈ lw_tbl := fun w h => (goodIn_p wsL_law0_r13 [135, 139, 143, 768, 479] (by decide +kernel) (by decide +kernel) w h).1
set_option maxRecDepth 20000 in
theorem wsL_law0_r14_in : ∀ w ∈ wsL_law0_r14, w ∈ lw_tbl := fun w h => (goodIn_p wsL_law0_r14 [483, 488, 169, 201, 493, 499] (by decide +kernel) (by decide +kernel) w h).1
set_option maxRecDepth 20000 in
theorem wsL_law0_r15_in : ∀ w ∈ wsL_law0_r15, w ∈ lw_tbl := fun w h => (goodIn_p wsL_law0_r15 [503, 506, 772, 776, 165] (by decide +kernel) (by decide +kernel) w h).1
set_option maxRecDepth 20000 in
theorem wsL_law0_r16_in : ∀ w ∈ wsL_law0_r16, w ∈ lw_tbl := fun w h => (goodIn_p wsL_law0_r16 [780, 173, 177, 784] (by decide +kernel) (by decide +kernel) w h).1
set_option maxRecDepth 20000 in
theorem wsL_law0_r17_in : ∀ w ∈ wsL_law0_r17, w ∈ lw_tbl := fun w h => (goodIn_p wsL_law0_r17 [513, 517, 522, 527, 532, 789] (by decide +kernel) (by decide +kernel) w h).1
set_option maxRecDepth 20000 in
theorem wsL_law0_r18_in : ∀ w ∈ wsL_law0_r18, w ∈ lw_tbl := fun w h => (goodIn_p wsL_law0_r18 [792, 540, 544, 796, 552] (by decide +kernel) (by decide +kernel) w h).1
set_option maxRecDepth 20000 in
theorem wsL_law0_r19_in : ∀ w ∈ wsL_law0_r19, w ∈ lw_tbl := fun w h => (goodIn_p wsL_law0_r19 [557, 800, 564, 804, 181] (by decide +kernel) (by decide +kernel) w h).1
set_option maxRecDepth 20000 in
theorem wsL_law0_r20_in : ∀ w ∈ wsL_law0_r20, w ∈ lw_tbl := fun w h => (goodIn_p wsL_law0_r20 [185, 808, 189, 193, 197, 812] (by decide +kernel) (by decide +kernel) w h).1
set_option maxRecDepth 20000 in
theorem wsL_law0_r21_in : ∀ w ∈ wsL_law0_r21, w ∈ lw_tbl := fun w h => (goodIn_p wsL_law0_r21 [572, 578, 582, 586, 816] (by decide +kernel) (by decide +kernel) w h).1
set_option maxRecDepth 20000 in
theorem wsL_law0_r22_in : ∀ w ∈ wsL_law0_r22, w ∈ lw_tbl := fun w h => (goodIn_p wsL_law0_r22 [593, 598, 603, 608, 820] (by decide +kernel) (by decide +kernel) w h).1
set_option maxRecDepth 20000 in
theorem wsL_law0_r23_in : ∀ w ∈ wsL_law0_r23, w ∈ lw_tbl := fun w h => (goodIn_p wsL_law0_r23 [824, 205, 209, 213, 216, 224] (by decide +kernel) (by decide +kernel) w h).1
set_option maxRecDepth 20000 in
theorem wsL_law0_r24_in : ∀ w ∈ wsL_law0_r24, w ∈ lw_tbl := fun w h => (goodIn_p wsL_law0_r24 [828, 832, 835, 616, 621] (by decide +kernel) (by decide +kernel) w h).1
set_option maxRecDepth 20000 in
theorem wsL_law0_r25_in : ∀ w ∈ wsL_law0_r25, w ∈ lw_tbl := fun w h => (goodIn_p wsL_law0_r25 [839, 628, 843, 230, 234] (by decide +kernel) (by decide +kernel) w h).1
set_option maxRecDepth 20000 in
theorem wsL_law0_r26_in : ∀ w ∈ wsL_law0_r26, w ∈ lw_tbl := fun w h => (goodIn_p wsL_law0_r26 [847, 238, 242, 851] (by decide +kernel) (by decide +kernel) w h).1
theorem wsX30_inT : ∀ w ∈ wsX30, w ∈ lw_tbl := by decide +kernel
theorem wsX40_inT : ∀ w ∈ wsX40, w ∈ lw_tbl := by decide +kernel
theorem wsX20_inT : ∀ w ∈ wsX20, w ∈ lw_tbl := by decide +kernel
theorem wsX10_inT : ∀ w ∈ wsX10, w ∈ lw_tbl := by decide +kernel
theorem wsX00_inT : ∀ w ∈ wsX00, w ∈ lw_tbl := by decide +kernel
theorem wsL_law_in0 : ∀ w ∈ wsL_law0, w ∈ lw_tbl := fun w h => (List.mem_append.mp h).elim (fun h => (List.mem_append.mp h).elim (fun h => (List.mem_append.mp h).elim (fun h => (List.mem_append.mp h).elim (fun h => (List.mem_append.mp h).elim (fun h => (List.mem_append.mp h).elim (fun h => wsL_law0_r1_in w h) (fun h => (List.mem_append.mp h).elim (fun h => wsL_law0_r2_in w h) (fun h => (List.mem_append.mp h).elim (fun h => wsL_law0_r3_in w h) (fun h => (List.mem_append.mp h).elim (fun h => wsL_law0_r4_in w h) (fun h => (List.mem_append.mp h).elim (fun h => wsL_law0_r5_in w h) (fun h => (List.mem_append.mp h).elim (fun h => wsL_law0_r6_in w h) (fun h => (List.mem_append.mp h).elim (fun h => wsL_law0_r7_in w h) (fun h => (List.mem_append.mp h).elim (fun h => wsL_law0_r8_in w h) (fun h => (List.mem_append.mp h).elim (fun h => wsL_law0_r9_in w h) (fun h => (List.mem_append.mp h).elim (fun h => wsL_law0_r10_in w h) (fun h => (List.mem_append.mp h).elim (fun h => wsL_law0_r11_in w h) (fun h => (List.mem_append.mp h).elim (fun h => wsL_law0_r12_in w h) (fun h => (List.mem_append.mp h).elim (fun h => wsL_law0_r13_in w h) (fun h => (List.mem_append.mp h).elim (fun h => wsL_law0_r14_in w h) (fun h => (List.mem_append.mp h).elim (fun h => wsL_law0_r15_in w h) (fun h => (List.mem_append.mp h).elim (fun h => wsL_law0_r16_in w h) (fun h => (List.mem_append.mp h).elim (fun h => wsL_law0_r17_in w h) (fun h => (List.mem_append.mp h).elim (fun h => wsL_law0_r18_in w h) (fun h => (List.mem_append.mp h).elim (fun h => wsL_law0_r19_in w h) (fun h => (List.mem_append.mp h).elim (fun h => wsL_law0_r20_in w h) (fun h => (List.mem_append.mp h).elim (fun h => wsL_law0_r21_in w h) (fun h => (List.mem_append.mp h).elim (fun h => wsL_law0_r22_in w h) (fun h => (List.mem_append.mp h).elim (fun h => wsL_law0_r23_in w h) (fun h => (List.mem_append.mp h).elim (fun h => wsL_law0_r24_in w h) (fun h => (List.mem_append.mp h).elim (fun h => wsL_law0_r25_in w h) (fun h => wsL_law0_r26_in w h)))))))))))))))))))))))))) (fun h => wsX30_inT w h)) (fun h => wsX40_inT w h)) (fun h => wsX20_inT w h)) (fun h => wsX10_inT w h)) (fun h => wsX00_inT w h)
theorem wsL_law_x0 : ∀ w ∈ (vx_atS RX3 46 "java/lang/IllegalArgumentException" ["java/lang/RuntimeException", "java/lang/Exception"]).filter goodWord, w ∈ lw_tbl := by decide +kernel
theorem wsL_law_x1 : ∀ w ∈ (vx_atS RX3 222 "java/lang/IndexOutOfBoundsException" ["java/lang/RuntimeException", "java/lang/Exception"]).filter goodWord, w ∈ lw_tbl := by decide +kernel
theorem wsL_law_x2 : ∀ w ∈ (vx_atS RX3 69 "java/lang/IllegalStateException" ["java/lang/RuntimeException", "java/lang/Exception"]).filter goodWord, w ∈ lw_tbl := by decide +kernel
theorem wsL_law_in : ∀ w ∈ wsL_law, w ∈ lw_tbl := fun w h => (List.mem_append.mp h).elim (fun h => (List.mem_append.mp h).elim (fun h => (List.mem_append.mp h).elim (fun h => wsL_law_in0 w h) (fun h => wsL_law_x0 w h)) (fun h => wsL_law_x1 w h)) (fun h => wsL_law_x2 w h)
theorem inlX0 : ∀ w ∈ wsX00, w ∈ wsL_law := fun _ h => List.mem_append_left _ (List.mem_append_left _ (List.mem_append_left _ (List.mem_append_left _ (List.mem_append_right _ h))))
theorem inX0 : ∀ w ∈ wsX00, w ∈ lw_tbl := fun w h => wsL_law_in w (inlX0 w h)
theorem inlX1 : ∀ w ∈ wsX10, w ∈ wsL_law := fun _ h => List.mem_append_left _ (List.mem_append_left _ (List.mem_append_left _ (List.mem_append_left _ (List.mem_append_left _ (List.mem_append_right _ h)))))
theorem inX1 : ∀ w ∈ wsX10, w ∈ lw_tbl := fun w h => wsL_law_in w (inlX1 w h)
theorem inlX2 : ∀ w ∈ wsX20, w ∈ wsL_law := fun _ h => List.mem_append_left _ (List.mem_append_left _ (List.mem_append_left _ (List.mem_append_left _ (List.mem_append_left _ (List.mem_append_left _ (List.mem_append_right _ h))))))
theorem inX2 : ∀ w ∈ wsX20, w ∈ lw_tbl := fun w h => wsL_law_in w (inlX2 w h)
theorem inlX3 : ∀ w ∈ wsX30, w ∈ wsL_law := fun _ h => List.mem_append_left _ (List.mem_append_left _ (List.mem_append_left _ (List.mem_append_left _ (List.mem_append_left _ (List.mem_append_left _ (List.mem_append_left _ (List.mem_append_left _ (List.mem_append_right _ h))))))))
theorem inX3 : ∀ w ∈ wsX30, w ∈ lw_tbl := fun w h => wsL_law_in w (inlX3 w h)
theorem inlX4 : ∀ w ∈ wsX40, w ∈ wsL_law := fun _ h => List.mem_append_left _ (List.mem_append_left _ (List.mem_append_left _ (List.mem_append_left _ (List.mem_append_left _ (List.mem_append_left _ (List.mem_append_left _ (List.mem_append_right _ h)))))))
theorem inX4 : ∀ w ∈ wsX40, w ∈ lw_tbl := fun w h => wsL_law_in w (inlX4 w h)
theorem inJ9 : ∀ w ∈ wsJ90, w ∈ lw_tbl := by decide +kernel
theorem inJ0 : ∀ w ∈ wsJ00, w ∈ lw_tbl := by decide +kernel
end
section
abbrev vwCl : List vw_C := [(RX0, TX0, 5), (RX1, TX1, 7), (RX2, TX2, 6), (RX3, TX3, 4), (RX4, TX4, 19)]
theorem dX0_init_0 : decode cX0_init 0 = .ok (.aload_n 0, 1) := by decide +kernel
theorem dX0_init_1 : decode cX0_init 1 = .ok (.invokespecial 3, 3) := by decide +kernel
theorem dX0_init_4 : decode cX0_init 4 = .ok (.aload_n 0, 1) := by decide +kernel
theorem dX0_init_5 : decode cX0_init 5 = .ok (.bipush 30, 2) := by decide +kernel
theorem dX0_init_7 : decode cX0_init 7 = .ok (.newarray .int, 2) := by decide +kernel
theorem dX0_init_9 : decode cX0_init 9 = .ok (.putfield 9, 3) := by decide +kernel
theorem dX0_init_12 : decode cX0_init 12 = .ok (.aload_n 0, 1) := by decide +kernel
theorem dX0_init_13 : decode cX0_init 13 = .ok (.bipush 30, 2) := by decide +kernel
theorem dX0_init_15 : decode cX0_init 15 = .ok (.newarray .int, 2) := by decide +kernel
theorem dX0_init_17 : decode cX0_init 17 = .ok (.putfield 15, 3) := by decide +kernel
theorem dX0_init_20 : decode cX0_init 20 = .ok (.aload_n 0, 1) := by decide +kernel
theorem dX0_init_21 : decode cX0_init 21 = .ok (.bipush 30, 2) := by decide +kernel
theorem dX0_init_23 : decode cX0_init 23 = .ok (.newarray .boolean, 2) := by decide +kernel
theorem dX0_init_25 : decode cX0_init 25 = .ok (.putfield 18, 3) := by decide +kernel
theorem dX0_init_28 : decode cX0_init 28 = .ok (.aload_n 0, 1) := by decide +kernel
theorem dX0_init_29 : decode cX0_init 29 = .ok (.iconst 0, 1) := by decide +kernel
theorem dX0_init_30 : decode cX0_init 30 = .ok (.putfield 22, 3) := by decide +kernel
theorem dX0_init_33 : decode cX0_init 33 = .ok (.aload_n 0, 1) := by decide +kernel
theorem dX0_init_34 : decode cX0_init 34 = .ok (.iconst 0, 1) := by decide +kernel
theorem dX0_init_35 : decode cX0_init 35 = .ok (.putfield 26, 3) := by decide +kernel
theorem dX0_init_38 : decode cX0_init 38 = .ok (.return_, 1) := by decide +kernel
theorem dX0_isFull_0 : decode cX0_isFull 0 = .ok (.aload_n 0, 1) := by decide +kernel
theorem dX0_isFull_1 : decode cX0_isFull 1 = .ok (.getfield 22, 3) := by decide +kernel
theorem dX0_isFull_4 : decode cX0_isFull 4 = .ok (.bipush 30, 2) := by decide +kernel
theorem dX0_isFull_6 : decode cX0_isFull 6 = .ok (.if_icmp .lt 7, 3) := by decide +kernel
theorem dX0_isFull_9 : decode cX0_isFull 9 = .ok (.iconst 1, 1) := by decide +kernel
theorem dX0_isFull_10 : decode cX0_isFull 10 = .ok (.goto 4, 3) := by decide +kernel
theorem dX0_isFull_13 : decode cX0_isFull 13 = .ok (.iconst 0, 1) := by decide +kernel
theorem dX0_isFull_14 : decode cX0_isFull 14 = .ok (.ireturn, 1) := by decide +kernel
set_option maxRecDepth 20000 in
theorem ggX0_enter_X0_isFull : GoodIn wsX0_enter wsX0_isFull := goodIn_r _ [8, 1, 9, 10, 11, 12, 13] (by decide +kernel) (by decide +kernel)
set_option maxRecDepth 20000 in
theorem gX0_enter_X0_isFull : GoodIn wsX0_enter (wsV RX0 29 RX0 yX0_isFull wsX0_isFull) := goodIn_app (goodIn_of _ (by decide +kernel)) ggX0_enter_X0_isFull
theorem dX0_enter_0 : decode cX0_enter 0 = .ok (.aload_n 0, 1) := by decide +kernel
theorem dX0_enter_1 : decode cX0_enter 1 = .ok (.invokevirtual 29, 3) := by decide +kernel
theorem dX0_enter_4 : decode cX0_enter 4 = .ok (.ifCond .eq 5, 3) := by decide +kernel
theorem dX0_enter_7 : decode cX0_enter 7 = .ok (.iconst (-1), 1) := by decide +kernel
theorem dX0_enter_8 : decode cX0_enter 8 = .ok (.ireturn, 1) := by decide +kernel
theorem dX0_enter_9 : decode cX0_enter 9 = .ok (.aload_n 0, 1) := by decide +kernel
theorem dX0_enter_10 : decode cX0_enter 10 = .ok (.getfield 22, 3) := by decide +kernel
theorem dX0_enter_13 : decode cX0_enter 13 = .ok (.istore_n 3, 1) := by decide +kernel
theorem dX0_enter_14 : decode cX0_enter 14 = .ok (.aload_n 0, 1) := by decide +kernel
theorem dX0_enter_15 : decode cX0_enter 15 = .ok (.getfield 9, 3) := by decide +kernel
theorem dX0_enter_18 : decode cX0_enter 18 = .ok (.iload_n 3, 1) := by decide +kernel
theorem dX0_enter_19 : decode cX0_enter 19 = .ok (.iload_n 1, 1) := by decide +kernel
theorem dX0_enter_20 : decode cX0_enter 20 = .ok (.iastore, 1) := by decide +kernel
theorem dX0_enter_21 : decode cX0_enter 21 = .ok (.aload_n 0, 1) := by decide +kernel
theorem dX0_enter_22 : decode cX0_enter 22 = .ok (.getfield 15, 3) := by decide +kernel
theorem dX0_enter_25 : decode cX0_enter 25 = .ok (.iload_n 3, 1) := by decide +kernel
theorem dX0_enter_26 : decode cX0_enter 26 = .ok (.iload_n 2, 1) := by decide +kernel
theorem dX0_enter_27 : decode cX0_enter 27 = .ok (.iastore, 1) := by decide +kernel
theorem dX0_enter_28 : decode cX0_enter 28 = .ok (.aload_n 0, 1) := by decide +kernel
theorem dX0_enter_29 : decode cX0_enter 29 = .ok (.dup, 1) := by decide +kernel
theorem dX0_enter_30 : decode cX0_enter 30 = .ok (.getfield 22, 3) := by decide +kernel
theorem dX0_enter_33 : decode cX0_enter 33 = .ok (.iconst 1, 1) := by decide +kernel
theorem dX0_enter_34 : decode cX0_enter 34 = .ok (.iadd, 1) := by decide +kernel
theorem dX0_enter_35 : decode cX0_enter 35 = .ok (.putfield 22, 3) := by decide +kernel
theorem dX0_enter_38 : decode cX0_enter 38 = .ok (.iload_n 3, 1) := by decide +kernel
theorem dX0_enter_39 : decode cX0_enter 39 = .ok (.ireturn, 1) := by decide +kernel
set_option maxRecDepth 20000 in
theorem ggX0_boxOf_X3_isBelow : GoodIn wsX0_boxOf wsX3_isBelow := goodIn_r _ [5] (by decide +kernel) (by decide +kernel)
set_option maxRecDepth 20000 in
theorem gX0_boxOf_X3_isBelow_n33 : GoodIn wsX0_boxOf (wsX3_isBelow) := ggX0_boxOf_X3_isBelow
theorem dX0_boxOf_0 : decode cX0_boxOf 0 = .ok (.iload_n 1, 1) := by decide +kernel
theorem dX0_boxOf_1 : decode cX0_boxOf 1 = .ok (.aload_n 0, 1) := by decide +kernel
theorem dX0_boxOf_2 : decode cX0_boxOf 2 = .ok (.getfield 22, 3) := by decide +kernel
theorem dX0_boxOf_5 : decode cX0_boxOf 5 = .ok (.invokestatic 33, 3) := by decide +kernel
theorem dX0_boxOf_8 : decode cX0_boxOf 8 = .ok (.ifCond .eq 12, 3) := by decide +kernel
theorem dX0_boxOf_11 : decode cX0_boxOf 11 = .ok (.aload_n 0, 1) := by decide +kernel
theorem dX0_boxOf_12 : decode cX0_boxOf 12 = .ok (.getfield 9, 3) := by decide +kernel
theorem dX0_boxOf_15 : decode cX0_boxOf 15 = .ok (.iload_n 1, 1) := by decide +kernel
theorem dX0_boxOf_16 : decode cX0_boxOf 16 = .ok (.iaload, 1) := by decide +kernel
theorem dX0_boxOf_17 : decode cX0_boxOf 17 = .ok (.goto 4, 3) := by decide +kernel
theorem dX0_boxOf_20 : decode cX0_boxOf 20 = .ok (.iconst (-1), 1) := by decide +kernel
theorem dX0_boxOf_21 : decode cX0_boxOf 21 = .ok (.ireturn, 1) := by decide +kernel
theorem dX0_isOpenFor_0 : decode cX0_isOpenFor 0 = .ok (.iconst 0, 1) := by decide +kernel
theorem dX0_isOpenFor_1 : decode cX0_isOpenFor 1 = .ok (.istore_n 2, 1) := by decide +kernel
theorem dX0_isOpenFor_2 : decode cX0_isOpenFor 2 = .ok (.iload_n 2, 1) := by decide +kernel
theorem dX0_isOpenFor_3 : decode cX0_isOpenFor 3 = .ok (.aload_n 0, 1) := by decide +kernel
theorem dX0_isOpenFor_4 : decode cX0_isOpenFor 4 = .ok (.getfield 22, 3) := by decide +kernel
theorem dX0_isOpenFor_7 : decode cX0_isOpenFor 7 = .ok (.if_icmp .ge 30, 3) := by decide +kernel
theorem dX0_isOpenFor_10 : decode cX0_isOpenFor 10 = .ok (.aload_n 0, 1) := by decide +kernel
theorem dX0_isOpenFor_11 : decode cX0_isOpenFor 11 = .ok (.getfield 18, 3) := by decide +kernel
theorem dX0_isOpenFor_14 : decode cX0_isOpenFor 14 = .ok (.iload_n 2, 1) := by decide +kernel
theorem dX0_isOpenFor_15 : decode cX0_isOpenFor 15 = .ok (.baload, 1) := by decide +kernel
theorem dX0_isOpenFor_16 : decode cX0_isOpenFor 16 = .ok (.ifCond .ne 15, 3) := by decide +kernel
theorem dX0_isOpenFor_19 : decode cX0_isOpenFor 19 = .ok (.aload_n 0, 1) := by decide +kernel
theorem dX0_isOpenFor_20 : decode cX0_isOpenFor 20 = .ok (.getfield 9, 3) := by decide +kernel
theorem dX0_isOpenFor_23 : decode cX0_isOpenFor 23 = .ok (.iload_n 2, 1) := by decide +kernel
theorem dX0_isOpenFor_24 : decode cX0_isOpenFor 24 = .ok (.iaload, 1) := by decide +kernel
theorem dX0_isOpenFor_25 : decode cX0_isOpenFor 25 = .ok (.iload_n 1, 1) := by decide +kernel
theorem dX0_isOpenFor_26 : decode cX0_isOpenFor 26 = .ok (.if_icmp .ne 5, 3) := by decide +kernel
theorem dX0_isOpenFor_29 : decode cX0_isOpenFor 29 = .ok (.iconst 1, 1) := by decide +kernel
theorem dX0_isOpenFor_30 : decode cX0_isOpenFor 30 = .ok (.ireturn, 1) := by decide +kernel
theorem dX0_isOpenFor_31 : decode cX0_isOpenFor 31 = .ok (.iinc 2 1, 3) := by decide +kernel
theorem dX0_isOpenFor_34 : decode cX0_isOpenFor 34 = .ok (.goto (-32), 3) := by decide +kernel
theorem dX0_isOpenFor_37 : decode cX0_isOpenFor 37 = .ok (.iconst 0, 1) := by decide +kernel
theorem dX0_isOpenFor_38 : decode cX0_isOpenFor 38 = .ok (.ireturn, 1) := by decide +kernel
set_option maxRecDepth 20000 in
theorem ggX0_earliest_X2_aisleOfBox : GoodIn wsX0_earliest wsX2_aisleOfBox := goodIn_r _ [9, 10, 11, 12, 8, 13, 14, 15, 16, 17, 18, 19, 20, 21, 22, 23, 24, 25, 26, 27, 28, 29, 30, 36, 37, 38, 39, 40, 41] (by decide +kernel) (by decide +kernel)
set_option maxRecDepth 20000 in
theorem gX0_earliest_X2_aisleOfBox : GoodIn wsX0_earliest (wsV RX0 37 RX2 yX2_aisleOfBox wsX2_aisleOfBox) := goodIn_app (goodIn_of _ (by decide +kernel)) ggX0_earliest_X2_aisleOfBox
theorem dX0_earliest_0 : decode cX0_earliest 0 = .ok (.iconst (-1), 1) := by decide +kernel
theorem dX0_earliest_1 : decode cX0_earliest 1 = .ok (.istore_n 3, 1) := by decide +kernel
theorem dX0_earliest_2 : decode cX0_earliest 2 = .ok (.sipush 10001, 3) := by decide +kernel
theorem dX0_earliest_5 : decode cX0_earliest 5 = .ok (.istore 4, 2) := by decide +kernel
theorem dX0_earliest_7 : decode cX0_earliest 7 = .ok (.iconst 0, 1) := by decide +kernel
theorem dX0_earliest_8 : decode cX0_earliest 8 = .ok (.istore 5, 2) := by decide +kernel
theorem dX0_earliest_10 : decode cX0_earliest 10 = .ok (.iload 5, 2) := by decide +kernel
theorem dX0_earliest_12 : decode cX0_earliest 12 = .ok (.aload_n 0, 1) := by decide +kernel
theorem dX0_earliest_13 : decode cX0_earliest 13 = .ok (.getfield 22, 3) := by decide +kernel
theorem dX0_earliest_16 : decode cX0_earliest 16 = .ok (.if_icmp .ge 86, 3) := by decide +kernel
theorem dX0_earliest_19 : decode cX0_earliest 19 = .ok (.aload_n 1, 1) := by decide +kernel
theorem dX0_earliest_20 : decode cX0_earliest 20 = .ok (.aload_n 0, 1) := by decide +kernel
theorem dX0_earliest_21 : decode cX0_earliest 21 = .ok (.getfield 9, 3) := by decide +kernel
theorem dX0_earliest_24 : decode cX0_earliest 24 = .ok (.iload 5, 2) := by decide +kernel
theorem dX0_earliest_26 : decode cX0_earliest 26 = .ok (.iaload, 1) := by decide +kernel
theorem dX0_earliest_27 : decode cX0_earliest 27 = .ok (.invokevirtual 37, 3) := by decide +kernel
theorem dX0_earliest_30 : decode cX0_earliest 30 = .ok (.istore 6, 2) := by decide +kernel
theorem dX0_earliest_32 : decode cX0_earliest 32 = .ok (.iload 6, 2) := by decide +kernel
theorem dX0_earliest_34 : decode cX0_earliest 34 = .ok (.iconst (-1), 1) := by decide +kernel
theorem dX0_earliest_35 : decode cX0_earliest 35 = .ok (.if_icmp .eq 19, 3) := by decide +kernel
theorem dX0_earliest_38 : decode cX0_earliest 38 = .ok (.iload_n 2, 1) := by decide +kernel
theorem dX0_earliest_39 : decode cX0_earliest 39 = .ok (.bipush (-2), 2) := by decide +kernel
theorem dX0_earliest_41 : decode cX0_earliest 41 = .ok (.if_icmp .eq 9, 3) := by decide +kernel
theorem dX0_earliest_44 : decode cX0_earliest 44 = .ok (.iload 6, 2) := by decide +kernel
theorem dX0_earliest_46 : decode cX0_earliest 46 = .ok (.iload_n 2, 1) := by decide +kernel
theorem dX0_earliest_47 : decode cX0_earliest 47 = .ok (.if_icmp .ne 7, 3) := by decide +kernel
theorem dX0_earliest_50 : decode cX0_earliest 50 = .ok (.iconst 1, 1) := by decide +kernel
theorem dX0_earliest_51 : decode cX0_earliest 51 = .ok (.goto 4, 3) := by decide +kernel
theorem dX0_earliest_54 : decode cX0_earliest 54 = .ok (.iconst 0, 1) := by decide +kernel
theorem dX0_earliest_55 : decode cX0_earliest 55 = .ok (.istore 7, 2) := by decide +kernel
theorem dX0_earliest_57 : decode cX0_earliest 57 = .ok (.aload_n 0, 1) := by decide +kernel
theorem dX0_earliest_58 : decode cX0_earliest 58 = .ok (.getfield 18, 3) := by decide +kernel
theorem dX0_earliest_61 : decode cX0_earliest 61 = .ok (.iload 5, 2) := by decide +kernel
theorem dX0_earliest_63 : decode cX0_earliest 63 = .ok (.baload, 1) := by decide +kernel
theorem dX0_earliest_64 : decode cX0_earliest 64 = .ok (.ifCond .ne 32, 3) := by decide +kernel
theorem dX0_earliest_67 : decode cX0_earliest 67 = .ok (.iload 7, 2) := by decide +kernel
theorem dX0_earliest_69 : decode cX0_earliest 69 = .ok (.ifCond .eq 27, 3) := by decide +kernel
theorem dX0_earliest_72 : decode cX0_earliest 72 = .ok (.aload_n 0, 1) := by decide +kernel
theorem dX0_earliest_73 : decode cX0_earliest 73 = .ok (.getfield 15, 3) := by decide +kernel
theorem dX0_earliest_76 : decode cX0_earliest 76 = .ok (.iload 5, 2) := by decide +kernel
theorem dX0_earliest_78 : decode cX0_earliest 78 = .ok (.iaload, 1) := by decide +kernel
theorem dX0_earliest_79 : decode cX0_earliest 79 = .ok (.iload 4, 2) := by decide +kernel
theorem dX0_earliest_81 : decode cX0_earliest 81 = .ok (.if_icmp .ge 15, 3) := by decide +kernel
theorem dX0_earliest_84 : decode cX0_earliest 84 = .ok (.iload 5, 2) := by decide +kernel
theorem dX0_earliest_86 : decode cX0_earliest 86 = .ok (.istore_n 3, 1) := by decide +kernel
theorem dX0_earliest_87 : decode cX0_earliest 87 = .ok (.aload_n 0, 1) := by decide +kernel
theorem dX0_earliest_88 : decode cX0_earliest 88 = .ok (.getfield 15, 3) := by decide +kernel
theorem dX0_earliest_91 : decode cX0_earliest 91 = .ok (.iload 5, 2) := by decide +kernel
theorem dX0_earliest_93 : decode cX0_earliest 93 = .ok (.iaload, 1) := by decide +kernel
theorem dX0_earliest_94 : decode cX0_earliest 94 = .ok (.istore 4, 2) := by decide +kernel
theorem dX0_earliest_96 : decode cX0_earliest 96 = .ok (.iinc 5 1, 3) := by decide +kernel
theorem dX0_earliest_99 : decode cX0_earliest 99 = .ok (.goto (-89), 3) := by decide +kernel
theorem dX0_earliest_102 : decode cX0_earliest 102 = .ok (.iload_n 3, 1) := by decide +kernel
theorem dX0_earliest_103 : decode cX0_earliest 103 = .ok (.ireturn, 1) := by decide +kernel
set_option maxRecDepth 20000 in
theorem ggX0_finish_X3_isBelow : GoodIn wsX0_finish wsX3_isBelow := goodIn_r _ [7] (by decide +kernel) (by decide +kernel)
set_option maxRecDepth 20000 in
theorem gX0_finish_X3_isBelow_n33 : GoodIn wsX0_finish (wsX3_isBelow) := ggX0_finish_X3_isBelow
theorem dX0_finish_0 : decode cX0_finish 0 = .ok (.iload_n 1, 1) := by decide +kernel
theorem dX0_finish_1 : decode cX0_finish 1 = .ok (.aload_n 0, 1) := by decide +kernel
theorem dX0_finish_2 : decode cX0_finish 2 = .ok (.getfield 22, 3) := by decide +kernel
theorem dX0_finish_5 : decode cX0_finish 5 = .ok (.invokestatic 33, 3) := by decide +kernel
theorem dX0_finish_8 : decode cX0_finish 8 = .ok (.ifCond .eq 30, 3) := by decide +kernel
theorem dX0_finish_11 : decode cX0_finish 11 = .ok (.aload_n 0, 1) := by decide +kernel
theorem dX0_finish_12 : decode cX0_finish 12 = .ok (.getfield 18, 3) := by decide +kernel
theorem dX0_finish_15 : decode cX0_finish 15 = .ok (.iload_n 1, 1) := by decide +kernel
theorem dX0_finish_16 : decode cX0_finish 16 = .ok (.iconst 1, 1) := by decide +kernel
theorem dX0_finish_17 : decode cX0_finish 17 = .ok (.bastore, 1) := by decide +kernel
theorem dX0_finish_18 : decode cX0_finish 18 = .ok (.iload_n 2, 1) := by decide +kernel
theorem dX0_finish_19 : decode cX0_finish 19 = .ok (.aload_n 0, 1) := by decide +kernel
theorem dX0_finish_20 : decode cX0_finish 20 = .ok (.getfield 15, 3) := by decide +kernel
theorem dX0_finish_23 : decode cX0_finish 23 = .ok (.iload_n 1, 1) := by decide +kernel
theorem dX0_finish_24 : decode cX0_finish 24 = .ok (.iaload, 1) := by decide +kernel
theorem dX0_finish_25 : decode cX0_finish 25 = .ok (.if_icmp .le 13, 3) := by decide +kernel
theorem dX0_finish_28 : decode cX0_finish 28 = .ok (.aload_n 0, 1) := by decide +kernel
theorem dX0_finish_29 : decode cX0_finish 29 = .ok (.dup, 1) := by decide +kernel
theorem dX0_finish_30 : decode cX0_finish 30 = .ok (.getfield 26, 3) := by decide +kernel
theorem dX0_finish_33 : decode cX0_finish 33 = .ok (.iconst 1, 1) := by decide +kernel
theorem dX0_finish_34 : decode cX0_finish 34 = .ok (.iadd, 1) := by decide +kernel
theorem dX0_finish_35 : decode cX0_finish 35 = .ok (.putfield 26, 3) := by decide +kernel
theorem dX0_finish_38 : decode cX0_finish 38 = .ok (.return_, 1) := by decide +kernel
theorem dX0_countOpen_0 : decode cX0_countOpen 0 = .ok (.iconst 0, 1) := by decide +kernel
theorem dX0_countOpen_1 : decode cX0_countOpen 1 = .ok (.istore_n 1, 1) := by decide +kernel
theorem dX0_countOpen_2 : decode cX0_countOpen 2 = .ok (.iconst 0, 1) := by decide +kernel
theorem dX0_countOpen_3 : decode cX0_countOpen 3 = .ok (.istore_n 2, 1) := by decide +kernel
theorem dX0_countOpen_4 : decode cX0_countOpen 4 = .ok (.iload_n 2, 1) := by decide +kernel
theorem dX0_countOpen_5 : decode cX0_countOpen 5 = .ok (.aload_n 0, 1) := by decide +kernel
theorem dX0_countOpen_6 : decode cX0_countOpen 6 = .ok (.getfield 22, 3) := by decide +kernel
theorem dX0_countOpen_9 : decode cX0_countOpen 9 = .ok (.if_icmp .ge 21, 3) := by decide +kernel
theorem dX0_countOpen_12 : decode cX0_countOpen 12 = .ok (.aload_n 0, 1) := by decide +kernel
theorem dX0_countOpen_13 : decode cX0_countOpen 13 = .ok (.getfield 18, 3) := by decide +kernel
theorem dX0_countOpen_16 : decode cX0_countOpen 16 = .ok (.iload_n 2, 1) := by decide +kernel
theorem dX0_countOpen_17 : decode cX0_countOpen 17 = .ok (.baload, 1) := by decide +kernel
theorem dX0_countOpen_18 : decode cX0_countOpen 18 = .ok (.ifCond .ne 6, 3) := by decide +kernel
theorem dX0_countOpen_21 : decode cX0_countOpen 21 = .ok (.iinc 1 1, 3) := by decide +kernel
theorem dX0_countOpen_24 : decode cX0_countOpen 24 = .ok (.iinc 2 1, 3) := by decide +kernel
theorem dX0_countOpen_27 : decode cX0_countOpen 27 = .ok (.goto (-23), 3) := by decide +kernel
theorem dX0_countOpen_30 : decode cX0_countOpen 30 = .ok (.iload_n 1, 1) := by decide +kernel
theorem dX0_countOpen_31 : decode cX0_countOpen 31 = .ok (.ireturn, 1) := by decide +kernel
theorem dX0_countLate_0 : decode cX0_countLate 0 = .ok (.aload_n 0, 1) := by decide +kernel
theorem dX0_countLate_1 : decode cX0_countLate 1 = .ok (.getfield 26, 3) := by decide +kernel
theorem dX0_countLate_4 : decode cX0_countLate 4 = .ok (.ireturn, 1) := by decide +kernel
theorem dX1_init_0 : decode cX1_init 0 = .ok (.aload_n 0, 1) := by decide +kernel
theorem dX1_init_1 : decode cX1_init 1 = .ok (.invokespecial 3, 3) := by decide +kernel
theorem dX1_init_4 : decode cX1_init 4 = .ok (.aload_n 0, 1) := by decide +kernel
theorem dX1_init_5 : decode cX1_init 5 = .ok (.bipush 7, 2) := by decide +kernel
theorem dX1_init_7 : decode cX1_init 7 = .ok (.newarray .boolean, 2) := by decide +kernel
theorem dX1_init_9 : decode cX1_init 9 = .ok (.putfield 9, 3) := by decide +kernel
theorem dX1_init_12 : decode cX1_init 12 = .ok (.aload_n 0, 1) := by decide +kernel
theorem dX1_init_13 : decode cX1_init 13 = .ok (.iconst 4, 1) := by decide +kernel
theorem dX1_init_14 : decode cX1_init 14 = .ok (.newarray .boolean, 2) := by decide +kernel
theorem dX1_init_16 : decode cX1_init 16 = .ok (.putfield 15, 3) := by decide +kernel
theorem dX1_init_19 : decode cX1_init 19 = .ok (.aload_n 0, 1) := by decide +kernel
theorem dX1_init_20 : decode cX1_init 20 = .ok (.bipush 6, 2) := by decide +kernel
theorem dX1_init_22 : decode cX1_init 22 = .ok (.newarray .int, 2) := by decide +kernel
theorem dX1_init_24 : decode cX1_init 24 = .ok (.putfield 18, 3) := by decide +kernel
theorem dX1_init_27 : decode cX1_init 27 = .ok (.aload_n 0, 1) := by decide +kernel
theorem dX1_init_28 : decode cX1_init 28 = .ok (.iconst 0, 1) := by decide +kernel
theorem dX1_init_29 : decode cX1_init 29 = .ok (.putfield 22, 3) := by decide +kernel
theorem dX1_init_32 : decode cX1_init 32 = .ok (.aload_n 0, 1) := by decide +kernel
theorem dX1_init_33 : decode cX1_init 33 = .ok (.iconst 0, 1) := by decide +kernel
theorem dX1_init_34 : decode cX1_init 34 = .ok (.putfield 26, 3) := by decide +kernel
theorem dX1_init_37 : decode cX1_init 37 = .ok (.aload_n 0, 1) := by decide +kernel
theorem dX1_init_38 : decode cX1_init 38 = .ok (.iconst 0, 1) := by decide +kernel
theorem dX1_init_39 : decode cX1_init 39 = .ok (.putfield 29, 3) := by decide +kernel
theorem dX1_init_42 : decode cX1_init 42 = .ok (.aload_n 0, 1) := by decide +kernel
theorem dX1_init_43 : decode cX1_init 43 = .ok (.iconst 0, 1) := by decide +kernel
theorem dX1_init_44 : decode cX1_init 44 = .ok (.putfield 33, 3) := by decide +kernel
theorem dX1_init_47 : decode cX1_init 47 = .ok (.return_, 1) := by decide +kernel
theorem dX1_openAisle_0 : decode cX1_openAisle 0 = .ok (.aload_n 0, 1) := by decide +kernel
theorem dX1_openAisle_1 : decode cX1_openAisle 1 = .ok (.getfield 22, 3) := by decide +kernel
theorem dX1_openAisle_4 : decode cX1_openAisle 4 = .ok (.aload_n 0, 1) := by decide +kernel
theorem dX1_openAisle_5 : decode cX1_openAisle 5 = .ok (.getfield 26, 3) := by decide +kernel
theorem dX1_openAisle_8 : decode cX1_openAisle 8 = .ok (.if_icmp .ne 10, 3) := by decide +kernel
theorem dX1_openAisle_11 : decode cX1_openAisle 11 = .ok (.aload_n 0, 1) := by decide +kernel
theorem dX1_openAisle_12 : decode cX1_openAisle 12 = .ok (.getfield 22, 3) := by decide +kernel
theorem dX1_openAisle_15 : decode cX1_openAisle 15 = .ok (.goto 4, 3) := by decide +kernel
theorem dX1_openAisle_18 : decode cX1_openAisle 18 = .ok (.iconst (-1), 1) := by decide +kernel
theorem dX1_openAisle_19 : decode cX1_openAisle 19 = .ok (.ireturn, 1) := by decide +kernel
theorem dX1_openAisleByMoves_0 : decode cX1_openAisleByMoves 0 = .ok (.iconst 0, 1) := by decide +kernel
theorem dX1_openAisleByMoves_1 : decode cX1_openAisleByMoves 1 = .ok (.istore_n 1, 1) := by decide +kernel
theorem dX1_openAisleByMoves_2 : decode cX1_openAisleByMoves 2 = .ok (.iconst 0, 1) := by decide +kernel
theorem dX1_openAisleByMoves_3 : decode cX1_openAisleByMoves 3 = .ok (.istore_n 2, 1) := by decide +kernel
theorem dX1_openAisleByMoves_4 : decode cX1_openAisleByMoves 4 = .ok (.iload_n 2, 1) := by decide +kernel
theorem dX1_openAisleByMoves_5 : decode cX1_openAisleByMoves 5 = .ok (.bipush 6, 2) := by decide +kernel
theorem dX1_openAisleByMoves_7 : decode cX1_openAisleByMoves 7 = .ok (.if_icmp .ge 24, 3) := by decide +kernel
theorem dX1_openAisleByMoves_10 : decode cX1_openAisleByMoves 10 = .ok (.aload_n 0, 1) := by decide +kernel
theorem dX1_openAisleByMoves_11 : decode cX1_openAisleByMoves 11 = .ok (.getfield 18, 3) := by decide +kernel
theorem dX1_openAisleByMoves_14 : decode cX1_openAisleByMoves 14 = .ok (.iload_n 2, 1) := by decide +kernel
theorem dX1_openAisleByMoves_15 : decode cX1_openAisleByMoves 15 = .ok (.iaload, 1) := by decide +kernel
theorem dX1_openAisleByMoves_16 : decode cX1_openAisleByMoves 16 = .ok (.iconst 2, 1) := by decide +kernel
theorem dX1_openAisleByMoves_17 : decode cX1_openAisleByMoves 17 = .ok (.irem, 1) := by decide +kernel
theorem dX1_openAisleByMoves_18 : decode cX1_openAisleByMoves 18 = .ok (.iconst 1, 1) := by decide +kernel
theorem dX1_openAisleByMoves_19 : decode cX1_openAisleByMoves 19 = .ok (.if_icmp .ne 6, 3) := by decide +kernel
theorem dX1_openAisleByMoves_22 : decode cX1_openAisleByMoves 22 = .ok (.iinc 1 1, 3) := by decide +kernel
theorem dX1_openAisleByMoves_25 : decode cX1_openAisleByMoves 25 = .ok (.iinc 2 1, 3) := by decide +kernel
theorem dX1_openAisleByMoves_28 : decode cX1_openAisleByMoves 28 = .ok (.goto (-24), 3) := by decide +kernel
theorem dX1_openAisleByMoves_31 : decode cX1_openAisleByMoves 31 = .ok (.iload_n 1, 1) := by decide +kernel
theorem dX1_openAisleByMoves_32 : decode cX1_openAisleByMoves 32 = .ok (.aload_n 0, 1) := by decide +kernel
theorem dX1_openAisleByMoves_33 : decode cX1_openAisleByMoves 33 = .ok (.getfield 26, 3) := by decide +kernel
theorem dX1_openAisleByMoves_36 : decode cX1_openAisleByMoves 36 = .ok (.if_icmp .ne 7, 3) := by decide +kernel
theorem dX1_openAisleByMoves_39 : decode cX1_openAisleByMoves 39 = .ok (.iload_n 1, 1) := by decide +kernel
theorem dX1_openAisleByMoves_40 : decode cX1_openAisleByMoves 40 = .ok (.goto 4, 3) := by decide +kernel
theorem dX1_openAisleByMoves_43 : decode cX1_openAisleByMoves 43 = .ok (.iconst (-1), 1) := by decide +kernel
theorem dX1_openAisleByMoves_44 : decode cX1_openAisleByMoves 44 = .ok (.ireturn, 1) := by decide +kernel
set_option maxRecDepth 20000 in
theorem ggX1_mayOpen_X1_openAisle : GoodIn wsX1_mayOpen wsX1_openAisle := goodIn_r _ [7, 8, 9, 23, 24, 25, 26, 27, 28, 29] (by decide +kernel) (by decide +kernel)
set_option maxRecDepth 20000 in
theorem gX1_mayOpen_X1_openAisle : GoodIn wsX1_mayOpen (wsV RX1 36 RX1 yX1_openAisle wsX1_openAisle) := goodIn_app (goodIn_of _ (by decide +kernel)) ggX1_mayOpen_X1_openAisle
set_option maxRecDepth 20000 in
theorem ggX1_mayOpen_X1_countInside : GoodIn wsX1_mayOpen wsX1_countInside := goodIn_r _ [13, 14, 23, 24, 25, 26, 27, 28, 29] (by decide +kernel) (by decide +kernel)
set_option maxRecDepth 20000 in
theorem gX1_mayOpen_X1_countInside : GoodIn wsX1_mayOpen (wsV RX1 40 RX1 yX1_countInside wsX1_countInside) := goodIn_app (goodIn_of _ (by decide +kernel)) ggX1_mayOpen_X1_countInside
set_option maxRecDepth 20000 in
theorem ggX1_mayOpen_X1_hasDoubt : GoodIn wsX1_mayOpen wsX1_hasDoubt := goodIn_r _ [18, 19, 20, 21, 22, 23, 24, 25, 26, 27, 28, 29] (by decide +kernel) (by decide +kernel)
set_option maxRecDepth 20000 in
theorem gX1_mayOpen_X1_hasDoubt : GoodIn wsX1_mayOpen (wsV RX1 43 RX1 yX1_hasDoubt wsX1_hasDoubt) := goodIn_app (goodIn_of _ (by decide +kernel)) ggX1_mayOpen_X1_hasDoubt
theorem dX1_mayOpen_0 : decode cX1_mayOpen 0 = .ok (.aload_n 0, 1) := by decide +kernel
theorem dX1_mayOpen_1 : decode cX1_mayOpen 1 = .ok (.invokevirtual 36, 3) := by decide +kernel
theorem dX1_mayOpen_4 : decode cX1_mayOpen 4 = .ok (.istore_n 1, 1) := by decide +kernel
theorem dX1_mayOpen_5 : decode cX1_mayOpen 5 = .ok (.iload_n 1, 1) := by decide +kernel
theorem dX1_mayOpen_6 : decode cX1_mayOpen 6 = .ok (.iconst (-1), 1) := by decide +kernel
theorem dX1_mayOpen_7 : decode cX1_mayOpen 7 = .ok (.if_icmp .eq 36, 3) := by decide +kernel
theorem dX1_mayOpen_10 : decode cX1_mayOpen 10 = .ok (.aload_n 0, 1) := by decide +kernel
theorem dX1_mayOpen_11 : decode cX1_mayOpen 11 = .ok (.invokevirtual 40, 3) := by decide +kernel
theorem dX1_mayOpen_14 : decode cX1_mayOpen 14 = .ok (.ifCond .ne 29, 3) := by decide +kernel
theorem dX1_mayOpen_17 : decode cX1_mayOpen 17 = .ok (.aload_n 0, 1) := by decide +kernel
theorem dX1_mayOpen_18 : decode cX1_mayOpen 18 = .ok (.iload_n 1, 1) := by decide +kernel
theorem dX1_mayOpen_19 : decode cX1_mayOpen 19 = .ok (.invokevirtual 43, 3) := by decide +kernel
theorem dX1_mayOpen_22 : decode cX1_mayOpen 22 = .ok (.ifCond .ne 21, 3) := by decide +kernel
theorem dX1_mayOpen_25 : decode cX1_mayOpen 25 = .ok (.aload_n 0, 1) := by decide +kernel
theorem dX1_mayOpen_26 : decode cX1_mayOpen 26 = .ok (.getfield 29, 3) := by decide +kernel
theorem dX1_mayOpen_29 : decode cX1_mayOpen 29 = .ok (.ifCond .ne 14, 3) := by decide +kernel
theorem dX1_mayOpen_32 : decode cX1_mayOpen 32 = .ok (.aload_n 0, 1) := by decide +kernel
theorem dX1_mayOpen_33 : decode cX1_mayOpen 33 = .ok (.getfield 33, 3) := by decide +kernel
theorem dX1_mayOpen_36 : decode cX1_mayOpen 36 = .ok (.ifCond .ne 7, 3) := by decide +kernel
theorem dX1_mayOpen_39 : decode cX1_mayOpen 39 = .ok (.iconst 1, 1) := by decide +kernel
theorem dX1_mayOpen_40 : decode cX1_mayOpen 40 = .ok (.goto 4, 3) := by decide +kernel
theorem dX1_mayOpen_43 : decode cX1_mayOpen 43 = .ok (.iconst 0, 1) := by decide +kernel
theorem dX1_mayOpen_44 : decode cX1_mayOpen 44 = .ok (.ireturn, 1) := by decide +kernel
set_option maxRecDepth 20000 in
theorem ggX1_mayGoIn_X1_openAisle : GoodIn wsX1_mayGoIn wsX1_openAisle := goodIn_r _ [6, 7, 8, 9, 10, 11, 12, 13, 14, 15] (by decide +kernel) (by decide +kernel)
set_option maxRecDepth 20000 in
theorem gX1_mayGoIn_X1_openAisle : GoodIn wsX1_mayGoIn (wsV RX1 36 RX1 yX1_openAisle wsX1_openAisle) := goodIn_app (goodIn_of _ (by decide +kernel)) ggX1_mayGoIn_X1_openAisle
theorem dX1_mayGoIn_0 : decode cX1_mayGoIn 0 = .ok (.aload_n 0, 1) := by decide +kernel
theorem dX1_mayGoIn_1 : decode cX1_mayGoIn 1 = .ok (.invokevirtual 36, 3) := by decide +kernel
theorem dX1_mayGoIn_4 : decode cX1_mayGoIn 4 = .ok (.iconst (-1), 1) := by decide +kernel
theorem dX1_mayGoIn_5 : decode cX1_mayGoIn 5 = .ok (.if_icmp .eq 14, 3) := by decide +kernel
theorem dX1_mayGoIn_8 : decode cX1_mayGoIn 8 = .ok (.aload_n 0, 1) := by decide +kernel
theorem dX1_mayGoIn_9 : decode cX1_mayGoIn 9 = .ok (.getfield 33, 3) := by decide +kernel
theorem dX1_mayGoIn_12 : decode cX1_mayGoIn 12 = .ok (.ifCond .ne 7, 3) := by decide +kernel
theorem dX1_mayGoIn_15 : decode cX1_mayGoIn 15 = .ok (.iconst 1, 1) := by decide +kernel
theorem dX1_mayGoIn_16 : decode cX1_mayGoIn 16 = .ok (.goto 4, 3) := by decide +kernel
theorem dX1_mayGoIn_19 : decode cX1_mayGoIn 19 = .ok (.iconst 0, 1) := by decide +kernel
theorem dX1_mayGoIn_20 : decode cX1_mayGoIn 20 = .ok (.ireturn, 1) := by decide +kernel
theorem dX1_aimAt_0 : decode cX1_aimAt 0 = .ok (.aload_n 0, 1) := by decide +kernel
theorem dX1_aimAt_1 : decode cX1_aimAt 1 = .ok (.iload_n 1, 1) := by decide +kernel
theorem dX1_aimAt_2 : decode cX1_aimAt 2 = .ok (.putfield 26, 3) := by decide +kernel
theorem dX1_aimAt_5 : decode cX1_aimAt 5 = .ok (.return_, 1) := by decide +kernel
theorem dX1_movesToCome_0 : decode cX1_movesToCome 0 = .ok (.aload_n 0, 1) := by decide +kernel
theorem dX1_movesToCome_1 : decode cX1_movesToCome 1 = .ok (.getfield 26, 3) := by decide +kernel
theorem dX1_movesToCome_4 : decode cX1_movesToCome 4 = .ok (.aload_n 0, 1) := by decide +kernel
theorem dX1_movesToCome_5 : decode cX1_movesToCome 5 = .ok (.getfield 22, 3) := by decide +kernel
theorem dX1_movesToCome_8 : decode cX1_movesToCome 8 = .ok (.isub, 1) := by decide +kernel
theorem dX1_movesToCome_9 : decode cX1_movesToCome 9 = .ok (.invokestatic 47, 3) := by decide +kernel
theorem dX1_movesToCome_12 : decode cX1_movesToCome 12 = .ok (.ireturn, 1) := by decide +kernel
set_option maxRecDepth 20000 in
theorem ggX1_moveFor_X1_movesToCome : GoodIn wsX1_moveFor wsX1_movesToCome := goodIn_r _ [11, 12, 13, 14, 15, 5, 16, 25, 26, 27, 28, 29, 30, 31] (by decide +kernel) (by decide +kernel)
set_option maxRecDepth 20000 in
theorem gX1_moveFor_X1_movesToCome : GoodIn wsX1_moveFor (wsV RX1 53 RX1 yX1_movesToCome wsX1_movesToCome) := goodIn_app (goodIn_of _ (by decide +kernel)) ggX1_moveFor_X1_movesToCome
set_option maxRecDepth 20000 in
theorem ggX1_moveFor_X1_moveOne : GoodIn wsX1_moveFor wsX1_moveOne := goodIn_r _ [20, 13, 12, 21, 22, 23, 24, 25, 26, 27, 28, 29, 30, 31] (by decide +kernel) (by decide +kernel)
set_option maxRecDepth 20000 in
theorem gX1_moveFor_X1_moveOne : GoodIn wsX1_moveFor (wsV RX1 60 RX1 yX1_moveOne wsX1_moveOne) := goodIn_app (goodIn_of _ (by decide +kernel)) ggX1_moveFor_X1_moveOne
theorem dX1_moveFor_0 : decode cX1_moveFor 0 = .ok (.aload_n 0, 1) := by decide +kernel
theorem dX1_moveFor_1 : decode cX1_moveFor 1 = .ok (.getfield 29, 3) := by decide +kernel
theorem dX1_moveFor_4 : decode cX1_moveFor 4 = .ok (.ifCond .ne 10, 3) := by decide +kernel
theorem dX1_moveFor_7 : decode cX1_moveFor 7 = .ok (.aload_n 0, 1) := by decide +kernel
theorem dX1_moveFor_8 : decode cX1_moveFor 8 = .ok (.getfield 33, 3) := by decide +kernel
theorem dX1_moveFor_11 : decode cX1_moveFor 11 = .ok (.ifCond .eq 4, 3) := by decide +kernel
theorem dX1_moveFor_14 : decode cX1_moveFor 14 = .ok (.return_, 1) := by decide +kernel
theorem dX1_moveFor_15 : decode cX1_moveFor 15 = .ok (.iload_n 1, 1) := by decide +kernel
theorem dX1_moveFor_16 : decode cX1_moveFor 16 = .ok (.aload_n 0, 1) := by decide +kernel
theorem dX1_moveFor_17 : decode cX1_moveFor 17 = .ok (.invokevirtual 53, 3) := by decide +kernel
theorem dX1_moveFor_20 : decode cX1_moveFor 20 = .ok (.invokestatic 56, 3) := by decide +kernel
theorem dX1_moveFor_23 : decode cX1_moveFor 23 = .ok (.istore_n 2, 1) := by decide +kernel
theorem dX1_moveFor_24 : decode cX1_moveFor 24 = .ok (.iconst 0, 1) := by decide +kernel
theorem dX1_moveFor_25 : decode cX1_moveFor 25 = .ok (.istore_n 3, 1) := by decide +kernel
theorem dX1_moveFor_26 : decode cX1_moveFor 26 = .ok (.iload_n 3, 1) := by decide +kernel
theorem dX1_moveFor_27 : decode cX1_moveFor 27 = .ok (.iload_n 2, 1) := by decide +kernel
theorem dX1_moveFor_28 : decode cX1_moveFor 28 = .ok (.if_icmp .ge 13, 3) := by decide +kernel
theorem dX1_moveFor_31 : decode cX1_moveFor 31 = .ok (.aload_n 0, 1) := by decide +kernel
theorem dX1_moveFor_32 : decode cX1_moveFor 32 = .ok (.invokevirtual 60, 3) := by decide +kernel
theorem dX1_moveFor_35 : decode cX1_moveFor 35 = .ok (.iinc 3 1, 3) := by decide +kernel
theorem dX1_moveFor_38 : decode cX1_moveFor 38 = .ok (.goto (-12), 3) := by decide +kernel
theorem dX1_moveFor_41 : decode cX1_moveFor 41 = .ok (.return_, 1) := by decide +kernel
set_option maxRecDepth 20000 in
theorem ggX1_moveOne_X3_isBelow : GoodIn wsX1_moveOne wsX3_isBelow := goodIn_r _ [6] (by decide +kernel) (by decide +kernel)
set_option maxRecDepth 20000 in
theorem gX1_moveOne_X3_isBelow_n63 : GoodIn wsX1_moveOne (wsX3_isBelow) := ggX1_moveOne_X3_isBelow
theorem dX1_moveOne_0 : decode cX1_moveOne 0 = .ok (.aload_n 0, 1) := by decide +kernel
theorem dX1_moveOne_1 : decode cX1_moveOne 1 = .ok (.getfield 22, 3) := by decide +kernel
theorem dX1_moveOne_4 : decode cX1_moveOne 4 = .ok (.aload_n 0, 1) := by decide +kernel
theorem dX1_moveOne_5 : decode cX1_moveOne 5 = .ok (.getfield 26, 3) := by decide +kernel
theorem dX1_moveOne_8 : decode cX1_moveOne 8 = .ok (.if_icmp .ge 7, 3) := by decide +kernel
theorem dX1_moveOne_11 : decode cX1_moveOne 11 = .ok (.iconst 1, 1) := by decide +kernel
theorem dX1_moveOne_12 : decode cX1_moveOne 12 = .ok (.goto 4, 3) := by decide +kernel
theorem dX1_moveOne_15 : decode cX1_moveOne 15 = .ok (.iconst 0, 1) := by decide +kernel
theorem dX1_moveOne_16 : decode cX1_moveOne 16 = .ok (.istore_n 1, 1) := by decide +kernel
theorem dX1_moveOne_17 : decode cX1_moveOne 17 = .ok (.iload_n 1, 1) := by decide +kernel
theorem dX1_moveOne_18 : decode cX1_moveOne 18 = .ok (.ifCond .eq 10, 3) := by decide +kernel
theorem dX1_moveOne_21 : decode cX1_moveOne 21 = .ok (.aload_n 0, 1) := by decide +kernel
theorem dX1_moveOne_22 : decode cX1_moveOne 22 = .ok (.getfield 22, 3) := by decide +kernel
theorem dX1_moveOne_25 : decode cX1_moveOne 25 = .ok (.goto 9, 3) := by decide +kernel
theorem dX1_moveOne_28 : decode cX1_moveOne 28 = .ok (.aload_n 0, 1) := by decide +kernel
theorem dX1_moveOne_29 : decode cX1_moveOne 29 = .ok (.getfield 22, 3) := by decide +kernel
theorem dX1_moveOne_32 : decode cX1_moveOne 32 = .ok (.iconst 1, 1) := by decide +kernel
theorem dX1_moveOne_33 : decode cX1_moveOne 33 = .ok (.isub, 1) := by decide +kernel
theorem dX1_moveOne_34 : decode cX1_moveOne 34 = .ok (.istore_n 2, 1) := by decide +kernel
theorem dX1_moveOne_35 : decode cX1_moveOne 35 = .ok (.iload_n 2, 1) := by decide +kernel
theorem dX1_moveOne_36 : decode cX1_moveOne 36 = .ok (.bipush 6, 2) := by decide +kernel
theorem dX1_moveOne_38 : decode cX1_moveOne 38 = .ok (.invokestatic 63, 3) := by decide +kernel
theorem dX1_moveOne_41 : decode cX1_moveOne 41 = .ok (.ifCond .eq 36, 3) := by decide +kernel
theorem dX1_moveOne_44 : decode cX1_moveOne 44 = .ok (.aload_n 0, 1) := by decide +kernel
theorem dX1_moveOne_45 : decode cX1_moveOne 45 = .ok (.getfield 18, 3) := by decide +kernel
theorem dX1_moveOne_48 : decode cX1_moveOne 48 = .ok (.iload_n 2, 1) := by decide +kernel
theorem dX1_moveOne_49 : decode cX1_moveOne 49 = .ok (.dup2, 1) := by decide +kernel
theorem dX1_moveOne_50 : decode cX1_moveOne 50 = .ok (.iaload, 1) := by decide +kernel
theorem dX1_moveOne_51 : decode cX1_moveOne 51 = .ok (.iconst 1, 1) := by decide +kernel
theorem dX1_moveOne_52 : decode cX1_moveOne 52 = .ok (.iadd, 1) := by decide +kernel
theorem dX1_moveOne_53 : decode cX1_moveOne 53 = .ok (.iastore, 1) := by decide +kernel
theorem dX1_moveOne_54 : decode cX1_moveOne 54 = .ok (.aload_n 0, 1) := by decide +kernel
theorem dX1_moveOne_55 : decode cX1_moveOne 55 = .ok (.iload_n 1, 1) := by decide +kernel
theorem dX1_moveOne_56 : decode cX1_moveOne 56 = .ok (.ifCond .eq 12, 3) := by decide +kernel
theorem dX1_moveOne_59 : decode cX1_moveOne 59 = .ok (.aload_n 0, 1) := by decide +kernel
theorem dX1_moveOne_60 : decode cX1_moveOne 60 = .ok (.getfield 22, 3) := by decide +kernel
theorem dX1_moveOne_63 : decode cX1_moveOne 63 = .ok (.iconst 1, 1) := by decide +kernel
theorem dX1_moveOne_64 : decode cX1_moveOne 64 = .ok (.iadd, 1) := by decide +kernel
theorem dX1_moveOne_65 : decode cX1_moveOne 65 = .ok (.goto 9, 3) := by decide +kernel
theorem dX1_moveOne_68 : decode cX1_moveOne 68 = .ok (.aload_n 0, 1) := by decide +kernel
theorem dX1_moveOne_69 : decode cX1_moveOne 69 = .ok (.getfield 22, 3) := by decide +kernel
theorem dX1_moveOne_72 : decode cX1_moveOne 72 = .ok (.iconst 1, 1) := by decide +kernel
theorem dX1_moveOne_73 : decode cX1_moveOne 73 = .ok (.isub, 1) := by decide +kernel
theorem dX1_moveOne_74 : decode cX1_moveOne 74 = .ok (.putfield 22, 3) := by decide +kernel
theorem dX1_moveOne_77 : decode cX1_moveOne 77 = .ok (.return_, 1) := by decide +kernel
set_option maxRecDepth 20000 in
theorem ggX1_hasDoubt_X3_isBelow : GoodIn wsX1_hasDoubt wsX3_isBelow := goodIn_r _ [4] (by decide +kernel) (by decide +kernel)
set_option maxRecDepth 20000 in
theorem gX1_hasDoubt_X3_isBelow_n63 : GoodIn wsX1_hasDoubt (wsX3_isBelow) := ggX1_hasDoubt_X3_isBelow
theorem dX1_hasDoubt_0 : decode cX1_hasDoubt 0 = .ok (.iload_n 1, 1) := by decide +kernel
theorem dX1_hasDoubt_1 : decode cX1_hasDoubt 1 = .ok (.bipush 7, 2) := by decide +kernel
theorem dX1_hasDoubt_3 : decode cX1_hasDoubt 3 = .ok (.invokestatic 63, 3) := by decide +kernel
theorem dX1_hasDoubt_6 : decode cX1_hasDoubt 6 = .ok (.ifCond .eq 16, 3) := by decide +kernel
theorem dX1_hasDoubt_9 : decode cX1_hasDoubt 9 = .ok (.aload_n 0, 1) := by decide +kernel
theorem dX1_hasDoubt_10 : decode cX1_hasDoubt 10 = .ok (.getfield 9, 3) := by decide +kernel
theorem dX1_hasDoubt_13 : decode cX1_hasDoubt 13 = .ok (.iload_n 1, 1) := by decide +kernel
theorem dX1_hasDoubt_14 : decode cX1_hasDoubt 14 = .ok (.baload, 1) := by decide +kernel
theorem dX1_hasDoubt_15 : decode cX1_hasDoubt 15 = .ok (.ifCond .eq 7, 3) := by decide +kernel
theorem dX1_hasDoubt_18 : decode cX1_hasDoubt 18 = .ok (.iconst 1, 1) := by decide +kernel
theorem dX1_hasDoubt_19 : decode cX1_hasDoubt 19 = .ok (.goto 4, 3) := by decide +kernel
theorem dX1_hasDoubt_22 : decode cX1_hasDoubt 22 = .ok (.iconst 0, 1) := by decide +kernel
theorem dX1_hasDoubt_23 : decode cX1_hasDoubt 23 = .ok (.ireturn, 1) := by decide +kernel
set_option maxRecDepth 20000 in
theorem ggX1_setDoubt_X3_isBelow : GoodIn wsX1_setDoubt wsX3_isBelow := goodIn_r _ [4] (by decide +kernel) (by decide +kernel)
set_option maxRecDepth 20000 in
theorem gX1_setDoubt_X3_isBelow_n63 : GoodIn wsX1_setDoubt (wsX3_isBelow) := ggX1_setDoubt_X3_isBelow
theorem dX1_setDoubt_0 : decode cX1_setDoubt 0 = .ok (.iload_n 1, 1) := by decide +kernel
theorem dX1_setDoubt_1 : decode cX1_setDoubt 1 = .ok (.bipush 7, 2) := by decide +kernel
theorem dX1_setDoubt_3 : decode cX1_setDoubt 3 = .ok (.invokestatic 63, 3) := by decide +kernel
theorem dX1_setDoubt_6 : decode cX1_setDoubt 6 = .ok (.ifCond .eq 10, 3) := by decide +kernel
theorem dX1_setDoubt_9 : decode cX1_setDoubt 9 = .ok (.aload_n 0, 1) := by decide +kernel
theorem dX1_setDoubt_10 : decode cX1_setDoubt 10 = .ok (.getfield 9, 3) := by decide +kernel
theorem dX1_setDoubt_13 : decode cX1_setDoubt 13 = .ok (.iload_n 1, 1) := by decide +kernel
theorem dX1_setDoubt_14 : decode cX1_setDoubt 14 = .ok (.iload_n 2, 1) := by decide +kernel
theorem dX1_setDoubt_15 : decode cX1_setDoubt 15 = .ok (.bastore, 1) := by decide +kernel
theorem dX1_setDoubt_16 : decode cX1_setDoubt 16 = .ok (.return_, 1) := by decide +kernel
theorem dX1_changeStall_0 : decode cX1_changeStall 0 = .ok (.aload_n 0, 1) := by decide +kernel
theorem dX1_changeStall_1 : decode cX1_changeStall 1 = .ok (.getfield 29, 3) := by decide +kernel
theorem dX1_changeStall_4 : decode cX1_changeStall 4 = .ok (.iload_n 1, 1) := by decide +kernel
theorem dX1_changeStall_5 : decode cX1_changeStall 5 = .ok (.if_icmp .eq 7, 3) := by decide +kernel
theorem dX1_changeStall_8 : decode cX1_changeStall 8 = .ok (.iconst 1, 1) := by decide +kernel
theorem dX1_changeStall_9 : decode cX1_changeStall 9 = .ok (.goto 4, 3) := by decide +kernel
theorem dX1_changeStall_12 : decode cX1_changeStall 12 = .ok (.iconst 0, 1) := by decide +kernel
theorem dX1_changeStall_13 : decode cX1_changeStall 13 = .ok (.istore_n 2, 1) := by decide +kernel
theorem dX1_changeStall_14 : decode cX1_changeStall 14 = .ok (.aload_n 0, 1) := by decide +kernel
theorem dX1_changeStall_15 : decode cX1_changeStall 15 = .ok (.iload_n 1, 1) := by decide +kernel
theorem dX1_changeStall_16 : decode cX1_changeStall 16 = .ok (.putfield 29, 3) := by decide +kernel
theorem dX1_changeStall_19 : decode cX1_changeStall 19 = .ok (.iload_n 2, 1) := by decide +kernel
theorem dX1_changeStall_20 : decode cX1_changeStall 20 = .ok (.ireturn, 1) := by decide +kernel
theorem dX1_changeSmoke_0 : decode cX1_changeSmoke 0 = .ok (.aload_n 0, 1) := by decide +kernel
theorem dX1_changeSmoke_1 : decode cX1_changeSmoke 1 = .ok (.iload_n 1, 1) := by decide +kernel
theorem dX1_changeSmoke_2 : decode cX1_changeSmoke 2 = .ok (.putfield 33, 3) := by decide +kernel
theorem dX1_changeSmoke_5 : decode cX1_changeSmoke 5 = .ok (.return_, 1) := by decide +kernel
set_option maxRecDepth 20000 in
theorem ggX1_isInside_X3_isBelow : GoodIn wsX1_isInside wsX3_isBelow := goodIn_r _ [4] (by decide +kernel) (by decide +kernel)
set_option maxRecDepth 20000 in
theorem gX1_isInside_X3_isBelow_n63 : GoodIn wsX1_isInside (wsX3_isBelow) := ggX1_isInside_X3_isBelow
theorem dX1_isInside_0 : decode cX1_isInside 0 = .ok (.iload_n 1, 1) := by decide +kernel
theorem dX1_isInside_1 : decode cX1_isInside 1 = .ok (.iconst 4, 1) := by decide +kernel
theorem dX1_isInside_2 : decode cX1_isInside 2 = .ok (.invokestatic 63, 3) := by decide +kernel
theorem dX1_isInside_5 : decode cX1_isInside 5 = .ok (.ifCond .eq 16, 3) := by decide +kernel
theorem dX1_isInside_8 : decode cX1_isInside 8 = .ok (.aload_n 0, 1) := by decide +kernel
theorem dX1_isInside_9 : decode cX1_isInside 9 = .ok (.getfield 15, 3) := by decide +kernel
theorem dX1_isInside_12 : decode cX1_isInside 12 = .ok (.iload_n 1, 1) := by decide +kernel
theorem dX1_isInside_13 : decode cX1_isInside 13 = .ok (.baload, 1) := by decide +kernel
theorem dX1_isInside_14 : decode cX1_isInside 14 = .ok (.ifCond .eq 7, 3) := by decide +kernel
theorem dX1_isInside_17 : decode cX1_isInside 17 = .ok (.iconst 1, 1) := by decide +kernel
theorem dX1_isInside_18 : decode cX1_isInside 18 = .ok (.goto 4, 3) := by decide +kernel
theorem dX1_isInside_21 : decode cX1_isInside 21 = .ok (.iconst 0, 1) := by decide +kernel
theorem dX1_isInside_22 : decode cX1_isInside 22 = .ok (.ireturn, 1) := by decide +kernel
set_option maxRecDepth 20000 in
theorem ggX1_setInside_X3_isBelow : GoodIn wsX1_setInside wsX3_isBelow := goodIn_r _ [4] (by decide +kernel) (by decide +kernel)
set_option maxRecDepth 20000 in
theorem gX1_setInside_X3_isBelow_n63 : GoodIn wsX1_setInside (wsX3_isBelow) := ggX1_setInside_X3_isBelow
theorem dX1_setInside_0 : decode cX1_setInside 0 = .ok (.iload_n 1, 1) := by decide +kernel
theorem dX1_setInside_1 : decode cX1_setInside 1 = .ok (.iconst 4, 1) := by decide +kernel
theorem dX1_setInside_2 : decode cX1_setInside 2 = .ok (.invokestatic 63, 3) := by decide +kernel
theorem dX1_setInside_5 : decode cX1_setInside 5 = .ok (.ifCond .eq 10, 3) := by decide +kernel
theorem dX1_setInside_8 : decode cX1_setInside 8 = .ok (.aload_n 0, 1) := by decide +kernel
theorem dX1_setInside_9 : decode cX1_setInside 9 = .ok (.getfield 15, 3) := by decide +kernel
theorem dX1_setInside_12 : decode cX1_setInside 12 = .ok (.iload_n 1, 1) := by decide +kernel
theorem dX1_setInside_13 : decode cX1_setInside 13 = .ok (.iload_n 2, 1) := by decide +kernel
theorem dX1_setInside_14 : decode cX1_setInside 14 = .ok (.bastore, 1) := by decide +kernel
theorem dX1_setInside_15 : decode cX1_setInside 15 = .ok (.return_, 1) := by decide +kernel
theorem dX1_countInside_0 : decode cX1_countInside 0 = .ok (.iconst 0, 1) := by decide +kernel
theorem dX1_countInside_1 : decode cX1_countInside 1 = .ok (.istore_n 1, 1) := by decide +kernel
theorem dX1_countInside_2 : decode cX1_countInside 2 = .ok (.iconst 0, 1) := by decide +kernel
theorem dX1_countInside_3 : decode cX1_countInside 3 = .ok (.istore_n 2, 1) := by decide +kernel
theorem dX1_countInside_4 : decode cX1_countInside 4 = .ok (.iload_n 2, 1) := by decide +kernel
theorem dX1_countInside_5 : decode cX1_countInside 5 = .ok (.iconst 4, 1) := by decide +kernel
theorem dX1_countInside_6 : decode cX1_countInside 6 = .ok (.if_icmp .ge 21, 3) := by decide +kernel
theorem dX1_countInside_9 : decode cX1_countInside 9 = .ok (.aload_n 0, 1) := by decide +kernel
theorem dX1_countInside_10 : decode cX1_countInside 10 = .ok (.getfield 15, 3) := by decide +kernel
theorem dX1_countInside_13 : decode cX1_countInside 13 = .ok (.iload_n 2, 1) := by decide +kernel
theorem dX1_countInside_14 : decode cX1_countInside 14 = .ok (.baload, 1) := by decide +kernel
theorem dX1_countInside_15 : decode cX1_countInside 15 = .ok (.ifCond .eq 6, 3) := by decide +kernel
theorem dX1_countInside_18 : decode cX1_countInside 18 = .ok (.iinc 1 1, 3) := by decide +kernel
theorem dX1_countInside_21 : decode cX1_countInside 21 = .ok (.iinc 2 1, 3) := by decide +kernel
theorem dX1_countInside_24 : decode cX1_countInside 24 = .ok (.goto (-20), 3) := by decide +kernel
theorem dX1_countInside_27 : decode cX1_countInside 27 = .ok (.iload_n 1, 1) := by decide +kernel
theorem dX1_countInside_28 : decode cX1_countInside 28 = .ok (.ireturn, 1) := by decide +kernel
set_option maxRecDepth 20000 in
theorem ggX1_sendAllOut_X1_countInside : GoodIn wsX1_sendAllOut wsX1_countInside := goodIn_r _ [6, 1, 7, 8, 9, 10, 11, 12, 13] (by decide +kernel) (by decide +kernel)
set_option maxRecDepth 20000 in
theorem gX1_sendAllOut_X1_countInside : GoodIn wsX1_sendAllOut (wsV RX1 40 RX1 yX1_countInside wsX1_countInside) := goodIn_app (goodIn_of _ (by decide +kernel)) ggX1_sendAllOut_X1_countInside
theorem dX1_sendAllOut_0 : decode cX1_sendAllOut 0 = .ok (.aload_n 0, 1) := by decide +kernel
theorem dX1_sendAllOut_1 : decode cX1_sendAllOut 1 = .ok (.invokevirtual 40, 3) := by decide +kernel
theorem dX1_sendAllOut_4 : decode cX1_sendAllOut 4 = .ok (.istore_n 1, 1) := by decide +kernel
theorem dX1_sendAllOut_5 : decode cX1_sendAllOut 5 = .ok (.iconst 0, 1) := by decide +kernel
theorem dX1_sendAllOut_6 : decode cX1_sendAllOut 6 = .ok (.istore_n 2, 1) := by decide +kernel
theorem dX1_sendAllOut_7 : decode cX1_sendAllOut 7 = .ok (.iload_n 2, 1) := by decide +kernel
theorem dX1_sendAllOut_8 : decode cX1_sendAllOut 8 = .ok (.iconst 4, 1) := by decide +kernel
theorem dX1_sendAllOut_9 : decode cX1_sendAllOut 9 = .ok (.if_icmp .ge 16, 3) := by decide +kernel
theorem dX1_sendAllOut_12 : decode cX1_sendAllOut 12 = .ok (.aload_n 0, 1) := by decide +kernel
theorem dX1_sendAllOut_13 : decode cX1_sendAllOut 13 = .ok (.getfield 15, 3) := by decide +kernel
theorem dX1_sendAllOut_16 : decode cX1_sendAllOut 16 = .ok (.iload_n 2, 1) := by decide +kernel
theorem dX1_sendAllOut_17 : decode cX1_sendAllOut 17 = .ok (.iconst 0, 1) := by decide +kernel
theorem dX1_sendAllOut_18 : decode cX1_sendAllOut 18 = .ok (.bastore, 1) := by decide +kernel
theorem dX1_sendAllOut_19 : decode cX1_sendAllOut 19 = .ok (.iinc 2 1, 3) := by decide +kernel
theorem dX1_sendAllOut_22 : decode cX1_sendAllOut 22 = .ok (.goto (-15), 3) := by decide +kernel
theorem dX1_sendAllOut_25 : decode cX1_sendAllOut 25 = .ok (.iload_n 1, 1) := by decide +kernel
theorem dX1_sendAllOut_26 : decode cX1_sendAllOut 26 = .ok (.ireturn, 1) := by decide +kernel
theorem dX2_init_0 : decode cX2_init 0 = .ok (.aload_n 0, 1) := by decide +kernel
theorem dX2_init_1 : decode cX2_init 1 = .ok (.invokespecial 3, 3) := by decide +kernel
theorem dX2_init_4 : decode cX2_init 4 = .ok (.aload_n 0, 1) := by decide +kernel
theorem dX2_init_5 : decode cX2_init 5 = .ok (.bipush 6, 2) := by decide +kernel
theorem dX2_init_7 : decode cX2_init 7 = .ok (.newarray .int, 2) := by decide +kernel
theorem dX2_init_9 : decode cX2_init 9 = .ok (.putfield 9, 3) := by decide +kernel
theorem dX2_init_12 : decode cX2_init 12 = .ok (.aload_n 0, 1) := by decide +kernel
theorem dX2_init_13 : decode cX2_init 13 = .ok (.bipush 20, 2) := by decide +kernel
theorem dX2_init_15 : decode cX2_init 15 = .ok (.newarray .int, 2) := by decide +kernel
theorem dX2_init_17 : decode cX2_init 17 = .ok (.putfield 15, 3) := by decide +kernel
theorem dX2_init_20 : decode cX2_init 20 = .ok (.aload_n 0, 1) := by decide +kernel
theorem dX2_init_21 : decode cX2_init 21 = .ok (.bipush 20, 2) := by decide +kernel
theorem dX2_init_23 : decode cX2_init 23 = .ok (.newarray .int, 2) := by decide +kernel
theorem dX2_init_25 : decode cX2_init 25 = .ok (.putfield 18, 3) := by decide +kernel
theorem dX2_init_28 : decode cX2_init 28 = .ok (.aload_n 0, 1) := by decide +kernel
theorem dX2_init_29 : decode cX2_init 29 = .ok (.bipush 20, 2) := by decide +kernel
theorem dX2_init_31 : decode cX2_init 31 = .ok (.newarray .int, 2) := by decide +kernel
theorem dX2_init_33 : decode cX2_init 33 = .ok (.putfield 21, 3) := by decide +kernel
theorem dX2_init_36 : decode cX2_init 36 = .ok (.aload_n 0, 1) := by decide +kernel
theorem dX2_init_37 : decode cX2_init 37 = .ok (.bipush 20, 2) := by decide +kernel
theorem dX2_init_39 : decode cX2_init 39 = .ok (.newarray .int, 2) := by decide +kernel
theorem dX2_init_41 : decode cX2_init 41 = .ok (.putfield 24, 3) := by decide +kernel
theorem dX2_init_44 : decode cX2_init 44 = .ok (.aload_n 0, 1) := by decide +kernel
theorem dX2_init_45 : decode cX2_init 45 = .ok (.iconst 0, 1) := by decide +kernel
theorem dX2_init_46 : decode cX2_init 46 = .ok (.putfield 27, 3) := by decide +kernel
theorem dX2_init_49 : decode cX2_init 49 = .ok (.return_, 1) := by decide +kernel
set_option maxRecDepth 20000 in
theorem ggX2_climateOf_X3_isBelow : GoodIn wsX2_climateOf wsX3_isBelow := goodIn_r _ [4] (by decide +kernel) (by decide +kernel)
set_option maxRecDepth 20000 in
theorem gX2_climateOf_X3_isBelow_n31 : GoodIn wsX2_climateOf (wsX3_isBelow) := ggX2_climateOf_X3_isBelow
theorem dX2_climateOf_0 : decode cX2_climateOf 0 = .ok (.iload_n 1, 1) := by decide +kernel
theorem dX2_climateOf_1 : decode cX2_climateOf 1 = .ok (.bipush 6, 2) := by decide +kernel
theorem dX2_climateOf_3 : decode cX2_climateOf 3 = .ok (.invokestatic 31, 3) := by decide +kernel
theorem dX2_climateOf_6 : decode cX2_climateOf 6 = .ok (.ifCond .eq 12, 3) := by decide +kernel
theorem dX2_climateOf_9 : decode cX2_climateOf 9 = .ok (.aload_n 0, 1) := by decide +kernel
theorem dX2_climateOf_10 : decode cX2_climateOf 10 = .ok (.getfield 9, 3) := by decide +kernel
theorem dX2_climateOf_13 : decode cX2_climateOf 13 = .ok (.iload_n 1, 1) := by decide +kernel
theorem dX2_climateOf_14 : decode cX2_climateOf 14 = .ok (.iaload, 1) := by decide +kernel
theorem dX2_climateOf_15 : decode cX2_climateOf 15 = .ok (.goto 4, 3) := by decide +kernel
theorem dX2_climateOf_18 : decode cX2_climateOf 18 = .ok (.iconst (-1), 1) := by decide +kernel
theorem dX2_climateOf_19 : decode cX2_climateOf 19 = .ok (.ireturn, 1) := by decide +kernel
set_option maxRecDepth 20000 in
theorem ggX2_changeClimate_X3_isBelow : GoodIn wsX2_changeClimate wsX3_isBelow := goodIn_r _ [4] (by decide +kernel) (by decide +kernel)
set_option maxRecDepth 20000 in
theorem gX2_changeClimate_X3_isBelow_n31 : GoodIn wsX2_changeClimate (wsX3_isBelow) := ggX2_changeClimate_X3_isBelow
theorem dX2_changeClimate_0 : decode cX2_changeClimate 0 = .ok (.iload_n 1, 1) := by decide +kernel
theorem dX2_changeClimate_1 : decode cX2_changeClimate 1 = .ok (.bipush 6, 2) := by decide +kernel
theorem dX2_changeClimate_3 : decode cX2_changeClimate 3 = .ok (.invokestatic 31, 3) := by decide +kernel
theorem dX2_changeClimate_6 : decode cX2_changeClimate 6 = .ok (.ifCond .eq 10, 3) := by decide +kernel
theorem dX2_changeClimate_9 : decode cX2_changeClimate 9 = .ok (.aload_n 0, 1) := by decide +kernel
theorem dX2_changeClimate_10 : decode cX2_changeClimate 10 = .ok (.getfield 9, 3) := by decide +kernel
theorem dX2_changeClimate_13 : decode cX2_changeClimate 13 = .ok (.iload_n 1, 1) := by decide +kernel
theorem dX2_changeClimate_14 : decode cX2_changeClimate 14 = .ok (.iload_n 2, 1) := by decide +kernel
theorem dX2_changeClimate_15 : decode cX2_changeClimate 15 = .ok (.iastore, 1) := by decide +kernel
theorem dX2_changeClimate_16 : decode cX2_changeClimate 16 = .ok (.return_, 1) := by decide +kernel
theorem dX2_isFull_0 : decode cX2_isFull 0 = .ok (.aload_n 0, 1) := by decide +kernel
theorem dX2_isFull_1 : decode cX2_isFull 1 = .ok (.getfield 27, 3) := by decide +kernel
theorem dX2_isFull_4 : decode cX2_isFull 4 = .ok (.bipush 20, 2) := by decide +kernel
theorem dX2_isFull_6 : decode cX2_isFull 6 = .ok (.if_icmp .lt 7, 3) := by decide +kernel
theorem dX2_isFull_9 : decode cX2_isFull 9 = .ok (.iconst 1, 1) := by decide +kernel
theorem dX2_isFull_10 : decode cX2_isFull 10 = .ok (.goto 4, 3) := by decide +kernel
theorem dX2_isFull_13 : decode cX2_isFull 13 = .ok (.iconst 0, 1) := by decide +kernel
theorem dX2_isFull_14 : decode cX2_isFull 14 = .ok (.ireturn, 1) := by decide +kernel
set_option maxRecDepth 20000 in
theorem ggX2_has_X3_isBelow : GoodIn wsX2_has wsX3_isBelow := goodIn_r _ [4] (by decide +kernel) (by decide +kernel)
set_option maxRecDepth 20000 in
theorem gX2_has_X3_isBelow_n31 : GoodIn wsX2_has (wsX3_isBelow) := ggX2_has_X3_isBelow
theorem dX2_has_0 : decode cX2_has 0 = .ok (.iload_n 1, 1) := by decide +kernel
theorem dX2_has_1 : decode cX2_has 1 = .ok (.aload_n 0, 1) := by decide +kernel
theorem dX2_has_2 : decode cX2_has 2 = .ok (.getfield 27, 3) := by decide +kernel
theorem dX2_has_5 : decode cX2_has 5 = .ok (.invokestatic 31, 3) := by decide +kernel
theorem dX2_has_8 : decode cX2_has 8 = .ok (.ireturn, 1) := by decide +kernel
set_option maxRecDepth 20000 in
theorem ggX2_enter_X2_isFull : GoodIn wsX2_enter wsX2_isFull := goodIn_r _ [10, 1, 11, 12, 13, 14, 15, 16] (by decide +kernel) (by decide +kernel)
set_option maxRecDepth 20000 in
theorem gX2_enter_X2_isFull : GoodIn wsX2_enter (wsV RX2 35 RX2 yX2_isFull wsX2_isFull) := goodIn_app (goodIn_of _ (by decide +kernel)) ggX2_enter_X2_isFull
theorem dX2_enter_0 : decode cX2_enter 0 = .ok (.aload_n 0, 1) := by decide +kernel
theorem dX2_enter_1 : decode cX2_enter 1 = .ok (.invokevirtual 35, 3) := by decide +kernel
theorem dX2_enter_4 : decode cX2_enter 4 = .ok (.ifCond .eq 5, 3) := by decide +kernel
theorem dX2_enter_7 : decode cX2_enter 7 = .ok (.iconst (-1), 1) := by decide +kernel
theorem dX2_enter_8 : decode cX2_enter 8 = .ok (.ireturn, 1) := by decide +kernel
theorem dX2_enter_9 : decode cX2_enter 9 = .ok (.aload_n 0, 1) := by decide +kernel
theorem dX2_enter_10 : decode cX2_enter 10 = .ok (.getfield 27, 3) := by decide +kernel
theorem dX2_enter_13 : decode cX2_enter 13 = .ok (.istore 4, 2) := by decide +kernel
theorem dX2_enter_15 : decode cX2_enter 15 = .ok (.aload_n 0, 1) := by decide +kernel
theorem dX2_enter_16 : decode cX2_enter 16 = .ok (.getfield 15, 3) := by decide +kernel
theorem dX2_enter_19 : decode cX2_enter 19 = .ok (.iload 4, 2) := by decide +kernel
theorem dX2_enter_21 : decode cX2_enter 21 = .ok (.iload_n 1, 1) := by decide +kernel
theorem dX2_enter_22 : decode cX2_enter 22 = .ok (.iastore, 1) := by decide +kernel
theorem dX2_enter_23 : decode cX2_enter 23 = .ok (.aload_n 0, 1) := by decide +kernel
theorem dX2_enter_24 : decode cX2_enter 24 = .ok (.getfield 18, 3) := by decide +kernel
theorem dX2_enter_27 : decode cX2_enter 27 = .ok (.iload 4, 2) := by decide +kernel
theorem dX2_enter_29 : decode cX2_enter 29 = .ok (.iload_n 2, 1) := by decide +kernel
theorem dX2_enter_30 : decode cX2_enter 30 = .ok (.iastore, 1) := by decide +kernel
theorem dX2_enter_31 : decode cX2_enter 31 = .ok (.aload_n 0, 1) := by decide +kernel
theorem dX2_enter_32 : decode cX2_enter 32 = .ok (.getfield 21, 3) := by decide +kernel
theorem dX2_enter_35 : decode cX2_enter 35 = .ok (.iload 4, 2) := by decide +kernel
theorem dX2_enter_37 : decode cX2_enter 37 = .ok (.iload_n 3, 1) := by decide +kernel
theorem dX2_enter_38 : decode cX2_enter 38 = .ok (.iastore, 1) := by decide +kernel
theorem dX2_enter_39 : decode cX2_enter 39 = .ok (.aload_n 0, 1) := by decide +kernel
theorem dX2_enter_40 : decode cX2_enter 40 = .ok (.getfield 24, 3) := by decide +kernel
theorem dX2_enter_43 : decode cX2_enter 43 = .ok (.iload 4, 2) := by decide +kernel
theorem dX2_enter_45 : decode cX2_enter 45 = .ok (.iconst (-1), 1) := by decide +kernel
theorem dX2_enter_46 : decode cX2_enter 46 = .ok (.iastore, 1) := by decide +kernel
theorem dX2_enter_47 : decode cX2_enter 47 = .ok (.aload_n 0, 1) := by decide +kernel
theorem dX2_enter_48 : decode cX2_enter 48 = .ok (.dup, 1) := by decide +kernel
theorem dX2_enter_49 : decode cX2_enter 49 = .ok (.getfield 27, 3) := by decide +kernel
theorem dX2_enter_52 : decode cX2_enter 52 = .ok (.iconst 1, 1) := by decide +kernel
theorem dX2_enter_53 : decode cX2_enter 53 = .ok (.iadd, 1) := by decide +kernel
theorem dX2_enter_54 : decode cX2_enter 54 = .ok (.putfield 27, 3) := by decide +kernel
theorem dX2_enter_57 : decode cX2_enter 57 = .ok (.iload 4, 2) := by decide +kernel
theorem dX2_enter_59 : decode cX2_enter 59 = .ok (.ireturn, 1) := by decide +kernel
set_option maxRecDepth 20000 in
theorem ggX2_whereIs_X2_has : GoodIn wsX2_whereIs wsX2_has := goodIn_r _ [6, 7, 8, 9, 10, 11, 12, 13, 14, 15, 16] (by decide +kernel) (by decide +kernel)
set_option maxRecDepth 20000 in
theorem gX2_whereIs_X2_has : GoodIn wsX2_whereIs (wsV RX2 39 RX2 yX2_has wsX2_has) := goodIn_app (goodIn_of _ (by decide +kernel)) ggX2_whereIs_X2_has
theorem dX2_whereIs_0 : decode cX2_whereIs 0 = .ok (.aload_n 0, 1) := by decide +kernel
theorem dX2_whereIs_1 : decode cX2_whereIs 1 = .ok (.iload_n 1, 1) := by decide +kernel
theorem dX2_whereIs_2 : decode cX2_whereIs 2 = .ok (.invokevirtual 39, 3) := by decide +kernel
theorem dX2_whereIs_5 : decode cX2_whereIs 5 = .ok (.ifCond .eq 12, 3) := by decide +kernel
theorem dX2_whereIs_8 : decode cX2_whereIs 8 = .ok (.aload_n 0, 1) := by decide +kernel
theorem dX2_whereIs_9 : decode cX2_whereIs 9 = .ok (.getfield 24, 3) := by decide +kernel
theorem dX2_whereIs_12 : decode cX2_whereIs 12 = .ok (.iload_n 1, 1) := by decide +kernel
theorem dX2_whereIs_13 : decode cX2_whereIs 13 = .ok (.iaload, 1) := by decide +kernel
theorem dX2_whereIs_14 : decode cX2_whereIs 14 = .ok (.goto 4, 3) := by decide +kernel
theorem dX2_whereIs_17 : decode cX2_whereIs 17 = .ok (.iconst (-1), 1) := by decide +kernel
theorem dX2_whereIs_18 : decode cX2_whereIs 18 = .ok (.ireturn, 1) := by decide +kernel
set_option maxRecDepth 20000 in
theorem ggX2_put_X2_has : GoodIn wsX2_put wsX2_has := goodIn_r _ [6, 7, 8, 9, 10, 11, 12, 13, 14, 15, 16] (by decide +kernel) (by decide +kernel)
set_option maxRecDepth 20000 in
theorem gX2_put_X2_has : GoodIn wsX2_put (wsV RX2 39 RX2 yX2_has wsX2_has) := goodIn_app (goodIn_of _ (by decide +kernel)) ggX2_put_X2_has
theorem dX2_put_0 : decode cX2_put 0 = .ok (.aload_n 0, 1) := by decide +kernel
theorem dX2_put_1 : decode cX2_put 1 = .ok (.iload_n 1, 1) := by decide +kernel
theorem dX2_put_2 : decode cX2_put 2 = .ok (.invokevirtual 39, 3) := by decide +kernel
theorem dX2_put_5 : decode cX2_put 5 = .ok (.ifCond .eq 10, 3) := by decide +kernel
theorem dX2_put_8 : decode cX2_put 8 = .ok (.aload_n 0, 1) := by decide +kernel
theorem dX2_put_9 : decode cX2_put 9 = .ok (.getfield 24, 3) := by decide +kernel
theorem dX2_put_12 : decode cX2_put 12 = .ok (.iload_n 1, 1) := by decide +kernel
theorem dX2_put_13 : decode cX2_put 13 = .ok (.iload_n 2, 1) := by decide +kernel
theorem dX2_put_14 : decode cX2_put 14 = .ok (.iastore, 1) := by decide +kernel
theorem dX2_put_15 : decode cX2_put 15 = .ok (.return_, 1) := by decide +kernel
theorem dX2_boxIn_0 : decode cX2_boxIn 0 = .ok (.iconst 0, 1) := by decide +kernel
theorem dX2_boxIn_1 : decode cX2_boxIn 1 = .ok (.istore_n 2, 1) := by decide +kernel
theorem dX2_boxIn_2 : decode cX2_boxIn 2 = .ok (.iload_n 2, 1) := by decide +kernel
theorem dX2_boxIn_3 : decode cX2_boxIn 3 = .ok (.aload_n 0, 1) := by decide +kernel
theorem dX2_boxIn_4 : decode cX2_boxIn 4 = .ok (.getfield 27, 3) := by decide +kernel
theorem dX2_boxIn_7 : decode cX2_boxIn 7 = .ok (.if_icmp .ge 21, 3) := by decide +kernel
theorem dX2_boxIn_10 : decode cX2_boxIn 10 = .ok (.aload_n 0, 1) := by decide +kernel
theorem dX2_boxIn_11 : decode cX2_boxIn 11 = .ok (.getfield 24, 3) := by decide +kernel
theorem dX2_boxIn_14 : decode cX2_boxIn 14 = .ok (.iload_n 2, 1) := by decide +kernel
theorem dX2_boxIn_15 : decode cX2_boxIn 15 = .ok (.iaload, 1) := by decide +kernel
theorem dX2_boxIn_16 : decode cX2_boxIn 16 = .ok (.iload_n 1, 1) := by decide +kernel
theorem dX2_boxIn_17 : decode cX2_boxIn 17 = .ok (.if_icmp .ne 5, 3) := by decide +kernel
theorem dX2_boxIn_20 : decode cX2_boxIn 20 = .ok (.iload_n 2, 1) := by decide +kernel
theorem dX2_boxIn_21 : decode cX2_boxIn 21 = .ok (.ireturn, 1) := by decide +kernel
theorem dX2_boxIn_22 : decode cX2_boxIn 22 = .ok (.iinc 2 1, 3) := by decide +kernel
theorem dX2_boxIn_25 : decode cX2_boxIn 25 = .ok (.goto (-23), 3) := by decide +kernel
theorem dX2_boxIn_28 : decode cX2_boxIn 28 = .ok (.iconst (-1), 1) := by decide +kernel
theorem dX2_boxIn_29 : decode cX2_boxIn 29 = .ok (.ireturn, 1) := by decide +kernel
set_option maxRecDepth 20000 in
theorem ggX2_aisleOfBox_X2_whereIs : GoodIn wsX2_aisleOfBox wsX2_whereIs := goodIn_r _ [5, 6, 7, 8, 9, 4, 10, 11, 12, 13, 14, 23, 24, 25, 26, 27, 28] (by decide +kernel) (by decide +kernel)
set_option maxRecDepth 20000 in
theorem gX2_aisleOfBox_X2_whereIs : GoodIn wsX2_aisleOfBox (wsV RX2 43 RX2 yX2_whereIs wsX2_whereIs) := goodIn_app (goodIn_of _ (by decide +kernel)) ggX2_aisleOfBox_X2_whereIs
set_option maxRecDepth 20000 in
theorem ggX2_aisleOfBox_X3_aisleAt : GoodIn wsX2_aisleOfBox wsX3_aisleAt := goodIn_r _ [16, 17, 18, 13, 19, 20, 21, 22] (by decide +kernel) (by decide +kernel)
set_option maxRecDepth 20000 in
theorem gX2_aisleOfBox_X3_aisleAt_n47 : GoodIn wsX2_aisleOfBox (wsX3_aisleAt) := ggX2_aisleOfBox_X3_aisleAt
theorem dX2_aisleOfBox_0 : decode cX2_aisleOfBox 0 = .ok (.aload_n 0, 1) := by decide +kernel
theorem dX2_aisleOfBox_1 : decode cX2_aisleOfBox 1 = .ok (.iload_n 1, 1) := by decide +kernel
theorem dX2_aisleOfBox_2 : decode cX2_aisleOfBox 2 = .ok (.invokevirtual 43, 3) := by decide +kernel
theorem dX2_aisleOfBox_5 : decode cX2_aisleOfBox 5 = .ok (.istore_n 2, 1) := by decide +kernel
theorem dX2_aisleOfBox_6 : decode cX2_aisleOfBox 6 = .ok (.iload_n 2, 1) := by decide +kernel
theorem dX2_aisleOfBox_7 : decode cX2_aisleOfBox 7 = .ok (.iconst (-1), 1) := by decide +kernel
theorem dX2_aisleOfBox_8 : decode cX2_aisleOfBox 8 = .ok (.if_icmp .ne 7, 3) := by decide +kernel
theorem dX2_aisleOfBox_11 : decode cX2_aisleOfBox 11 = .ok (.iconst (-1), 1) := by decide +kernel
theorem dX2_aisleOfBox_12 : decode cX2_aisleOfBox 12 = .ok (.goto 7, 3) := by decide +kernel
theorem dX2_aisleOfBox_15 : decode cX2_aisleOfBox 15 = .ok (.iload_n 2, 1) := by decide +kernel
theorem dX2_aisleOfBox_16 : decode cX2_aisleOfBox 16 = .ok (.invokestatic 47, 3) := by decide +kernel
theorem dX2_aisleOfBox_19 : decode cX2_aisleOfBox 19 = .ok (.ireturn, 1) := by decide +kernel
set_option maxRecDepth 20000 in
theorem ggX2_liesOn_X2_whereIs : GoodIn wsX2_liesOn wsX2_whereIs := goodIn_r _ [5, 6, 7, 8, 9, 4, 10, 11, 12, 13, 14, 17, 18, 19, 20, 21, 22] (by decide +kernel) (by decide +kernel)
set_option maxRecDepth 20000 in
theorem gX2_liesOn_X2_whereIs : GoodIn wsX2_liesOn (wsV RX2 43 RX2 yX2_whereIs wsX2_whereIs) := goodIn_app (goodIn_of _ (by decide +kernel)) ggX2_liesOn_X2_whereIs
set_option maxRecDepth 20000 in
theorem ggX2_liesOn_X3_shelfAt : GoodIn wsX2_liesOn wsX3_shelfAt := goodIn_r _ [16] (by decide +kernel) (by decide +kernel)
set_option maxRecDepth 20000 in
theorem gX2_liesOn_X3_shelfAt_n50 : GoodIn wsX2_liesOn (wsX3_shelfAt) := ggX2_liesOn_X3_shelfAt
theorem dX2_liesOn_0 : decode cX2_liesOn 0 = .ok (.aload_n 0, 1) := by decide +kernel
theorem dX2_liesOn_1 : decode cX2_liesOn 1 = .ok (.iload_n 1, 1) := by decide +kernel
theorem dX2_liesOn_2 : decode cX2_liesOn 2 = .ok (.invokevirtual 43, 3) := by decide +kernel
theorem dX2_liesOn_5 : decode cX2_liesOn 5 = .ok (.istore_n 3, 1) := by decide +kernel
theorem dX2_liesOn_6 : decode cX2_liesOn 6 = .ok (.iload_n 3, 1) := by decide +kernel
theorem dX2_liesOn_7 : decode cX2_liesOn 7 = .ok (.iconst (-1), 1) := by decide +kernel
theorem dX2_liesOn_8 : decode cX2_liesOn 8 = .ok (.if_icmp .eq 15, 3) := by decide +kernel
theorem dX2_liesOn_11 : decode cX2_liesOn 11 = .ok (.iload_n 3, 1) := by decide +kernel
theorem dX2_liesOn_12 : decode cX2_liesOn 12 = .ok (.invokestatic 50, 3) := by decide +kernel
theorem dX2_liesOn_15 : decode cX2_liesOn 15 = .ok (.iload_n 2, 1) := by decide +kernel
theorem dX2_liesOn_16 : decode cX2_liesOn 16 = .ok (.if_icmp .ne 7, 3) := by decide +kernel
theorem dX2_liesOn_19 : decode cX2_liesOn 19 = .ok (.iconst 1, 1) := by decide +kernel
theorem dX2_liesOn_20 : decode cX2_liesOn 20 = .ok (.goto 4, 3) := by decide +kernel
theorem dX2_liesOn_23 : decode cX2_liesOn 23 = .ok (.iconst 0, 1) := by decide +kernel
theorem dX2_liesOn_24 : decode cX2_liesOn 24 = .ok (.ireturn, 1) := by decide +kernel
set_option maxRecDepth 20000 in
theorem ggX2_weightOn_X2_liesOn : GoodIn wsX2_weightOn wsX2_liesOn := goodIn_r _ [7, 8, 9, 10, 6, 11, 12, 13, 14, 15, 16, 1, 17, 18, 19, 20, 21, 22, 23, 24, 25, 26, 27] (by decide +kernel) (by decide +kernel)
set_option maxRecDepth 20000 in
theorem gX2_weightOn_X2_liesOn : GoodIn wsX2_weightOn (wsV RX2 53 RX2 yX2_liesOn wsX2_liesOn) := goodIn_app (goodIn_of _ (by decide +kernel)) ggX2_weightOn_X2_liesOn
theorem dX2_weightOn_0 : decode cX2_weightOn 0 = .ok (.iconst 0, 1) := by decide +kernel
theorem dX2_weightOn_1 : decode cX2_weightOn 1 = .ok (.istore_n 2, 1) := by decide +kernel
theorem dX2_weightOn_2 : decode cX2_weightOn 2 = .ok (.iconst 0, 1) := by decide +kernel
theorem dX2_weightOn_3 : decode cX2_weightOn 3 = .ok (.istore_n 3, 1) := by decide +kernel
theorem dX2_weightOn_4 : decode cX2_weightOn 4 = .ok (.iload_n 3, 1) := by decide +kernel
theorem dX2_weightOn_5 : decode cX2_weightOn 5 = .ok (.aload_n 0, 1) := by decide +kernel
theorem dX2_weightOn_6 : decode cX2_weightOn 6 = .ok (.getfield 27, 3) := by decide +kernel
theorem dX2_weightOn_9 : decode cX2_weightOn 9 = .ok (.if_icmp .ge 27, 3) := by decide +kernel
theorem dX2_weightOn_12 : decode cX2_weightOn 12 = .ok (.aload_n 0, 1) := by decide +kernel
theorem dX2_weightOn_13 : decode cX2_weightOn 13 = .ok (.iload_n 3, 1) := by decide +kernel
theorem dX2_weightOn_14 : decode cX2_weightOn 14 = .ok (.iload_n 1, 1) := by decide +kernel
theorem dX2_weightOn_15 : decode cX2_weightOn 15 = .ok (.invokevirtual 53, 3) := by decide +kernel
theorem dX2_weightOn_18 : decode cX2_weightOn 18 = .ok (.ifCond .eq 12, 3) := by decide +kernel
theorem dX2_weightOn_21 : decode cX2_weightOn 21 = .ok (.iload_n 2, 1) := by decide +kernel
theorem dX2_weightOn_22 : decode cX2_weightOn 22 = .ok (.aload_n 0, 1) := by decide +kernel
theorem dX2_weightOn_23 : decode cX2_weightOn 23 = .ok (.getfield 18, 3) := by decide +kernel
theorem dX2_weightOn_26 : decode cX2_weightOn 26 = .ok (.iload_n 3, 1) := by decide +kernel
theorem dX2_weightOn_27 : decode cX2_weightOn 27 = .ok (.iaload, 1) := by decide +kernel
theorem dX2_weightOn_28 : decode cX2_weightOn 28 = .ok (.iadd, 1) := by decide +kernel
theorem dX2_weightOn_29 : decode cX2_weightOn 29 = .ok (.istore_n 2, 1) := by decide +kernel
theorem dX2_weightOn_30 : decode cX2_weightOn 30 = .ok (.iinc 3 1, 3) := by decide +kernel
theorem dX2_weightOn_33 : decode cX2_weightOn 33 = .ok (.goto (-29), 3) := by decide +kernel
theorem dX2_weightOn_36 : decode cX2_weightOn 36 = .ok (.iload_n 2, 1) := by decide +kernel
theorem dX2_weightOn_37 : decode cX2_weightOn 37 = .ok (.ireturn, 1) := by decide +kernel
set_option maxRecDepth 20000 in
theorem ggX2_countKin_X2_liesOn : GoodIn wsX2_countKin wsX2_liesOn := goodIn_r _ [7, 8, 9, 10, 6, 11, 12, 13, 14, 15, 16, 1, 17, 18, 19, 20, 21, 22, 23, 24, 25, 26, 27] (by decide +kernel) (by decide +kernel)
set_option maxRecDepth 20000 in
theorem gX2_countKin_X2_liesOn : GoodIn wsX2_countKin (wsV RX2 53 RX2 yX2_liesOn wsX2_liesOn) := goodIn_app (goodIn_of _ (by decide +kernel)) ggX2_countKin_X2_liesOn
theorem dX2_countKin_0 : decode cX2_countKin 0 = .ok (.iconst 0, 1) := by decide +kernel
theorem dX2_countKin_1 : decode cX2_countKin 1 = .ok (.istore_n 3, 1) := by decide +kernel
theorem dX2_countKin_2 : decode cX2_countKin 2 = .ok (.iconst 0, 1) := by decide +kernel
theorem dX2_countKin_3 : decode cX2_countKin 3 = .ok (.istore 4, 2) := by decide +kernel
theorem dX2_countKin_5 : decode cX2_countKin 5 = .ok (.iload 4, 2) := by decide +kernel
theorem dX2_countKin_7 : decode cX2_countKin 7 = .ok (.aload_n 0, 1) := by decide +kernel
theorem dX2_countKin_8 : decode cX2_countKin 8 = .ok (.getfield 27, 3) := by decide +kernel
theorem dX2_countKin_11 : decode cX2_countKin 11 = .ok (.if_icmp .ge 33, 3) := by decide +kernel
theorem dX2_countKin_14 : decode cX2_countKin 14 = .ok (.aload_n 0, 1) := by decide +kernel
theorem dX2_countKin_15 : decode cX2_countKin 15 = .ok (.getfield 21, 3) := by decide +kernel
theorem dX2_countKin_18 : decode cX2_countKin 18 = .ok (.iload 4, 2) := by decide +kernel
theorem dX2_countKin_20 : decode cX2_countKin 20 = .ok (.iaload, 1) := by decide +kernel
theorem dX2_countKin_21 : decode cX2_countKin 21 = .ok (.iload_n 2, 1) := by decide +kernel
theorem dX2_countKin_22 : decode cX2_countKin 22 = .ok (.if_icmp .ne 16, 3) := by decide +kernel
theorem dX2_countKin_25 : decode cX2_countKin 25 = .ok (.aload_n 0, 1) := by decide +kernel
theorem dX2_countKin_26 : decode cX2_countKin 26 = .ok (.iload 4, 2) := by decide +kernel
theorem dX2_countKin_28 : decode cX2_countKin 28 = .ok (.iload_n 1, 1) := by decide +kernel
theorem dX2_countKin_29 : decode cX2_countKin 29 = .ok (.invokevirtual 53, 3) := by decide +kernel
theorem dX2_countKin_32 : decode cX2_countKin 32 = .ok (.ifCond .eq 6, 3) := by decide +kernel
theorem dX2_countKin_35 : decode cX2_countKin 35 = .ok (.iinc 3 1, 3) := by decide +kernel
theorem dX2_countKin_38 : decode cX2_countKin 38 = .ok (.iinc 4 1, 3) := by decide +kernel
theorem dX2_countKin_41 : decode cX2_countKin 41 = .ok (.goto (-36), 3) := by decide +kernel
theorem dX2_countKin_44 : decode cX2_countKin 44 = .ok (.iload_n 3, 1) := by decide +kernel
theorem dX2_countKin_45 : decode cX2_countKin 45 = .ok (.ireturn, 1) := by decide +kernel
set_option maxRecDepth 20000 in
theorem ggX2_isWrong_X2_whereIs : GoodIn wsX2_isWrong wsX2_whereIs := goodIn_r _ [6, 7, 8, 9, 10, 5, 11, 12, 13, 14, 15, 23, 24, 25, 26, 27, 28] (by decide +kernel) (by decide +kernel)
set_option maxRecDepth 20000 in
theorem gX2_isWrong_X2_whereIs : GoodIn wsX2_isWrong (wsV RX2 43 RX2 yX2_whereIs wsX2_whereIs) := goodIn_app (goodIn_of _ (by decide +kernel)) ggX2_isWrong_X2_whereIs
set_option maxRecDepth 20000 in
theorem ggX2_isWrong_X3_shelfAt : GoodIn wsX2_isWrong wsX3_shelfAt := goodIn_r _ [17] (by decide +kernel) (by decide +kernel)
set_option maxRecDepth 20000 in
theorem gX2_isWrong_X3_shelfAt_n50 : GoodIn wsX2_isWrong (wsX3_shelfAt) := ggX2_isWrong_X3_shelfAt
set_option maxRecDepth 20000 in
theorem ggX2_isWrong_X2_climateOf : GoodIn wsX2_isWrong wsX2_climateOf := goodIn_r _ [21, 22, 13, 14, 15, 23, 24, 25, 26, 27, 28] (by decide +kernel) (by decide +kernel)
set_option maxRecDepth 20000 in
theorem gX2_isWrong_X2_climateOf : GoodIn wsX2_isWrong (wsV RX2 56 RX2 yX2_climateOf wsX2_climateOf) := goodIn_app (goodIn_of _ (by decide +kernel)) ggX2_isWrong_X2_climateOf
theorem dX2_isWrong_0 : decode cX2_isWrong 0 = .ok (.aload_n 0, 1) := by decide +kernel
theorem dX2_isWrong_1 : decode cX2_isWrong 1 = .ok (.iload_n 1, 1) := by decide +kernel
theorem dX2_isWrong_2 : decode cX2_isWrong 2 = .ok (.invokevirtual 43, 3) := by decide +kernel
theorem dX2_isWrong_5 : decode cX2_isWrong 5 = .ok (.istore_n 2, 1) := by decide +kernel
theorem dX2_isWrong_6 : decode cX2_isWrong 6 = .ok (.iload_n 2, 1) := by decide +kernel
theorem dX2_isWrong_7 : decode cX2_isWrong 7 = .ok (.iconst (-1), 1) := by decide +kernel
theorem dX2_isWrong_8 : decode cX2_isWrong 8 = .ok (.if_icmp .eq 24, 3) := by decide +kernel
theorem dX2_isWrong_11 : decode cX2_isWrong 11 = .ok (.aload_n 0, 1) := by decide +kernel
theorem dX2_isWrong_12 : decode cX2_isWrong 12 = .ok (.getfield 15, 3) := by decide +kernel
theorem dX2_isWrong_15 : decode cX2_isWrong 15 = .ok (.iload_n 1, 1) := by decide +kernel
theorem dX2_isWrong_16 : decode cX2_isWrong 16 = .ok (.iaload, 1) := by decide +kernel
theorem dX2_isWrong_17 : decode cX2_isWrong 17 = .ok (.aload_n 0, 1) := by decide +kernel
theorem dX2_isWrong_18 : decode cX2_isWrong 18 = .ok (.iload_n 2, 1) := by decide +kernel
theorem dX2_isWrong_19 : decode cX2_isWrong 19 = .ok (.invokestatic 50, 3) := by decide +kernel
theorem dX2_isWrong_22 : decode cX2_isWrong 22 = .ok (.invokevirtual 56, 3) := by decide +kernel
theorem dX2_isWrong_25 : decode cX2_isWrong 25 = .ok (.if_icmp .eq 7, 3) := by decide +kernel
theorem dX2_isWrong_28 : decode cX2_isWrong 28 = .ok (.iconst 1, 1) := by decide +kernel
theorem dX2_isWrong_29 : decode cX2_isWrong 29 = .ok (.goto 4, 3) := by decide +kernel
theorem dX2_isWrong_32 : decode cX2_isWrong 32 = .ok (.iconst 0, 1) := by decide +kernel
theorem dX2_isWrong_33 : decode cX2_isWrong 33 = .ok (.ireturn, 1) := by decide +kernel
set_option maxRecDepth 20000 in
theorem ggX2_countWrong_X2_isWrong : GoodIn wsX2_countWrong wsX2_isWrong := goodIn_r _ [6, 7, 8, 9, 10, 5, 11, 12, 13, 14, 15, 16, 1, 17, 18, 19, 20, 21, 22, 23, 24, 25, 26, 27, 28, 29, 30, 31, 32] (by decide +kernel) (by decide +kernel)
set_option maxRecDepth 20000 in
theorem gX2_countWrong_X2_isWrong : GoodIn wsX2_countWrong (wsV RX2 59 RX2 yX2_isWrong wsX2_isWrong) := goodIn_app (goodIn_of _ (by decide +kernel)) ggX2_countWrong_X2_isWrong
theorem dX2_countWrong_0 : decode cX2_countWrong 0 = .ok (.iconst 0, 1) := by decide +kernel
theorem dX2_countWrong_1 : decode cX2_countWrong 1 = .ok (.istore_n 1, 1) := by decide +kernel
theorem dX2_countWrong_2 : decode cX2_countWrong 2 = .ok (.iconst 0, 1) := by decide +kernel
theorem dX2_countWrong_3 : decode cX2_countWrong 3 = .ok (.istore_n 2, 1) := by decide +kernel
theorem dX2_countWrong_4 : decode cX2_countWrong 4 = .ok (.iload_n 2, 1) := by decide +kernel
theorem dX2_countWrong_5 : decode cX2_countWrong 5 = .ok (.aload_n 0, 1) := by decide +kernel
theorem dX2_countWrong_6 : decode cX2_countWrong 6 = .ok (.getfield 27, 3) := by decide +kernel
theorem dX2_countWrong_9 : decode cX2_countWrong 9 = .ok (.if_icmp .ge 20, 3) := by decide +kernel
theorem dX2_countWrong_12 : decode cX2_countWrong 12 = .ok (.aload_n 0, 1) := by decide +kernel
theorem dX2_countWrong_13 : decode cX2_countWrong 13 = .ok (.iload_n 2, 1) := by decide +kernel
theorem dX2_countWrong_14 : decode cX2_countWrong 14 = .ok (.invokevirtual 59, 3) := by decide +kernel
theorem dX2_countWrong_17 : decode cX2_countWrong 17 = .ok (.ifCond .eq 6, 3) := by decide +kernel
theorem dX2_countWrong_20 : decode cX2_countWrong 20 = .ok (.iinc 1 1, 3) := by decide +kernel
theorem dX2_countWrong_23 : decode cX2_countWrong 23 = .ok (.iinc 2 1, 3) := by decide +kernel
theorem dX2_countWrong_26 : decode cX2_countWrong 26 = .ok (.goto (-22), 3) := by decide +kernel
theorem dX2_countWrong_29 : decode cX2_countWrong 29 = .ok (.iload_n 1, 1) := by decide +kernel
theorem dX2_countWrong_30 : decode cX2_countWrong 30 = .ok (.ireturn, 1) := by decide +kernel
set_option maxRecDepth 20000 in
theorem ggX2_firstFreeSpot_X3_spotAt : GoodIn wsX2_firstFreeSpot wsX3_spotAt := goodIn_r _ [3] (by decide +kernel) (by decide +kernel)
set_option maxRecDepth 20000 in
theorem gX2_firstFreeSpot_X3_spotAt_n62 : GoodIn wsX2_firstFreeSpot (wsX3_spotAt) := ggX2_firstFreeSpot_X3_spotAt
set_option maxRecDepth 20000 in
theorem ggX2_firstFreeSpot_X2_boxIn : GoodIn wsX2_firstFreeSpot wsX2_boxIn := goodIn_r _ [8, 9, 10, 11, 12, 13, 14, 15, 16] (by decide +kernel) (by decide +kernel)
set_option maxRecDepth 20000 in
theorem gX2_firstFreeSpot_X2_boxIn : GoodIn wsX2_firstFreeSpot (wsV RX2 66 RX2 yX2_boxIn wsX2_boxIn) := goodIn_app (goodIn_of _ (by decide +kernel)) ggX2_firstFreeSpot_X2_boxIn
theorem dX2_firstFreeSpot_0 : decode cX2_firstFreeSpot 0 = .ok (.iconst 0, 1) := by decide +kernel
theorem dX2_firstFreeSpot_1 : decode cX2_firstFreeSpot 1 = .ok (.istore_n 2, 1) := by decide +kernel
theorem dX2_firstFreeSpot_2 : decode cX2_firstFreeSpot 2 = .ok (.iload_n 2, 1) := by decide +kernel
theorem dX2_firstFreeSpot_3 : decode cX2_firstFreeSpot 3 = .ok (.iconst 2, 1) := by decide +kernel
theorem dX2_firstFreeSpot_4 : decode cX2_firstFreeSpot 4 = .ok (.if_icmp .ge 43, 3) := by decide +kernel
theorem dX2_firstFreeSpot_7 : decode cX2_firstFreeSpot 7 = .ok (.iconst 0, 1) := by decide +kernel
theorem dX2_firstFreeSpot_8 : decode cX2_firstFreeSpot 8 = .ok (.istore_n 3, 1) := by decide +kernel
theorem dX2_firstFreeSpot_9 : decode cX2_firstFreeSpot 9 = .ok (.iload_n 3, 1) := by decide +kernel
theorem dX2_firstFreeSpot_10 : decode cX2_firstFreeSpot 10 = .ok (.iconst 3, 1) := by decide +kernel
theorem dX2_firstFreeSpot_11 : decode cX2_firstFreeSpot 11 = .ok (.if_icmp .ge 30, 3) := by decide +kernel
theorem dX2_firstFreeSpot_14 : decode cX2_firstFreeSpot 14 = .ok (.iload_n 1, 1) := by decide +kernel
theorem dX2_firstFreeSpot_15 : decode cX2_firstFreeSpot 15 = .ok (.iload_n 2, 1) := by decide +kernel
theorem dX2_firstFreeSpot_16 : decode cX2_firstFreeSpot 16 = .ok (.iload_n 3, 1) := by decide +kernel
theorem dX2_firstFreeSpot_17 : decode cX2_firstFreeSpot 17 = .ok (.invokestatic 62, 3) := by decide +kernel
theorem dX2_firstFreeSpot_20 : decode cX2_firstFreeSpot 20 = .ok (.istore 4, 2) := by decide +kernel
theorem dX2_firstFreeSpot_22 : decode cX2_firstFreeSpot 22 = .ok (.aload_n 0, 1) := by decide +kernel
theorem dX2_firstFreeSpot_23 : decode cX2_firstFreeSpot 23 = .ok (.iload 4, 2) := by decide +kernel
theorem dX2_firstFreeSpot_25 : decode cX2_firstFreeSpot 25 = .ok (.invokevirtual 66, 3) := by decide +kernel
theorem dX2_firstFreeSpot_28 : decode cX2_firstFreeSpot 28 = .ok (.iconst (-1), 1) := by decide +kernel
theorem dX2_firstFreeSpot_29 : decode cX2_firstFreeSpot 29 = .ok (.if_icmp .ne 6, 3) := by decide +kernel
theorem dX2_firstFreeSpot_32 : decode cX2_firstFreeSpot 32 = .ok (.iload 4, 2) := by decide +kernel
theorem dX2_firstFreeSpot_34 : decode cX2_firstFreeSpot 34 = .ok (.ireturn, 1) := by decide +kernel
theorem dX2_firstFreeSpot_35 : decode cX2_firstFreeSpot 35 = .ok (.iinc 3 1, 3) := by decide +kernel
theorem dX2_firstFreeSpot_38 : decode cX2_firstFreeSpot 38 = .ok (.goto (-29), 3) := by decide +kernel
theorem dX2_firstFreeSpot_41 : decode cX2_firstFreeSpot 41 = .ok (.iinc 2 1, 3) := by decide +kernel
theorem dX2_firstFreeSpot_44 : decode cX2_firstFreeSpot 44 = .ok (.goto (-42), 3) := by decide +kernel
theorem dX2_firstFreeSpot_47 : decode cX2_firstFreeSpot 47 = .ok (.iconst (-1), 1) := by decide +kernel
theorem dX2_firstFreeSpot_48 : decode cX2_firstFreeSpot 48 = .ok (.ireturn, 1) := by decide +kernel
set_option maxRecDepth 20000 in
theorem ggX2_bestSpotFor_X2_has : GoodIn wsX2_bestSpotFor wsX2_has := goodIn_r _ [9, 10, 11, 12, 13, 43, 44, 45, 46, 47, 48] (by decide +kernel) (by decide +kernel)
set_option maxRecDepth 20000 in
theorem gX2_bestSpotFor_X2_has : GoodIn wsX2_bestSpotFor (wsV RX2 39 RX2 yX2_has wsX2_has) := goodIn_app (goodIn_of _ (by decide +kernel)) ggX2_bestSpotFor_X2_has
set_option maxRecDepth 20000 in
theorem ggX2_bestSpotFor_X2_weightOn : GoodIn wsX2_bestSpotFor wsX2_weightOn := goodIn_r _ [17, 10, 3, 18, 19, 20, 8, 21, 22, 23, 24, 25, 26, 5, 6, 7, 9, 11, 12, 13, 27, 28, 43, 44, 45, 46, 47, 48] (by decide +kernel) (by decide +kernel)
set_option maxRecDepth 20000 in
theorem gX2_bestSpotFor_X2_weightOn : GoodIn wsX2_bestSpotFor (wsV RX2 69 RX2 yX2_weightOn wsX2_weightOn) := goodIn_app (goodIn_of _ (by decide +kernel)) ggX2_bestSpotFor_X2_weightOn
set_option maxRecDepth 20000 in
theorem ggX2_bestSpotFor_X2_firstFreeSpot : GoodIn wsX2_bestSpotFor wsX2_firstFreeSpot := goodIn_r _ [32, 33, 12, 34, 35, 36, 37, 8, 38, 10, 26, 43, 44, 45, 46, 47, 48] (by decide +kernel) (by decide +kernel)
set_option maxRecDepth 20000 in
theorem gX2_bestSpotFor_X2_firstFreeSpot : GoodIn wsX2_bestSpotFor (wsV RX2 72 RX2 yX2_firstFreeSpot wsX2_firstFreeSpot) := goodIn_app (goodIn_of _ (by decide +kernel)) ggX2_bestSpotFor_X2_firstFreeSpot
set_option maxRecDepth 20000 in
theorem ggX2_bestSpotFor_X2_countKin : GoodIn wsX2_bestSpotFor wsX2_countKin := goodIn_r _ [42, 10, 4, 18, 19, 20, 8, 21, 22, 23, 24, 25, 26, 5, 6, 7, 9, 11, 12, 13, 27, 28, 43, 44, 45, 46, 47, 48] (by decide +kernel) (by decide +kernel)
set_option maxRecDepth 20000 in
theorem gX2_bestSpotFor_X2_countKin : GoodIn wsX2_bestSpotFor (wsV RX2 75 RX2 yX2_countKin wsX2_countKin) := goodIn_app (goodIn_of _ (by decide +kernel)) ggX2_bestSpotFor_X2_countKin
theorem dX2_bestSpotFor_0 : decode cX2_bestSpotFor 0 = .ok (.aload_n 0, 1) := by decide +kernel
theorem dX2_bestSpotFor_1 : decode cX2_bestSpotFor 1 = .ok (.iload_n 1, 1) := by decide +kernel
theorem dX2_bestSpotFor_2 : decode cX2_bestSpotFor 2 = .ok (.invokevirtual 39, 3) := by decide +kernel
theorem dX2_bestSpotFor_5 : decode cX2_bestSpotFor 5 = .ok (.ifCond .ne 5, 3) := by decide +kernel
theorem dX2_bestSpotFor_8 : decode cX2_bestSpotFor 8 = .ok (.iconst (-1), 1) := by decide +kernel
theorem dX2_bestSpotFor_9 : decode cX2_bestSpotFor 9 = .ok (.ireturn, 1) := by decide +kernel
theorem dX2_bestSpotFor_10 : decode cX2_bestSpotFor 10 = .ok (.iconst (-1), 1) := by decide +kernel
theorem dX2_bestSpotFor_11 : decode cX2_bestSpotFor 11 = .ok (.istore_n 2, 1) := by decide +kernel
theorem dX2_bestSpotFor_12 : decode cX2_bestSpotFor 12 = .ok (.iconst (-1), 1) := by decide +kernel
theorem dX2_bestSpotFor_13 : decode cX2_bestSpotFor 13 = .ok (.istore_n 3, 1) := by decide +kernel
theorem dX2_bestSpotFor_14 : decode cX2_bestSpotFor 14 = .ok (.iconst 0, 1) := by decide +kernel
theorem dX2_bestSpotFor_15 : decode cX2_bestSpotFor 15 = .ok (.istore 4, 2) := by decide +kernel
theorem dX2_bestSpotFor_17 : decode cX2_bestSpotFor 17 = .ok (.iload 4, 2) := by decide +kernel
theorem dX2_bestSpotFor_19 : decode cX2_bestSpotFor 19 = .ok (.bipush 6, 2) := by decide +kernel
theorem dX2_bestSpotFor_21 : decode cX2_bestSpotFor 21 = .ok (.if_icmp .ge 95, 3) := by decide +kernel
theorem dX2_bestSpotFor_24 : decode cX2_bestSpotFor 24 = .ok (.aload_n 0, 1) := by decide +kernel
theorem dX2_bestSpotFor_25 : decode cX2_bestSpotFor 25 = .ok (.getfield 9, 3) := by decide +kernel
theorem dX2_bestSpotFor_28 : decode cX2_bestSpotFor 28 = .ok (.iload 4, 2) := by decide +kernel
theorem dX2_bestSpotFor_30 : decode cX2_bestSpotFor 30 = .ok (.iaload, 1) := by decide +kernel
theorem dX2_bestSpotFor_31 : decode cX2_bestSpotFor 31 = .ok (.aload_n 0, 1) := by decide +kernel
theorem dX2_bestSpotFor_32 : decode cX2_bestSpotFor 32 = .ok (.getfield 15, 3) := by decide +kernel
theorem dX2_bestSpotFor_35 : decode cX2_bestSpotFor 35 = .ok (.iload_n 1, 1) := by decide +kernel
theorem dX2_bestSpotFor_36 : decode cX2_bestSpotFor 36 = .ok (.iaload, 1) := by decide +kernel
theorem dX2_bestSpotFor_37 : decode cX2_bestSpotFor 37 = .ok (.if_icmp .ne 25, 3) := by decide +kernel
theorem dX2_bestSpotFor_40 : decode cX2_bestSpotFor 40 = .ok (.aload_n 0, 1) := by decide +kernel
theorem dX2_bestSpotFor_41 : decode cX2_bestSpotFor 41 = .ok (.iload 4, 2) := by decide +kernel
theorem dX2_bestSpotFor_43 : decode cX2_bestSpotFor 43 = .ok (.invokevirtual 69, 3) := by decide +kernel
theorem dX2_bestSpotFor_46 : decode cX2_bestSpotFor 46 = .ok (.aload_n 0, 1) := by decide +kernel
theorem dX2_bestSpotFor_47 : decode cX2_bestSpotFor 47 = .ok (.getfield 18, 3) := by decide +kernel
theorem dX2_bestSpotFor_50 : decode cX2_bestSpotFor 50 = .ok (.iload_n 1, 1) := by decide +kernel
theorem dX2_bestSpotFor_51 : decode cX2_bestSpotFor 51 = .ok (.iaload, 1) := by decide +kernel
theorem dX2_bestSpotFor_52 : decode cX2_bestSpotFor 52 = .ok (.iadd, 1) := by decide +kernel
theorem dX2_bestSpotFor_53 : decode cX2_bestSpotFor 53 = .ok (.bipush 100, 2) := by decide +kernel
theorem dX2_bestSpotFor_55 : decode cX2_bestSpotFor 55 = .ok (.if_icmp .gt 7, 3) := by decide +kernel
theorem dX2_bestSpotFor_58 : decode cX2_bestSpotFor 58 = .ok (.iconst 1, 1) := by decide +kernel
theorem dX2_bestSpotFor_59 : decode cX2_bestSpotFor 59 = .ok (.goto 4, 3) := by decide +kernel
theorem dX2_bestSpotFor_62 : decode cX2_bestSpotFor 62 = .ok (.iconst 0, 1) := by decide +kernel
theorem dX2_bestSpotFor_63 : decode cX2_bestSpotFor 63 = .ok (.istore 5, 2) := by decide +kernel
theorem dX2_bestSpotFor_65 : decode cX2_bestSpotFor 65 = .ok (.aload_n 0, 1) := by decide +kernel
theorem dX2_bestSpotFor_66 : decode cX2_bestSpotFor 66 = .ok (.iload 4, 2) := by decide +kernel
theorem dX2_bestSpotFor_68 : decode cX2_bestSpotFor 68 = .ok (.invokevirtual 72, 3) := by decide +kernel
theorem dX2_bestSpotFor_71 : decode cX2_bestSpotFor 71 = .ok (.istore 6, 2) := by decide +kernel
theorem dX2_bestSpotFor_73 : decode cX2_bestSpotFor 73 = .ok (.aload_n 0, 1) := by decide +kernel
theorem dX2_bestSpotFor_74 : decode cX2_bestSpotFor 74 = .ok (.iload 4, 2) := by decide +kernel
theorem dX2_bestSpotFor_76 : decode cX2_bestSpotFor 76 = .ok (.aload_n 0, 1) := by decide +kernel
theorem dX2_bestSpotFor_77 : decode cX2_bestSpotFor 77 = .ok (.getfield 21, 3) := by decide +kernel
theorem dX2_bestSpotFor_80 : decode cX2_bestSpotFor 80 = .ok (.iload_n 1, 1) := by decide +kernel
theorem dX2_bestSpotFor_81 : decode cX2_bestSpotFor 81 = .ok (.iaload, 1) := by decide +kernel
theorem dX2_bestSpotFor_82 : decode cX2_bestSpotFor 82 = .ok (.invokevirtual 75, 3) := by decide +kernel
theorem dX2_bestSpotFor_85 : decode cX2_bestSpotFor 85 = .ok (.istore 7, 2) := by decide +kernel
theorem dX2_bestSpotFor_87 : decode cX2_bestSpotFor 87 = .ok (.iload 5, 2) := by decide +kernel
theorem dX2_bestSpotFor_89 : decode cX2_bestSpotFor 89 = .ok (.ifCond .eq 21, 3) := by decide +kernel
theorem dX2_bestSpotFor_92 : decode cX2_bestSpotFor 92 = .ok (.iload 6, 2) := by decide +kernel
theorem dX2_bestSpotFor_94 : decode cX2_bestSpotFor 94 = .ok (.iconst (-1), 1) := by decide +kernel
theorem dX2_bestSpotFor_95 : decode cX2_bestSpotFor 95 = .ok (.if_icmp .eq 15, 3) := by decide +kernel
theorem dX2_bestSpotFor_98 : decode cX2_bestSpotFor 98 = .ok (.iload 7, 2) := by decide +kernel
theorem dX2_bestSpotFor_100 : decode cX2_bestSpotFor 100 = .ok (.iload_n 3, 1) := by decide +kernel
theorem dX2_bestSpotFor_101 : decode cX2_bestSpotFor 101 = .ok (.if_icmp .le 9, 3) := by decide +kernel
theorem dX2_bestSpotFor_104 : decode cX2_bestSpotFor 104 = .ok (.iload 6, 2) := by decide +kernel
theorem dX2_bestSpotFor_106 : decode cX2_bestSpotFor 106 = .ok (.istore_n 2, 1) := by decide +kernel
theorem dX2_bestSpotFor_107 : decode cX2_bestSpotFor 107 = .ok (.iload 7, 2) := by decide +kernel
theorem dX2_bestSpotFor_109 : decode cX2_bestSpotFor 109 = .ok (.istore_n 3, 1) := by decide +kernel
theorem dX2_bestSpotFor_110 : decode cX2_bestSpotFor 110 = .ok (.iinc 4 1, 3) := by decide +kernel
theorem dX2_bestSpotFor_113 : decode cX2_bestSpotFor 113 = .ok (.goto (-96), 3) := by decide +kernel
theorem dX2_bestSpotFor_116 : decode cX2_bestSpotFor 116 = .ok (.iload_n 2, 1) := by decide +kernel
theorem dX2_bestSpotFor_117 : decode cX2_bestSpotFor 117 = .ok (.ireturn, 1) := by decide +kernel
theorem dJ9_abs_0f7a4_0 : decode cJ9_abs_0f7a4 0 = .ok (.iload_n 0, 1) := by decide +kernel
theorem dJ9_abs_0f7a4_1 : decode cJ9_abs_0f7a4 1 = .ok (.ifCond .ge 8, 3) := by decide +kernel
theorem dJ9_abs_0f7a4_4 : decode cJ9_abs_0f7a4 4 = .ok (.iload_n 0, 1) := by decide +kernel
theorem dJ9_abs_0f7a4_5 : decode cJ9_abs_0f7a4 5 = .ok (.ineg, 1) := by decide +kernel
theorem dJ9_abs_0f7a4_6 : decode cJ9_abs_0f7a4 6 = .ok (.goto 4, 3) := by decide +kernel
theorem dJ9_abs_0f7a4_9 : decode cJ9_abs_0f7a4 9 = .ok (.iload_n 0, 1) := by decide +kernel
theorem dJ9_abs_0f7a4_10 : decode cJ9_abs_0f7a4 10 = .ok (.ireturn, 1) := by decide +kernel
theorem dJ9_min_7cf53_0 : decode cJ9_min_7cf53 0 = .ok (.iload_n 0, 1) := by decide +kernel
theorem dJ9_min_7cf53_1 : decode cJ9_min_7cf53 1 = .ok (.iload_n 1, 1) := by decide +kernel
theorem dJ9_min_7cf53_2 : decode cJ9_min_7cf53 2 = .ok (.if_icmp .gt 7, 3) := by decide +kernel
theorem dJ9_min_7cf53_5 : decode cJ9_min_7cf53 5 = .ok (.iload_n 0, 1) := by decide +kernel
theorem dJ9_min_7cf53_6 : decode cJ9_min_7cf53 6 = .ok (.goto 4, 3) := by decide +kernel
theorem dJ9_min_7cf53_9 : decode cJ9_min_7cf53 9 = .ok (.iload_n 1, 1) := by decide +kernel
theorem dJ9_min_7cf53_10 : decode cJ9_min_7cf53 10 = .ok (.ireturn, 1) := by decide +kernel
end
section
set_option maxRecDepth 20000 in
theorem ggX3_init_X2_init : GoodIn wsX3_init wsX2_init := goodIn_r _ [18, 19, 2, 3, 20, 21, 22, 23, 24, 25, 26, 46, 47, 48, 49, 50, 51] (by decide +kernel) (by decide +kernel)
set_option maxRecDepth 20000 in
theorem gX3_init_X2_init_n11 : GoodIn wsX3_init (wsX2_init) := ggX3_init_X2_init
set_option maxRecDepth 20000 in
theorem ggX3_init_X1_init : GoodIn wsX3_init wsX1_init := goodIn_r _ [28, 29, 2, 3, 30, 31, 32, 20, 33, 34, 35, 36, 37, 56, 57, 58, 59, 60, 61, 62] (by decide +kernel) (by decide +kernel)
set_option maxRecDepth 20000 in
theorem gX3_init_X1_init_n18 : GoodIn wsX3_init (wsX1_init) := ggX3_init_X1_init
set_option maxRecDepth 20000 in
theorem ggX3_init_X0_init : GoodIn wsX3_init wsX0_init := goodIn_r _ [39, 40, 2, 3, 20, 41, 42, 30, 43, 44, 45, 63, 64, 65, 66, 67] (by decide +kernel) (by decide +kernel)
set_option maxRecDepth 20000 in
theorem gX3_init_X0_init_n25 : GoodIn wsX3_init (wsX0_init) := ggX3_init_X0_init
theorem dX3_init_0 : decode cX3_init 0 = .ok (.aload_n 0, 1) := by decide +kernel
theorem dX3_init_1 : decode cX3_init 1 = .ok (.invokespecial 3, 3) := by decide +kernel
theorem dX3_init_4 : decode cX3_init 4 = .ok (.aload_n 0, 1) := by decide +kernel
theorem dX3_init_5 : decode cX3_init 5 = .ok (.new 9, 3) := by decide +kernel
theorem dX3_init_8 : decode cX3_init 8 = .ok (.dup, 1) := by decide +kernel
theorem dX3_init_9 : decode cX3_init 9 = .ok (.invokespecial 11, 3) := by decide +kernel
theorem dX3_init_12 : decode cX3_init 12 = .ok (.putfield 12, 3) := by decide +kernel
theorem dX3_init_15 : decode cX3_init 15 = .ok (.aload_n 0, 1) := by decide +kernel
theorem dX3_init_16 : decode cX3_init 16 = .ok (.new 16, 3) := by decide +kernel
theorem dX3_init_19 : decode cX3_init 19 = .ok (.dup, 1) := by decide +kernel
theorem dX3_init_20 : decode cX3_init 20 = .ok (.invokespecial 18, 3) := by decide +kernel
theorem dX3_init_23 : decode cX3_init 23 = .ok (.putfield 19, 3) := by decide +kernel
theorem dX3_init_26 : decode cX3_init 26 = .ok (.aload_n 0, 1) := by decide +kernel
theorem dX3_init_27 : decode cX3_init 27 = .ok (.new 23, 3) := by decide +kernel
theorem dX3_init_30 : decode cX3_init 30 = .ok (.dup, 1) := by decide +kernel
theorem dX3_init_31 : decode cX3_init 31 = .ok (.invokespecial 25, 3) := by decide +kernel
theorem dX3_init_34 : decode cX3_init 34 = .ok (.putfield 26, 3) := by decide +kernel
theorem dX3_init_37 : decode cX3_init 37 = .ok (.aload_n 0, 1) := by decide +kernel
theorem dX3_init_38 : decode cX3_init 38 = .ok (.iconst 0, 1) := by decide +kernel
theorem dX3_init_39 : decode cX3_init 39 = .ok (.putfield 30, 3) := by decide +kernel
theorem dX3_init_42 : decode cX3_init 42 = .ok (.return_, 1) := by decide +kernel
set_option maxRecDepth 20000 in
theorem ggX3_setClimate_X3_requireShelf : GoodIn wsX3_setClimate wsX3_requireShelf := goodIn_ca (goodIn_r _ [8, 9, 10, 11, 12, 7, 13] (by decide +kernel) (by decide +kernel)) (goodIn_sub (fun _ h => List.mem_cons_of_mem _ (List.mem_append_right _ h)) (by decide +kernel))
set_option maxRecDepth 20000 in
theorem gX3_setClimate_X3_requireShelf : GoodIn wsX3_setClimate (wsV RX3 34 RX3 yX3_requireShelf wsX3_requireShelf) := goodIn_app (goodIn_of _ (by decide +kernel)) ggX3_setClimate_X3_requireShelf
set_option maxRecDepth 20000 in
theorem ggX3_setClimate_X3_isBelow : GoodIn wsX3_setClimate wsX3_isBelow := goodIn_r _ [13] (by decide +kernel) (by decide +kernel)
set_option maxRecDepth 20000 in
theorem gX3_setClimate_X3_isBelow : GoodIn wsX3_setClimate (va_wsS RX3 38 yX3_isBelow wsX3_isBelow) := goodIn_app (goodIn_of _ (by decide +kernel)) ggX3_setClimate_X3_isBelow
set_option maxRecDepth 20000 in
theorem ggX3_setClimate_X2_climateOf : GoodIn wsX3_setClimate wsX2_climateOf := goodIn_r _ [18, 19, 12, 7, 13, 28, 29, 30, 31, 32, 33] (by decide +kernel) (by decide +kernel)
set_option maxRecDepth 20000 in
theorem gX3_setClimate_X2_climateOf : GoodIn wsX3_setClimate (wsV RX3 49 RX2 yX2_climateOf wsX2_climateOf) := goodIn_app (goodIn_of _ (by decide +kernel)) ggX3_setClimate_X2_climateOf
set_option maxRecDepth 20000 in
theorem ggX3_setClimate_X2_changeClimate : GoodIn wsX3_setClimate wsX2_changeClimate := goodIn_r _ [23, 19, 12, 7, 13, 28, 29, 30, 31, 32, 33] (by decide +kernel) (by decide +kernel)
set_option maxRecDepth 20000 in
theorem gX3_setClimate_X2_changeClimate : GoodIn wsX3_setClimate (wsV RX3 53 RX2 yX2_changeClimate wsX2_changeClimate) := goodIn_app (goodIn_of _ (by decide +kernel)) ggX3_setClimate_X2_changeClimate
theorem dX3_setClimate_0 : decode cX3_setClimate 0 = .ok (.aload_n 0, 1) := by decide +kernel
theorem dX3_setClimate_1 : decode cX3_setClimate 1 = .ok (.iload_n 1, 1) := by decide +kernel
theorem dX3_setClimate_2 : decode cX3_setClimate 2 = .ok (.invokevirtual 34, 3) := by decide +kernel
theorem dX3_setClimate_5 : decode cX3_setClimate 5 = .ok (.iload_n 2, 1) := by decide +kernel
theorem dX3_setClimate_6 : decode cX3_setClimate 6 = .ok (.iconst 3, 1) := by decide +kernel
theorem dX3_setClimate_7 : decode cX3_setClimate 7 = .ok (.invokestatic 38, 3) := by decide +kernel
theorem dX3_setClimate_10 : decode cX3_setClimate 10 = .ok (.ifCond .ne 13, 3) := by decide +kernel
theorem dX3_setClimate_13 : decode cX3_setClimate 13 = .ok (.new 42, 3) := by decide +kernel
theorem dX3_setClimate_16 : decode cX3_setClimate 16 = .ok (.dup, 1) := by decide +kernel
theorem dX3_setClimate_17 : decode cX3_setClimate 17 = .ok (.ldc 44, 2) := by decide +kernel
theorem dX3_setClimate_19 : decode cX3_setClimate 19 = .ok (.invokespecial 46, 3) := by decide +kernel
theorem dX3_setClimate_22 : decode cX3_setClimate 22 = .ok (.athrow, 1) := by decide +kernel
theorem dX3_setClimate_23 : decode cX3_setClimate 23 = .ok (.aload_n 0, 1) := by decide +kernel
theorem dX3_setClimate_24 : decode cX3_setClimate 24 = .ok (.getfield 12, 3) := by decide +kernel
theorem dX3_setClimate_27 : decode cX3_setClimate 27 = .ok (.iload_n 1, 1) := by decide +kernel
theorem dX3_setClimate_28 : decode cX3_setClimate 28 = .ok (.invokevirtual 49, 3) := by decide +kernel
theorem dX3_setClimate_31 : decode cX3_setClimate 31 = .ok (.istore_n 3, 1) := by decide +kernel
theorem dX3_setClimate_32 : decode cX3_setClimate 32 = .ok (.aload_n 0, 1) := by decide +kernel
theorem dX3_setClimate_33 : decode cX3_setClimate 33 = .ok (.getfield 12, 3) := by decide +kernel
theorem dX3_setClimate_36 : decode cX3_setClimate 36 = .ok (.iload_n 1, 1) := by decide +kernel
theorem dX3_setClimate_37 : decode cX3_setClimate 37 = .ok (.iload_n 2, 1) := by decide +kernel
theorem dX3_setClimate_38 : decode cX3_setClimate 38 = .ok (.invokevirtual 53, 3) := by decide +kernel
theorem dX3_setClimate_41 : decode cX3_setClimate 41 = .ok (.iload_n 3, 1) := by decide +kernel
theorem dX3_setClimate_42 : decode cX3_setClimate 42 = .ok (.ireturn, 1) := by decide +kernel
set_option maxRecDepth 20000 in
theorem ggX3_addBox_X3_isBelow : GoodIn wsX3_addBox wsX3_isBelow := goodIn_r _ [9] (by decide +kernel) (by decide +kernel)
set_option maxRecDepth 20000 in
theorem gX3_addBox_X3_isBelow : GoodIn wsX3_addBox (va_wsS RX3 38 yX3_isBelow wsX3_isBelow) := goodIn_app (goodIn_of _ (by decide +kernel)) ggX3_addBox_X3_isBelow
set_option maxRecDepth 20000 in
theorem ggX3_addBox_X2_isFull : GoodIn wsX3_addBox wsX2_isFull := goodIn_r _ [14, 15, 29, 30, 31, 32, 33, 34] (by decide +kernel) (by decide +kernel)
set_option maxRecDepth 20000 in
theorem gX3_addBox_X2_isFull : GoodIn wsX3_addBox (wsV RX3 61 RX2 yX2_isFull wsX2_isFull) := goodIn_app (goodIn_of _ (by decide +kernel)) ggX3_addBox_X2_isFull
set_option maxRecDepth 20000 in
theorem ggX3_addBox_X2_enter : GoodIn wsX3_addBox wsX2_enter := goodIn_r _ [19, 15, 20, 21, 22, 23, 24, 11, 12, 13, 14, 29, 30, 31, 32, 33, 34] (by decide +kernel) (by decide +kernel)
set_option maxRecDepth 20000 in
theorem gX3_addBox_X2_enter : GoodIn wsX3_addBox (wsV RX3 70 RX2 yX2_enter wsX2_enter) := goodIn_app (goodIn_of _ (by decide +kernel)) ggX3_addBox_X2_enter
theorem dX3_addBox_0 : decode cX3_addBox 0 = .ok (.iload_n 1, 1) := by decide +kernel
theorem dX3_addBox_1 : decode cX3_addBox 1 = .ok (.iconst 3, 1) := by decide +kernel
theorem dX3_addBox_2 : decode cX3_addBox 2 = .ok (.invokestatic 38, 3) := by decide +kernel
theorem dX3_addBox_5 : decode cX3_addBox 5 = .ok (.ifCond .ne 13, 3) := by decide +kernel
theorem dX3_addBox_8 : decode cX3_addBox 8 = .ok (.new 42, 3) := by decide +kernel
theorem dX3_addBox_11 : decode cX3_addBox 11 = .ok (.dup, 1) := by decide +kernel
theorem dX3_addBox_12 : decode cX3_addBox 12 = .ok (.ldc 44, 2) := by decide +kernel
theorem dX3_addBox_14 : decode cX3_addBox 14 = .ok (.invokespecial 46, 3) := by decide +kernel
theorem dX3_addBox_17 : decode cX3_addBox 17 = .ok (.athrow, 1) := by decide +kernel
theorem dX3_addBox_18 : decode cX3_addBox 18 = .ok (.iload_n 2, 1) := by decide +kernel
theorem dX3_addBox_19 : decode cX3_addBox 19 = .ok (.iconst 1, 1) := by decide +kernel
theorem dX3_addBox_20 : decode cX3_addBox 20 = .ok (.if_icmp .lt 9, 3) := by decide +kernel
theorem dX3_addBox_23 : decode cX3_addBox 23 = .ok (.iload_n 2, 1) := by decide +kernel
theorem dX3_addBox_24 : decode cX3_addBox 24 = .ok (.bipush 60, 2) := by decide +kernel
theorem dX3_addBox_26 : decode cX3_addBox 26 = .ok (.if_icmp .le 13, 3) := by decide +kernel
theorem dX3_addBox_29 : decode cX3_addBox 29 = .ok (.new 42, 3) := by decide +kernel
theorem dX3_addBox_32 : decode cX3_addBox 32 = .ok (.dup, 1) := by decide +kernel
theorem dX3_addBox_33 : decode cX3_addBox 33 = .ok (.ldc 57, 2) := by decide +kernel
theorem dX3_addBox_35 : decode cX3_addBox 35 = .ok (.invokespecial 46, 3) := by decide +kernel
theorem dX3_addBox_38 : decode cX3_addBox 38 = .ok (.athrow, 1) := by decide +kernel
theorem dX3_addBox_39 : decode cX3_addBox 39 = .ok (.iload_n 3, 1) := by decide +kernel
theorem dX3_addBox_40 : decode cX3_addBox 40 = .ok (.bipush 10, 2) := by decide +kernel
theorem dX3_addBox_42 : decode cX3_addBox 42 = .ok (.invokestatic 38, 3) := by decide +kernel
theorem dX3_addBox_45 : decode cX3_addBox 45 = .ok (.ifCond .ne 13, 3) := by decide +kernel
theorem dX3_addBox_48 : decode cX3_addBox 48 = .ok (.new 42, 3) := by decide +kernel
theorem dX3_addBox_51 : decode cX3_addBox 51 = .ok (.dup, 1) := by decide +kernel
theorem dX3_addBox_52 : decode cX3_addBox 52 = .ok (.ldc 59, 2) := by decide +kernel
theorem dX3_addBox_54 : decode cX3_addBox 54 = .ok (.invokespecial 46, 3) := by decide +kernel
theorem dX3_addBox_57 : decode cX3_addBox 57 = .ok (.athrow, 1) := by decide +kernel
theorem dX3_addBox_58 : decode cX3_addBox 58 = .ok (.aload_n 0, 1) := by decide +kernel
theorem dX3_addBox_59 : decode cX3_addBox 59 = .ok (.getfield 12, 3) := by decide +kernel
theorem dX3_addBox_62 : decode cX3_addBox 62 = .ok (.invokevirtual 61, 3) := by decide +kernel
theorem dX3_addBox_65 : decode cX3_addBox 65 = .ok (.ifCond .eq 13, 3) := by decide +kernel
theorem dX3_addBox_68 : decode cX3_addBox 68 = .ok (.new 65, 3) := by decide +kernel
theorem dX3_addBox_71 : decode cX3_addBox 71 = .ok (.dup, 1) := by decide +kernel
theorem dX3_addBox_72 : decode cX3_addBox 72 = .ok (.ldc 67, 2) := by decide +kernel
theorem dX3_addBox_74 : decode cX3_addBox 74 = .ok (.invokespecial 69, 3) := by decide +kernel
theorem dX3_addBox_77 : decode cX3_addBox 77 = .ok (.athrow, 1) := by decide +kernel
theorem dX3_addBox_78 : decode cX3_addBox 78 = .ok (.aload_n 0, 1) := by decide +kernel
theorem dX3_addBox_79 : decode cX3_addBox 79 = .ok (.getfield 12, 3) := by decide +kernel
theorem dX3_addBox_82 : decode cX3_addBox 82 = .ok (.iload_n 1, 1) := by decide +kernel
theorem dX3_addBox_83 : decode cX3_addBox 83 = .ok (.iload_n 2, 1) := by decide +kernel
theorem dX3_addBox_84 : decode cX3_addBox 84 = .ok (.iload_n 3, 1) := by decide +kernel
theorem dX3_addBox_85 : decode cX3_addBox 85 = .ok (.invokevirtual 70, 3) := by decide +kernel
theorem dX3_addBox_88 : decode cX3_addBox 88 = .ok (.ireturn, 1) := by decide +kernel
set_option maxRecDepth 20000 in
theorem ggX3_bestSpot_X3_requireBox : GoodIn wsX3_bestSpot wsX3_requireBox := goodIn_ca (goodIn_r _ [6, 7, 8, 1, 9, 10, 11, 12, 13, 14, 15, 5, 16, 62, 63, 64, 65, 66, 67, 68, 69, 70, 71] (by decide +kernel) (by decide +kernel)) (goodIn_sub (fun _ h => List.mem_cons_of_mem _ (List.mem_append_left _ (List.mem_append_right _ h))) (by decide +kernel))
set_option maxRecDepth 20000 in
theorem gX3_bestSpot_X3_requireBox : GoodIn wsX3_bestSpot (wsV RX3 74 RX3 yX3_requireBox wsX3_requireBox) := goodIn_app (goodIn_of _ (by decide +kernel)) ggX3_bestSpot_X3_requireBox
set_option maxRecDepth 20000 in
theorem ggX3_bestSpot_X3_requireOut : GoodIn wsX3_bestSpot wsX3_requireOut := goodIn_ca (goodIn_r _ [20, 21, 22, 1, 23, 24, 25, 12, 26, 27, 28, 10, 11, 13, 14, 15, 5, 16, 62, 63, 64, 65, 66, 67, 68, 69, 70, 71] (by decide +kernel) (by decide +kernel)) (goodIn_sub (fun _ h => List.mem_cons_of_mem _ (List.mem_append_right _ h)) (by decide +kernel))
set_option maxRecDepth 20000 in
theorem gX3_bestSpot_X3_requireOut : GoodIn wsX3_bestSpot (wsV RX3 77 RX3 yX3_requireOut wsX3_requireOut) := goodIn_app (goodIn_of _ (by decide +kernel)) ggX3_bestSpot_X3_requireOut
set_option maxRecDepth 20000 in
theorem ggX3_bestSpot_X2_bestSpotFor : GoodIn wsX3_bestSpot wsX2_bestSpotFor := goodIn_r _ [32, 33, 34, 35, 36, 28, 10, 11, 12, 13, 14, 15, 5, 16, 37, 38, 39, 40, 41, 42, 43, 44, 45, 24, 25, 26, 27, 46, 47, 48, 49, 50, 51, 52, 53, 54, 55, 56, 57, 58, 59, 60, 61, 66, 67, 68, 69, 70, 71] (by decide +kernel) (by decide +kernel)
set_option maxRecDepth 20000 in
theorem gX3_bestSpot_X2_bestSpotFor : GoodIn wsX3_bestSpot (wsV RX3 80 RX2 yX2_bestSpotFor wsX2_bestSpotFor) := goodIn_app (goodIn_of _ (by decide +kernel)) ggX3_bestSpot_X2_bestSpotFor
theorem dX3_bestSpot_0 : decode cX3_bestSpot 0 = .ok (.aload_n 0, 1) := by decide +kernel
theorem dX3_bestSpot_1 : decode cX3_bestSpot 1 = .ok (.iload_n 1, 1) := by decide +kernel
theorem dX3_bestSpot_2 : decode cX3_bestSpot 2 = .ok (.invokevirtual 74, 3) := by decide +kernel
theorem dX3_bestSpot_5 : decode cX3_bestSpot 5 = .ok (.aload_n 0, 1) := by decide +kernel
theorem dX3_bestSpot_6 : decode cX3_bestSpot 6 = .ok (.iload_n 1, 1) := by decide +kernel
theorem dX3_bestSpot_7 : decode cX3_bestSpot 7 = .ok (.invokevirtual 77, 3) := by decide +kernel
theorem dX3_bestSpot_10 : decode cX3_bestSpot 10 = .ok (.aload_n 0, 1) := by decide +kernel
theorem dX3_bestSpot_11 : decode cX3_bestSpot 11 = .ok (.getfield 12, 3) := by decide +kernel
theorem dX3_bestSpot_14 : decode cX3_bestSpot 14 = .ok (.iload_n 1, 1) := by decide +kernel
theorem dX3_bestSpot_15 : decode cX3_bestSpot 15 = .ok (.invokevirtual 80, 3) := by decide +kernel
theorem dX3_bestSpot_18 : decode cX3_bestSpot 18 = .ok (.ireturn, 1) := by decide +kernel
set_option maxRecDepth 20000 in
theorem ggX3_lay_X3_requireBox : GoodIn wsX3_lay wsX3_requireBox := goodIn_ca (goodIn_r _ [8, 9, 10, 3, 11, 12, 13, 14, 15, 16, 17, 7, 18, 66, 67, 68, 69, 70, 71, 72, 73, 74, 75] (by decide +kernel) (by decide +kernel)) (goodIn_sub (fun _ h => List.mem_cons_of_mem _ (List.mem_append_right _ h)) (by decide +kernel))
set_option maxRecDepth 20000 in
theorem gX3_lay_X3_requireBox : GoodIn wsX3_lay (wsV RX3 74 RX3 yX3_requireBox wsX3_requireBox) := goodIn_app (goodIn_of _ (by decide +kernel)) ggX3_lay_X3_requireBox
set_option maxRecDepth 20000 in
theorem ggX3_lay_X3_requireOut : GoodIn wsX3_lay wsX3_requireOut := goodIn_ca (goodIn_r _ [22, 1, 2, 3, 23, 24, 25, 14, 26, 27, 28, 12, 13, 15, 16, 17, 7, 18, 66, 67, 68, 69, 70, 71, 72, 73, 74, 75] (by decide +kernel) (by decide +kernel)) (goodIn_sub (fun _ h => List.mem_cons_of_mem _ (List.mem_append_left _ (List.mem_append_right _ h))) (by decide +kernel))
set_option maxRecDepth 20000 in
theorem gX3_lay_X3_requireOut : GoodIn wsX3_lay (wsV RX3 77 RX3 yX3_requireOut wsX3_requireOut) := goodIn_app (goodIn_of _ (by decide +kernel)) ggX3_lay_X3_requireOut
set_option maxRecDepth 20000 in
theorem ggX3_lay_X2_bestSpotFor : GoodIn wsX3_lay wsX2_bestSpotFor := goodIn_r _ [32, 33, 34, 35, 36, 28, 12, 13, 14, 15, 16, 17, 7, 18, 37, 38, 39, 40, 41, 42, 43, 44, 45, 24, 25, 26, 27, 46, 47, 48, 49, 50, 51, 52, 53, 54, 55, 56, 57, 58, 59, 60, 61, 70, 71, 72, 73, 74, 75] (by decide +kernel) (by decide +kernel)
set_option maxRecDepth 20000 in
theorem gX3_lay_X2_bestSpotFor : GoodIn wsX3_lay (wsV RX3 80 RX2 yX2_bestSpotFor wsX2_bestSpotFor) := goodIn_app (goodIn_of _ (by decide +kernel)) ggX3_lay_X2_bestSpotFor
set_option maxRecDepth 20000 in
theorem ggX3_lay_X2_put : GoodIn wsX3_lay wsX2_put := goodIn_r _ [65, 27, 28, 12, 13, 14, 15, 16, 17, 7, 18, 70, 71, 72, 73, 74, 75] (by decide +kernel) (by decide +kernel)
set_option maxRecDepth 20000 in
theorem gX3_lay_X2_put : GoodIn wsX3_lay (wsV RX3 85 RX2 yX2_put wsX2_put) := goodIn_app (goodIn_of _ (by decide +kernel)) ggX3_lay_X2_put
theorem dX3_lay_0 : decode cX3_lay 0 = .ok (.aload_n 0, 1) := by decide +kernel
theorem dX3_lay_1 : decode cX3_lay 1 = .ok (.iload_n 1, 1) := by decide +kernel
theorem dX3_lay_2 : decode cX3_lay 2 = .ok (.invokevirtual 74, 3) := by decide +kernel
theorem dX3_lay_5 : decode cX3_lay 5 = .ok (.aload_n 0, 1) := by decide +kernel
theorem dX3_lay_6 : decode cX3_lay 6 = .ok (.iload_n 1, 1) := by decide +kernel
theorem dX3_lay_7 : decode cX3_lay 7 = .ok (.invokevirtual 77, 3) := by decide +kernel
theorem dX3_lay_10 : decode cX3_lay 10 = .ok (.aload_n 0, 1) := by decide +kernel
theorem dX3_lay_11 : decode cX3_lay 11 = .ok (.getfield 12, 3) := by decide +kernel
theorem dX3_lay_14 : decode cX3_lay 14 = .ok (.iload_n 1, 1) := by decide +kernel
theorem dX3_lay_15 : decode cX3_lay 15 = .ok (.invokevirtual 80, 3) := by decide +kernel
theorem dX3_lay_18 : decode cX3_lay 18 = .ok (.istore_n 2, 1) := by decide +kernel
theorem dX3_lay_19 : decode cX3_lay 19 = .ok (.iload_n 2, 1) := by decide +kernel
theorem dX3_lay_20 : decode cX3_lay 20 = .ok (.iconst (-1), 1) := by decide +kernel
theorem dX3_lay_21 : decode cX3_lay 21 = .ok (.if_icmp .ne 13, 3) := by decide +kernel
theorem dX3_lay_24 : decode cX3_lay 24 = .ok (.new 65, 3) := by decide +kernel
theorem dX3_lay_27 : decode cX3_lay 27 = .ok (.dup, 1) := by decide +kernel
theorem dX3_lay_28 : decode cX3_lay 28 = .ok (.ldc 83, 2) := by decide +kernel
theorem dX3_lay_30 : decode cX3_lay 30 = .ok (.invokespecial 69, 3) := by decide +kernel
theorem dX3_lay_33 : decode cX3_lay 33 = .ok (.athrow, 1) := by decide +kernel
theorem dX3_lay_34 : decode cX3_lay 34 = .ok (.aload_n 0, 1) := by decide +kernel
theorem dX3_lay_35 : decode cX3_lay 35 = .ok (.getfield 12, 3) := by decide +kernel
theorem dX3_lay_38 : decode cX3_lay 38 = .ok (.iload_n 1, 1) := by decide +kernel
theorem dX3_lay_39 : decode cX3_lay 39 = .ok (.iload_n 2, 1) := by decide +kernel
theorem dX3_lay_40 : decode cX3_lay 40 = .ok (.invokevirtual 85, 3) := by decide +kernel
theorem dX3_lay_43 : decode cX3_lay 43 = .ok (.iload_n 2, 1) := by decide +kernel
theorem dX3_lay_44 : decode cX3_lay 44 = .ok (.ireturn, 1) := by decide +kernel
set_option maxRecDepth 20000 in
theorem ggX3_spotOf_X3_requireBox : GoodIn wsX3_spotOf wsX3_requireBox := goodIn_ca (goodIn_r _ [6, 7, 8, 1, 9, 10, 11, 12, 13, 14, 15, 5, 16, 23, 24, 25, 26, 27, 28, 29, 30, 31, 32] (by decide +kernel) (by decide +kernel)) (goodIn_sub (fun _ h => List.mem_cons_of_mem _ (List.mem_append_right _ h)) (by decide +kernel))
set_option maxRecDepth 20000 in
theorem gX3_spotOf_X3_requireBox : GoodIn wsX3_spotOf (wsV RX3 74 RX3 yX3_requireBox wsX3_requireBox) := goodIn_app (goodIn_of _ (by decide +kernel)) ggX3_spotOf_X3_requireBox
set_option maxRecDepth 20000 in
theorem ggX3_spotOf_X2_whereIs : GoodIn wsX3_spotOf wsX2_whereIs := goodIn_r _ [20, 21, 22, 10, 11, 12, 13, 14, 15, 5, 16, 27, 28, 29, 30, 31, 32] (by decide +kernel) (by decide +kernel)
set_option maxRecDepth 20000 in
theorem gX3_spotOf_X2_whereIs : GoodIn wsX3_spotOf (wsV RX3 88 RX2 yX2_whereIs wsX2_whereIs) := goodIn_app (goodIn_of _ (by decide +kernel)) ggX3_spotOf_X2_whereIs
theorem dX3_spotOf_0 : decode cX3_spotOf 0 = .ok (.aload_n 0, 1) := by decide +kernel
theorem dX3_spotOf_1 : decode cX3_spotOf 1 = .ok (.iload_n 1, 1) := by decide +kernel
theorem dX3_spotOf_2 : decode cX3_spotOf 2 = .ok (.invokevirtual 74, 3) := by decide +kernel
theorem dX3_spotOf_5 : decode cX3_spotOf 5 = .ok (.aload_n 0, 1) := by decide +kernel
theorem dX3_spotOf_6 : decode cX3_spotOf 6 = .ok (.getfield 12, 3) := by decide +kernel
theorem dX3_spotOf_9 : decode cX3_spotOf 9 = .ok (.iload_n 1, 1) := by decide +kernel
theorem dX3_spotOf_10 : decode cX3_spotOf 10 = .ok (.invokevirtual 88, 3) := by decide +kernel
theorem dX3_spotOf_13 : decode cX3_spotOf 13 = .ok (.ireturn, 1) := by decide +kernel
set_option maxRecDepth 20000 in
theorem ggX3_boxAt_X3_requireSpot : GoodIn wsX3_boxAt wsX3_requireSpot := goodIn_ca (goodIn_r _ [6, 7, 8, 9, 10, 5, 11, 12, 13, 14, 15, 16, 17, 18, 19, 20] (by decide +kernel) (by decide +kernel)) (goodIn_sub (fun _ h => List.mem_cons_of_mem _ (List.mem_append_right _ h)) (by decide +kernel))
set_option maxRecDepth 20000 in
theorem gX3_boxAt_X3_requireSpot : GoodIn wsX3_boxAt (wsV RX3 91 RX3 yX3_requireSpot wsX3_requireSpot) := goodIn_app (goodIn_of _ (by decide +kernel)) ggX3_boxAt_X3_requireSpot
set_option maxRecDepth 20000 in
theorem ggX3_boxAt_X2_boxIn : GoodIn wsX3_boxAt wsX2_boxIn := goodIn_r _ [25, 26, 27, 32, 33, 34, 35, 36, 37] (by decide +kernel) (by decide +kernel)
set_option maxRecDepth 20000 in
theorem gX3_boxAt_X2_boxIn : GoodIn wsX3_boxAt (wsV RX3 94 RX2 yX2_boxIn wsX2_boxIn) := goodIn_app (goodIn_of _ (by decide +kernel)) ggX3_boxAt_X2_boxIn
theorem dX3_boxAt_0 : decode cX3_boxAt 0 = .ok (.aload_n 0, 1) := by decide +kernel
theorem dX3_boxAt_1 : decode cX3_boxAt 1 = .ok (.iload_n 1, 1) := by decide +kernel
theorem dX3_boxAt_2 : decode cX3_boxAt 2 = .ok (.invokevirtual 91, 3) := by decide +kernel
theorem dX3_boxAt_5 : decode cX3_boxAt 5 = .ok (.aload_n 0, 1) := by decide +kernel
theorem dX3_boxAt_6 : decode cX3_boxAt 6 = .ok (.getfield 12, 3) := by decide +kernel
theorem dX3_boxAt_9 : decode cX3_boxAt 9 = .ok (.iload_n 1, 1) := by decide +kernel
theorem dX3_boxAt_10 : decode cX3_boxAt 10 = .ok (.invokevirtual 94, 3) := by decide +kernel
theorem dX3_boxAt_13 : decode cX3_boxAt 13 = .ok (.ireturn, 1) := by decide +kernel
set_option maxRecDepth 20000 in
theorem ggX3_weight_X3_requireShelf : GoodIn wsX3_weight wsX3_requireShelf := goodIn_ca (goodIn_r _ [6, 7, 8, 9, 10, 5, 11] (by decide +kernel) (by decide +kernel)) (goodIn_sub (fun _ h => List.mem_cons_of_mem _ (List.mem_append_right _ h)) (by decide +kernel))
set_option maxRecDepth 20000 in
theorem gX3_weight_X3_requireShelf : GoodIn wsX3_weight (wsV RX3 34 RX3 yX3_requireShelf wsX3_requireShelf) := goodIn_app (goodIn_of _ (by decide +kernel)) ggX3_weight_X3_requireShelf
set_option maxRecDepth 20000 in
theorem ggX3_weight_X2_weightOn : GoodIn wsX3_weight wsX2_weightOn := goodIn_r _ [16, 17, 18, 19, 20, 21, 15, 22, 23, 24, 25, 26, 27, 28, 29, 30, 31, 10, 5, 11, 32, 33, 38, 39, 40, 41, 42, 43] (by decide +kernel) (by decide +kernel)
set_option maxRecDepth 20000 in
theorem gX3_weight_X2_weightOn : GoodIn wsX3_weight (wsV RX3 97 RX2 yX2_weightOn wsX2_weightOn) := goodIn_app (goodIn_of _ (by decide +kernel)) ggX3_weight_X2_weightOn
theorem dX3_weight_0 : decode cX3_weight 0 = .ok (.aload_n 0, 1) := by decide +kernel
theorem dX3_weight_1 : decode cX3_weight 1 = .ok (.iload_n 1, 1) := by decide +kernel
theorem dX3_weight_2 : decode cX3_weight 2 = .ok (.invokevirtual 34, 3) := by decide +kernel
theorem dX3_weight_5 : decode cX3_weight 5 = .ok (.aload_n 0, 1) := by decide +kernel
theorem dX3_weight_6 : decode cX3_weight 6 = .ok (.getfield 12, 3) := by decide +kernel
theorem dX3_weight_9 : decode cX3_weight 9 = .ok (.iload_n 1, 1) := by decide +kernel
theorem dX3_weight_10 : decode cX3_weight 10 = .ok (.invokevirtual 97, 3) := by decide +kernel
theorem dX3_weight_13 : decode cX3_weight 13 = .ok (.ireturn, 1) := by decide +kernel
set_option maxRecDepth 20000 in
theorem ggX3_wrong_X2_countWrong : GoodIn wsX3_wrong wsX2_countWrong := goodIn_r _ [6, 7, 8, 9, 10, 5, 11, 12, 13, 14, 15, 16, 17, 18, 19, 20, 21, 22, 23, 24, 25, 26, 27, 28, 29, 30, 31, 36, 37, 38, 39, 40, 41] (by decide +kernel) (by decide +kernel)
set_option maxRecDepth 20000 in
theorem gX3_wrong_X2_countWrong : GoodIn wsX3_wrong (wsV RX3 100 RX2 yX2_countWrong wsX2_countWrong) := goodIn_app (goodIn_of _ (by decide +kernel)) ggX3_wrong_X2_countWrong
theorem dX3_wrong_0 : decode cX3_wrong 0 = .ok (.aload_n 0, 1) := by decide +kernel
theorem dX3_wrong_1 : decode cX3_wrong 1 = .ok (.getfield 12, 3) := by decide +kernel
theorem dX3_wrong_4 : decode cX3_wrong 4 = .ok (.invokevirtual 100, 3) := by decide +kernel
theorem dX3_wrong_7 : decode cX3_wrong 7 = .ok (.ireturn, 1) := by decide +kernel
set_option maxRecDepth 20000 in
theorem ggX3_open_X3_requireAisle : GoodIn wsX3_open wsX3_requireAisle := goodIn_ca (goodIn_r _ [8, 9, 10, 11, 12, 7, 13] (by decide +kernel) (by decide +kernel)) (goodIn_sub (fun _ h => List.mem_cons_of_mem _ (List.mem_append_right _ h)) (by decide +kernel))
set_option maxRecDepth 20000 in
theorem gX3_open_X3_requireAisle : GoodIn wsX3_open (wsV RX3 104 RX3 yX3_requireAisle wsX3_requireAisle) := goodIn_app (goodIn_of _ (by decide +kernel)) ggX3_open_X3_requireAisle
set_option maxRecDepth 20000 in
theorem ggX3_open_X1_mayOpen : GoodIn wsX3_open wsX1_mayOpen := goodIn_r _ [18, 19, 20, 21, 22, 23, 17, 24, 25, 26, 27, 28, 29, 30, 31, 32, 33, 34, 35, 36, 12, 7, 13, 53, 54, 55, 56, 57, 58, 59] (by decide +kernel) (by decide +kernel)
set_option maxRecDepth 20000 in
theorem gX3_open_X1_mayOpen : GoodIn wsX3_open (wsV RX3 107 RX1 yX1_mayOpen wsX1_mayOpen) := goodIn_app (goodIn_of _ (by decide +kernel)) ggX3_open_X1_mayOpen
set_option maxRecDepth 20000 in
theorem ggX3_open_X1_aimAt : GoodIn wsX3_open wsX1_aimAt := goodIn_r _ [40, 26, 53, 54, 55, 56, 57, 58, 59] (by decide +kernel) (by decide +kernel)
set_option maxRecDepth 20000 in
theorem gX3_open_X1_aimAt : GoodIn wsX3_open (wsV RX3 112 RX1 yX1_aimAt wsX1_aimAt) := goodIn_app (goodIn_of _ (by decide +kernel)) ggX3_open_X1_aimAt
set_option maxRecDepth 20000 in
theorem ggX3_open_X1_movesToCome : GoodIn wsX3_open wsX1_movesToCome := goodIn_r _ [44, 26, 25, 45, 46, 47, 48, 53, 54, 55, 56, 57, 58, 59] (by decide +kernel) (by decide +kernel)
set_option maxRecDepth 20000 in
theorem gX3_open_X1_movesToCome : GoodIn wsX3_open (wsV RX3 115 RX1 yX1_movesToCome wsX1_movesToCome) := goodIn_app (goodIn_of _ (by decide +kernel)) ggX3_open_X1_movesToCome
theorem dX3_open_0 : decode cX3_open 0 = .ok (.aload_n 0, 1) := by decide +kernel
theorem dX3_open_1 : decode cX3_open 1 = .ok (.iload_n 1, 1) := by decide +kernel
theorem dX3_open_2 : decode cX3_open 2 = .ok (.invokevirtual 104, 3) := by decide +kernel
theorem dX3_open_5 : decode cX3_open 5 = .ok (.aload_n 0, 1) := by decide +kernel
theorem dX3_open_6 : decode cX3_open 6 = .ok (.getfield 19, 3) := by decide +kernel
theorem dX3_open_9 : decode cX3_open 9 = .ok (.invokevirtual 107, 3) := by decide +kernel
theorem dX3_open_12 : decode cX3_open 12 = .ok (.ifCond .ne 13, 3) := by decide +kernel
theorem dX3_open_15 : decode cX3_open 15 = .ok (.new 65, 3) := by decide +kernel
theorem dX3_open_18 : decode cX3_open 18 = .ok (.dup, 1) := by decide +kernel
theorem dX3_open_19 : decode cX3_open 19 = .ok (.ldc 110, 2) := by decide +kernel
theorem dX3_open_21 : decode cX3_open 21 = .ok (.invokespecial 69, 3) := by decide +kernel
theorem dX3_open_24 : decode cX3_open 24 = .ok (.athrow, 1) := by decide +kernel
theorem dX3_open_25 : decode cX3_open 25 = .ok (.aload_n 0, 1) := by decide +kernel
theorem dX3_open_26 : decode cX3_open 26 = .ok (.getfield 19, 3) := by decide +kernel
theorem dX3_open_29 : decode cX3_open 29 = .ok (.iload_n 1, 1) := by decide +kernel
theorem dX3_open_30 : decode cX3_open 30 = .ok (.invokevirtual 112, 3) := by decide +kernel
theorem dX3_open_33 : decode cX3_open 33 = .ok (.aload_n 0, 1) := by decide +kernel
theorem dX3_open_34 : decode cX3_open 34 = .ok (.getfield 19, 3) := by decide +kernel
theorem dX3_open_37 : decode cX3_open 37 = .ok (.invokevirtual 115, 3) := by decide +kernel
theorem dX3_open_40 : decode cX3_open 40 = .ok (.ireturn, 1) := by decide +kernel
set_option maxRecDepth 20000 in
theorem ggX3_opened_X1_openAisle : GoodIn wsX3_opened wsX1_openAisle := goodIn_r _ [6, 7, 8, 13, 14, 15, 16, 17, 18, 19] (by decide +kernel) (by decide +kernel)
set_option maxRecDepth 20000 in
theorem gX3_opened_X1_openAisle : GoodIn wsX3_opened (wsV RX3 118 RX1 yX1_openAisle wsX1_openAisle) := goodIn_app (goodIn_of _ (by decide +kernel)) ggX3_opened_X1_openAisle
theorem dX3_opened_0 : decode cX3_opened 0 = .ok (.aload_n 0, 1) := by decide +kernel
theorem dX3_opened_1 : decode cX3_opened 1 = .ok (.getfield 19, 3) := by decide +kernel
theorem dX3_opened_4 : decode cX3_opened 4 = .ok (.invokevirtual 118, 3) := by decide +kernel
theorem dX3_opened_7 : decode cX3_opened 7 = .ok (.ireturn, 1) := by decide +kernel
set_option maxRecDepth 20000 in
theorem ggX3_openedByMoves_X1_openAisleByMoves : GoodIn wsX3_openedByMoves wsX1_openAisleByMoves := goodIn_r _ [6, 7, 8, 13, 14, 15, 16, 17, 18, 19] (by decide +kernel) (by decide +kernel)
set_option maxRecDepth 20000 in
theorem gX3_openedByMoves_X1_openAisleByMoves : GoodIn wsX3_openedByMoves (wsV RX3 121 RX1 yX1_openAisleByMoves wsX1_openAisleByMoves) := goodIn_app (goodIn_of _ (by decide +kernel)) ggX3_openedByMoves_X1_openAisleByMoves
theorem dX3_openedByMoves_0 : decode cX3_openedByMoves 0 = .ok (.aload_n 0, 1) := by decide +kernel
theorem dX3_openedByMoves_1 : decode cX3_openedByMoves 1 = .ok (.getfield 19, 3) := by decide +kernel
theorem dX3_openedByMoves_4 : decode cX3_openedByMoves 4 = .ok (.invokevirtual 121, 3) := by decide +kernel
theorem dX3_openedByMoves_7 : decode cX3_openedByMoves 7 = .ok (.ireturn, 1) := by decide +kernel
set_option maxRecDepth 20000 in
theorem ggX3_goIn_X3_requirePerson : GoodIn wsX3_goIn wsX3_requirePerson := goodIn_ca (goodIn_r _ [8, 9, 10, 11, 12, 7, 13] (by decide +kernel) (by decide +kernel)) (goodIn_sub (fun _ h => List.mem_cons_of_mem _ (List.mem_append_right _ h)) (by decide +kernel))
set_option maxRecDepth 20000 in
theorem gX3_goIn_X3_requirePerson : GoodIn wsX3_goIn (wsV RX3 124 RX3 yX3_requirePerson wsX3_requirePerson) := goodIn_app (goodIn_of _ (by decide +kernel)) ggX3_goIn_X3_requirePerson
set_option maxRecDepth 20000 in
theorem ggX3_goIn_X1_isInside : GoodIn wsX3_goIn wsX1_isInside := goodIn_r _ [18, 19, 12, 7, 13, 43, 44, 45, 46, 47, 48, 49] (by decide +kernel) (by decide +kernel)
set_option maxRecDepth 20000 in
theorem gX3_goIn_X1_isInside : GoodIn wsX3_goIn (wsV RX3 127 RX1 yX1_isInside wsX1_isInside) := goodIn_app (goodIn_of _ (by decide +kernel)) ggX3_goIn_X1_isInside
set_option maxRecDepth 20000 in
theorem ggX3_goIn_X1_mayGoIn : GoodIn wsX3_goIn wsX1_mayGoIn := goodIn_r _ [23, 24, 25, 26, 27, 17, 28, 29, 30, 43, 44, 45, 46, 47, 48, 49] (by decide +kernel) (by decide +kernel)
set_option maxRecDepth 20000 in
theorem gX3_goIn_X1_mayGoIn : GoodIn wsX3_goIn (wsV RX3 133 RX1 yX1_mayGoIn wsX1_mayGoIn) := goodIn_app (goodIn_of _ (by decide +kernel)) ggX3_goIn_X1_mayGoIn
set_option maxRecDepth 20000 in
theorem ggX3_goIn_X1_setInside : GoodIn wsX3_goIn wsX1_setInside := goodIn_r _ [34, 19, 12, 7, 13, 43, 44, 45, 46, 47, 48, 49] (by decide +kernel) (by decide +kernel)
set_option maxRecDepth 20000 in
theorem gX3_goIn_X1_setInside : GoodIn wsX3_goIn (wsV RX3 138 RX1 yX1_setInside wsX1_setInside) := goodIn_app (goodIn_of _ (by decide +kernel)) ggX3_goIn_X1_setInside
set_option maxRecDepth 20000 in
theorem ggX3_goIn_X1_countInside : GoodIn wsX3_goIn wsX1_countInside := goodIn_r _ [38, 19, 43, 44, 45, 46, 47, 48, 49] (by decide +kernel) (by decide +kernel)
set_option maxRecDepth 20000 in
theorem gX3_goIn_X1_countInside : GoodIn wsX3_goIn (wsV RX3 142 RX1 yX1_countInside wsX1_countInside) := goodIn_app (goodIn_of _ (by decide +kernel)) ggX3_goIn_X1_countInside
theorem dX3_goIn_0 : decode cX3_goIn 0 = .ok (.aload_n 0, 1) := by decide +kernel
theorem dX3_goIn_1 : decode cX3_goIn 1 = .ok (.iload_n 1, 1) := by decide +kernel
theorem dX3_goIn_2 : decode cX3_goIn 2 = .ok (.invokevirtual 124, 3) := by decide +kernel
theorem dX3_goIn_5 : decode cX3_goIn 5 = .ok (.aload_n 0, 1) := by decide +kernel
theorem dX3_goIn_6 : decode cX3_goIn 6 = .ok (.getfield 19, 3) := by decide +kernel
theorem dX3_goIn_9 : decode cX3_goIn 9 = .ok (.iload_n 1, 1) := by decide +kernel
theorem dX3_goIn_10 : decode cX3_goIn 10 = .ok (.invokevirtual 127, 3) := by decide +kernel
theorem dX3_goIn_13 : decode cX3_goIn 13 = .ok (.ifCond .eq 13, 3) := by decide +kernel
theorem dX3_goIn_16 : decode cX3_goIn 16 = .ok (.new 65, 3) := by decide +kernel
theorem dX3_goIn_19 : decode cX3_goIn 19 = .ok (.dup, 1) := by decide +kernel
theorem dX3_goIn_20 : decode cX3_goIn 20 = .ok (.ldc 131, 2) := by decide +kernel
theorem dX3_goIn_22 : decode cX3_goIn 22 = .ok (.invokespecial 69, 3) := by decide +kernel
theorem dX3_goIn_25 : decode cX3_goIn 25 = .ok (.athrow, 1) := by decide +kernel
theorem dX3_goIn_26 : decode cX3_goIn 26 = .ok (.aload_n 0, 1) := by decide +kernel
theorem dX3_goIn_27 : decode cX3_goIn 27 = .ok (.getfield 19, 3) := by decide +kernel
theorem dX3_goIn_30 : decode cX3_goIn 30 = .ok (.invokevirtual 133, 3) := by decide +kernel
theorem dX3_goIn_33 : decode cX3_goIn 33 = .ok (.ifCond .ne 13, 3) := by decide +kernel
theorem dX3_goIn_36 : decode cX3_goIn 36 = .ok (.new 65, 3) := by decide +kernel
theorem dX3_goIn_39 : decode cX3_goIn 39 = .ok (.dup, 1) := by decide +kernel
theorem dX3_goIn_40 : decode cX3_goIn 40 = .ok (.ldc 136, 2) := by decide +kernel
theorem dX3_goIn_42 : decode cX3_goIn 42 = .ok (.invokespecial 69, 3) := by decide +kernel
theorem dX3_goIn_45 : decode cX3_goIn 45 = .ok (.athrow, 1) := by decide +kernel
theorem dX3_goIn_46 : decode cX3_goIn 46 = .ok (.aload_n 0, 1) := by decide +kernel
theorem dX3_goIn_47 : decode cX3_goIn 47 = .ok (.getfield 19, 3) := by decide +kernel
theorem dX3_goIn_50 : decode cX3_goIn 50 = .ok (.iload_n 1, 1) := by decide +kernel
theorem dX3_goIn_51 : decode cX3_goIn 51 = .ok (.iconst 1, 1) := by decide +kernel
theorem dX3_goIn_52 : decode cX3_goIn 52 = .ok (.invokevirtual 138, 3) := by decide +kernel
theorem dX3_goIn_55 : decode cX3_goIn 55 = .ok (.aload_n 0, 1) := by decide +kernel
theorem dX3_goIn_56 : decode cX3_goIn 56 = .ok (.getfield 19, 3) := by decide +kernel
theorem dX3_goIn_59 : decode cX3_goIn 59 = .ok (.invokevirtual 142, 3) := by decide +kernel
theorem dX3_goIn_62 : decode cX3_goIn 62 = .ok (.ireturn, 1) := by decide +kernel
set_option maxRecDepth 20000 in
theorem ggX3_goOut_X3_requirePerson : GoodIn wsX3_goOut wsX3_requirePerson := goodIn_ca (goodIn_r _ [6, 7, 8, 9, 10, 5, 11] (by decide +kernel) (by decide +kernel)) (goodIn_sub (fun _ h => List.mem_cons_of_mem _ (List.mem_append_left _ (List.mem_append_right _ h))) (by decide +kernel))
set_option maxRecDepth 20000 in
theorem gX3_goOut_X3_requirePerson : GoodIn wsX3_goOut (wsV RX3 124 RX3 yX3_requirePerson wsX3_requirePerson) := goodIn_app (goodIn_of _ (by decide +kernel)) ggX3_goOut_X3_requirePerson
set_option maxRecDepth 20000 in
theorem ggX3_goOut_X3_requireInside : GoodIn wsX3_goOut wsX3_requireInside := goodIn_ca (goodIn_r _ [15, 16, 17, 1, 18, 19, 20, 21, 22, 23, 10, 5, 11, 32, 33, 34, 35, 36, 37, 38, 39, 40, 41, 42] (by decide +kernel) (by decide +kernel)) (goodIn_sub (fun _ h => List.mem_cons_of_mem _ (List.mem_append_right _ h)) (by decide +kernel))
set_option maxRecDepth 20000 in
theorem gX3_goOut_X3_requireInside : GoodIn wsX3_goOut (wsV RX3 145 RX3 yX3_requireInside wsX3_requireInside) := goodIn_app (goodIn_of _ (by decide +kernel)) ggX3_goOut_X3_requireInside
set_option maxRecDepth 20000 in
theorem ggX3_goOut_X1_setInside : GoodIn wsX3_goOut wsX1_setInside := goodIn_r _ [27, 23, 10, 5, 11, 36, 37, 38, 39, 40, 41, 42] (by decide +kernel) (by decide +kernel)
set_option maxRecDepth 20000 in
theorem gX3_goOut_X1_setInside : GoodIn wsX3_goOut (wsV RX3 138 RX1 yX1_setInside wsX1_setInside) := goodIn_app (goodIn_of _ (by decide +kernel)) ggX3_goOut_X1_setInside
set_option maxRecDepth 20000 in
theorem ggX3_goOut_X1_countInside : GoodIn wsX3_goOut wsX1_countInside := goodIn_r _ [31, 23, 36, 37, 38, 39, 40, 41, 42] (by decide +kernel) (by decide +kernel)
set_option maxRecDepth 20000 in
theorem gX3_goOut_X1_countInside : GoodIn wsX3_goOut (wsV RX3 142 RX1 yX1_countInside wsX1_countInside) := goodIn_app (goodIn_of _ (by decide +kernel)) ggX3_goOut_X1_countInside
theorem dX3_goOut_0 : decode cX3_goOut 0 = .ok (.aload_n 0, 1) := by decide +kernel
theorem dX3_goOut_1 : decode cX3_goOut 1 = .ok (.iload_n 1, 1) := by decide +kernel
theorem dX3_goOut_2 : decode cX3_goOut 2 = .ok (.invokevirtual 124, 3) := by decide +kernel
theorem dX3_goOut_5 : decode cX3_goOut 5 = .ok (.aload_n 0, 1) := by decide +kernel
theorem dX3_goOut_6 : decode cX3_goOut 6 = .ok (.iload_n 1, 1) := by decide +kernel
theorem dX3_goOut_7 : decode cX3_goOut 7 = .ok (.invokevirtual 145, 3) := by decide +kernel
theorem dX3_goOut_10 : decode cX3_goOut 10 = .ok (.aload_n 0, 1) := by decide +kernel
theorem dX3_goOut_11 : decode cX3_goOut 11 = .ok (.getfield 19, 3) := by decide +kernel
theorem dX3_goOut_14 : decode cX3_goOut 14 = .ok (.iload_n 1, 1) := by decide +kernel
theorem dX3_goOut_15 : decode cX3_goOut 15 = .ok (.iconst 0, 1) := by decide +kernel
theorem dX3_goOut_16 : decode cX3_goOut 16 = .ok (.invokevirtual 138, 3) := by decide +kernel
theorem dX3_goOut_19 : decode cX3_goOut 19 = .ok (.aload_n 0, 1) := by decide +kernel
theorem dX3_goOut_20 : decode cX3_goOut 20 = .ok (.getfield 19, 3) := by decide +kernel
theorem dX3_goOut_23 : decode cX3_goOut 23 = .ok (.invokevirtual 142, 3) := by decide +kernel
theorem dX3_goOut_26 : decode cX3_goOut 26 = .ok (.ireturn, 1) := by decide +kernel
set_option maxRecDepth 20000 in
theorem ggX3_doubt_X3_requireAisle : GoodIn wsX3_doubt wsX3_requireAisle := goodIn_ca (goodIn_r _ [6, 7, 8, 9, 10, 5, 11] (by decide +kernel) (by decide +kernel)) (goodIn_sub (fun _ h => List.mem_cons_of_mem _ (List.mem_append_right _ h)) (by decide +kernel))
set_option maxRecDepth 20000 in
theorem gX3_doubt_X3_requireAisle : GoodIn wsX3_doubt (wsV RX3 104 RX3 yX3_requireAisle wsX3_requireAisle) := goodIn_app (goodIn_of _ (by decide +kernel)) ggX3_doubt_X3_requireAisle
set_option maxRecDepth 20000 in
theorem ggX3_doubt_X1_hasDoubt : GoodIn wsX3_doubt wsX1_hasDoubt := goodIn_r _ [16, 17, 10, 5, 11, 26, 27, 28, 29, 30, 31, 32] (by decide +kernel) (by decide +kernel)
set_option maxRecDepth 20000 in
theorem gX3_doubt_X1_hasDoubt : GoodIn wsX3_doubt (wsV RX3 148 RX1 yX1_hasDoubt wsX1_hasDoubt) := goodIn_app (goodIn_of _ (by decide +kernel)) ggX3_doubt_X1_hasDoubt
set_option maxRecDepth 20000 in
theorem ggX3_doubt_X1_setDoubt : GoodIn wsX3_doubt wsX1_setDoubt := goodIn_r _ [21, 17, 10, 5, 11, 26, 27, 28, 29, 30, 31, 32] (by decide +kernel) (by decide +kernel)
set_option maxRecDepth 20000 in
theorem gX3_doubt_X1_setDoubt : GoodIn wsX3_doubt (wsV RX3 151 RX1 yX1_setDoubt wsX1_setDoubt) := goodIn_app (goodIn_of _ (by decide +kernel)) ggX3_doubt_X1_setDoubt
theorem dX3_doubt_0 : decode cX3_doubt 0 = .ok (.aload_n 0, 1) := by decide +kernel
theorem dX3_doubt_1 : decode cX3_doubt 1 = .ok (.iload_n 1, 1) := by decide +kernel
theorem dX3_doubt_2 : decode cX3_doubt 2 = .ok (.invokevirtual 104, 3) := by decide +kernel
theorem dX3_doubt_5 : decode cX3_doubt 5 = .ok (.aload_n 0, 1) := by decide +kernel
theorem dX3_doubt_6 : decode cX3_doubt 6 = .ok (.getfield 19, 3) := by decide +kernel
theorem dX3_doubt_9 : decode cX3_doubt 9 = .ok (.iload_n 1, 1) := by decide +kernel
theorem dX3_doubt_10 : decode cX3_doubt 10 = .ok (.invokevirtual 148, 3) := by decide +kernel
theorem dX3_doubt_13 : decode cX3_doubt 13 = .ok (.istore_n 2, 1) := by decide +kernel
theorem dX3_doubt_14 : decode cX3_doubt 14 = .ok (.aload_n 0, 1) := by decide +kernel
theorem dX3_doubt_15 : decode cX3_doubt 15 = .ok (.getfield 19, 3) := by decide +kernel
theorem dX3_doubt_18 : decode cX3_doubt 18 = .ok (.iload_n 1, 1) := by decide +kernel
theorem dX3_doubt_19 : decode cX3_doubt 19 = .ok (.iconst 1, 1) := by decide +kernel
theorem dX3_doubt_20 : decode cX3_doubt 20 = .ok (.invokevirtual 151, 3) := by decide +kernel
theorem dX3_doubt_23 : decode cX3_doubt 23 = .ok (.iload_n 2, 1) := by decide +kernel
theorem dX3_doubt_24 : decode cX3_doubt 24 = .ok (.ifCond .ne 7, 3) := by decide +kernel
theorem dX3_doubt_27 : decode cX3_doubt 27 = .ok (.iconst 1, 1) := by decide +kernel
theorem dX3_doubt_28 : decode cX3_doubt 28 = .ok (.goto 4, 3) := by decide +kernel
theorem dX3_doubt_31 : decode cX3_doubt 31 = .ok (.iconst 0, 1) := by decide +kernel
theorem dX3_doubt_32 : decode cX3_doubt 32 = .ok (.ireturn, 1) := by decide +kernel
set_option maxRecDepth 20000 in
theorem ggX3_look_X1_openAisle : GoodIn wsX3_look wsX1_openAisle := goodIn_r _ [8, 9, 10, 27, 28, 29, 30, 31, 32, 33] (by decide +kernel) (by decide +kernel)
set_option maxRecDepth 20000 in
theorem gX3_look_X1_openAisle : GoodIn wsX3_look (wsV RX3 118 RX1 yX1_openAisle wsX1_openAisle) := goodIn_app (goodIn_of _ (by decide +kernel)) ggX3_look_X1_openAisle
set_option maxRecDepth 20000 in
theorem ggX3_look_X1_hasDoubt : GoodIn wsX3_look wsX1_hasDoubt := goodIn_r _ [14, 15, 16, 17, 18, 27, 28, 29, 30, 31, 32, 33] (by decide +kernel) (by decide +kernel)
set_option maxRecDepth 20000 in
theorem gX3_look_X1_hasDoubt : GoodIn wsX3_look (wsV RX3 148 RX1 yX1_hasDoubt wsX1_hasDoubt) := goodIn_app (goodIn_of _ (by decide +kernel)) ggX3_look_X1_hasDoubt
set_option maxRecDepth 20000 in
theorem ggX3_look_X1_setDoubt : GoodIn wsX3_look wsX1_setDoubt := goodIn_r _ [22, 15, 16, 17, 18, 27, 28, 29, 30, 31, 32, 33] (by decide +kernel) (by decide +kernel)
set_option maxRecDepth 20000 in
theorem gX3_look_X1_setDoubt : GoodIn wsX3_look (wsV RX3 151 RX1 yX1_setDoubt wsX1_setDoubt) := goodIn_app (goodIn_of _ (by decide +kernel)) ggX3_look_X1_setDoubt
theorem dX3_look_0 : decode cX3_look 0 = .ok (.aload_n 0, 1) := by decide +kernel
theorem dX3_look_1 : decode cX3_look 1 = .ok (.getfield 19, 3) := by decide +kernel
theorem dX3_look_4 : decode cX3_look 4 = .ok (.invokevirtual 118, 3) := by decide +kernel
theorem dX3_look_7 : decode cX3_look 7 = .ok (.istore_n 1, 1) := by decide +kernel
theorem dX3_look_8 : decode cX3_look 8 = .ok (.iload_n 1, 1) := by decide +kernel
theorem dX3_look_9 : decode cX3_look 9 = .ok (.iconst (-1), 1) := by decide +kernel
theorem dX3_look_10 : decode cX3_look 10 = .ok (.if_icmp .ne 13, 3) := by decide +kernel
theorem dX3_look_13 : decode cX3_look 13 = .ok (.new 65, 3) := by decide +kernel
theorem dX3_look_16 : decode cX3_look 16 = .ok (.dup, 1) := by decide +kernel
theorem dX3_look_17 : decode cX3_look 17 = .ok (.ldc 154, 2) := by decide +kernel
theorem dX3_look_19 : decode cX3_look 19 = .ok (.invokespecial 69, 3) := by decide +kernel
theorem dX3_look_22 : decode cX3_look 22 = .ok (.athrow, 1) := by decide +kernel
theorem dX3_look_23 : decode cX3_look 23 = .ok (.aload_n 0, 1) := by decide +kernel
theorem dX3_look_24 : decode cX3_look 24 = .ok (.getfield 19, 3) := by decide +kernel
theorem dX3_look_27 : decode cX3_look 27 = .ok (.iload_n 1, 1) := by decide +kernel
theorem dX3_look_28 : decode cX3_look 28 = .ok (.invokevirtual 148, 3) := by decide +kernel
theorem dX3_look_31 : decode cX3_look 31 = .ok (.istore_n 2, 1) := by decide +kernel
theorem dX3_look_32 : decode cX3_look 32 = .ok (.aload_n 0, 1) := by decide +kernel
theorem dX3_look_33 : decode cX3_look 33 = .ok (.getfield 19, 3) := by decide +kernel
theorem dX3_look_36 : decode cX3_look 36 = .ok (.iload_n 1, 1) := by decide +kernel
theorem dX3_look_37 : decode cX3_look 37 = .ok (.iconst 0, 1) := by decide +kernel
theorem dX3_look_38 : decode cX3_look 38 = .ok (.invokevirtual 151, 3) := by decide +kernel
theorem dX3_look_41 : decode cX3_look 41 = .ok (.iload_n 2, 1) := by decide +kernel
theorem dX3_look_42 : decode cX3_look 42 = .ok (.ireturn, 1) := by decide +kernel
set_option maxRecDepth 20000 in
theorem ggX3_stall_X1_changeStall : GoodIn wsX3_stall wsX1_changeStall := goodIn_r _ [6, 7, 12, 13, 14, 15, 16, 17, 18] (by decide +kernel) (by decide +kernel)
set_option maxRecDepth 20000 in
theorem gX3_stall_X1_changeStall : GoodIn wsX3_stall (wsV RX3 156 RX1 yX1_changeStall wsX1_changeStall) := goodIn_app (goodIn_of _ (by decide +kernel)) ggX3_stall_X1_changeStall
theorem dX3_stall_0 : decode cX3_stall 0 = .ok (.aload_n 0, 1) := by decide +kernel
theorem dX3_stall_1 : decode cX3_stall 1 = .ok (.getfield 19, 3) := by decide +kernel
theorem dX3_stall_4 : decode cX3_stall 4 = .ok (.iload_n 1, 1) := by decide +kernel
theorem dX3_stall_5 : decode cX3_stall 5 = .ok (.invokevirtual 156, 3) := by decide +kernel
theorem dX3_stall_8 : decode cX3_stall 8 = .ok (.ireturn, 1) := by decide +kernel
set_option maxRecDepth 20000 in
theorem ggX3_smoke_X1_changeSmoke : GoodIn wsX3_smoke wsX1_changeSmoke := goodIn_r _ [6, 7, 21, 22, 23, 24, 25, 26, 27] (by decide +kernel) (by decide +kernel)
set_option maxRecDepth 20000 in
theorem gX3_smoke_X1_changeSmoke : GoodIn wsX3_smoke (wsV RX3 160 RX1 yX1_changeSmoke wsX1_changeSmoke) := goodIn_app (goodIn_of _ (by decide +kernel)) ggX3_smoke_X1_changeSmoke
set_option maxRecDepth 20000 in
theorem ggX3_smoke_X1_sendAllOut : GoodIn wsX3_smoke wsX1_sendAllOut := goodIn_r _ [11, 12, 13, 14, 15, 5, 16, 21, 22, 23, 24, 25, 26, 27] (by decide +kernel) (by decide +kernel)
set_option maxRecDepth 20000 in
theorem gX3_smoke_X1_sendAllOut : GoodIn wsX3_smoke (wsV RX3 164 RX1 yX1_sendAllOut wsX1_sendAllOut) := goodIn_app (goodIn_of _ (by decide +kernel)) ggX3_smoke_X1_sendAllOut
theorem dX3_smoke_0 : decode cX3_smoke 0 = .ok (.aload_n 0, 1) := by decide +kernel
theorem dX3_smoke_1 : decode cX3_smoke 1 = .ok (.getfield 19, 3) := by decide +kernel
theorem dX3_smoke_4 : decode cX3_smoke 4 = .ok (.iload_n 1, 1) := by decide +kernel
theorem dX3_smoke_5 : decode cX3_smoke 5 = .ok (.invokevirtual 160, 3) := by decide +kernel
theorem dX3_smoke_8 : decode cX3_smoke 8 = .ok (.iload_n 1, 1) := by decide +kernel
theorem dX3_smoke_9 : decode cX3_smoke 9 = .ok (.ifCond .eq 13, 3) := by decide +kernel
theorem dX3_smoke_12 : decode cX3_smoke 12 = .ok (.aload_n 0, 1) := by decide +kernel
theorem dX3_smoke_13 : decode cX3_smoke 13 = .ok (.getfield 19, 3) := by decide +kernel
theorem dX3_smoke_16 : decode cX3_smoke 16 = .ok (.invokevirtual 164, 3) := by decide +kernel
theorem dX3_smoke_19 : decode cX3_smoke 19 = .ok (.goto 4, 3) := by decide +kernel
theorem dX3_smoke_22 : decode cX3_smoke 22 = .ok (.iconst 0, 1) := by decide +kernel
theorem dX3_smoke_23 : decode cX3_smoke 23 = .ok (.ireturn, 1) := by decide +kernel
set_option maxRecDepth 20000 in
theorem ggX3_pass_X1_moveFor : GoodIn wsX3_pass wsX1_moveFor := goodIn_r _ [11, 12, 13, 14, 15, 16, 17, 18, 19, 20, 10, 21, 22, 23, 24, 25, 26, 27, 28, 29, 30, 31, 32, 33, 34, 39, 40, 41, 42, 43, 44, 45] (by decide +kernel) (by decide +kernel)
set_option maxRecDepth 20000 in
theorem gX3_pass_X1_moveFor : GoodIn wsX3_pass (wsV RX3 171 RX1 yX1_moveFor wsX1_moveFor) := goodIn_app (goodIn_of _ (by decide +kernel)) ggX3_pass_X1_moveFor
theorem dX3_pass_0 : decode cX3_pass 0 = .ok (.iload_n 1, 1) := by decide +kernel
theorem dX3_pass_1 : decode cX3_pass 1 = .ok (.iconst 1, 1) := by decide +kernel
theorem dX3_pass_2 : decode cX3_pass 2 = .ok (.if_icmp .lt 9, 3) := by decide +kernel
theorem dX3_pass_5 : decode cX3_pass 5 = .ok (.iload_n 1, 1) := by decide +kernel
theorem dX3_pass_6 : decode cX3_pass 6 = .ok (.bipush 100, 2) := by decide +kernel
theorem dX3_pass_8 : decode cX3_pass 8 = .ok (.if_icmp .le 13, 3) := by decide +kernel
theorem dX3_pass_11 : decode cX3_pass 11 = .ok (.new 42, 3) := by decide +kernel
theorem dX3_pass_14 : decode cX3_pass 14 = .ok (.dup, 1) := by decide +kernel
theorem dX3_pass_15 : decode cX3_pass 15 = .ok (.ldc 167, 2) := by decide +kernel
theorem dX3_pass_17 : decode cX3_pass 17 = .ok (.invokespecial 46, 3) := by decide +kernel
theorem dX3_pass_20 : decode cX3_pass 20 = .ok (.athrow, 1) := by decide +kernel
theorem dX3_pass_21 : decode cX3_pass 21 = .ok (.aload_n 0, 1) := by decide +kernel
theorem dX3_pass_22 : decode cX3_pass 22 = .ok (.getfield 30, 3) := by decide +kernel
theorem dX3_pass_25 : decode cX3_pass 25 = .ok (.iload_n 1, 1) := by decide +kernel
theorem dX3_pass_26 : decode cX3_pass 26 = .ok (.iadd, 1) := by decide +kernel
theorem dX3_pass_27 : decode cX3_pass 27 = .ok (.sipush 10000, 3) := by decide +kernel
theorem dX3_pass_30 : decode cX3_pass 30 = .ok (.if_icmp .le 13, 3) := by decide +kernel
theorem dX3_pass_33 : decode cX3_pass 33 = .ok (.new 65, 3) := by decide +kernel
theorem dX3_pass_36 : decode cX3_pass 36 = .ok (.dup, 1) := by decide +kernel
theorem dX3_pass_37 : decode cX3_pass 37 = .ok (.ldc 169, 2) := by decide +kernel
theorem dX3_pass_39 : decode cX3_pass 39 = .ok (.invokespecial 69, 3) := by decide +kernel
theorem dX3_pass_42 : decode cX3_pass 42 = .ok (.athrow, 1) := by decide +kernel
theorem dX3_pass_43 : decode cX3_pass 43 = .ok (.aload_n 0, 1) := by decide +kernel
theorem dX3_pass_44 : decode cX3_pass 44 = .ok (.dup, 1) := by decide +kernel
theorem dX3_pass_45 : decode cX3_pass 45 = .ok (.getfield 30, 3) := by decide +kernel
theorem dX3_pass_48 : decode cX3_pass 48 = .ok (.iload_n 1, 1) := by decide +kernel
theorem dX3_pass_49 : decode cX3_pass 49 = .ok (.iadd, 1) := by decide +kernel
theorem dX3_pass_50 : decode cX3_pass 50 = .ok (.putfield 30, 3) := by decide +kernel
theorem dX3_pass_53 : decode cX3_pass 53 = .ok (.aload_n 0, 1) := by decide +kernel
theorem dX3_pass_54 : decode cX3_pass 54 = .ok (.getfield 19, 3) := by decide +kernel
theorem dX3_pass_57 : decode cX3_pass 57 = .ok (.iload_n 1, 1) := by decide +kernel
theorem dX3_pass_58 : decode cX3_pass 58 = .ok (.invokevirtual 171, 3) := by decide +kernel
theorem dX3_pass_61 : decode cX3_pass 61 = .ok (.aload_n 0, 1) := by decide +kernel
theorem dX3_pass_62 : decode cX3_pass 62 = .ok (.getfield 30, 3) := by decide +kernel
theorem dX3_pass_65 : decode cX3_pass 65 = .ok (.ireturn, 1) := by decide +kernel
set_option maxRecDepth 20000 in
theorem ggX3_order_X3_requireBox : GoodIn wsX3_order wsX3_requireBox := goodIn_ca (goodIn_r _ [10, 11, 12, 13, 14, 15, 16, 17, 18, 19, 20, 9, 21, 40, 41, 42, 43, 44, 45, 46, 47, 48, 49] (by decide +kernel) (by decide +kernel)) (goodIn_sub (fun _ h => List.mem_cons_of_mem _ (List.mem_append_right _ h)) (by decide +kernel))
set_option maxRecDepth 20000 in
theorem gX3_order_X3_requireBox : GoodIn wsX3_order (wsV RX3 74 RX3 yX3_requireBox wsX3_requireBox) := goodIn_app (goodIn_of _ (by decide +kernel)) ggX3_order_X3_requireBox
set_option maxRecDepth 20000 in
theorem ggX3_order_X0_isOpenFor : GoodIn wsX3_order wsX0_isOpenFor := goodIn_r _ [26, 27, 28, 29, 50, 51, 52, 53, 54] (by decide +kernel) (by decide +kernel)
set_option maxRecDepth 20000 in
theorem gX3_order_X0_isOpenFor : GoodIn wsX3_order (wsV RX3 176 RX0 yX0_isOpenFor wsX0_isOpenFor) := goodIn_app (goodIn_of _ (by decide +kernel)) ggX3_order_X0_isOpenFor
set_option maxRecDepth 20000 in
theorem ggX3_order_X0_isFull : GoodIn wsX3_order wsX0_isFull := goodIn_r _ [33, 27, 50, 51, 52, 53, 54] (by decide +kernel) (by decide +kernel)
set_option maxRecDepth 20000 in
theorem gX3_order_X0_isFull : GoodIn wsX3_order (wsV RX3 181 RX0 yX0_isFull wsX0_isFull) := goodIn_app (goodIn_of _ (by decide +kernel)) ggX3_order_X0_isFull
set_option maxRecDepth 20000 in
theorem ggX3_order_X0_enter : GoodIn wsX3_order wsX0_enter := goodIn_r _ [37, 27, 29, 38, 39, 31, 32, 25, 33, 50, 51, 52, 53, 54] (by decide +kernel) (by decide +kernel)
set_option maxRecDepth 20000 in
theorem gX3_order_X0_enter : GoodIn wsX3_order (wsV RX3 184 RX0 yX0_enter wsX0_enter) := goodIn_app (goodIn_of _ (by decide +kernel)) ggX3_order_X0_enter
theorem dX3_order_0 : decode cX3_order 0 = .ok (.aload_n 0, 1) := by decide +kernel
theorem dX3_order_1 : decode cX3_order 1 = .ok (.iload_n 1, 1) := by decide +kernel
theorem dX3_order_2 : decode cX3_order 2 = .ok (.invokevirtual 74, 3) := by decide +kernel
theorem dX3_order_5 : decode cX3_order 5 = .ok (.iload_n 2, 1) := by decide +kernel
theorem dX3_order_6 : decode cX3_order 6 = .ok (.ifCond .lt 10, 3) := by decide +kernel
theorem dX3_order_9 : decode cX3_order 9 = .ok (.iload_n 2, 1) := by decide +kernel
theorem dX3_order_10 : decode cX3_order 10 = .ok (.sipush 10000, 3) := by decide +kernel
theorem dX3_order_13 : decode cX3_order 13 = .ok (.if_icmp .le 13, 3) := by decide +kernel
theorem dX3_order_16 : decode cX3_order 16 = .ok (.new 42, 3) := by decide +kernel
theorem dX3_order_19 : decode cX3_order 19 = .ok (.dup, 1) := by decide +kernel
theorem dX3_order_20 : decode cX3_order 20 = .ok (.ldc 174, 2) := by decide +kernel
theorem dX3_order_22 : decode cX3_order 22 = .ok (.invokespecial 46, 3) := by decide +kernel
theorem dX3_order_25 : decode cX3_order 25 = .ok (.athrow, 1) := by decide +kernel
theorem dX3_order_26 : decode cX3_order 26 = .ok (.aload_n 0, 1) := by decide +kernel
theorem dX3_order_27 : decode cX3_order 27 = .ok (.getfield 26, 3) := by decide +kernel
theorem dX3_order_30 : decode cX3_order 30 = .ok (.iload_n 1, 1) := by decide +kernel
theorem dX3_order_31 : decode cX3_order 31 = .ok (.invokevirtual 176, 3) := by decide +kernel
theorem dX3_order_34 : decode cX3_order 34 = .ok (.ifCond .eq 13, 3) := by decide +kernel
theorem dX3_order_37 : decode cX3_order 37 = .ok (.new 65, 3) := by decide +kernel
theorem dX3_order_40 : decode cX3_order 40 = .ok (.dup, 1) := by decide +kernel
theorem dX3_order_41 : decode cX3_order 41 = .ok (.ldc 179, 2) := by decide +kernel
theorem dX3_order_43 : decode cX3_order 43 = .ok (.invokespecial 69, 3) := by decide +kernel
theorem dX3_order_46 : decode cX3_order 46 = .ok (.athrow, 1) := by decide +kernel
theorem dX3_order_47 : decode cX3_order 47 = .ok (.aload_n 0, 1) := by decide +kernel
theorem dX3_order_48 : decode cX3_order 48 = .ok (.getfield 26, 3) := by decide +kernel
theorem dX3_order_51 : decode cX3_order 51 = .ok (.invokevirtual 181, 3) := by decide +kernel
theorem dX3_order_54 : decode cX3_order 54 = .ok (.ifCond .eq 13, 3) := by decide +kernel
theorem dX3_order_57 : decode cX3_order 57 = .ok (.new 65, 3) := by decide +kernel
theorem dX3_order_60 : decode cX3_order 60 = .ok (.dup, 1) := by decide +kernel
theorem dX3_order_61 : decode cX3_order 61 = .ok (.ldc 182, 2) := by decide +kernel
theorem dX3_order_63 : decode cX3_order 63 = .ok (.invokespecial 69, 3) := by decide +kernel
theorem dX3_order_66 : decode cX3_order 66 = .ok (.athrow, 1) := by decide +kernel
theorem dX3_order_67 : decode cX3_order 67 = .ok (.aload_n 0, 1) := by decide +kernel
theorem dX3_order_68 : decode cX3_order 68 = .ok (.getfield 26, 3) := by decide +kernel
theorem dX3_order_71 : decode cX3_order 71 = .ok (.iload_n 1, 1) := by decide +kernel
theorem dX3_order_72 : decode cX3_order 72 = .ok (.iload_n 2, 1) := by decide +kernel
theorem dX3_order_73 : decode cX3_order 73 = .ok (.invokevirtual 184, 3) := by decide +kernel
theorem dX3_order_76 : decode cX3_order 76 = .ok (.ireturn, 1) := by decide +kernel
set_option maxRecDepth 20000 in
theorem ggX3_nextAisle_X0_earliest : GoodIn wsX3_nextAisle wsX0_earliest := goodIn_r _ [7, 8, 9, 10, 11, 12, 13, 14, 15, 16, 17, 18, 19, 20, 21, 22, 23, 24, 25, 26, 27, 28, 29, 30, 31, 32, 33, 34, 35, 36, 37, 47, 48, 49, 50, 51, 52, 53, 54, 55, 56, 57] (by decide +kernel) (by decide +kernel)
set_option maxRecDepth 20000 in
theorem gX3_nextAisle_X0_earliest : GoodIn wsX3_nextAisle (wsV RX3 187 RX0 yX0_earliest wsX0_earliest) := goodIn_app (goodIn_of _ (by decide +kernel)) ggX3_nextAisle_X0_earliest
set_option maxRecDepth 20000 in
theorem ggX3_nextAisle_X0_boxOf : GoodIn wsX3_nextAisle wsX0_boxOf := goodIn_r _ [41, 8, 9, 27, 28, 29, 47, 48, 49, 50, 51] (by decide +kernel) (by decide +kernel)
set_option maxRecDepth 20000 in
theorem gX3_nextAisle_X0_boxOf : GoodIn wsX3_nextAisle (wsV RX3 191 RX0 yX0_boxOf wsX0_boxOf) := goodIn_app (goodIn_of _ (by decide +kernel)) ggX3_nextAisle_X0_boxOf
set_option maxRecDepth 20000 in
theorem ggX3_nextAisle_X2_aisleOfBox : GoodIn wsX3_nextAisle wsX2_aisleOfBox := goodIn_r _ [16, 17, 18, 19, 15, 20, 21, 22, 23, 24, 25, 26, 27, 28, 29, 30, 31, 32, 33, 34, 35, 36, 37, 52, 53, 54, 55, 56, 57] (by decide +kernel) (by decide +kernel)
set_option maxRecDepth 20000 in
theorem gX3_nextAisle_X2_aisleOfBox : GoodIn wsX3_nextAisle (wsV RX3 194 RX2 yX2_aisleOfBox wsX2_aisleOfBox) := goodIn_app (goodIn_of _ (by decide +kernel)) ggX3_nextAisle_X2_aisleOfBox
theorem dX3_nextAisle_0 : decode cX3_nextAisle 0 = .ok (.aload_n 0, 1) := by decide +kernel
theorem dX3_nextAisle_1 : decode cX3_nextAisle 1 = .ok (.getfield 26, 3) := by decide +kernel
theorem dX3_nextAisle_4 : decode cX3_nextAisle 4 = .ok (.aload_n 0, 1) := by decide +kernel
theorem dX3_nextAisle_5 : decode cX3_nextAisle 5 = .ok (.getfield 12, 3) := by decide +kernel
theorem dX3_nextAisle_8 : decode cX3_nextAisle 8 = .ok (.bipush (-2), 2) := by decide +kernel
theorem dX3_nextAisle_10 : decode cX3_nextAisle 10 = .ok (.invokevirtual 187, 3) := by decide +kernel
theorem dX3_nextAisle_13 : decode cX3_nextAisle 13 = .ok (.istore_n 1, 1) := by decide +kernel
theorem dX3_nextAisle_14 : decode cX3_nextAisle 14 = .ok (.aload_n 0, 1) := by decide +kernel
theorem dX3_nextAisle_15 : decode cX3_nextAisle 15 = .ok (.getfield 12, 3) := by decide +kernel
theorem dX3_nextAisle_18 : decode cX3_nextAisle 18 = .ok (.aload_n 0, 1) := by decide +kernel
theorem dX3_nextAisle_19 : decode cX3_nextAisle 19 = .ok (.getfield 26, 3) := by decide +kernel
theorem dX3_nextAisle_22 : decode cX3_nextAisle 22 = .ok (.iload_n 1, 1) := by decide +kernel
theorem dX3_nextAisle_23 : decode cX3_nextAisle 23 = .ok (.invokevirtual 191, 3) := by decide +kernel
theorem dX3_nextAisle_26 : decode cX3_nextAisle 26 = .ok (.invokevirtual 194, 3) := by decide +kernel
theorem dX3_nextAisle_29 : decode cX3_nextAisle 29 = .ok (.ireturn, 1) := by decide +kernel
set_option maxRecDepth 20000 in
theorem ggX3_fetch_X3_requirePerson : GoodIn wsX3_fetch wsX3_requirePerson := goodIn_ca (goodIn_r _ [11, 12, 13, 14, 15, 10, 16] (by decide +kernel) (by decide +kernel)) (goodIn_sub (fun _ h => List.mem_cons_of_mem _ (List.mem_append_right _ h)) (by decide +kernel))
set_option maxRecDepth 20000 in
theorem gX3_fetch_X3_requirePerson : GoodIn wsX3_fetch (wsV RX3 124 RX3 yX3_requirePerson wsX3_requirePerson) := goodIn_app (goodIn_of _ (by decide +kernel)) ggX3_fetch_X3_requirePerson
set_option maxRecDepth 20000 in
theorem ggX3_fetch_X3_requireInside : GoodIn wsX3_fetch wsX3_requireInside := goodIn_ca (goodIn_r _ [20, 1, 2, 5, 21, 22, 23, 24, 25, 26, 15, 10, 16, 78, 79, 80, 81, 82, 83, 84, 85, 86, 87, 88] (by decide +kernel) (by decide +kernel)) (goodIn_sub (fun _ h => List.mem_cons_of_mem _ (List.mem_append_left _ (List.mem_append_right _ h))) (by decide +kernel))
set_option maxRecDepth 20000 in
theorem gX3_fetch_X3_requireInside : GoodIn wsX3_fetch (wsV RX3 145 RX3 yX3_requireInside wsX3_requireInside) := goodIn_app (goodIn_of _ (by decide +kernel)) ggX3_fetch_X3_requireInside
set_option maxRecDepth 20000 in
theorem ggX3_fetch_X1_openAisle : GoodIn wsX3_fetch wsX1_openAisle := goodIn_r _ [30, 31, 32, 82, 83, 84, 85, 86, 87, 88] (by decide +kernel) (by decide +kernel)
set_option maxRecDepth 20000 in
theorem gX3_fetch_X1_openAisle : GoodIn wsX3_fetch (wsV RX3 118 RX1 yX1_openAisle wsX1_openAisle) := goodIn_app (goodIn_of _ (by decide +kernel)) ggX3_fetch_X1_openAisle
set_option maxRecDepth 20000 in
theorem ggX3_fetch_X0_earliest : GoodIn wsX3_fetch wsX0_earliest := goodIn_r _ [37, 38, 39, 40, 41, 42, 43, 44, 45, 46, 47, 48, 49, 50, 51, 52, 53, 54, 55, 56, 15, 10, 16, 57, 58, 59, 60, 61, 62, 63, 64, 89, 90, 91, 92, 93, 94, 95, 96, 97, 98, 99] (by decide +kernel) (by decide +kernel)
set_option maxRecDepth 20000 in
theorem gX3_fetch_X0_earliest : GoodIn wsX3_fetch (wsV RX3 187 RX0 yX0_earliest wsX0_earliest) := goodIn_app (goodIn_of _ (by decide +kernel)) ggX3_fetch_X0_earliest
set_option maxRecDepth 20000 in
theorem ggX3_fetch_X0_finish : GoodIn wsX3_fetch wsX0_finish := goodIn_r _ [68, 38, 40, 41, 69, 15, 10, 16, 89, 90, 91, 92, 93] (by decide +kernel) (by decide +kernel)
set_option maxRecDepth 20000 in
theorem gX3_fetch_X0_finish : GoodIn wsX3_fetch (wsV RX3 199 RX0 yX0_finish wsX0_finish) := goodIn_app (goodIn_of _ (by decide +kernel)) ggX3_fetch_X0_finish
set_option maxRecDepth 20000 in
theorem ggX3_fetch_X0_boxOf : GoodIn wsX3_fetch wsX0_boxOf := goodIn_r _ [73, 38, 39, 15, 10, 16, 89, 90, 91, 92, 93] (by decide +kernel) (by decide +kernel)
set_option maxRecDepth 20000 in
theorem gX3_fetch_X0_boxOf : GoodIn wsX3_fetch (wsV RX3 191 RX0 yX0_boxOf wsX0_boxOf) := goodIn_app (goodIn_of _ (by decide +kernel)) ggX3_fetch_X0_boxOf
set_option maxRecDepth 20000 in
theorem ggX3_fetch_X2_put : GoodIn wsX3_fetch wsX2_put := goodIn_r _ [77, 51, 52, 53, 54, 45, 55, 56, 15, 10, 16, 94, 95, 96, 97, 98, 99] (by decide +kernel) (by decide +kernel)
set_option maxRecDepth 20000 in
theorem gX3_fetch_X2_put : GoodIn wsX3_fetch (wsV RX3 85 RX2 yX2_put wsX2_put) := goodIn_app (goodIn_of _ (by decide +kernel)) ggX3_fetch_X2_put
theorem dX3_fetch_0 : decode cX3_fetch 0 = .ok (.aload_n 0, 1) := by decide +kernel
theorem dX3_fetch_1 : decode cX3_fetch 1 = .ok (.iload_n 1, 1) := by decide +kernel
theorem dX3_fetch_2 : decode cX3_fetch 2 = .ok (.invokevirtual 124, 3) := by decide +kernel
theorem dX3_fetch_5 : decode cX3_fetch 5 = .ok (.aload_n 0, 1) := by decide +kernel
theorem dX3_fetch_6 : decode cX3_fetch 6 = .ok (.iload_n 1, 1) := by decide +kernel
theorem dX3_fetch_7 : decode cX3_fetch 7 = .ok (.invokevirtual 145, 3) := by decide +kernel
theorem dX3_fetch_10 : decode cX3_fetch 10 = .ok (.aload_n 0, 1) := by decide +kernel
theorem dX3_fetch_11 : decode cX3_fetch 11 = .ok (.getfield 26, 3) := by decide +kernel
theorem dX3_fetch_14 : decode cX3_fetch 14 = .ok (.aload_n 0, 1) := by decide +kernel
theorem dX3_fetch_15 : decode cX3_fetch 15 = .ok (.getfield 12, 3) := by decide +kernel
theorem dX3_fetch_18 : decode cX3_fetch 18 = .ok (.aload_n 0, 1) := by decide +kernel
theorem dX3_fetch_19 : decode cX3_fetch 19 = .ok (.getfield 19, 3) := by decide +kernel
theorem dX3_fetch_22 : decode cX3_fetch 22 = .ok (.invokevirtual 118, 3) := by decide +kernel
theorem dX3_fetch_25 : decode cX3_fetch 25 = .ok (.invokevirtual 187, 3) := by decide +kernel
theorem dX3_fetch_28 : decode cX3_fetch 28 = .ok (.istore_n 2, 1) := by decide +kernel
theorem dX3_fetch_29 : decode cX3_fetch 29 = .ok (.iload_n 2, 1) := by decide +kernel
theorem dX3_fetch_30 : decode cX3_fetch 30 = .ok (.iconst (-1), 1) := by decide +kernel
theorem dX3_fetch_31 : decode cX3_fetch 31 = .ok (.if_icmp .ne 13, 3) := by decide +kernel
theorem dX3_fetch_34 : decode cX3_fetch 34 = .ok (.new 65, 3) := by decide +kernel
theorem dX3_fetch_37 : decode cX3_fetch 37 = .ok (.dup, 1) := by decide +kernel
theorem dX3_fetch_38 : decode cX3_fetch 38 = .ok (.ldc 197, 2) := by decide +kernel
theorem dX3_fetch_40 : decode cX3_fetch 40 = .ok (.invokespecial 69, 3) := by decide +kernel
theorem dX3_fetch_43 : decode cX3_fetch 43 = .ok (.athrow, 1) := by decide +kernel
theorem dX3_fetch_44 : decode cX3_fetch 44 = .ok (.aload_n 0, 1) := by decide +kernel
theorem dX3_fetch_45 : decode cX3_fetch 45 = .ok (.getfield 26, 3) := by decide +kernel
theorem dX3_fetch_48 : decode cX3_fetch 48 = .ok (.iload_n 2, 1) := by decide +kernel
theorem dX3_fetch_49 : decode cX3_fetch 49 = .ok (.aload_n 0, 1) := by decide +kernel
theorem dX3_fetch_50 : decode cX3_fetch 50 = .ok (.getfield 30, 3) := by decide +kernel
theorem dX3_fetch_53 : decode cX3_fetch 53 = .ok (.invokevirtual 199, 3) := by decide +kernel
theorem dX3_fetch_56 : decode cX3_fetch 56 = .ok (.aload_n 0, 1) := by decide +kernel
theorem dX3_fetch_57 : decode cX3_fetch 57 = .ok (.getfield 12, 3) := by decide +kernel
theorem dX3_fetch_60 : decode cX3_fetch 60 = .ok (.aload_n 0, 1) := by decide +kernel
theorem dX3_fetch_61 : decode cX3_fetch 61 = .ok (.getfield 26, 3) := by decide +kernel
theorem dX3_fetch_64 : decode cX3_fetch 64 = .ok (.iload_n 2, 1) := by decide +kernel
theorem dX3_fetch_65 : decode cX3_fetch 65 = .ok (.invokevirtual 191, 3) := by decide +kernel
theorem dX3_fetch_68 : decode cX3_fetch 68 = .ok (.iconst (-1), 1) := by decide +kernel
theorem dX3_fetch_69 : decode cX3_fetch 69 = .ok (.invokevirtual 85, 3) := by decide +kernel
theorem dX3_fetch_72 : decode cX3_fetch 72 = .ok (.iload_n 2, 1) := by decide +kernel
theorem dX3_fetch_73 : decode cX3_fetch 73 = .ok (.ireturn, 1) := by decide +kernel
set_option maxRecDepth 20000 in
theorem ggX3_giveBack_X3_requirePerson : GoodIn wsX3_giveBack wsX3_requirePerson := goodIn_ca (goodIn_r _ [9, 10, 11, 12, 13, 8, 14] (by decide +kernel) (by decide +kernel)) (goodIn_sub (fun _ h => List.mem_cons_of_mem _ (List.mem_append_right _ h)) (by decide +kernel))
set_option maxRecDepth 20000 in
theorem gX3_giveBack_X3_requirePerson : GoodIn wsX3_giveBack (wsV RX3 124 RX3 yX3_requirePerson wsX3_requirePerson) := goodIn_app (goodIn_of _ (by decide +kernel)) ggX3_giveBack_X3_requirePerson
set_option maxRecDepth 20000 in
theorem ggX3_giveBack_X3_requireBox : GoodIn wsX3_giveBack wsX3_requireBox := goodIn_ca (goodIn_r _ [18, 10, 11, 4, 19, 20, 21, 22, 23, 24, 13, 8, 14, 89, 90, 91, 92, 93, 94, 95, 96, 97, 98] (by decide +kernel) (by decide +kernel)) (goodIn_sub (fun _ h => List.mem_cons_of_mem _ (List.mem_append_right _ h)) (by decide +kernel))
set_option maxRecDepth 20000 in
theorem gX3_giveBack_X3_requireBox : GoodIn wsX3_giveBack (wsV RX3 74 RX3 yX3_requireBox wsX3_requireBox) := goodIn_app (goodIn_of _ (by decide +kernel)) ggX3_giveBack_X3_requireBox
set_option maxRecDepth 20000 in
theorem ggX3_giveBack_X3_requireSpot : GoodIn wsX3_giveBack wsX3_requireSpot := goodIn_ca (goodIn_r _ [28, 10, 11, 29, 30, 8, 31, 32, 33, 34, 35, 36, 37, 38, 39, 40] (by decide +kernel) (by decide +kernel)) (goodIn_sub (fun _ h => List.mem_cons_of_mem _ (List.mem_append_right _ h)) (by decide +kernel))
set_option maxRecDepth 20000 in
theorem gX3_giveBack_X3_requireSpot : GoodIn wsX3_giveBack (wsV RX3 91 RX3 yX3_requireSpot wsX3_requireSpot) := goodIn_app (goodIn_of _ (by decide +kernel)) ggX3_giveBack_X3_requireSpot
set_option maxRecDepth 20000 in
theorem ggX3_giveBack_X3_requireInside : GoodIn wsX3_giveBack wsX3_requireInside := goodIn_ca (goodIn_r _ [44, 1, 2, 3, 45, 46, 47, 48, 49, 50, 13, 8, 14, 89, 90, 91, 92, 99, 100, 101, 102, 103, 104, 105] (by decide +kernel) (by decide +kernel)) (goodIn_sub (fun _ h => List.mem_cons_of_mem _ (List.mem_append_left _ (List.mem_append_right _ h))) (by decide +kernel))
set_option maxRecDepth 20000 in
theorem gX3_giveBack_X3_requireInside : GoodIn wsX3_giveBack (wsV RX3 145 RX3 yX3_requireInside wsX3_requireInside) := goodIn_app (goodIn_of _ (by decide +kernel)) ggX3_giveBack_X3_requireInside
set_option maxRecDepth 20000 in
theorem ggX3_giveBack_X3_requireOut : GoodIn wsX3_giveBack wsX3_requireOut := goodIn_ca (goodIn_r _ [54, 1, 2, 4, 55, 56, 57, 22, 58, 59, 60, 20, 21, 23, 24, 13, 8, 14, 89, 90, 91, 92, 93, 94, 95, 96, 97, 98] (by decide +kernel) (by decide +kernel)) (goodIn_sub (fun _ h => List.mem_cons_of_mem _ (List.mem_append_left _ (List.mem_append_right _ h))) (by decide +kernel))
set_option maxRecDepth 20000 in
theorem gX3_giveBack_X3_requireOut : GoodIn wsX3_giveBack (wsV RX3 77 RX3 yX3_requireOut wsX3_requireOut) := goodIn_app (goodIn_of _ (by decide +kernel)) ggX3_giveBack_X3_requireOut
set_option maxRecDepth 20000 in
theorem ggX3_giveBack_X3_aisleAt : GoodIn wsX3_giveBack wsX3_aisleAt := goodIn_r _ [63, 32, 33, 8, 34, 35, 36, 37] (by decide +kernel) (by decide +kernel)
set_option maxRecDepth 20000 in
theorem gX3_giveBack_X3_aisleAt : GoodIn wsX3_giveBack (va_wsS RX3 202 yX3_aisleAt wsX3_aisleAt) := goodIn_app (goodIn_of _ (by decide +kernel)) ggX3_giveBack_X3_aisleAt
set_option maxRecDepth 20000 in
theorem ggX3_giveBack_X1_openAisle : GoodIn wsX3_giveBack wsX1_openAisle := goodIn_r _ [67, 68, 69, 99, 100, 101, 102, 103, 104, 105] (by decide +kernel) (by decide +kernel)
set_option maxRecDepth 20000 in
theorem gX3_giveBack_X1_openAisle : GoodIn wsX3_giveBack (wsV RX3 118 RX1 yX1_openAisle wsX1_openAisle) := goodIn_app (goodIn_of _ (by decide +kernel)) ggX3_giveBack_X1_openAisle
set_option maxRecDepth 20000 in
theorem ggX3_giveBack_X2_boxIn : GoodIn wsX3_giveBack wsX2_boxIn := goodIn_r _ [73, 24, 59, 93, 94, 95, 96, 97, 98] (by decide +kernel) (by decide +kernel)
set_option maxRecDepth 20000 in
theorem gX3_giveBack_X2_boxIn : GoodIn wsX3_giveBack (wsV RX3 94 RX2 yX2_boxIn wsX2_boxIn) := goodIn_app (goodIn_of _ (by decide +kernel)) ggX3_giveBack_X2_boxIn
set_option maxRecDepth 20000 in
theorem ggX3_giveBack_X2_put : GoodIn wsX3_giveBack wsX2_put := goodIn_r _ [77, 59, 60, 20, 21, 22, 23, 24, 13, 8, 14, 93, 94, 95, 96, 97, 98] (by decide +kernel) (by decide +kernel)
set_option maxRecDepth 20000 in
theorem gX3_giveBack_X2_put : GoodIn wsX3_giveBack (wsV RX3 85 RX2 yX2_put wsX2_put) := goodIn_app (goodIn_of _ (by decide +kernel)) ggX3_giveBack_X2_put
set_option maxRecDepth 20000 in
theorem ggX3_giveBack_X2_isWrong : GoodIn wsX3_giveBack wsX2_isWrong := goodIn_r _ [81, 82, 83, 56, 57, 22, 58, 59, 60, 20, 21, 23, 24, 13, 8, 14, 33, 34, 84, 85, 86, 87, 88, 93, 94, 95, 96, 97, 98] (by decide +kernel) (by decide +kernel)
set_option maxRecDepth 20000 in
theorem gX3_giveBack_X2_isWrong : GoodIn wsX3_giveBack (wsV RX3 209 RX2 yX2_isWrong wsX2_isWrong) := goodIn_app (goodIn_of _ (by decide +kernel)) ggX3_giveBack_X2_isWrong
theorem dX3_giveBack_0 : decode cX3_giveBack 0 = .ok (.aload_n 0, 1) := by decide +kernel
theorem dX3_giveBack_1 : decode cX3_giveBack 1 = .ok (.iload_n 1, 1) := by decide +kernel
theorem dX3_giveBack_2 : decode cX3_giveBack 2 = .ok (.invokevirtual 124, 3) := by decide +kernel
theorem dX3_giveBack_5 : decode cX3_giveBack 5 = .ok (.aload_n 0, 1) := by decide +kernel
theorem dX3_giveBack_6 : decode cX3_giveBack 6 = .ok (.iload_n 2, 1) := by decide +kernel
theorem dX3_giveBack_7 : decode cX3_giveBack 7 = .ok (.invokevirtual 74, 3) := by decide +kernel
theorem dX3_giveBack_10 : decode cX3_giveBack 10 = .ok (.aload_n 0, 1) := by decide +kernel
theorem dX3_giveBack_11 : decode cX3_giveBack 11 = .ok (.iload_n 3, 1) := by decide +kernel
theorem dX3_giveBack_12 : decode cX3_giveBack 12 = .ok (.invokevirtual 91, 3) := by decide +kernel
theorem dX3_giveBack_15 : decode cX3_giveBack 15 = .ok (.aload_n 0, 1) := by decide +kernel
theorem dX3_giveBack_16 : decode cX3_giveBack 16 = .ok (.iload_n 1, 1) := by decide +kernel
theorem dX3_giveBack_17 : decode cX3_giveBack 17 = .ok (.invokevirtual 145, 3) := by decide +kernel
theorem dX3_giveBack_20 : decode cX3_giveBack 20 = .ok (.aload_n 0, 1) := by decide +kernel
theorem dX3_giveBack_21 : decode cX3_giveBack 21 = .ok (.iload_n 2, 1) := by decide +kernel
theorem dX3_giveBack_22 : decode cX3_giveBack 22 = .ok (.invokevirtual 77, 3) := by decide +kernel
theorem dX3_giveBack_25 : decode cX3_giveBack 25 = .ok (.iload_n 3, 1) := by decide +kernel
theorem dX3_giveBack_26 : decode cX3_giveBack 26 = .ok (.invokestatic 202, 3) := by decide +kernel
theorem dX3_giveBack_29 : decode cX3_giveBack 29 = .ok (.aload_n 0, 1) := by decide +kernel
theorem dX3_giveBack_30 : decode cX3_giveBack 30 = .ok (.getfield 19, 3) := by decide +kernel
theorem dX3_giveBack_33 : decode cX3_giveBack 33 = .ok (.invokevirtual 118, 3) := by decide +kernel
theorem dX3_giveBack_36 : decode cX3_giveBack 36 = .ok (.if_icmp .eq 13, 3) := by decide +kernel
theorem dX3_giveBack_39 : decode cX3_giveBack 39 = .ok (.new 65, 3) := by decide +kernel
theorem dX3_giveBack_42 : decode cX3_giveBack 42 = .ok (.dup, 1) := by decide +kernel
theorem dX3_giveBack_43 : decode cX3_giveBack 43 = .ok (.ldc 205, 2) := by decide +kernel
theorem dX3_giveBack_45 : decode cX3_giveBack 45 = .ok (.invokespecial 69, 3) := by decide +kernel
theorem dX3_giveBack_48 : decode cX3_giveBack 48 = .ok (.athrow, 1) := by decide +kernel
theorem dX3_giveBack_49 : decode cX3_giveBack 49 = .ok (.aload_n 0, 1) := by decide +kernel
theorem dX3_giveBack_50 : decode cX3_giveBack 50 = .ok (.getfield 12, 3) := by decide +kernel
theorem dX3_giveBack_53 : decode cX3_giveBack 53 = .ok (.iload_n 3, 1) := by decide +kernel
theorem dX3_giveBack_54 : decode cX3_giveBack 54 = .ok (.invokevirtual 94, 3) := by decide +kernel
theorem dX3_giveBack_57 : decode cX3_giveBack 57 = .ok (.iconst (-1), 1) := by decide +kernel
theorem dX3_giveBack_58 : decode cX3_giveBack 58 = .ok (.if_icmp .eq 13, 3) := by decide +kernel
theorem dX3_giveBack_61 : decode cX3_giveBack 61 = .ok (.new 65, 3) := by decide +kernel
theorem dX3_giveBack_64 : decode cX3_giveBack 64 = .ok (.dup, 1) := by decide +kernel
theorem dX3_giveBack_65 : decode cX3_giveBack 65 = .ok (.ldc 207, 2) := by decide +kernel
theorem dX3_giveBack_67 : decode cX3_giveBack 67 = .ok (.invokespecial 69, 3) := by decide +kernel
theorem dX3_giveBack_70 : decode cX3_giveBack 70 = .ok (.athrow, 1) := by decide +kernel
theorem dX3_giveBack_71 : decode cX3_giveBack 71 = .ok (.aload_n 0, 1) := by decide +kernel
theorem dX3_giveBack_72 : decode cX3_giveBack 72 = .ok (.getfield 12, 3) := by decide +kernel
theorem dX3_giveBack_75 : decode cX3_giveBack 75 = .ok (.iload_n 2, 1) := by decide +kernel
theorem dX3_giveBack_76 : decode cX3_giveBack 76 = .ok (.iload_n 3, 1) := by decide +kernel
theorem dX3_giveBack_77 : decode cX3_giveBack 77 = .ok (.invokevirtual 85, 3) := by decide +kernel
theorem dX3_giveBack_80 : decode cX3_giveBack 80 = .ok (.aload_n 0, 1) := by decide +kernel
theorem dX3_giveBack_81 : decode cX3_giveBack 81 = .ok (.getfield 12, 3) := by decide +kernel
theorem dX3_giveBack_84 : decode cX3_giveBack 84 = .ok (.iload_n 2, 1) := by decide +kernel
theorem dX3_giveBack_85 : decode cX3_giveBack 85 = .ok (.invokevirtual 209, 3) := by decide +kernel
theorem dX3_giveBack_88 : decode cX3_giveBack 88 = .ok (.ifCond .ne 7, 3) := by decide +kernel
theorem dX3_giveBack_91 : decode cX3_giveBack 91 = .ok (.iconst 1, 1) := by decide +kernel
theorem dX3_giveBack_92 : decode cX3_giveBack 92 = .ok (.goto 4, 3) := by decide +kernel
theorem dX3_giveBack_95 : decode cX3_giveBack 95 = .ok (.iconst 0, 1) := by decide +kernel
theorem dX3_giveBack_96 : decode cX3_giveBack 96 = .ok (.ireturn, 1) := by decide +kernel
set_option maxRecDepth 20000 in
theorem ggX3_waiting_X0_countOpen : GoodIn wsX3_waiting wsX0_countOpen := goodIn_r _ [6, 7, 8, 13, 14, 15, 16, 17] (by decide +kernel) (by decide +kernel)
set_option maxRecDepth 20000 in
theorem gX3_waiting_X0_countOpen : GoodIn wsX3_waiting (wsV RX3 212 RX0 yX0_countOpen wsX0_countOpen) := goodIn_app (goodIn_of _ (by decide +kernel)) ggX3_waiting_X0_countOpen
theorem dX3_waiting_0 : decode cX3_waiting 0 = .ok (.aload_n 0, 1) := by decide +kernel
theorem dX3_waiting_1 : decode cX3_waiting 1 = .ok (.getfield 26, 3) := by decide +kernel
theorem dX3_waiting_4 : decode cX3_waiting 4 = .ok (.invokevirtual 212, 3) := by decide +kernel
theorem dX3_waiting_7 : decode cX3_waiting 7 = .ok (.ireturn, 1) := by decide +kernel
set_option maxRecDepth 20000 in
theorem ggX3_late_X0_countLate : GoodIn wsX3_late wsX0_countLate := goodIn_r _ [6, 7, 12, 13, 14, 15, 16] (by decide +kernel) (by decide +kernel)
set_option maxRecDepth 20000 in
theorem gX3_late_X0_countLate : GoodIn wsX3_late (wsV RX3 215 RX0 yX0_countLate wsX0_countLate) := goodIn_app (goodIn_of _ (by decide +kernel)) ggX3_late_X0_countLate
theorem dX3_late_0 : decode cX3_late 0 = .ok (.aload_n 0, 1) := by decide +kernel
theorem dX3_late_1 : decode cX3_late 1 = .ok (.getfield 26, 3) := by decide +kernel
theorem dX3_late_4 : decode cX3_late 4 = .ok (.invokevirtual 215, 3) := by decide +kernel
theorem dX3_late_7 : decode cX3_late 7 = .ok (.ireturn, 1) := by decide +kernel
set_option maxRecDepth 20000 in
theorem ggX3_requireShelf_X3_isBelow : GoodIn wsX3_requireShelf wsX3_isBelow := goodIn_r _ [6] (by decide +kernel) (by decide +kernel)
set_option maxRecDepth 20000 in
theorem gX3_requireShelf_X3_isBelow : GoodIn wsX3_requireShelf (va_wsS RX3 38 yX3_isBelow wsX3_isBelow) := goodIn_app (goodIn_of _ (by decide +kernel)) ggX3_requireShelf_X3_isBelow
theorem dX3_requireShelf_0 : decode cX3_requireShelf 0 = .ok (.iload_n 1, 1) := by decide +kernel
theorem dX3_requireShelf_1 : decode cX3_requireShelf 1 = .ok (.bipush 6, 2) := by decide +kernel
theorem dX3_requireShelf_3 : decode cX3_requireShelf 3 = .ok (.invokestatic 38, 3) := by decide +kernel
theorem dX3_requireShelf_6 : decode cX3_requireShelf 6 = .ok (.ifCond .ne 13, 3) := by decide +kernel
theorem dX3_requireShelf_9 : decode cX3_requireShelf 9 = .ok (.new 218, 3) := by decide +kernel
theorem dX3_requireShelf_12 : decode cX3_requireShelf 12 = .ok (.dup, 1) := by decide +kernel
theorem dX3_requireShelf_13 : decode cX3_requireShelf 13 = .ok (.ldc 220, 2) := by decide +kernel
theorem dX3_requireShelf_15 : decode cX3_requireShelf 15 = .ok (.invokespecial 222, 3) := by decide +kernel
theorem dX3_requireShelf_18 : decode cX3_requireShelf 18 = .ok (.athrow, 1) := by decide +kernel
theorem dX3_requireShelf_19 : decode cX3_requireShelf 19 = .ok (.return_, 1) := by decide +kernel
set_option maxRecDepth 20000 in
theorem ggX3_requireAisle_X3_isBelow : GoodIn wsX3_requireAisle wsX3_isBelow := goodIn_r _ [6] (by decide +kernel) (by decide +kernel)
set_option maxRecDepth 20000 in
theorem gX3_requireAisle_X3_isBelow : GoodIn wsX3_requireAisle (va_wsS RX3 38 yX3_isBelow wsX3_isBelow) := goodIn_app (goodIn_of _ (by decide +kernel)) ggX3_requireAisle_X3_isBelow
theorem dX3_requireAisle_0 : decode cX3_requireAisle 0 = .ok (.iload_n 1, 1) := by decide +kernel
theorem dX3_requireAisle_1 : decode cX3_requireAisle 1 = .ok (.bipush 7, 2) := by decide +kernel
theorem dX3_requireAisle_3 : decode cX3_requireAisle 3 = .ok (.invokestatic 38, 3) := by decide +kernel
theorem dX3_requireAisle_6 : decode cX3_requireAisle 6 = .ok (.ifCond .ne 13, 3) := by decide +kernel
theorem dX3_requireAisle_9 : decode cX3_requireAisle 9 = .ok (.new 218, 3) := by decide +kernel
theorem dX3_requireAisle_12 : decode cX3_requireAisle 12 = .ok (.dup, 1) := by decide +kernel
theorem dX3_requireAisle_13 : decode cX3_requireAisle 13 = .ok (.ldc 223, 2) := by decide +kernel
theorem dX3_requireAisle_15 : decode cX3_requireAisle 15 = .ok (.invokespecial 222, 3) := by decide +kernel
theorem dX3_requireAisle_18 : decode cX3_requireAisle 18 = .ok (.athrow, 1) := by decide +kernel
theorem dX3_requireAisle_19 : decode cX3_requireAisle 19 = .ok (.return_, 1) := by decide +kernel
set_option maxRecDepth 20000 in
theorem ggX3_requireSpot_X3_isSpot : GoodIn wsX3_requireSpot wsX3_isSpot := goodIn_r _ [6, 7, 8, 5, 9, 10, 11, 12, 13, 14, 15] (by decide +kernel) (by decide +kernel)
set_option maxRecDepth 20000 in
theorem gX3_requireSpot_X3_isSpot : GoodIn wsX3_requireSpot (va_wsS RX3 225 yX3_isSpot wsX3_isSpot) := goodIn_app (goodIn_of _ (by decide +kernel)) ggX3_requireSpot_X3_isSpot
theorem dX3_requireSpot_0 : decode cX3_requireSpot 0 = .ok (.iload_n 1, 1) := by decide +kernel
theorem dX3_requireSpot_1 : decode cX3_requireSpot 1 = .ok (.invokestatic 225, 3) := by decide +kernel
theorem dX3_requireSpot_4 : decode cX3_requireSpot 4 = .ok (.ifCond .ne 13, 3) := by decide +kernel
theorem dX3_requireSpot_7 : decode cX3_requireSpot 7 = .ok (.new 218, 3) := by decide +kernel
theorem dX3_requireSpot_10 : decode cX3_requireSpot 10 = .ok (.dup, 1) := by decide +kernel
theorem dX3_requireSpot_11 : decode cX3_requireSpot 11 = .ok (.ldc 228, 2) := by decide +kernel
theorem dX3_requireSpot_13 : decode cX3_requireSpot 13 = .ok (.invokespecial 222, 3) := by decide +kernel
theorem dX3_requireSpot_16 : decode cX3_requireSpot 16 = .ok (.athrow, 1) := by decide +kernel
theorem dX3_requireSpot_17 : decode cX3_requireSpot 17 = .ok (.return_, 1) := by decide +kernel
set_option maxRecDepth 20000 in
theorem ggX3_requirePerson_X3_isBelow : GoodIn wsX3_requirePerson wsX3_isBelow := goodIn_r _ [6] (by decide +kernel) (by decide +kernel)
set_option maxRecDepth 20000 in
theorem gX3_requirePerson_X3_isBelow : GoodIn wsX3_requirePerson (va_wsS RX3 38 yX3_isBelow wsX3_isBelow) := goodIn_app (goodIn_of _ (by decide +kernel)) ggX3_requirePerson_X3_isBelow
theorem dX3_requirePerson_0 : decode cX3_requirePerson 0 = .ok (.iload_n 1, 1) := by decide +kernel
theorem dX3_requirePerson_1 : decode cX3_requirePerson 1 = .ok (.iconst 4, 1) := by decide +kernel
theorem dX3_requirePerson_2 : decode cX3_requirePerson 2 = .ok (.invokestatic 38, 3) := by decide +kernel
theorem dX3_requirePerson_5 : decode cX3_requirePerson 5 = .ok (.ifCond .ne 13, 3) := by decide +kernel
theorem dX3_requirePerson_8 : decode cX3_requirePerson 8 = .ok (.new 218, 3) := by decide +kernel
theorem dX3_requirePerson_11 : decode cX3_requirePerson 11 = .ok (.dup, 1) := by decide +kernel
theorem dX3_requirePerson_12 : decode cX3_requirePerson 12 = .ok (.ldc 230, 2) := by decide +kernel
theorem dX3_requirePerson_14 : decode cX3_requirePerson 14 = .ok (.invokespecial 222, 3) := by decide +kernel
theorem dX3_requirePerson_17 : decode cX3_requirePerson 17 = .ok (.athrow, 1) := by decide +kernel
theorem dX3_requirePerson_18 : decode cX3_requirePerson 18 = .ok (.return_, 1) := by decide +kernel
set_option maxRecDepth 20000 in
theorem ggX3_requireBox_X2_has : GoodIn wsX3_requireBox wsX2_has := goodIn_r _ [8, 9, 10, 11, 12, 17, 18, 19, 20, 21, 22] (by decide +kernel) (by decide +kernel)
set_option maxRecDepth 20000 in
theorem gX3_requireBox_X2_has : GoodIn wsX3_requireBox (wsV RX3 232 RX2 yX2_has wsX2_has) := goodIn_app (goodIn_of _ (by decide +kernel)) ggX3_requireBox_X2_has
theorem dX3_requireBox_0 : decode cX3_requireBox 0 = .ok (.aload_n 0, 1) := by decide +kernel
theorem dX3_requireBox_1 : decode cX3_requireBox 1 = .ok (.getfield 12, 3) := by decide +kernel
theorem dX3_requireBox_4 : decode cX3_requireBox 4 = .ok (.iload_n 1, 1) := by decide +kernel
theorem dX3_requireBox_5 : decode cX3_requireBox 5 = .ok (.invokevirtual 232, 3) := by decide +kernel
theorem dX3_requireBox_8 : decode cX3_requireBox 8 = .ok (.ifCond .ne 13, 3) := by decide +kernel
theorem dX3_requireBox_11 : decode cX3_requireBox 11 = .ok (.new 218, 3) := by decide +kernel
theorem dX3_requireBox_14 : decode cX3_requireBox 14 = .ok (.dup, 1) := by decide +kernel
theorem dX3_requireBox_15 : decode cX3_requireBox 15 = .ok (.ldc 235, 2) := by decide +kernel
theorem dX3_requireBox_17 : decode cX3_requireBox 17 = .ok (.invokespecial 222, 3) := by decide +kernel
theorem dX3_requireBox_20 : decode cX3_requireBox 20 = .ok (.athrow, 1) := by decide +kernel
theorem dX3_requireBox_21 : decode cX3_requireBox 21 = .ok (.return_, 1) := by decide +kernel
set_option maxRecDepth 20000 in
theorem ggX3_requireOut_X2_whereIs : GoodIn wsX3_requireOut wsX2_whereIs := goodIn_r _ [8, 9, 10, 11, 12, 7, 13, 14, 15, 16, 17, 22, 23, 24, 25, 26, 27] (by decide +kernel) (by decide +kernel)
set_option maxRecDepth 20000 in
theorem gX3_requireOut_X2_whereIs : GoodIn wsX3_requireOut (wsV RX3 88 RX2 yX2_whereIs wsX2_whereIs) := goodIn_app (goodIn_of _ (by decide +kernel)) ggX3_requireOut_X2_whereIs
theorem dX3_requireOut_0 : decode cX3_requireOut 0 = .ok (.aload_n 0, 1) := by decide +kernel
theorem dX3_requireOut_1 : decode cX3_requireOut 1 = .ok (.getfield 12, 3) := by decide +kernel
theorem dX3_requireOut_4 : decode cX3_requireOut 4 = .ok (.iload_n 1, 1) := by decide +kernel
theorem dX3_requireOut_5 : decode cX3_requireOut 5 = .ok (.invokevirtual 88, 3) := by decide +kernel
theorem dX3_requireOut_8 : decode cX3_requireOut 8 = .ok (.iconst (-1), 1) := by decide +kernel
theorem dX3_requireOut_9 : decode cX3_requireOut 9 = .ok (.if_icmp .eq 13, 3) := by decide +kernel
theorem dX3_requireOut_12 : decode cX3_requireOut 12 = .ok (.new 65, 3) := by decide +kernel
theorem dX3_requireOut_15 : decode cX3_requireOut 15 = .ok (.dup, 1) := by decide +kernel
theorem dX3_requireOut_16 : decode cX3_requireOut 16 = .ok (.ldc 237, 2) := by decide +kernel
theorem dX3_requireOut_18 : decode cX3_requireOut 18 = .ok (.invokespecial 69, 3) := by decide +kernel
theorem dX3_requireOut_21 : decode cX3_requireOut 21 = .ok (.athrow, 1) := by decide +kernel
theorem dX3_requireOut_22 : decode cX3_requireOut 22 = .ok (.return_, 1) := by decide +kernel
set_option maxRecDepth 20000 in
theorem ggX3_requireInside_X1_isInside : GoodIn wsX3_requireInside wsX1_isInside := goodIn_r _ [8, 9, 10, 11, 12, 17, 18, 19, 20, 21, 22, 23] (by decide +kernel) (by decide +kernel)
set_option maxRecDepth 20000 in
theorem gX3_requireInside_X1_isInside : GoodIn wsX3_requireInside (wsV RX3 127 RX1 yX1_isInside wsX1_isInside) := goodIn_app (goodIn_of _ (by decide +kernel)) ggX3_requireInside_X1_isInside
theorem dX3_requireInside_0 : decode cX3_requireInside 0 = .ok (.aload_n 0, 1) := by decide +kernel
theorem dX3_requireInside_1 : decode cX3_requireInside 1 = .ok (.getfield 19, 3) := by decide +kernel
theorem dX3_requireInside_4 : decode cX3_requireInside 4 = .ok (.iload_n 1, 1) := by decide +kernel
theorem dX3_requireInside_5 : decode cX3_requireInside 5 = .ok (.invokevirtual 127, 3) := by decide +kernel
theorem dX3_requireInside_8 : decode cX3_requireInside 8 = .ok (.ifCond .ne 13, 3) := by decide +kernel
theorem dX3_requireInside_11 : decode cX3_requireInside 11 = .ok (.new 65, 3) := by decide +kernel
theorem dX3_requireInside_14 : decode cX3_requireInside 14 = .ok (.dup, 1) := by decide +kernel
theorem dX3_requireInside_15 : decode cX3_requireInside 15 = .ok (.ldc 239, 2) := by decide +kernel
theorem dX3_requireInside_17 : decode cX3_requireInside 17 = .ok (.invokespecial 69, 3) := by decide +kernel
theorem dX3_requireInside_20 : decode cX3_requireInside 20 = .ok (.athrow, 1) := by decide +kernel
theorem dX3_requireInside_21 : decode cX3_requireInside 21 = .ok (.return_, 1) := by decide +kernel
theorem dX3_isBelow_0 : decode cX3_isBelow 0 = .ok (.iload_n 0, 1) := by decide +kernel
theorem dX3_isBelow_1 : decode cX3_isBelow 1 = .ok (.ifCond .lt 12, 3) := by decide +kernel
theorem dX3_isBelow_4 : decode cX3_isBelow 4 = .ok (.iload_n 0, 1) := by decide +kernel
theorem dX3_isBelow_5 : decode cX3_isBelow 5 = .ok (.iload_n 1, 1) := by decide +kernel
theorem dX3_isBelow_6 : decode cX3_isBelow 6 = .ok (.if_icmp .ge 7, 3) := by decide +kernel
theorem dX3_isBelow_9 : decode cX3_isBelow 9 = .ok (.iconst 1, 1) := by decide +kernel
theorem dX3_isBelow_10 : decode cX3_isBelow 10 = .ok (.goto 4, 3) := by decide +kernel
theorem dX3_isBelow_13 : decode cX3_isBelow 13 = .ok (.iconst 0, 1) := by decide +kernel
theorem dX3_isBelow_14 : decode cX3_isBelow 14 = .ok (.ireturn, 1) := by decide +kernel
theorem dX3_spotAt_0 : decode cX3_spotAt 0 = .ok (.bipush 100, 2) := by decide +kernel
theorem dX3_spotAt_2 : decode cX3_spotAt 2 = .ok (.iload_n 0, 1) := by decide +kernel
theorem dX3_spotAt_3 : decode cX3_spotAt 3 = .ok (.imul, 1) := by decide +kernel
theorem dX3_spotAt_4 : decode cX3_spotAt 4 = .ok (.bipush 10, 2) := by decide +kernel
theorem dX3_spotAt_6 : decode cX3_spotAt 6 = .ok (.iload_n 1, 1) := by decide +kernel
theorem dX3_spotAt_7 : decode cX3_spotAt 7 = .ok (.imul, 1) := by decide +kernel
theorem dX3_spotAt_8 : decode cX3_spotAt 8 = .ok (.iadd, 1) := by decide +kernel
theorem dX3_spotAt_9 : decode cX3_spotAt 9 = .ok (.iload_n 2, 1) := by decide +kernel
theorem dX3_spotAt_10 : decode cX3_spotAt 10 = .ok (.iadd, 1) := by decide +kernel
theorem dX3_spotAt_11 : decode cX3_spotAt 11 = .ok (.ireturn, 1) := by decide +kernel
theorem dX3_shelfAt_0 : decode cX3_shelfAt 0 = .ok (.iload_n 0, 1) := by decide +kernel
theorem dX3_shelfAt_1 : decode cX3_shelfAt 1 = .ok (.bipush 100, 2) := by decide +kernel
theorem dX3_shelfAt_3 : decode cX3_shelfAt 3 = .ok (.idiv, 1) := by decide +kernel
theorem dX3_shelfAt_4 : decode cX3_shelfAt 4 = .ok (.ireturn, 1) := by decide +kernel
theorem dX3_sideAt_0 : decode cX3_sideAt 0 = .ok (.iload_n 0, 1) := by decide +kernel
theorem dX3_sideAt_1 : decode cX3_sideAt 1 = .ok (.bipush 10, 2) := by decide +kernel
theorem dX3_sideAt_3 : decode cX3_sideAt 3 = .ok (.idiv, 1) := by decide +kernel
theorem dX3_sideAt_4 : decode cX3_sideAt 4 = .ok (.bipush 10, 2) := by decide +kernel
theorem dX3_sideAt_6 : decode cX3_sideAt 6 = .ok (.irem, 1) := by decide +kernel
theorem dX3_sideAt_7 : decode cX3_sideAt 7 = .ok (.ireturn, 1) := by decide +kernel
theorem dX3_placeAt_0 : decode cX3_placeAt 0 = .ok (.iload_n 0, 1) := by decide +kernel
theorem dX3_placeAt_1 : decode cX3_placeAt 1 = .ok (.bipush 10, 2) := by decide +kernel
theorem dX3_placeAt_3 : decode cX3_placeAt 3 = .ok (.irem, 1) := by decide +kernel
theorem dX3_placeAt_4 : decode cX3_placeAt 4 = .ok (.ireturn, 1) := by decide +kernel
set_option maxRecDepth 20000 in
theorem ggX3_isSpot_X3_shelfAt : GoodIn wsX3_isSpot wsX3_shelfAt := goodIn_r _ [4] (by decide +kernel) (by decide +kernel)
set_option maxRecDepth 20000 in
theorem gX3_isSpot_X3_shelfAt : GoodIn wsX3_isSpot (va_wsS RX3 241 yX3_shelfAt wsX3_shelfAt) := goodIn_app (goodIn_of _ (by decide +kernel)) ggX3_isSpot_X3_shelfAt
set_option maxRecDepth 20000 in
theorem ggX3_isSpot_X3_sideAt : GoodIn wsX3_isSpot wsX3_sideAt := goodIn_r _ [7] (by decide +kernel) (by decide +kernel)
set_option maxRecDepth 20000 in
theorem gX3_isSpot_X3_sideAt : GoodIn wsX3_isSpot (va_wsS RX3 244 yX3_sideAt wsX3_sideAt) := goodIn_app (goodIn_of _ (by decide +kernel)) ggX3_isSpot_X3_sideAt
set_option maxRecDepth 20000 in
theorem ggX3_isSpot_X3_placeAt : GoodIn wsX3_isSpot wsX3_placeAt := goodIn_r _ [10] (by decide +kernel) (by decide +kernel)
set_option maxRecDepth 20000 in
theorem gX3_isSpot_X3_placeAt : GoodIn wsX3_isSpot (va_wsS RX3 247 yX3_placeAt wsX3_placeAt) := goodIn_app (goodIn_of _ (by decide +kernel)) ggX3_isSpot_X3_placeAt
theorem dX3_isSpot_0 : decode cX3_isSpot 0 = .ok (.iload_n 0, 1) := by decide +kernel
theorem dX3_isSpot_1 : decode cX3_isSpot 1 = .ok (.ifCond .lt 32, 3) := by decide +kernel
theorem dX3_isSpot_4 : decode cX3_isSpot 4 = .ok (.iload_n 0, 1) := by decide +kernel
theorem dX3_isSpot_5 : decode cX3_isSpot 5 = .ok (.invokestatic 241, 3) := by decide +kernel
theorem dX3_isSpot_8 : decode cX3_isSpot 8 = .ok (.bipush 6, 2) := by decide +kernel
theorem dX3_isSpot_10 : decode cX3_isSpot 10 = .ok (.if_icmp .ge 23, 3) := by decide +kernel
theorem dX3_isSpot_13 : decode cX3_isSpot 13 = .ok (.iload_n 0, 1) := by decide +kernel
theorem dX3_isSpot_14 : decode cX3_isSpot 14 = .ok (.invokestatic 244, 3) := by decide +kernel
theorem dX3_isSpot_17 : decode cX3_isSpot 17 = .ok (.iconst 2, 1) := by decide +kernel
theorem dX3_isSpot_18 : decode cX3_isSpot 18 = .ok (.if_icmp .ge 15, 3) := by decide +kernel
theorem dX3_isSpot_21 : decode cX3_isSpot 21 = .ok (.iload_n 0, 1) := by decide +kernel
theorem dX3_isSpot_22 : decode cX3_isSpot 22 = .ok (.invokestatic 247, 3) := by decide +kernel
theorem dX3_isSpot_25 : decode cX3_isSpot 25 = .ok (.iconst 3, 1) := by decide +kernel
theorem dX3_isSpot_26 : decode cX3_isSpot 26 = .ok (.if_icmp .ge 7, 3) := by decide +kernel
theorem dX3_isSpot_29 : decode cX3_isSpot 29 = .ok (.iconst 1, 1) := by decide +kernel
theorem dX3_isSpot_30 : decode cX3_isSpot 30 = .ok (.goto 4, 3) := by decide +kernel
theorem dX3_isSpot_33 : decode cX3_isSpot 33 = .ok (.iconst 0, 1) := by decide +kernel
theorem dX3_isSpot_34 : decode cX3_isSpot 34 = .ok (.ireturn, 1) := by decide +kernel
set_option maxRecDepth 20000 in
theorem ggX3_aisleAt_X3_shelfAt : GoodIn wsX3_aisleAt wsX3_shelfAt := goodIn_r _ [4] (by decide +kernel) (by decide +kernel)
set_option maxRecDepth 20000 in
theorem gX3_aisleAt_X3_shelfAt : GoodIn wsX3_aisleAt (va_wsS RX3 241 yX3_shelfAt wsX3_shelfAt) := goodIn_app (goodIn_of _ (by decide +kernel)) ggX3_aisleAt_X3_shelfAt
set_option maxRecDepth 20000 in
theorem ggX3_aisleAt_X3_sideAt : GoodIn wsX3_aisleAt wsX3_sideAt := goodIn_r _ [7] (by decide +kernel) (by decide +kernel)
set_option maxRecDepth 20000 in
theorem gX3_aisleAt_X3_sideAt : GoodIn wsX3_aisleAt (va_wsS RX3 244 yX3_sideAt wsX3_sideAt) := goodIn_app (goodIn_of _ (by decide +kernel)) ggX3_aisleAt_X3_sideAt
theorem dX3_aisleAt_0 : decode cX3_aisleAt 0 = .ok (.iload_n 0, 1) := by decide +kernel
theorem dX3_aisleAt_1 : decode cX3_aisleAt 1 = .ok (.invokestatic 241, 3) := by decide +kernel
theorem dX3_aisleAt_4 : decode cX3_aisleAt 4 = .ok (.iload_n 0, 1) := by decide +kernel
theorem dX3_aisleAt_5 : decode cX3_aisleAt 5 = .ok (.invokestatic 244, 3) := by decide +kernel
theorem dX3_aisleAt_8 : decode cX3_aisleAt 8 = .ok (.iadd, 1) := by decide +kernel
theorem dX3_aisleAt_9 : decode cX3_aisleAt 9 = .ok (.ireturn, 1) := by decide +kernel
end
section
theorem dX4_init_0 : decode cX4_init 0 = .ok (.aload_n 0, 1) := by decide +kernel
theorem dX4_init_1 : decode cX4_init 1 = .ok (.invokespecial 1, 3) := by decide +kernel
theorem dX4_init_4 : decode cX4_init 4 = .ok (.aload_n 0, 1) := by decide +kernel
theorem dX4_init_5 : decode cX4_init 5 = .ok (.bipush 6, 2) := by decide +kernel
theorem dX4_init_7 : decode cX4_init 7 = .ok (.newarray .int, 2) := by decide +kernel
theorem dX4_init_9 : decode cX4_init 9 = .ok (.putfield 7, 3) := by decide +kernel
theorem dX4_init_12 : decode cX4_init 12 = .ok (.aload_n 0, 1) := by decide +kernel
theorem dX4_init_13 : decode cX4_init 13 = .ok (.bipush 20, 2) := by decide +kernel
theorem dX4_init_15 : decode cX4_init 15 = .ok (.newarray .int, 2) := by decide +kernel
theorem dX4_init_17 : decode cX4_init 17 = .ok (.putfield 13, 3) := by decide +kernel
theorem dX4_init_20 : decode cX4_init 20 = .ok (.aload_n 0, 1) := by decide +kernel
theorem dX4_init_21 : decode cX4_init 21 = .ok (.bipush 20, 2) := by decide +kernel
theorem dX4_init_23 : decode cX4_init 23 = .ok (.newarray .int, 2) := by decide +kernel
theorem dX4_init_25 : decode cX4_init 25 = .ok (.putfield 16, 3) := by decide +kernel
theorem dX4_init_28 : decode cX4_init 28 = .ok (.aload_n 0, 1) := by decide +kernel
theorem dX4_init_29 : decode cX4_init 29 = .ok (.bipush 20, 2) := by decide +kernel
theorem dX4_init_31 : decode cX4_init 31 = .ok (.newarray .int, 2) := by decide +kernel
theorem dX4_init_33 : decode cX4_init 33 = .ok (.putfield 19, 3) := by decide +kernel
theorem dX4_init_36 : decode cX4_init 36 = .ok (.aload_n 0, 1) := by decide +kernel
theorem dX4_init_37 : decode cX4_init 37 = .ok (.bipush 36, 2) := by decide +kernel
theorem dX4_init_39 : decode cX4_init 39 = .ok (.newarray .int, 2) := by decide +kernel
theorem dX4_init_41 : decode cX4_init 41 = .ok (.putfield 22, 3) := by decide +kernel
theorem dX4_init_44 : decode cX4_init 44 = .ok (.aload_n 0, 1) := by decide +kernel
theorem dX4_init_45 : decode cX4_init 45 = .ok (.bipush 7, 2) := by decide +kernel
theorem dX4_init_47 : decode cX4_init 47 = .ok (.newarray .boolean, 2) := by decide +kernel
theorem dX4_init_49 : decode cX4_init 49 = .ok (.putfield 25, 3) := by decide +kernel
theorem dX4_init_52 : decode cX4_init 52 = .ok (.aload_n 0, 1) := by decide +kernel
theorem dX4_init_53 : decode cX4_init 53 = .ok (.iconst 4, 1) := by decide +kernel
theorem dX4_init_54 : decode cX4_init 54 = .ok (.newarray .boolean, 2) := by decide +kernel
theorem dX4_init_56 : decode cX4_init 56 = .ok (.putfield 29, 3) := by decide +kernel
theorem dX4_init_59 : decode cX4_init 59 = .ok (.aload_n 0, 1) := by decide +kernel
theorem dX4_init_60 : decode cX4_init 60 = .ok (.bipush 30, 2) := by decide +kernel
theorem dX4_init_62 : decode cX4_init 62 = .ok (.newarray .int, 2) := by decide +kernel
theorem dX4_init_64 : decode cX4_init 64 = .ok (.putfield 32, 3) := by decide +kernel
theorem dX4_init_67 : decode cX4_init 67 = .ok (.aload_n 0, 1) := by decide +kernel
theorem dX4_init_68 : decode cX4_init 68 = .ok (.bipush 30, 2) := by decide +kernel
theorem dX4_init_70 : decode cX4_init 70 = .ok (.newarray .int, 2) := by decide +kernel
theorem dX4_init_72 : decode cX4_init 72 = .ok (.putfield 35, 3) := by decide +kernel
theorem dX4_init_75 : decode cX4_init 75 = .ok (.aload_n 0, 1) := by decide +kernel
theorem dX4_init_76 : decode cX4_init 76 = .ok (.bipush 30, 2) := by decide +kernel
theorem dX4_init_78 : decode cX4_init 78 = .ok (.newarray .boolean, 2) := by decide +kernel
theorem dX4_init_80 : decode cX4_init 80 = .ok (.putfield 38, 3) := by decide +kernel
theorem dX4_init_83 : decode cX4_init 83 = .ok (.aload_n 0, 1) := by decide +kernel
theorem dX4_init_84 : decode cX4_init 84 = .ok (.iconst 0, 1) := by decide +kernel
theorem dX4_init_85 : decode cX4_init 85 = .ok (.putfield 41, 3) := by decide +kernel
theorem dX4_init_88 : decode cX4_init 88 = .ok (.return_, 1) := by decide +kernel
theorem dX4_thrown_0 : decode cX4_thrown 0 = .ok (.aload_n 0, 1) := by decide +kernel
theorem dX4_thrown_1 : decode cX4_thrown 1 = .ok (.getfield 41, 3) := by decide +kernel
theorem dX4_thrown_4 : decode cX4_thrown 4 = .ok (.ireturn, 1) := by decide +kernel
theorem dX4_fails_0 : decode cX4_fails 0 = .ok (.aload_n 0, 1) := by decide +kernel
theorem dX4_fails_1 : decode cX4_fails 1 = .ok (.iload_n 1, 1) := by decide +kernel
theorem dX4_fails_2 : decode cX4_fails 2 = .ok (.putfield 41, 3) := by decide +kernel
theorem dX4_fails_5 : decode cX4_fails 5 = .ok (.iconst 0, 1) := by decide +kernel
theorem dX4_fails_6 : decode cX4_fails 6 = .ok (.ireturn, 1) := by decide +kernel
theorem dX4_in_0 : decode cX4_in 0 = .ok (.iload_n 0, 1) := by decide +kernel
theorem dX4_in_1 : decode cX4_in 1 = .ok (.iload_n 1, 1) := by decide +kernel
theorem dX4_in_2 : decode cX4_in 2 = .ok (.if_icmp .lt 12, 3) := by decide +kernel
theorem dX4_in_5 : decode cX4_in 5 = .ok (.iload_n 0, 1) := by decide +kernel
theorem dX4_in_6 : decode cX4_in 6 = .ok (.iload_n 2, 1) := by decide +kernel
theorem dX4_in_7 : decode cX4_in 7 = .ok (.if_icmp .gt 7, 3) := by decide +kernel
theorem dX4_in_10 : decode cX4_in 10 = .ok (.iconst 1, 1) := by decide +kernel
theorem dX4_in_11 : decode cX4_in 11 = .ok (.goto 4, 3) := by decide +kernel
theorem dX4_in_14 : decode cX4_in 14 = .ok (.iconst 0, 1) := by decide +kernel
theorem dX4_in_15 : decode cX4_in 15 = .ok (.ireturn, 1) := by decide +kernel
set_option maxRecDepth 20000 in
theorem ggX4_isShelf_X4_in : GoodIn wsX4_isShelf wsX4_in := goodIn_r _ [4] (by decide +kernel) (by decide +kernel)
set_option maxRecDepth 20000 in
theorem gX4_isShelf_X4_in : GoodIn wsX4_isShelf (va_wsS RX4 45 yX4_in wsX4_in) := goodIn_app (goodIn_of _ (by decide +kernel)) ggX4_isShelf_X4_in
theorem dX4_isShelf_0 : decode cX4_isShelf 0 = .ok (.iload_n 0, 1) := by decide +kernel
theorem dX4_isShelf_1 : decode cX4_isShelf 1 = .ok (.iconst 0, 1) := by decide +kernel
theorem dX4_isShelf_2 : decode cX4_isShelf 2 = .ok (.iconst 5, 1) := by decide +kernel
theorem dX4_isShelf_3 : decode cX4_isShelf 3 = .ok (.invokestatic 45, 3) := by decide +kernel
theorem dX4_isShelf_6 : decode cX4_isShelf 6 = .ok (.ireturn, 1) := by decide +kernel
set_option maxRecDepth 20000 in
theorem ggX4_isBox_X4_in : GoodIn wsX4_isBox wsX4_in := goodIn_r _ [5] (by decide +kernel) (by decide +kernel)
set_option maxRecDepth 20000 in
theorem gX4_isBox_X4_in : GoodIn wsX4_isBox (va_wsS RX4 45 yX4_in wsX4_in) := goodIn_app (goodIn_of _ (by decide +kernel)) ggX4_isBox_X4_in
theorem dX4_isBox_0 : decode cX4_isBox 0 = .ok (.iload_n 1, 1) := by decide +kernel
theorem dX4_isBox_1 : decode cX4_isBox 1 = .ok (.iconst 0, 1) := by decide +kernel
theorem dX4_isBox_2 : decode cX4_isBox 2 = .ok (.aload_n 0, 1) := by decide +kernel
theorem dX4_isBox_3 : decode cX4_isBox 3 = .ok (.getfield 49, 3) := by decide +kernel
theorem dX4_isBox_6 : decode cX4_isBox 6 = .ok (.iconst 1, 1) := by decide +kernel
theorem dX4_isBox_7 : decode cX4_isBox 7 = .ok (.isub, 1) := by decide +kernel
theorem dX4_isBox_8 : decode cX4_isBox 8 = .ok (.invokestatic 45, 3) := by decide +kernel
theorem dX4_isBox_11 : decode cX4_isBox 11 = .ok (.ireturn, 1) := by decide +kernel
set_option maxRecDepth 20000 in
theorem ggX4_isPerson_X4_in : GoodIn wsX4_isPerson wsX4_in := goodIn_r _ [4] (by decide +kernel) (by decide +kernel)
set_option maxRecDepth 20000 in
theorem gX4_isPerson_X4_in : GoodIn wsX4_isPerson (va_wsS RX4 45 yX4_in wsX4_in) := goodIn_app (goodIn_of _ (by decide +kernel)) ggX4_isPerson_X4_in
theorem dX4_isPerson_0 : decode cX4_isPerson 0 = .ok (.iload_n 0, 1) := by decide +kernel
theorem dX4_isPerson_1 : decode cX4_isPerson 1 = .ok (.iconst 0, 1) := by decide +kernel
theorem dX4_isPerson_2 : decode cX4_isPerson 2 = .ok (.iconst 3, 1) := by decide +kernel
theorem dX4_isPerson_3 : decode cX4_isPerson 3 = .ok (.invokestatic 45, 3) := by decide +kernel
theorem dX4_isPerson_6 : decode cX4_isPerson 6 = .ok (.ireturn, 1) := by decide +kernel
set_option maxRecDepth 20000 in
theorem ggX4_row_X4_in : GoodIn wsX4_row wsX4_in := goodIn_r _ [4] (by decide +kernel) (by decide +kernel)
set_option maxRecDepth 20000 in
theorem gX4_row_X4_in : GoodIn wsX4_row (va_wsS RX4 45 yX4_in wsX4_in) := goodIn_app (goodIn_of _ (by decide +kernel)) ggX4_row_X4_in
theorem dX4_row_0 : decode cX4_row 0 = .ok (.iload_n 0, 1) := by decide +kernel
theorem dX4_row_1 : decode cX4_row 1 = .ok (.iconst 0, 1) := by decide +kernel
theorem dX4_row_2 : decode cX4_row 2 = .ok (.sipush 599, 3) := by decide +kernel
theorem dX4_row_5 : decode cX4_row 5 = .ok (.invokestatic 45, 3) := by decide +kernel
theorem dX4_row_8 : decode cX4_row 8 = .ok (.ifCond .eq 26, 3) := by decide +kernel
theorem dX4_row_11 : decode cX4_row 11 = .ok (.iload_n 0, 1) := by decide +kernel
theorem dX4_row_12 : decode cX4_row 12 = .ok (.bipush 10, 2) := by decide +kernel
theorem dX4_row_14 : decode cX4_row 14 = .ok (.idiv, 1) := by decide +kernel
theorem dX4_row_15 : decode cX4_row 15 = .ok (.bipush 10, 2) := by decide +kernel
theorem dX4_row_17 : decode cX4_row 17 = .ok (.irem, 1) := by decide +kernel
theorem dX4_row_18 : decode cX4_row 18 = .ok (.iconst 2, 1) := by decide +kernel
theorem dX4_row_19 : decode cX4_row 19 = .ok (.if_icmp .ge 15, 3) := by decide +kernel
theorem dX4_row_22 : decode cX4_row 22 = .ok (.iload_n 0, 1) := by decide +kernel
theorem dX4_row_23 : decode cX4_row 23 = .ok (.bipush 10, 2) := by decide +kernel
theorem dX4_row_25 : decode cX4_row 25 = .ok (.irem, 1) := by decide +kernel
theorem dX4_row_26 : decode cX4_row 26 = .ok (.iconst 3, 1) := by decide +kernel
theorem dX4_row_27 : decode cX4_row 27 = .ok (.if_icmp .ge 7, 3) := by decide +kernel
theorem dX4_row_30 : decode cX4_row 30 = .ok (.iconst 1, 1) := by decide +kernel
theorem dX4_row_31 : decode cX4_row 31 = .ok (.goto 4, 3) := by decide +kernel
theorem dX4_row_34 : decode cX4_row 34 = .ok (.iconst 0, 1) := by decide +kernel
theorem dX4_row_35 : decode cX4_row 35 = .ok (.istore_n 1, 1) := by decide +kernel
theorem dX4_row_36 : decode cX4_row 36 = .ok (.iload_n 1, 1) := by decide +kernel
theorem dX4_row_37 : decode cX4_row 37 = .ok (.ifCond .eq 28, 3) := by decide +kernel
theorem dX4_row_40 : decode cX4_row 40 = .ok (.bipush 6, 2) := by decide +kernel
theorem dX4_row_42 : decode cX4_row 42 = .ok (.iload_n 0, 1) := by decide +kernel
theorem dX4_row_43 : decode cX4_row 43 = .ok (.bipush 100, 2) := by decide +kernel
theorem dX4_row_45 : decode cX4_row 45 = .ok (.idiv, 1) := by decide +kernel
theorem dX4_row_46 : decode cX4_row 46 = .ok (.imul, 1) := by decide +kernel
theorem dX4_row_47 : decode cX4_row 47 = .ok (.iconst 3, 1) := by decide +kernel
theorem dX4_row_48 : decode cX4_row 48 = .ok (.iload_n 0, 1) := by decide +kernel
theorem dX4_row_49 : decode cX4_row 49 = .ok (.bipush 10, 2) := by decide +kernel
theorem dX4_row_51 : decode cX4_row 51 = .ok (.idiv, 1) := by decide +kernel
theorem dX4_row_52 : decode cX4_row 52 = .ok (.bipush 10, 2) := by decide +kernel
theorem dX4_row_54 : decode cX4_row 54 = .ok (.irem, 1) := by decide +kernel
theorem dX4_row_55 : decode cX4_row 55 = .ok (.imul, 1) := by decide +kernel
theorem dX4_row_56 : decode cX4_row 56 = .ok (.iadd, 1) := by decide +kernel
theorem dX4_row_57 : decode cX4_row 57 = .ok (.iload_n 0, 1) := by decide +kernel
theorem dX4_row_58 : decode cX4_row 58 = .ok (.bipush 10, 2) := by decide +kernel
theorem dX4_row_60 : decode cX4_row 60 = .ok (.irem, 1) := by decide +kernel
theorem dX4_row_61 : decode cX4_row 61 = .ok (.iadd, 1) := by decide +kernel
theorem dX4_row_62 : decode cX4_row 62 = .ok (.goto 4, 3) := by decide +kernel
theorem dX4_row_65 : decode cX4_row 65 = .ok (.iconst (-1), 1) := by decide +kernel
theorem dX4_row_66 : decode cX4_row 66 = .ok (.ireturn, 1) := by decide +kernel
theorem dX4_told_0 : decode cX4_told 0 = .ok (.bipush 100, 2) := by decide +kernel
theorem dX4_told_2 : decode cX4_told 2 = .ok (.iload_n 0, 1) := by decide +kernel
theorem dX4_told_3 : decode cX4_told 3 = .ok (.bipush 6, 2) := by decide +kernel
theorem dX4_told_5 : decode cX4_told 5 = .ok (.idiv, 1) := by decide +kernel
theorem dX4_told_6 : decode cX4_told 6 = .ok (.imul, 1) := by decide +kernel
theorem dX4_told_7 : decode cX4_told 7 = .ok (.bipush 10, 2) := by decide +kernel
theorem dX4_told_9 : decode cX4_told 9 = .ok (.iload_n 0, 1) := by decide +kernel
theorem dX4_told_10 : decode cX4_told 10 = .ok (.iconst 3, 1) := by decide +kernel
theorem dX4_told_11 : decode cX4_told 11 = .ok (.idiv, 1) := by decide +kernel
theorem dX4_told_12 : decode cX4_told 12 = .ok (.iconst 2, 1) := by decide +kernel
theorem dX4_told_13 : decode cX4_told 13 = .ok (.irem, 1) := by decide +kernel
theorem dX4_told_14 : decode cX4_told 14 = .ok (.imul, 1) := by decide +kernel
theorem dX4_told_15 : decode cX4_told 15 = .ok (.iadd, 1) := by decide +kernel
theorem dX4_told_16 : decode cX4_told 16 = .ok (.iload_n 0, 1) := by decide +kernel
theorem dX4_told_17 : decode cX4_told 17 = .ok (.iconst 3, 1) := by decide +kernel
theorem dX4_told_18 : decode cX4_told 18 = .ok (.irem, 1) := by decide +kernel
theorem dX4_told_19 : decode cX4_told 19 = .ok (.iadd, 1) := by decide +kernel
theorem dX4_told_20 : decode cX4_told 20 = .ok (.ireturn, 1) := by decide +kernel
theorem dX4_aisleOf_0 : decode cX4_aisleOf 0 = .ok (.iload_n 0, 1) := by decide +kernel
theorem dX4_aisleOf_1 : decode cX4_aisleOf 1 = .ok (.bipush 6, 2) := by decide +kernel
theorem dX4_aisleOf_3 : decode cX4_aisleOf 3 = .ok (.idiv, 1) := by decide +kernel
theorem dX4_aisleOf_4 : decode cX4_aisleOf 4 = .ok (.iload_n 0, 1) := by decide +kernel
theorem dX4_aisleOf_5 : decode cX4_aisleOf 5 = .ok (.iconst 3, 1) := by decide +kernel
theorem dX4_aisleOf_6 : decode cX4_aisleOf 6 = .ok (.idiv, 1) := by decide +kernel
theorem dX4_aisleOf_7 : decode cX4_aisleOf 7 = .ok (.iconst 2, 1) := by decide +kernel
theorem dX4_aisleOf_8 : decode cX4_aisleOf 8 = .ok (.irem, 1) := by decide +kernel
theorem dX4_aisleOf_9 : decode cX4_aisleOf 9 = .ok (.iadd, 1) := by decide +kernel
theorem dX4_aisleOf_10 : decode cX4_aisleOf 10 = .ok (.ireturn, 1) := by decide +kernel
theorem dX4_spot_0 : decode cX4_spot 0 = .ok (.iconst (-1), 1) := by decide +kernel
theorem dX4_spot_1 : decode cX4_spot 1 = .ok (.istore_n 2, 1) := by decide +kernel
theorem dX4_spot_2 : decode cX4_spot 2 = .ok (.iconst 0, 1) := by decide +kernel
theorem dX4_spot_3 : decode cX4_spot 3 = .ok (.istore_n 3, 1) := by decide +kernel
theorem dX4_spot_4 : decode cX4_spot 4 = .ok (.iload_n 3, 1) := by decide +kernel
theorem dX4_spot_5 : decode cX4_spot 5 = .ok (.bipush 36, 2) := by decide +kernel
theorem dX4_spot_7 : decode cX4_spot 7 = .ok (.if_icmp .ge 27, 3) := by decide +kernel
theorem dX4_spot_10 : decode cX4_spot 10 = .ok (.aload_n 0, 1) := by decide +kernel
theorem dX4_spot_11 : decode cX4_spot 11 = .ok (.getfield 22, 3) := by decide +kernel
theorem dX4_spot_14 : decode cX4_spot 14 = .ok (.iload_n 3, 1) := by decide +kernel
theorem dX4_spot_15 : decode cX4_spot 15 = .ok (.iaload, 1) := by decide +kernel
theorem dX4_spot_16 : decode cX4_spot 16 = .ok (.iload_n 1, 1) := by decide +kernel
theorem dX4_spot_17 : decode cX4_spot 17 = .ok (.iconst 1, 1) := by decide +kernel
theorem dX4_spot_18 : decode cX4_spot 18 = .ok (.iadd, 1) := by decide +kernel
theorem dX4_spot_19 : decode cX4_spot 19 = .ok (.if_icmp .ne 7, 3) := by decide +kernel
theorem dX4_spot_22 : decode cX4_spot 22 = .ok (.iload_n 3, 1) := by decide +kernel
theorem dX4_spot_23 : decode cX4_spot 23 = .ok (.goto 4, 3) := by decide +kernel
theorem dX4_spot_26 : decode cX4_spot 26 = .ok (.iload_n 2, 1) := by decide +kernel
theorem dX4_spot_27 : decode cX4_spot 27 = .ok (.istore_n 2, 1) := by decide +kernel
theorem dX4_spot_28 : decode cX4_spot 28 = .ok (.iinc 3 1, 3) := by decide +kernel
theorem dX4_spot_31 : decode cX4_spot 31 = .ok (.goto (-27), 3) := by decide +kernel
theorem dX4_spot_34 : decode cX4_spot 34 = .ok (.iload_n 2, 1) := by decide +kernel
theorem dX4_spot_35 : decode cX4_spot 35 = .ok (.ireturn, 1) := by decide +kernel
set_option maxRecDepth 20000 in
theorem ggX4_setClimate_X4_isShelf : GoodIn wsX4_setClimate wsX4_isShelf := goodIn_r _ [6, 7, 8, 5, 9] (by decide +kernel) (by decide +kernel)
set_option maxRecDepth 20000 in
theorem gX4_setClimate_X4_isShelf : GoodIn wsX4_setClimate (va_wsS RX4 52 yX4_isShelf wsX4_isShelf) := goodIn_app (goodIn_of _ (by decide +kernel)) ggX4_setClimate_X4_isShelf
set_option maxRecDepth 20000 in
theorem ggX4_setClimate_X4_in : GoodIn wsX4_setClimate wsX4_in := goodIn_r _ [9] (by decide +kernel) (by decide +kernel)
set_option maxRecDepth 20000 in
theorem gX4_setClimate_X4_in : GoodIn wsX4_setClimate (va_wsS RX4 45 yX4_in wsX4_in) := goodIn_app (goodIn_of _ (by decide +kernel)) ggX4_setClimate_X4_in
theorem dX4_setClimate_0 : decode cX4_setClimate 0 = .ok (.aload_n 0, 1) := by decide +kernel
theorem dX4_setClimate_1 : decode cX4_setClimate 1 = .ok (.iload_n 1, 1) := by decide +kernel
theorem dX4_setClimate_2 : decode cX4_setClimate 2 = .ok (.invokestatic 52, 3) := by decide +kernel
theorem dX4_setClimate_5 : decode cX4_setClimate 5 = .ok (.ifCond .ne 7, 3) := by decide +kernel
theorem dX4_setClimate_8 : decode cX4_setClimate 8 = .ok (.iconst 1, 1) := by decide +kernel
theorem dX4_setClimate_9 : decode cX4_setClimate 9 = .ok (.goto 17, 3) := by decide +kernel
theorem dX4_setClimate_12 : decode cX4_setClimate 12 = .ok (.iload_n 2, 1) := by decide +kernel
theorem dX4_setClimate_13 : decode cX4_setClimate 13 = .ok (.iconst 0, 1) := by decide +kernel
theorem dX4_setClimate_14 : decode cX4_setClimate 14 = .ok (.iconst 2, 1) := by decide +kernel
theorem dX4_setClimate_15 : decode cX4_setClimate 15 = .ok (.invokestatic 45, 3) := by decide +kernel
theorem dX4_setClimate_18 : decode cX4_setClimate 18 = .ok (.ifCond .eq 7, 3) := by decide +kernel
theorem dX4_setClimate_21 : decode cX4_setClimate 21 = .ok (.iconst 0, 1) := by decide +kernel
theorem dX4_setClimate_22 : decode cX4_setClimate 22 = .ok (.goto 4, 3) := by decide +kernel
theorem dX4_setClimate_25 : decode cX4_setClimate 25 = .ok (.iconst 2, 1) := by decide +kernel
theorem dX4_setClimate_26 : decode cX4_setClimate 26 = .ok (.putfield 41, 3) := by decide +kernel
theorem dX4_setClimate_29 : decode cX4_setClimate 29 = .ok (.aload_n 0, 1) := by decide +kernel
theorem dX4_setClimate_30 : decode cX4_setClimate 30 = .ok (.getfield 41, 3) := by decide +kernel
theorem dX4_setClimate_33 : decode cX4_setClimate 33 = .ok (.ifCond .le 5, 3) := by decide +kernel
theorem dX4_setClimate_36 : decode cX4_setClimate 36 = .ok (.iconst 0, 1) := by decide +kernel
theorem dX4_setClimate_37 : decode cX4_setClimate 37 = .ok (.ireturn, 1) := by decide +kernel
theorem dX4_setClimate_38 : decode cX4_setClimate 38 = .ok (.aload_n 0, 1) := by decide +kernel
theorem dX4_setClimate_39 : decode cX4_setClimate 39 = .ok (.getfield 7, 3) := by decide +kernel
theorem dX4_setClimate_42 : decode cX4_setClimate 42 = .ok (.iload_n 1, 1) := by decide +kernel
theorem dX4_setClimate_43 : decode cX4_setClimate 43 = .ok (.iaload, 1) := by decide +kernel
theorem dX4_setClimate_44 : decode cX4_setClimate 44 = .ok (.istore_n 3, 1) := by decide +kernel
theorem dX4_setClimate_45 : decode cX4_setClimate 45 = .ok (.aload_n 0, 1) := by decide +kernel
theorem dX4_setClimate_46 : decode cX4_setClimate 46 = .ok (.getfield 7, 3) := by decide +kernel
theorem dX4_setClimate_49 : decode cX4_setClimate 49 = .ok (.iload_n 1, 1) := by decide +kernel
theorem dX4_setClimate_50 : decode cX4_setClimate 50 = .ok (.iload_n 2, 1) := by decide +kernel
theorem dX4_setClimate_51 : decode cX4_setClimate 51 = .ok (.iastore, 1) := by decide +kernel
theorem dX4_setClimate_52 : decode cX4_setClimate 52 = .ok (.iload_n 3, 1) := by decide +kernel
theorem dX4_setClimate_53 : decode cX4_setClimate 53 = .ok (.ireturn, 1) := by decide +kernel
set_option maxRecDepth 20000 in
theorem ggX4_addBox_X4_in : GoodIn wsX4_addBox wsX4_in := goodIn_r _ [9] (by decide +kernel) (by decide +kernel)
set_option maxRecDepth 20000 in
theorem gX4_addBox_X4_in : GoodIn wsX4_addBox (va_wsS RX4 45 yX4_in wsX4_in) := goodIn_app (goodIn_of _ (by decide +kernel)) ggX4_addBox_X4_in
theorem dX4_addBox_0 : decode cX4_addBox 0 = .ok (.iload_n 1, 1) := by decide +kernel
theorem dX4_addBox_1 : decode cX4_addBox 1 = .ok (.iconst 0, 1) := by decide +kernel
theorem dX4_addBox_2 : decode cX4_addBox 2 = .ok (.iconst 2, 1) := by decide +kernel
theorem dX4_addBox_3 : decode cX4_addBox 3 = .ok (.invokestatic 45, 3) := by decide +kernel
theorem dX4_addBox_6 : decode cX4_addBox 6 = .ok (.ifCond .eq 27, 3) := by decide +kernel
theorem dX4_addBox_9 : decode cX4_addBox 9 = .ok (.iload_n 2, 1) := by decide +kernel
theorem dX4_addBox_10 : decode cX4_addBox 10 = .ok (.iconst 1, 1) := by decide +kernel
theorem dX4_addBox_11 : decode cX4_addBox 11 = .ok (.bipush 60, 2) := by decide +kernel
theorem dX4_addBox_13 : decode cX4_addBox 13 = .ok (.invokestatic 45, 3) := by decide +kernel
theorem dX4_addBox_16 : decode cX4_addBox 16 = .ok (.ifCond .eq 17, 3) := by decide +kernel
theorem dX4_addBox_19 : decode cX4_addBox 19 = .ok (.iload_n 3, 1) := by decide +kernel
theorem dX4_addBox_20 : decode cX4_addBox 20 = .ok (.iconst 0, 1) := by decide +kernel
theorem dX4_addBox_21 : decode cX4_addBox 21 = .ok (.bipush 9, 2) := by decide +kernel
theorem dX4_addBox_23 : decode cX4_addBox 23 = .ok (.invokestatic 45, 3) := by decide +kernel
theorem dX4_addBox_26 : decode cX4_addBox 26 = .ok (.ifCond .eq 7, 3) := by decide +kernel
theorem dX4_addBox_29 : decode cX4_addBox 29 = .ok (.iconst 1, 1) := by decide +kernel
theorem dX4_addBox_30 : decode cX4_addBox 30 = .ok (.goto 4, 3) := by decide +kernel
theorem dX4_addBox_33 : decode cX4_addBox 33 = .ok (.iconst 0, 1) := by decide +kernel
theorem dX4_addBox_34 : decode cX4_addBox 34 = .ok (.istore 4, 2) := by decide +kernel
theorem dX4_addBox_36 : decode cX4_addBox 36 = .ok (.aload_n 0, 1) := by decide +kernel
theorem dX4_addBox_37 : decode cX4_addBox 37 = .ok (.iload 4, 2) := by decide +kernel
theorem dX4_addBox_39 : decode cX4_addBox 39 = .ok (.ifCond .ne 7, 3) := by decide +kernel
theorem dX4_addBox_42 : decode cX4_addBox 42 = .ok (.iconst 1, 1) := by decide +kernel
theorem dX4_addBox_43 : decode cX4_addBox 43 = .ok (.goto 17, 3) := by decide +kernel
theorem dX4_addBox_46 : decode cX4_addBox 46 = .ok (.aload_n 0, 1) := by decide +kernel
theorem dX4_addBox_47 : decode cX4_addBox 47 = .ok (.getfield 49, 3) := by decide +kernel
theorem dX4_addBox_50 : decode cX4_addBox 50 = .ok (.bipush 20, 2) := by decide +kernel
theorem dX4_addBox_52 : decode cX4_addBox 52 = .ok (.if_icmp .ne 7, 3) := by decide +kernel
theorem dX4_addBox_55 : decode cX4_addBox 55 = .ok (.iconst 2, 1) := by decide +kernel
theorem dX4_addBox_56 : decode cX4_addBox 56 = .ok (.goto 4, 3) := by decide +kernel
theorem dX4_addBox_59 : decode cX4_addBox 59 = .ok (.iconst 0, 1) := by decide +kernel
theorem dX4_addBox_60 : decode cX4_addBox 60 = .ok (.putfield 41, 3) := by decide +kernel
theorem dX4_addBox_63 : decode cX4_addBox 63 = .ok (.aload_n 0, 1) := by decide +kernel
theorem dX4_addBox_64 : decode cX4_addBox 64 = .ok (.getfield 41, 3) := by decide +kernel
theorem dX4_addBox_67 : decode cX4_addBox 67 = .ok (.ifCond .le 5, 3) := by decide +kernel
theorem dX4_addBox_70 : decode cX4_addBox 70 = .ok (.iconst 0, 1) := by decide +kernel
theorem dX4_addBox_71 : decode cX4_addBox 71 = .ok (.ireturn, 1) := by decide +kernel
theorem dX4_addBox_72 : decode cX4_addBox 72 = .ok (.aload_n 0, 1) := by decide +kernel
theorem dX4_addBox_73 : decode cX4_addBox 73 = .ok (.getfield 13, 3) := by decide +kernel
theorem dX4_addBox_76 : decode cX4_addBox 76 = .ok (.aload_n 0, 1) := by decide +kernel
theorem dX4_addBox_77 : decode cX4_addBox 77 = .ok (.getfield 49, 3) := by decide +kernel
theorem dX4_addBox_80 : decode cX4_addBox 80 = .ok (.iload_n 1, 1) := by decide +kernel
theorem dX4_addBox_81 : decode cX4_addBox 81 = .ok (.iastore, 1) := by decide +kernel
theorem dX4_addBox_82 : decode cX4_addBox 82 = .ok (.aload_n 0, 1) := by decide +kernel
theorem dX4_addBox_83 : decode cX4_addBox 83 = .ok (.getfield 16, 3) := by decide +kernel
theorem dX4_addBox_86 : decode cX4_addBox 86 = .ok (.aload_n 0, 1) := by decide +kernel
theorem dX4_addBox_87 : decode cX4_addBox 87 = .ok (.getfield 49, 3) := by decide +kernel
theorem dX4_addBox_90 : decode cX4_addBox 90 = .ok (.iload_n 2, 1) := by decide +kernel
theorem dX4_addBox_91 : decode cX4_addBox 91 = .ok (.iastore, 1) := by decide +kernel
theorem dX4_addBox_92 : decode cX4_addBox 92 = .ok (.aload_n 0, 1) := by decide +kernel
theorem dX4_addBox_93 : decode cX4_addBox 93 = .ok (.getfield 19, 3) := by decide +kernel
theorem dX4_addBox_96 : decode cX4_addBox 96 = .ok (.aload_n 0, 1) := by decide +kernel
theorem dX4_addBox_97 : decode cX4_addBox 97 = .ok (.getfield 49, 3) := by decide +kernel
theorem dX4_addBox_100 : decode cX4_addBox 100 = .ok (.iload_n 3, 1) := by decide +kernel
theorem dX4_addBox_101 : decode cX4_addBox 101 = .ok (.iastore, 1) := by decide +kernel
theorem dX4_addBox_102 : decode cX4_addBox 102 = .ok (.aload_n 0, 1) := by decide +kernel
theorem dX4_addBox_103 : decode cX4_addBox 103 = .ok (.dup, 1) := by decide +kernel
theorem dX4_addBox_104 : decode cX4_addBox 104 = .ok (.getfield 49, 3) := by decide +kernel
theorem dX4_addBox_107 : decode cX4_addBox 107 = .ok (.iconst 1, 1) := by decide +kernel
theorem dX4_addBox_108 : decode cX4_addBox 108 = .ok (.iadd, 1) := by decide +kernel
theorem dX4_addBox_109 : decode cX4_addBox 109 = .ok (.putfield 49, 3) := by decide +kernel
theorem dX4_addBox_112 : decode cX4_addBox 112 = .ok (.aload_n 0, 1) := by decide +kernel
theorem dX4_addBox_113 : decode cX4_addBox 113 = .ok (.getfield 49, 3) := by decide +kernel
theorem dX4_addBox_116 : decode cX4_addBox 116 = .ok (.iconst 1, 1) := by decide +kernel
theorem dX4_addBox_117 : decode cX4_addBox 117 = .ok (.isub, 1) := by decide +kernel
theorem dX4_addBox_118 : decode cX4_addBox 118 = .ok (.ireturn, 1) := by decide +kernel
theorem dX4_weighs_0 : decode cX4_weighs 0 = .ok (.iconst 0, 1) := by decide +kernel
theorem dX4_weighs_1 : decode cX4_weighs 1 = .ok (.istore_n 2, 1) := by decide +kernel
theorem dX4_weighs_2 : decode cX4_weighs 2 = .ok (.bipush 6, 2) := by decide +kernel
theorem dX4_weighs_4 : decode cX4_weighs 4 = .ok (.iload_n 1, 1) := by decide +kernel
theorem dX4_weighs_5 : decode cX4_weighs 5 = .ok (.imul, 1) := by decide +kernel
theorem dX4_weighs_6 : decode cX4_weighs 6 = .ok (.istore_n 3, 1) := by decide +kernel
theorem dX4_weighs_7 : decode cX4_weighs 7 = .ok (.iload_n 3, 1) := by decide +kernel
theorem dX4_weighs_8 : decode cX4_weighs 8 = .ok (.bipush 6, 2) := by decide +kernel
theorem dX4_weighs_10 : decode cX4_weighs 10 = .ok (.iload_n 1, 1) := by decide +kernel
theorem dX4_weighs_11 : decode cX4_weighs 11 = .ok (.imul, 1) := by decide +kernel
theorem dX4_weighs_12 : decode cX4_weighs 12 = .ok (.bipush 6, 2) := by decide +kernel
theorem dX4_weighs_14 : decode cX4_weighs 14 = .ok (.iadd, 1) := by decide +kernel
theorem dX4_weighs_15 : decode cX4_weighs 15 = .ok (.if_icmp .ge 38, 3) := by decide +kernel
theorem dX4_weighs_18 : decode cX4_weighs 18 = .ok (.iload_n 2, 1) := by decide +kernel
theorem dX4_weighs_19 : decode cX4_weighs 19 = .ok (.aload_n 0, 1) := by decide +kernel
theorem dX4_weighs_20 : decode cX4_weighs 20 = .ok (.getfield 22, 3) := by decide +kernel
theorem dX4_weighs_23 : decode cX4_weighs 23 = .ok (.iload_n 3, 1) := by decide +kernel
theorem dX4_weighs_24 : decode cX4_weighs 24 = .ok (.iaload, 1) := by decide +kernel
theorem dX4_weighs_25 : decode cX4_weighs 25 = .ok (.ifCond .le 19, 3) := by decide +kernel
theorem dX4_weighs_28 : decode cX4_weighs 28 = .ok (.aload_n 0, 1) := by decide +kernel
theorem dX4_weighs_29 : decode cX4_weighs 29 = .ok (.getfield 16, 3) := by decide +kernel
theorem dX4_weighs_32 : decode cX4_weighs 32 = .ok (.aload_n 0, 1) := by decide +kernel
theorem dX4_weighs_33 : decode cX4_weighs 33 = .ok (.getfield 22, 3) := by decide +kernel
theorem dX4_weighs_36 : decode cX4_weighs 36 = .ok (.iload_n 3, 1) := by decide +kernel
theorem dX4_weighs_37 : decode cX4_weighs 37 = .ok (.iaload, 1) := by decide +kernel
theorem dX4_weighs_38 : decode cX4_weighs 38 = .ok (.iconst 1, 1) := by decide +kernel
theorem dX4_weighs_39 : decode cX4_weighs 39 = .ok (.isub, 1) := by decide +kernel
theorem dX4_weighs_40 : decode cX4_weighs 40 = .ok (.iaload, 1) := by decide +kernel
theorem dX4_weighs_41 : decode cX4_weighs 41 = .ok (.goto 4, 3) := by decide +kernel
theorem dX4_weighs_44 : decode cX4_weighs 44 = .ok (.iconst 0, 1) := by decide +kernel
theorem dX4_weighs_45 : decode cX4_weighs 45 = .ok (.iadd, 1) := by decide +kernel
theorem dX4_weighs_46 : decode cX4_weighs 46 = .ok (.istore_n 2, 1) := by decide +kernel
theorem dX4_weighs_47 : decode cX4_weighs 47 = .ok (.iinc 3 1, 3) := by decide +kernel
theorem dX4_weighs_50 : decode cX4_weighs 50 = .ok (.goto (-43), 3) := by decide +kernel
theorem dX4_weighs_53 : decode cX4_weighs 53 = .ok (.iload_n 2, 1) := by decide +kernel
theorem dX4_weighs_54 : decode cX4_weighs 54 = .ok (.ireturn, 1) := by decide +kernel
theorem dX4_kin_0 : decode cX4_kin 0 = .ok (.iconst 0, 1) := by decide +kernel
theorem dX4_kin_1 : decode cX4_kin 1 = .ok (.istore_n 3, 1) := by decide +kernel
theorem dX4_kin_2 : decode cX4_kin 2 = .ok (.bipush 6, 2) := by decide +kernel
theorem dX4_kin_4 : decode cX4_kin 4 = .ok (.iload_n 1, 1) := by decide +kernel
theorem dX4_kin_5 : decode cX4_kin 5 = .ok (.imul, 1) := by decide +kernel
theorem dX4_kin_6 : decode cX4_kin 6 = .ok (.istore 4, 2) := by decide +kernel
theorem dX4_kin_8 : decode cX4_kin 8 = .ok (.iload 4, 2) := by decide +kernel
theorem dX4_kin_10 : decode cX4_kin 10 = .ok (.bipush 6, 2) := by decide +kernel
theorem dX4_kin_12 : decode cX4_kin 12 = .ok (.iload_n 1, 1) := by decide +kernel
theorem dX4_kin_13 : decode cX4_kin 13 = .ok (.imul, 1) := by decide +kernel
theorem dX4_kin_14 : decode cX4_kin 14 = .ok (.bipush 6, 2) := by decide +kernel
theorem dX4_kin_16 : decode cX4_kin 16 = .ok (.iadd, 1) := by decide +kernel
theorem dX4_kin_17 : decode cX4_kin 17 = .ok (.if_icmp .ge 45, 3) := by decide +kernel
theorem dX4_kin_20 : decode cX4_kin 20 = .ok (.iload_n 3, 1) := by decide +kernel
theorem dX4_kin_21 : decode cX4_kin 21 = .ok (.aload_n 0, 1) := by decide +kernel
theorem dX4_kin_22 : decode cX4_kin 22 = .ok (.getfield 22, 3) := by decide +kernel
theorem dX4_kin_25 : decode cX4_kin 25 = .ok (.iload 4, 2) := by decide +kernel
theorem dX4_kin_27 : decode cX4_kin 27 = .ok (.iaload, 1) := by decide +kernel
theorem dX4_kin_28 : decode cX4_kin 28 = .ok (.ifCond .le 25, 3) := by decide +kernel
theorem dX4_kin_31 : decode cX4_kin 31 = .ok (.aload_n 0, 1) := by decide +kernel
theorem dX4_kin_32 : decode cX4_kin 32 = .ok (.getfield 19, 3) := by decide +kernel
theorem dX4_kin_35 : decode cX4_kin 35 = .ok (.aload_n 0, 1) := by decide +kernel
theorem dX4_kin_36 : decode cX4_kin 36 = .ok (.getfield 22, 3) := by decide +kernel
theorem dX4_kin_39 : decode cX4_kin 39 = .ok (.iload 4, 2) := by decide +kernel
theorem dX4_kin_41 : decode cX4_kin 41 = .ok (.iaload, 1) := by decide +kernel
theorem dX4_kin_42 : decode cX4_kin 42 = .ok (.iconst 1, 1) := by decide +kernel
theorem dX4_kin_43 : decode cX4_kin 43 = .ok (.isub, 1) := by decide +kernel
theorem dX4_kin_44 : decode cX4_kin 44 = .ok (.iaload, 1) := by decide +kernel
theorem dX4_kin_45 : decode cX4_kin 45 = .ok (.iload_n 2, 1) := by decide +kernel
theorem dX4_kin_46 : decode cX4_kin 46 = .ok (.if_icmp .ne 7, 3) := by decide +kernel
theorem dX4_kin_49 : decode cX4_kin 49 = .ok (.iconst 1, 1) := by decide +kernel
theorem dX4_kin_50 : decode cX4_kin 50 = .ok (.goto 4, 3) := by decide +kernel
theorem dX4_kin_53 : decode cX4_kin 53 = .ok (.iconst 0, 1) := by decide +kernel
theorem dX4_kin_54 : decode cX4_kin 54 = .ok (.iadd, 1) := by decide +kernel
theorem dX4_kin_55 : decode cX4_kin 55 = .ok (.istore_n 3, 1) := by decide +kernel
theorem dX4_kin_56 : decode cX4_kin 56 = .ok (.iinc 4 1, 3) := by decide +kernel
theorem dX4_kin_59 : decode cX4_kin 59 = .ok (.goto (-51), 3) := by decide +kernel
theorem dX4_kin_62 : decode cX4_kin 62 = .ok (.iload_n 3, 1) := by decide +kernel
theorem dX4_kin_63 : decode cX4_kin 63 = .ok (.ireturn, 1) := by decide +kernel
set_option maxRecDepth 20000 in
theorem ggX4_best_X4_weighs : GoodIn wsX4_best wsX4_weighs := goodIn_r _ [10, 1, 4, 15, 16, 17, 18, 19, 20, 21, 22, 23, 24, 25, 26, 27, 28, 29, 30, 31, 32, 33] (by decide +kernel) (by decide +kernel)
set_option maxRecDepth 20000 in
theorem gX4_best_X4_weighs : GoodIn wsX4_best (wsV RX4 56 RX4 yX4_weighs wsX4_weighs) := goodIn_app (goodIn_of _ (by decide +kernel)) ggX4_best_X4_weighs
set_option maxRecDepth 20000 in
theorem ggX4_best_X4_kin : GoodIn wsX4_best wsX4_kin := goodIn_r _ [14, 1, 5, 15, 16, 17, 18, 19, 20, 21, 22, 23, 24, 25, 26, 27, 28, 29, 30, 31, 32, 33] (by decide +kernel) (by decide +kernel)
set_option maxRecDepth 20000 in
theorem gX4_best_X4_kin : GoodIn wsX4_best (wsV RX4 60 RX4 yX4_kin wsX4_kin) := goodIn_app (goodIn_of _ (by decide +kernel)) ggX4_best_X4_kin
theorem dX4_best_0 : decode cX4_best 0 = .ok (.iconst (-1), 1) := by decide +kernel
theorem dX4_best_1 : decode cX4_best 1 = .ok (.istore_n 2, 1) := by decide +kernel
theorem dX4_best_2 : decode cX4_best 2 = .ok (.iconst 0, 1) := by decide +kernel
theorem dX4_best_3 : decode cX4_best 3 = .ok (.istore_n 3, 1) := by decide +kernel
theorem dX4_best_4 : decode cX4_best 4 = .ok (.iconst 0, 1) := by decide +kernel
theorem dX4_best_5 : decode cX4_best 5 = .ok (.istore 4, 2) := by decide +kernel
theorem dX4_best_7 : decode cX4_best 7 = .ok (.iload 4, 2) := by decide +kernel
theorem dX4_best_9 : decode cX4_best 9 = .ok (.bipush 36, 2) := by decide +kernel
theorem dX4_best_11 : decode cX4_best 11 = .ok (.if_icmp .ge 109, 3) := by decide +kernel
theorem dX4_best_14 : decode cX4_best 14 = .ok (.iload 4, 2) := by decide +kernel
theorem dX4_best_16 : decode cX4_best 16 = .ok (.bipush 6, 2) := by decide +kernel
theorem dX4_best_18 : decode cX4_best 18 = .ok (.idiv, 1) := by decide +kernel
theorem dX4_best_19 : decode cX4_best 19 = .ok (.istore 5, 2) := by decide +kernel
theorem dX4_best_21 : decode cX4_best 21 = .ok (.aload_n 0, 1) := by decide +kernel
theorem dX4_best_22 : decode cX4_best 22 = .ok (.getfield 22, 3) := by decide +kernel
theorem dX4_best_25 : decode cX4_best 25 = .ok (.iload 4, 2) := by decide +kernel
theorem dX4_best_27 : decode cX4_best 27 = .ok (.iaload, 1) := by decide +kernel
theorem dX4_best_28 : decode cX4_best 28 = .ok (.ifCond .ne 41, 3) := by decide +kernel
theorem dX4_best_31 : decode cX4_best 31 = .ok (.aload_n 0, 1) := by decide +kernel
theorem dX4_best_32 : decode cX4_best 32 = .ok (.getfield 7, 3) := by decide +kernel
theorem dX4_best_35 : decode cX4_best 35 = .ok (.iload 5, 2) := by decide +kernel
theorem dX4_best_37 : decode cX4_best 37 = .ok (.iaload, 1) := by decide +kernel
theorem dX4_best_38 : decode cX4_best 38 = .ok (.aload_n 0, 1) := by decide +kernel
theorem dX4_best_39 : decode cX4_best 39 = .ok (.getfield 13, 3) := by decide +kernel
theorem dX4_best_42 : decode cX4_best 42 = .ok (.iload_n 1, 1) := by decide +kernel
theorem dX4_best_43 : decode cX4_best 43 = .ok (.iaload, 1) := by decide +kernel
theorem dX4_best_44 : decode cX4_best 44 = .ok (.if_icmp .ne 25, 3) := by decide +kernel
theorem dX4_best_47 : decode cX4_best 47 = .ok (.aload_n 0, 1) := by decide +kernel
theorem dX4_best_48 : decode cX4_best 48 = .ok (.iload 5, 2) := by decide +kernel
theorem dX4_best_50 : decode cX4_best 50 = .ok (.invokevirtual 56, 3) := by decide +kernel
theorem dX4_best_53 : decode cX4_best 53 = .ok (.aload_n 0, 1) := by decide +kernel
theorem dX4_best_54 : decode cX4_best 54 = .ok (.getfield 16, 3) := by decide +kernel
theorem dX4_best_57 : decode cX4_best 57 = .ok (.iload_n 1, 1) := by decide +kernel
theorem dX4_best_58 : decode cX4_best 58 = .ok (.iaload, 1) := by decide +kernel
theorem dX4_best_59 : decode cX4_best 59 = .ok (.iadd, 1) := by decide +kernel
theorem dX4_best_60 : decode cX4_best 60 = .ok (.bipush 100, 2) := by decide +kernel
theorem dX4_best_62 : decode cX4_best 62 = .ok (.if_icmp .gt 7, 3) := by decide +kernel
theorem dX4_best_65 : decode cX4_best 65 = .ok (.iconst 1, 1) := by decide +kernel
theorem dX4_best_66 : decode cX4_best 66 = .ok (.goto 4, 3) := by decide +kernel
theorem dX4_best_69 : decode cX4_best 69 = .ok (.iconst 0, 1) := by decide +kernel
theorem dX4_best_70 : decode cX4_best 70 = .ok (.istore 6, 2) := by decide +kernel
theorem dX4_best_72 : decode cX4_best 72 = .ok (.iload 6, 2) := by decide +kernel
theorem dX4_best_74 : decode cX4_best 74 = .ok (.ifCond .eq 40, 3) := by decide +kernel
theorem dX4_best_77 : decode cX4_best 77 = .ok (.iload_n 2, 1) := by decide +kernel
theorem dX4_best_78 : decode cX4_best 78 = .ok (.iconst (-1), 1) := by decide +kernel
theorem dX4_best_79 : decode cX4_best 79 = .ok (.if_icmp .eq 19, 3) := by decide +kernel
theorem dX4_best_82 : decode cX4_best 82 = .ok (.aload_n 0, 1) := by decide +kernel
theorem dX4_best_83 : decode cX4_best 83 = .ok (.iload 5, 2) := by decide +kernel
theorem dX4_best_85 : decode cX4_best 85 = .ok (.aload_n 0, 1) := by decide +kernel
theorem dX4_best_86 : decode cX4_best 86 = .ok (.getfield 19, 3) := by decide +kernel
theorem dX4_best_89 : decode cX4_best 89 = .ok (.iload_n 1, 1) := by decide +kernel
theorem dX4_best_90 : decode cX4_best 90 = .ok (.iaload, 1) := by decide +kernel
theorem dX4_best_91 : decode cX4_best 91 = .ok (.invokevirtual 60, 3) := by decide +kernel
theorem dX4_best_94 : decode cX4_best 94 = .ok (.iload_n 3, 1) := by decide +kernel
theorem dX4_best_95 : decode cX4_best 95 = .ok (.if_icmp .le 19, 3) := by decide +kernel
theorem dX4_best_98 : decode cX4_best 98 = .ok (.iload 4, 2) := by decide +kernel
theorem dX4_best_100 : decode cX4_best 100 = .ok (.istore_n 2, 1) := by decide +kernel
theorem dX4_best_101 : decode cX4_best 101 = .ok (.aload_n 0, 1) := by decide +kernel
theorem dX4_best_102 : decode cX4_best 102 = .ok (.iload 5, 2) := by decide +kernel
theorem dX4_best_104 : decode cX4_best 104 = .ok (.aload_n 0, 1) := by decide +kernel
theorem dX4_best_105 : decode cX4_best 105 = .ok (.getfield 19, 3) := by decide +kernel
theorem dX4_best_108 : decode cX4_best 108 = .ok (.iload_n 1, 1) := by decide +kernel
theorem dX4_best_109 : decode cX4_best 109 = .ok (.iaload, 1) := by decide +kernel
theorem dX4_best_110 : decode cX4_best 110 = .ok (.invokevirtual 60, 3) := by decide +kernel
theorem dX4_best_113 : decode cX4_best 113 = .ok (.istore_n 3, 1) := by decide +kernel
theorem dX4_best_114 : decode cX4_best 114 = .ok (.iinc 4 1, 3) := by decide +kernel
theorem dX4_best_117 : decode cX4_best 117 = .ok (.goto (-110), 3) := by decide +kernel
theorem dX4_best_120 : decode cX4_best 120 = .ok (.iload_n 2, 1) := by decide +kernel
theorem dX4_best_121 : decode cX4_best 121 = .ok (.ireturn, 1) := by decide +kernel
set_option maxRecDepth 20000 in
theorem ggX4_bestSpot_X4_isBox : GoodIn wsX4_bestSpot wsX4_isBox := goodIn_r _ [6, 7, 8, 9, 5, 10, 35, 36, 37, 38, 39, 40, 41, 42, 43, 44, 45, 46, 47, 48, 49, 50, 51, 52, 53] (by decide +kernel) (by decide +kernel)
set_option maxRecDepth 20000 in
theorem gX4_bestSpot_X4_isBox : GoodIn wsX4_bestSpot (wsV RX4 64 RX4 yX4_isBox wsX4_isBox) := goodIn_app (goodIn_of _ (by decide +kernel)) ggX4_bestSpot_X4_isBox
set_option maxRecDepth 20000 in
theorem ggX4_bestSpot_X4_spot : GoodIn wsX4_bestSpot wsX4_spot := goodIn_r _ [14, 15, 35, 36, 37, 38, 39, 40, 41, 42, 43, 44, 45, 46, 47, 48, 49, 50, 51, 52, 53] (by decide +kernel) (by decide +kernel)
set_option maxRecDepth 20000 in
theorem gX4_bestSpot_X4_spot : GoodIn wsX4_bestSpot (wsV RX4 67 RX4 yX4_spot wsX4_spot) := goodIn_app (goodIn_of _ (by decide +kernel)) ggX4_bestSpot_X4_spot
set_option maxRecDepth 20000 in
theorem ggX4_bestSpot_X4_best : GoodIn wsX4_bestSpot wsX4_best := goodIn_r _ [19, 15, 20, 21, 22, 23, 24, 25, 26, 5, 27, 28, 29, 30, 31, 35, 36, 37, 38, 39, 40, 41, 42, 43, 44, 45, 46, 47, 48, 49, 50, 51, 52, 53] (by decide +kernel) (by decide +kernel)
set_option maxRecDepth 20000 in
theorem gX4_bestSpot_X4_best : GoodIn wsX4_bestSpot (wsV RX4 70 RX4 yX4_best wsX4_best) := goodIn_app (goodIn_of _ (by decide +kernel)) ggX4_bestSpot_X4_best
set_option maxRecDepth 20000 in
theorem ggX4_bestSpot_X4_told : GoodIn wsX4_bestSpot wsX4_told := goodIn_r _ [34] (by decide +kernel) (by decide +kernel)
set_option maxRecDepth 20000 in
theorem gX4_bestSpot_X4_told : GoodIn wsX4_bestSpot (va_wsS RX4 73 yX4_told wsX4_told) := goodIn_app (goodIn_of _ (by decide +kernel)) ggX4_bestSpot_X4_told
theorem dX4_bestSpot_0 : decode cX4_bestSpot 0 = .ok (.aload_n 0, 1) := by decide +kernel
theorem dX4_bestSpot_1 : decode cX4_bestSpot 1 = .ok (.aload_n 0, 1) := by decide +kernel
theorem dX4_bestSpot_2 : decode cX4_bestSpot 2 = .ok (.iload_n 1, 1) := by decide +kernel
theorem dX4_bestSpot_3 : decode cX4_bestSpot 3 = .ok (.invokevirtual 64, 3) := by decide +kernel
theorem dX4_bestSpot_6 : decode cX4_bestSpot 6 = .ok (.ifCond .ne 7, 3) := by decide +kernel
theorem dX4_bestSpot_9 : decode cX4_bestSpot 9 = .ok (.iconst 1, 1) := by decide +kernel
theorem dX4_bestSpot_10 : decode cX4_bestSpot 10 = .ok (.goto 17, 3) := by decide +kernel
theorem dX4_bestSpot_13 : decode cX4_bestSpot 13 = .ok (.aload_n 0, 1) := by decide +kernel
theorem dX4_bestSpot_14 : decode cX4_bestSpot 14 = .ok (.iload_n 1, 1) := by decide +kernel
theorem dX4_bestSpot_15 : decode cX4_bestSpot 15 = .ok (.invokevirtual 67, 3) := by decide +kernel
theorem dX4_bestSpot_18 : decode cX4_bestSpot 18 = .ok (.iconst (-1), 1) := by decide +kernel
theorem dX4_bestSpot_19 : decode cX4_bestSpot 19 = .ok (.if_icmp .eq 7, 3) := by decide +kernel
theorem dX4_bestSpot_22 : decode cX4_bestSpot 22 = .ok (.iconst 2, 1) := by decide +kernel
theorem dX4_bestSpot_23 : decode cX4_bestSpot 23 = .ok (.goto 4, 3) := by decide +kernel
theorem dX4_bestSpot_26 : decode cX4_bestSpot 26 = .ok (.iconst 0, 1) := by decide +kernel
theorem dX4_bestSpot_27 : decode cX4_bestSpot 27 = .ok (.putfield 41, 3) := by decide +kernel
theorem dX4_bestSpot_30 : decode cX4_bestSpot 30 = .ok (.aload_n 0, 1) := by decide +kernel
theorem dX4_bestSpot_31 : decode cX4_bestSpot 31 = .ok (.getfield 41, 3) := by decide +kernel
theorem dX4_bestSpot_34 : decode cX4_bestSpot 34 = .ok (.ifCond .le 5, 3) := by decide +kernel
theorem dX4_bestSpot_37 : decode cX4_bestSpot 37 = .ok (.iconst 0, 1) := by decide +kernel
theorem dX4_bestSpot_38 : decode cX4_bestSpot 38 = .ok (.ireturn, 1) := by decide +kernel
theorem dX4_bestSpot_39 : decode cX4_bestSpot 39 = .ok (.aload_n 0, 1) := by decide +kernel
theorem dX4_bestSpot_40 : decode cX4_bestSpot 40 = .ok (.iload_n 1, 1) := by decide +kernel
theorem dX4_bestSpot_41 : decode cX4_bestSpot 41 = .ok (.invokevirtual 70, 3) := by decide +kernel
theorem dX4_bestSpot_44 : decode cX4_bestSpot 44 = .ok (.istore_n 2, 1) := by decide +kernel
theorem dX4_bestSpot_45 : decode cX4_bestSpot 45 = .ok (.iload_n 2, 1) := by decide +kernel
theorem dX4_bestSpot_46 : decode cX4_bestSpot 46 = .ok (.iconst (-1), 1) := by decide +kernel
theorem dX4_bestSpot_47 : decode cX4_bestSpot 47 = .ok (.if_icmp .ne 7, 3) := by decide +kernel
theorem dX4_bestSpot_50 : decode cX4_bestSpot 50 = .ok (.iconst (-1), 1) := by decide +kernel
theorem dX4_bestSpot_51 : decode cX4_bestSpot 51 = .ok (.goto 7, 3) := by decide +kernel
theorem dX4_bestSpot_54 : decode cX4_bestSpot 54 = .ok (.iload_n 2, 1) := by decide +kernel
theorem dX4_bestSpot_55 : decode cX4_bestSpot 55 = .ok (.invokestatic 73, 3) := by decide +kernel
theorem dX4_bestSpot_58 : decode cX4_bestSpot 58 = .ok (.ireturn, 1) := by decide +kernel
set_option maxRecDepth 20000 in
theorem ggX4_lay_X4_isBox : GoodIn wsX4_lay wsX4_isBox := goodIn_r _ [7, 8, 9, 10, 6, 11, 35, 36, 37, 38, 39, 40, 41, 42, 43, 44, 45, 46, 47, 48, 49, 50, 51, 52, 53] (by decide +kernel) (by decide +kernel)
set_option maxRecDepth 20000 in
theorem gX4_lay_X4_isBox : GoodIn wsX4_lay (wsV RX4 64 RX4 yX4_isBox wsX4_isBox) := goodIn_app (goodIn_of _ (by decide +kernel)) ggX4_lay_X4_isBox
set_option maxRecDepth 20000 in
theorem ggX4_lay_X4_spot : GoodIn wsX4_lay wsX4_spot := goodIn_r _ [15, 2, 35, 36, 37, 38, 39, 40, 41, 42, 43, 44, 45, 46, 47, 48, 49, 50, 51, 52, 53] (by decide +kernel) (by decide +kernel)
set_option maxRecDepth 20000 in
theorem gX4_lay_X4_spot : GoodIn wsX4_lay (wsV RX4 67 RX4 yX4_spot wsX4_spot) := goodIn_app (goodIn_of _ (by decide +kernel)) ggX4_lay_X4_spot
set_option maxRecDepth 20000 in
theorem ggX4_lay_X4_best : GoodIn wsX4_lay wsX4_best := goodIn_r _ [19, 2, 20, 21, 22, 23, 24, 25, 26, 6, 27, 28, 29, 30, 31, 35, 36, 37, 38, 39, 40, 41, 42, 43, 44, 45, 46, 47, 48, 49, 50, 51, 52, 53] (by decide +kernel) (by decide +kernel)
set_option maxRecDepth 20000 in
theorem gX4_lay_X4_best : GoodIn wsX4_lay (wsV RX4 70 RX4 yX4_best wsX4_best) := goodIn_app (goodIn_of _ (by decide +kernel)) ggX4_lay_X4_best
set_option maxRecDepth 20000 in
theorem ggX4_lay_X4_told : GoodIn wsX4_lay wsX4_told := goodIn_r _ [34] (by decide +kernel) (by decide +kernel)
set_option maxRecDepth 20000 in
theorem gX4_lay_X4_told : GoodIn wsX4_lay (va_wsS RX4 73 yX4_told wsX4_told) := goodIn_app (goodIn_of _ (by decide +kernel)) ggX4_lay_X4_told
theorem dX4_lay_0 : decode cX4_lay 0 = .ok (.aload_n 0, 1) := by decide +kernel
theorem dX4_lay_1 : decode cX4_lay 1 = .ok (.aload_n 0, 1) := by decide +kernel
theorem dX4_lay_2 : decode cX4_lay 2 = .ok (.iload_n 1, 1) := by decide +kernel
theorem dX4_lay_3 : decode cX4_lay 3 = .ok (.invokevirtual 64, 3) := by decide +kernel
theorem dX4_lay_6 : decode cX4_lay 6 = .ok (.ifCond .ne 7, 3) := by decide +kernel
theorem dX4_lay_9 : decode cX4_lay 9 = .ok (.iconst 1, 1) := by decide +kernel
theorem dX4_lay_10 : decode cX4_lay 10 = .ok (.goto 26, 3) := by decide +kernel
theorem dX4_lay_13 : decode cX4_lay 13 = .ok (.aload_n 0, 1) := by decide +kernel
theorem dX4_lay_14 : decode cX4_lay 14 = .ok (.iload_n 1, 1) := by decide +kernel
theorem dX4_lay_15 : decode cX4_lay 15 = .ok (.invokevirtual 67, 3) := by decide +kernel
theorem dX4_lay_18 : decode cX4_lay 18 = .ok (.iconst (-1), 1) := by decide +kernel
theorem dX4_lay_19 : decode cX4_lay 19 = .ok (.if_icmp .ne 12, 3) := by decide +kernel
theorem dX4_lay_22 : decode cX4_lay 22 = .ok (.aload_n 0, 1) := by decide +kernel
theorem dX4_lay_23 : decode cX4_lay 23 = .ok (.iload_n 1, 1) := by decide +kernel
theorem dX4_lay_24 : decode cX4_lay 24 = .ok (.invokevirtual 70, 3) := by decide +kernel
theorem dX4_lay_27 : decode cX4_lay 27 = .ok (.iconst (-1), 1) := by decide +kernel
theorem dX4_lay_28 : decode cX4_lay 28 = .ok (.if_icmp .ne 7, 3) := by decide +kernel
theorem dX4_lay_31 : decode cX4_lay 31 = .ok (.iconst 2, 1) := by decide +kernel
theorem dX4_lay_32 : decode cX4_lay 32 = .ok (.goto 4, 3) := by decide +kernel
theorem dX4_lay_35 : decode cX4_lay 35 = .ok (.iconst 0, 1) := by decide +kernel
theorem dX4_lay_36 : decode cX4_lay 36 = .ok (.putfield 41, 3) := by decide +kernel
theorem dX4_lay_39 : decode cX4_lay 39 = .ok (.aload_n 0, 1) := by decide +kernel
theorem dX4_lay_40 : decode cX4_lay 40 = .ok (.getfield 41, 3) := by decide +kernel
theorem dX4_lay_43 : decode cX4_lay 43 = .ok (.ifCond .le 5, 3) := by decide +kernel
theorem dX4_lay_46 : decode cX4_lay 46 = .ok (.iconst 0, 1) := by decide +kernel
theorem dX4_lay_47 : decode cX4_lay 47 = .ok (.ireturn, 1) := by decide +kernel
theorem dX4_lay_48 : decode cX4_lay 48 = .ok (.aload_n 0, 1) := by decide +kernel
theorem dX4_lay_49 : decode cX4_lay 49 = .ok (.iload_n 1, 1) := by decide +kernel
theorem dX4_lay_50 : decode cX4_lay 50 = .ok (.invokevirtual 70, 3) := by decide +kernel
theorem dX4_lay_53 : decode cX4_lay 53 = .ok (.istore_n 2, 1) := by decide +kernel
theorem dX4_lay_54 : decode cX4_lay 54 = .ok (.aload_n 0, 1) := by decide +kernel
theorem dX4_lay_55 : decode cX4_lay 55 = .ok (.getfield 22, 3) := by decide +kernel
theorem dX4_lay_58 : decode cX4_lay 58 = .ok (.iload_n 2, 1) := by decide +kernel
theorem dX4_lay_59 : decode cX4_lay 59 = .ok (.iload_n 1, 1) := by decide +kernel
theorem dX4_lay_60 : decode cX4_lay 60 = .ok (.iconst 1, 1) := by decide +kernel
theorem dX4_lay_61 : decode cX4_lay 61 = .ok (.iadd, 1) := by decide +kernel
theorem dX4_lay_62 : decode cX4_lay 62 = .ok (.iastore, 1) := by decide +kernel
theorem dX4_lay_63 : decode cX4_lay 63 = .ok (.iload_n 2, 1) := by decide +kernel
theorem dX4_lay_64 : decode cX4_lay 64 = .ok (.invokestatic 73, 3) := by decide +kernel
theorem dX4_lay_67 : decode cX4_lay 67 = .ok (.ireturn, 1) := by decide +kernel
set_option maxRecDepth 20000 in
theorem ggX4_spotOf_X4_isBox : GoodIn wsX4_spotOf wsX4_isBox := goodIn_r _ [6, 7, 8, 9, 5, 10, 19, 20, 21, 22, 23, 24, 25, 26, 27, 28, 29, 30, 31, 32, 33, 34, 35, 36, 37] (by decide +kernel) (by decide +kernel)
set_option maxRecDepth 20000 in
theorem gX4_spotOf_X4_isBox : GoodIn wsX4_spotOf (wsV RX4 64 RX4 yX4_isBox wsX4_isBox) := goodIn_app (goodIn_of _ (by decide +kernel)) ggX4_spotOf_X4_isBox
set_option maxRecDepth 20000 in
theorem ggX4_spotOf_X4_spot : GoodIn wsX4_spotOf wsX4_spot := goodIn_r _ [14, 15, 19, 20, 21, 22, 23, 24, 25, 26, 27, 28, 29, 30, 31, 32, 33, 34, 35, 36, 37] (by decide +kernel) (by decide +kernel)
set_option maxRecDepth 20000 in
theorem gX4_spotOf_X4_spot : GoodIn wsX4_spotOf (wsV RX4 67 RX4 yX4_spot wsX4_spot) := goodIn_app (goodIn_of _ (by decide +kernel)) ggX4_spotOf_X4_spot
set_option maxRecDepth 20000 in
theorem ggX4_spotOf_X4_told : GoodIn wsX4_spotOf wsX4_told := goodIn_r _ [18] (by decide +kernel) (by decide +kernel)
set_option maxRecDepth 20000 in
theorem gX4_spotOf_X4_told : GoodIn wsX4_spotOf (va_wsS RX4 73 yX4_told wsX4_told) := goodIn_app (goodIn_of _ (by decide +kernel)) ggX4_spotOf_X4_told
theorem dX4_spotOf_0 : decode cX4_spotOf 0 = .ok (.aload_n 0, 1) := by decide +kernel
theorem dX4_spotOf_1 : decode cX4_spotOf 1 = .ok (.aload_n 0, 1) := by decide +kernel
theorem dX4_spotOf_2 : decode cX4_spotOf 2 = .ok (.iload_n 1, 1) := by decide +kernel
theorem dX4_spotOf_3 : decode cX4_spotOf 3 = .ok (.invokevirtual 64, 3) := by decide +kernel
theorem dX4_spotOf_6 : decode cX4_spotOf 6 = .ok (.ifCond .eq 7, 3) := by decide +kernel
theorem dX4_spotOf_9 : decode cX4_spotOf 9 = .ok (.iconst 0, 1) := by decide +kernel
theorem dX4_spotOf_10 : decode cX4_spotOf 10 = .ok (.goto 4, 3) := by decide +kernel
theorem dX4_spotOf_13 : decode cX4_spotOf 13 = .ok (.iconst 1, 1) := by decide +kernel
theorem dX4_spotOf_14 : decode cX4_spotOf 14 = .ok (.putfield 41, 3) := by decide +kernel
theorem dX4_spotOf_17 : decode cX4_spotOf 17 = .ok (.aload_n 0, 1) := by decide +kernel
theorem dX4_spotOf_18 : decode cX4_spotOf 18 = .ok (.getfield 41, 3) := by decide +kernel
theorem dX4_spotOf_21 : decode cX4_spotOf 21 = .ok (.ifCond .le 5, 3) := by decide +kernel
theorem dX4_spotOf_24 : decode cX4_spotOf 24 = .ok (.iconst 0, 1) := by decide +kernel
theorem dX4_spotOf_25 : decode cX4_spotOf 25 = .ok (.ireturn, 1) := by decide +kernel
theorem dX4_spotOf_26 : decode cX4_spotOf 26 = .ok (.aload_n 0, 1) := by decide +kernel
theorem dX4_spotOf_27 : decode cX4_spotOf 27 = .ok (.iload_n 1, 1) := by decide +kernel
theorem dX4_spotOf_28 : decode cX4_spotOf 28 = .ok (.invokevirtual 67, 3) := by decide +kernel
theorem dX4_spotOf_31 : decode cX4_spotOf 31 = .ok (.iconst (-1), 1) := by decide +kernel
theorem dX4_spotOf_32 : decode cX4_spotOf 32 = .ok (.if_icmp .ne 7, 3) := by decide +kernel
theorem dX4_spotOf_35 : decode cX4_spotOf 35 = .ok (.iconst (-1), 1) := by decide +kernel
theorem dX4_spotOf_36 : decode cX4_spotOf 36 = .ok (.goto 11, 3) := by decide +kernel
theorem dX4_spotOf_39 : decode cX4_spotOf 39 = .ok (.aload_n 0, 1) := by decide +kernel
theorem dX4_spotOf_40 : decode cX4_spotOf 40 = .ok (.iload_n 1, 1) := by decide +kernel
theorem dX4_spotOf_41 : decode cX4_spotOf 41 = .ok (.invokevirtual 67, 3) := by decide +kernel
theorem dX4_spotOf_44 : decode cX4_spotOf 44 = .ok (.invokestatic 73, 3) := by decide +kernel
theorem dX4_spotOf_47 : decode cX4_spotOf 47 = .ok (.ireturn, 1) := by decide +kernel
set_option maxRecDepth 20000 in
theorem ggX4_boxAt_X4_row : GoodIn wsX4_boxAt wsX4_row := goodIn_r _ [6, 7, 8, 5, 9] (by decide +kernel) (by decide +kernel)
set_option maxRecDepth 20000 in
theorem gX4_boxAt_X4_row : GoodIn wsX4_boxAt (va_wsS RX4 76 yX4_row wsX4_row) := goodIn_app (goodIn_of _ (by decide +kernel)) ggX4_boxAt_X4_row
set_option maxRecDepth 20000 in
theorem ggX4_boxAt_X4_fails : GoodIn wsX4_boxAt wsX4_fails := goodIn_r _ [13, 1, 14, 15, 16, 17, 18, 19, 20, 21, 22, 23, 24, 25, 26, 27, 28, 29, 30, 31, 32] (by decide +kernel) (by decide +kernel)
set_option maxRecDepth 20000 in
theorem gX4_boxAt_X4_fails : GoodIn wsX4_boxAt (wsV RX4 79 RX4 yX4_fails wsX4_fails) := goodIn_app (goodIn_of _ (by decide +kernel)) ggX4_boxAt_X4_fails
theorem dX4_boxAt_0 : decode cX4_boxAt 0 = .ok (.aload_n 0, 1) := by decide +kernel
theorem dX4_boxAt_1 : decode cX4_boxAt 1 = .ok (.iconst 0, 1) := by decide +kernel
theorem dX4_boxAt_2 : decode cX4_boxAt 2 = .ok (.putfield 41, 3) := by decide +kernel
theorem dX4_boxAt_5 : decode cX4_boxAt 5 = .ok (.iload_n 1, 1) := by decide +kernel
theorem dX4_boxAt_6 : decode cX4_boxAt 6 = .ok (.invokestatic 76, 3) := by decide +kernel
theorem dX4_boxAt_9 : decode cX4_boxAt 9 = .ok (.iconst (-1), 1) := by decide +kernel
theorem dX4_boxAt_10 : decode cX4_boxAt 10 = .ok (.if_icmp .ne 11, 3) := by decide +kernel
theorem dX4_boxAt_13 : decode cX4_boxAt 13 = .ok (.aload_n 0, 1) := by decide +kernel
theorem dX4_boxAt_14 : decode cX4_boxAt 14 = .ok (.iconst 1, 1) := by decide +kernel
theorem dX4_boxAt_15 : decode cX4_boxAt 15 = .ok (.invokevirtual 79, 3) := by decide +kernel
theorem dX4_boxAt_18 : decode cX4_boxAt 18 = .ok (.goto 14, 3) := by decide +kernel
theorem dX4_boxAt_21 : decode cX4_boxAt 21 = .ok (.aload_n 0, 1) := by decide +kernel
theorem dX4_boxAt_22 : decode cX4_boxAt 22 = .ok (.getfield 22, 3) := by decide +kernel
theorem dX4_boxAt_25 : decode cX4_boxAt 25 = .ok (.iload_n 1, 1) := by decide +kernel
theorem dX4_boxAt_26 : decode cX4_boxAt 26 = .ok (.invokestatic 76, 3) := by decide +kernel
theorem dX4_boxAt_29 : decode cX4_boxAt 29 = .ok (.iaload, 1) := by decide +kernel
theorem dX4_boxAt_30 : decode cX4_boxAt 30 = .ok (.iconst 1, 1) := by decide +kernel
theorem dX4_boxAt_31 : decode cX4_boxAt 31 = .ok (.isub, 1) := by decide +kernel
theorem dX4_boxAt_32 : decode cX4_boxAt 32 = .ok (.ireturn, 1) := by decide +kernel
set_option maxRecDepth 20000 in
theorem ggX4_weight_X4_isShelf : GoodIn wsX4_weight wsX4_isShelf := goodIn_r _ [5, 6, 7, 4, 8] (by decide +kernel) (by decide +kernel)
set_option maxRecDepth 20000 in
theorem gX4_weight_X4_isShelf : GoodIn wsX4_weight (va_wsS RX4 52 yX4_isShelf wsX4_isShelf) := goodIn_app (goodIn_of _ (by decide +kernel)) ggX4_weight_X4_isShelf
set_option maxRecDepth 20000 in
theorem ggX4_weight_X4_weighs : GoodIn wsX4_weight wsX4_weighs := goodIn_r _ [12, 13, 14, 19, 20, 21, 22, 23, 24, 25, 26, 27, 28, 29, 30, 31, 32, 33, 34, 35, 36, 37] (by decide +kernel) (by decide +kernel)
set_option maxRecDepth 20000 in
theorem gX4_weight_X4_weighs : GoodIn wsX4_weight (wsV RX4 56 RX4 yX4_weighs wsX4_weighs) := goodIn_app (goodIn_of _ (by decide +kernel)) ggX4_weight_X4_weighs
set_option maxRecDepth 20000 in
theorem ggX4_weight_X4_fails : GoodIn wsX4_weight wsX4_fails := goodIn_r _ [18, 1, 19, 20, 21, 22, 23, 24, 25, 26, 27, 28, 29, 30, 31, 32, 33, 34, 35, 36, 37] (by decide +kernel) (by decide +kernel)
set_option maxRecDepth 20000 in
theorem gX4_weight_X4_fails : GoodIn wsX4_weight (wsV RX4 79 RX4 yX4_fails wsX4_fails) := goodIn_app (goodIn_of _ (by decide +kernel)) ggX4_weight_X4_fails
theorem dX4_weight_0 : decode cX4_weight 0 = .ok (.aload_n 0, 1) := by decide +kernel
theorem dX4_weight_1 : decode cX4_weight 1 = .ok (.iconst 0, 1) := by decide +kernel
theorem dX4_weight_2 : decode cX4_weight 2 = .ok (.putfield 41, 3) := by decide +kernel
theorem dX4_weight_5 : decode cX4_weight 5 = .ok (.iload_n 1, 1) := by decide +kernel
theorem dX4_weight_6 : decode cX4_weight 6 = .ok (.invokestatic 52, 3) := by decide +kernel
theorem dX4_weight_9 : decode cX4_weight 9 = .ok (.ifCond .eq 11, 3) := by decide +kernel
theorem dX4_weight_12 : decode cX4_weight 12 = .ok (.aload_n 0, 1) := by decide +kernel
theorem dX4_weight_13 : decode cX4_weight 13 = .ok (.iload_n 1, 1) := by decide +kernel
theorem dX4_weight_14 : decode cX4_weight 14 = .ok (.invokevirtual 56, 3) := by decide +kernel
theorem dX4_weight_17 : decode cX4_weight 17 = .ok (.goto 8, 3) := by decide +kernel
theorem dX4_weight_20 : decode cX4_weight 20 = .ok (.aload_n 0, 1) := by decide +kernel
theorem dX4_weight_21 : decode cX4_weight 21 = .ok (.iconst 1, 1) := by decide +kernel
theorem dX4_weight_22 : decode cX4_weight 22 = .ok (.invokevirtual 79, 3) := by decide +kernel
theorem dX4_weight_25 : decode cX4_weight 25 = .ok (.ireturn, 1) := by decide +kernel
theorem dX4_wrong_0 : decode cX4_wrong 0 = .ok (.aload_n 0, 1) := by decide +kernel
theorem dX4_wrong_1 : decode cX4_wrong 1 = .ok (.iconst 0, 1) := by decide +kernel
theorem dX4_wrong_2 : decode cX4_wrong 2 = .ok (.putfield 41, 3) := by decide +kernel
theorem dX4_wrong_5 : decode cX4_wrong 5 = .ok (.iconst 0, 1) := by decide +kernel
theorem dX4_wrong_6 : decode cX4_wrong 6 = .ok (.istore_n 1, 1) := by decide +kernel
theorem dX4_wrong_7 : decode cX4_wrong 7 = .ok (.iconst 0, 1) := by decide +kernel
theorem dX4_wrong_8 : decode cX4_wrong 8 = .ok (.istore_n 2, 1) := by decide +kernel
theorem dX4_wrong_9 : decode cX4_wrong 9 = .ok (.iload_n 2, 1) := by decide +kernel
theorem dX4_wrong_10 : decode cX4_wrong 10 = .ok (.bipush 36, 2) := by decide +kernel
theorem dX4_wrong_12 : decode cX4_wrong 12 = .ok (.if_icmp .ge 51, 3) := by decide +kernel
theorem dX4_wrong_15 : decode cX4_wrong 15 = .ok (.iload_n 1, 1) := by decide +kernel
theorem dX4_wrong_16 : decode cX4_wrong 16 = .ok (.aload_n 0, 1) := by decide +kernel
theorem dX4_wrong_17 : decode cX4_wrong 17 = .ok (.getfield 22, 3) := by decide +kernel
theorem dX4_wrong_20 : decode cX4_wrong 20 = .ok (.iload_n 2, 1) := by decide +kernel
theorem dX4_wrong_21 : decode cX4_wrong 21 = .ok (.iaload, 1) := by decide +kernel
theorem dX4_wrong_22 : decode cX4_wrong 22 = .ok (.ifCond .le 32, 3) := by decide +kernel
theorem dX4_wrong_25 : decode cX4_wrong 25 = .ok (.aload_n 0, 1) := by decide +kernel
theorem dX4_wrong_26 : decode cX4_wrong 26 = .ok (.getfield 13, 3) := by decide +kernel
theorem dX4_wrong_29 : decode cX4_wrong 29 = .ok (.aload_n 0, 1) := by decide +kernel
theorem dX4_wrong_30 : decode cX4_wrong 30 = .ok (.getfield 22, 3) := by decide +kernel
theorem dX4_wrong_33 : decode cX4_wrong 33 = .ok (.iload_n 2, 1) := by decide +kernel
theorem dX4_wrong_34 : decode cX4_wrong 34 = .ok (.iaload, 1) := by decide +kernel
theorem dX4_wrong_35 : decode cX4_wrong 35 = .ok (.iconst 1, 1) := by decide +kernel
theorem dX4_wrong_36 : decode cX4_wrong 36 = .ok (.isub, 1) := by decide +kernel
theorem dX4_wrong_37 : decode cX4_wrong 37 = .ok (.iaload, 1) := by decide +kernel
theorem dX4_wrong_38 : decode cX4_wrong 38 = .ok (.aload_n 0, 1) := by decide +kernel
theorem dX4_wrong_39 : decode cX4_wrong 39 = .ok (.getfield 7, 3) := by decide +kernel
theorem dX4_wrong_42 : decode cX4_wrong 42 = .ok (.iload_n 2, 1) := by decide +kernel
theorem dX4_wrong_43 : decode cX4_wrong 43 = .ok (.bipush 6, 2) := by decide +kernel
theorem dX4_wrong_45 : decode cX4_wrong 45 = .ok (.idiv, 1) := by decide +kernel
theorem dX4_wrong_46 : decode cX4_wrong 46 = .ok (.iaload, 1) := by decide +kernel
theorem dX4_wrong_47 : decode cX4_wrong 47 = .ok (.if_icmp .eq 7, 3) := by decide +kernel
theorem dX4_wrong_50 : decode cX4_wrong 50 = .ok (.iconst 1, 1) := by decide +kernel
theorem dX4_wrong_51 : decode cX4_wrong 51 = .ok (.goto 4, 3) := by decide +kernel
theorem dX4_wrong_54 : decode cX4_wrong 54 = .ok (.iconst 0, 1) := by decide +kernel
theorem dX4_wrong_55 : decode cX4_wrong 55 = .ok (.iadd, 1) := by decide +kernel
theorem dX4_wrong_56 : decode cX4_wrong 56 = .ok (.istore_n 1, 1) := by decide +kernel
theorem dX4_wrong_57 : decode cX4_wrong 57 = .ok (.iinc 2 1, 3) := by decide +kernel
theorem dX4_wrong_60 : decode cX4_wrong 60 = .ok (.goto (-51), 3) := by decide +kernel
theorem dX4_wrong_63 : decode cX4_wrong 63 = .ok (.iload_n 1, 1) := by decide +kernel
theorem dX4_wrong_64 : decode cX4_wrong 64 = .ok (.ireturn, 1) := by decide +kernel
theorem dX4_inside_0 : decode cX4_inside 0 = .ok (.iconst 0, 1) := by decide +kernel
theorem dX4_inside_1 : decode cX4_inside 1 = .ok (.istore_n 1, 1) := by decide +kernel
theorem dX4_inside_2 : decode cX4_inside 2 = .ok (.iconst 0, 1) := by decide +kernel
theorem dX4_inside_3 : decode cX4_inside 3 = .ok (.istore_n 2, 1) := by decide +kernel
theorem dX4_inside_4 : decode cX4_inside 4 = .ok (.iload_n 2, 1) := by decide +kernel
theorem dX4_inside_5 : decode cX4_inside 5 = .ok (.iconst 4, 1) := by decide +kernel
theorem dX4_inside_6 : decode cX4_inside 6 = .ok (.if_icmp .ge 26, 3) := by decide +kernel
theorem dX4_inside_9 : decode cX4_inside 9 = .ok (.iload_n 1, 1) := by decide +kernel
theorem dX4_inside_10 : decode cX4_inside 10 = .ok (.aload_n 0, 1) := by decide +kernel
theorem dX4_inside_11 : decode cX4_inside 11 = .ok (.getfield 29, 3) := by decide +kernel
theorem dX4_inside_14 : decode cX4_inside 14 = .ok (.iload_n 2, 1) := by decide +kernel
theorem dX4_inside_15 : decode cX4_inside 15 = .ok (.baload, 1) := by decide +kernel
theorem dX4_inside_16 : decode cX4_inside 16 = .ok (.ifCond .eq 7, 3) := by decide +kernel
theorem dX4_inside_19 : decode cX4_inside 19 = .ok (.iconst 1, 1) := by decide +kernel
theorem dX4_inside_20 : decode cX4_inside 20 = .ok (.goto 4, 3) := by decide +kernel
theorem dX4_inside_23 : decode cX4_inside 23 = .ok (.iconst 0, 1) := by decide +kernel
theorem dX4_inside_24 : decode cX4_inside 24 = .ok (.iadd, 1) := by decide +kernel
theorem dX4_inside_25 : decode cX4_inside 25 = .ok (.istore_n 1, 1) := by decide +kernel
theorem dX4_inside_26 : decode cX4_inside 26 = .ok (.iinc 2 1, 3) := by decide +kernel
theorem dX4_inside_29 : decode cX4_inside 29 = .ok (.goto (-25), 3) := by decide +kernel
theorem dX4_inside_32 : decode cX4_inside 32 = .ok (.iload_n 1, 1) := by decide +kernel
theorem dX4_inside_33 : decode cX4_inside 33 = .ok (.ireturn, 1) := by decide +kernel
set_option maxRecDepth 20000 in
theorem ggX4_open_X4_inside : GoodIn wsX4_open wsX4_inside := goodIn_r _ [11, 12, 16, 17, 18, 19, 20, 21, 22, 23, 24, 25, 26, 27, 28, 29, 30, 31, 32, 33, 34] (by decide +kernel) (by decide +kernel)
set_option maxRecDepth 20000 in
theorem gX4_open_X4_inside : GoodIn wsX4_open (wsV RX4 82 RX4 yX4_inside wsX4_inside) := goodIn_app (goodIn_of _ (by decide +kernel)) ggX4_open_X4_inside
set_option maxRecDepth 20000 in
theorem ggX4_open_X4_in : GoodIn wsX4_open wsX4_in := goodIn_r _ [15] (by decide +kernel) (by decide +kernel)
set_option maxRecDepth 20000 in
theorem gX4_open_X4_in : GoodIn wsX4_open (va_wsS RX4 45 yX4_in wsX4_in) := goodIn_app (goodIn_of _ (by decide +kernel)) ggX4_open_X4_in
theorem dX4_open_0 : decode cX4_open 0 = .ok (.aload_n 0, 1) := by decide +kernel
theorem dX4_open_1 : decode cX4_open 1 = .ok (.invokevirtual 82, 3) := by decide +kernel
theorem dX4_open_4 : decode cX4_open 4 = .ok (.ifCond .gt 36, 3) := by decide +kernel
theorem dX4_open_7 : decode cX4_open 7 = .ok (.aload_n 0, 1) := by decide +kernel
theorem dX4_open_8 : decode cX4_open 8 = .ok (.getfield 86, 3) := by decide +kernel
theorem dX4_open_11 : decode cX4_open 11 = .ok (.ifCond .gt 29, 3) := by decide +kernel
theorem dX4_open_14 : decode cX4_open 14 = .ok (.aload_n 0, 1) := by decide +kernel
theorem dX4_open_15 : decode cX4_open 15 = .ok (.getfield 25, 3) := by decide +kernel
theorem dX4_open_18 : decode cX4_open 18 = .ok (.aload_n 0, 1) := by decide +kernel
theorem dX4_open_19 : decode cX4_open 19 = .ok (.getfield 89, 3) := by decide +kernel
theorem dX4_open_22 : decode cX4_open 22 = .ok (.baload, 1) := by decide +kernel
theorem dX4_open_23 : decode cX4_open 23 = .ok (.ifCond .ne 17, 3) := by decide +kernel
theorem dX4_open_26 : decode cX4_open 26 = .ok (.aload_n 0, 1) := by decide +kernel
theorem dX4_open_27 : decode cX4_open 27 = .ok (.getfield 92, 3) := by decide +kernel
theorem dX4_open_30 : decode cX4_open 30 = .ok (.ifCond .ne 10, 3) := by decide +kernel
theorem dX4_open_33 : decode cX4_open 33 = .ok (.aload_n 0, 1) := by decide +kernel
theorem dX4_open_34 : decode cX4_open 34 = .ok (.getfield 96, 3) := by decide +kernel
theorem dX4_open_37 : decode cX4_open 37 = .ok (.ifCond .eq 7, 3) := by decide +kernel
theorem dX4_open_40 : decode cX4_open 40 = .ok (.iconst 1, 1) := by decide +kernel
theorem dX4_open_41 : decode cX4_open 41 = .ok (.goto 4, 3) := by decide +kernel
theorem dX4_open_44 : decode cX4_open 44 = .ok (.iconst 0, 1) := by decide +kernel
theorem dX4_open_45 : decode cX4_open 45 = .ok (.istore_n 2, 1) := by decide +kernel
theorem dX4_open_46 : decode cX4_open 46 = .ok (.aload_n 0, 1) := by decide +kernel
theorem dX4_open_47 : decode cX4_open 47 = .ok (.iload_n 1, 1) := by decide +kernel
theorem dX4_open_48 : decode cX4_open 48 = .ok (.iconst 0, 1) := by decide +kernel
theorem dX4_open_49 : decode cX4_open 49 = .ok (.bipush 6, 2) := by decide +kernel
theorem dX4_open_51 : decode cX4_open 51 = .ok (.invokestatic 45, 3) := by decide +kernel
theorem dX4_open_54 : decode cX4_open 54 = .ok (.ifCond .ne 7, 3) := by decide +kernel
theorem dX4_open_57 : decode cX4_open 57 = .ok (.iconst 1, 1) := by decide +kernel
theorem dX4_open_58 : decode cX4_open 58 = .ok (.goto 12, 3) := by decide +kernel
theorem dX4_open_61 : decode cX4_open 61 = .ok (.iload_n 2, 1) := by decide +kernel
theorem dX4_open_62 : decode cX4_open 62 = .ok (.ifCond .eq 7, 3) := by decide +kernel
theorem dX4_open_65 : decode cX4_open 65 = .ok (.iconst 2, 1) := by decide +kernel
theorem dX4_open_66 : decode cX4_open 66 = .ok (.goto 4, 3) := by decide +kernel
theorem dX4_open_69 : decode cX4_open 69 = .ok (.iconst 0, 1) := by decide +kernel
theorem dX4_open_70 : decode cX4_open 70 = .ok (.putfield 41, 3) := by decide +kernel
theorem dX4_open_73 : decode cX4_open 73 = .ok (.aload_n 0, 1) := by decide +kernel
theorem dX4_open_74 : decode cX4_open 74 = .ok (.getfield 41, 3) := by decide +kernel
theorem dX4_open_77 : decode cX4_open 77 = .ok (.ifCond .le 5, 3) := by decide +kernel
theorem dX4_open_80 : decode cX4_open 80 = .ok (.iconst 0, 1) := by decide +kernel
theorem dX4_open_81 : decode cX4_open 81 = .ok (.ireturn, 1) := by decide +kernel
theorem dX4_open_82 : decode cX4_open 82 = .ok (.aload_n 0, 1) := by decide +kernel
theorem dX4_open_83 : decode cX4_open 83 = .ok (.iload_n 1, 1) := by decide +kernel
theorem dX4_open_84 : decode cX4_open 84 = .ok (.aload_n 0, 1) := by decide +kernel
theorem dX4_open_85 : decode cX4_open 85 = .ok (.getfield 89, 3) := by decide +kernel
theorem dX4_open_88 : decode cX4_open 88 = .ok (.if_icmp .le 12, 3) := by decide +kernel
theorem dX4_open_91 : decode cX4_open 91 = .ok (.iload_n 1, 1) := by decide +kernel
theorem dX4_open_92 : decode cX4_open 92 = .ok (.aload_n 0, 1) := by decide +kernel
theorem dX4_open_93 : decode cX4_open 93 = .ok (.getfield 89, 3) := by decide +kernel
theorem dX4_open_96 : decode cX4_open 96 = .ok (.isub, 1) := by decide +kernel
theorem dX4_open_97 : decode cX4_open 97 = .ok (.goto 9, 3) := by decide +kernel
theorem dX4_open_100 : decode cX4_open 100 = .ok (.aload_n 0, 1) := by decide +kernel
theorem dX4_open_101 : decode cX4_open 101 = .ok (.getfield 89, 3) := by decide +kernel
theorem dX4_open_104 : decode cX4_open 104 = .ok (.iload_n 1, 1) := by decide +kernel
theorem dX4_open_105 : decode cX4_open 105 = .ok (.isub, 1) := by decide +kernel
theorem dX4_open_106 : decode cX4_open 106 = .ok (.putfield 86, 3) := by decide +kernel
theorem dX4_open_109 : decode cX4_open 109 = .ok (.aload_n 0, 1) := by decide +kernel
theorem dX4_open_110 : decode cX4_open 110 = .ok (.iload_n 1, 1) := by decide +kernel
theorem dX4_open_111 : decode cX4_open 111 = .ok (.putfield 89, 3) := by decide +kernel
theorem dX4_open_114 : decode cX4_open 114 = .ok (.aload_n 0, 1) := by decide +kernel
theorem dX4_open_115 : decode cX4_open 115 = .ok (.getfield 86, 3) := by decide +kernel
theorem dX4_open_118 : decode cX4_open 118 = .ok (.ireturn, 1) := by decide +kernel
theorem dX4_opened_0 : decode cX4_opened 0 = .ok (.aload_n 0, 1) := by decide +kernel
theorem dX4_opened_1 : decode cX4_opened 1 = .ok (.iconst 0, 1) := by decide +kernel
theorem dX4_opened_2 : decode cX4_opened 2 = .ok (.putfield 41, 3) := by decide +kernel
theorem dX4_opened_5 : decode cX4_opened 5 = .ok (.aload_n 0, 1) := by decide +kernel
theorem dX4_opened_6 : decode cX4_opened 6 = .ok (.getfield 86, 3) := by decide +kernel
theorem dX4_opened_9 : decode cX4_opened 9 = .ok (.ifCond .le 7, 3) := by decide +kernel
theorem dX4_opened_12 : decode cX4_opened 12 = .ok (.iconst (-1), 1) := by decide +kernel
theorem dX4_opened_13 : decode cX4_opened 13 = .ok (.goto 7, 3) := by decide +kernel
theorem dX4_opened_16 : decode cX4_opened 16 = .ok (.aload_n 0, 1) := by decide +kernel
theorem dX4_opened_17 : decode cX4_opened 17 = .ok (.getfield 89, 3) := by decide +kernel
theorem dX4_opened_20 : decode cX4_opened 20 = .ok (.ireturn, 1) := by decide +kernel
set_option maxRecDepth 20000 in
theorem ggX4_openedByMoves_X4_opened : GoodIn wsX4_openedByMoves wsX4_opened := goodIn_r _ [5, 6, 7, 8, 9, 10, 11, 12, 13, 14, 15, 16, 17, 18, 19, 20, 21, 22, 23, 24, 25, 26, 27] (by decide +kernel) (by decide +kernel)
set_option maxRecDepth 20000 in
theorem gX4_openedByMoves_X4_opened : GoodIn wsX4_openedByMoves (wsV RX4 99 RX4 yX4_opened wsX4_opened) := goodIn_app (goodIn_of _ (by decide +kernel)) ggX4_openedByMoves_X4_opened
theorem dX4_openedByMoves_0 : decode cX4_openedByMoves 0 = .ok (.aload_n 0, 1) := by decide +kernel
theorem dX4_openedByMoves_1 : decode cX4_openedByMoves 1 = .ok (.invokevirtual 99, 3) := by decide +kernel
theorem dX4_openedByMoves_4 : decode cX4_openedByMoves 4 = .ok (.ireturn, 1) := by decide +kernel
set_option maxRecDepth 20000 in
theorem ggX4_goIn_X4_isPerson : GoodIn wsX4_goIn wsX4_isPerson := goodIn_r _ [8, 9, 10, 7, 11] (by decide +kernel) (by decide +kernel)
set_option maxRecDepth 20000 in
theorem gX4_goIn_X4_isPerson : GoodIn wsX4_goIn (va_wsS RX4 102 yX4_isPerson wsX4_isPerson) := goodIn_app (goodIn_of _ (by decide +kernel)) ggX4_goIn_X4_isPerson
set_option maxRecDepth 20000 in
theorem ggX4_goIn_X4_inside : GoodIn wsX4_goIn wsX4_inside := goodIn_r _ [15, 1, 16, 17, 18, 19, 20, 21, 22, 23, 24, 25, 26, 27, 28, 29, 30, 31, 32, 33, 34] (by decide +kernel) (by decide +kernel)
set_option maxRecDepth 20000 in
theorem gX4_goIn_X4_inside : GoodIn wsX4_goIn (wsV RX4 82 RX4 yX4_inside wsX4_inside) := goodIn_app (goodIn_of _ (by decide +kernel)) ggX4_goIn_X4_inside
theorem dX4_goIn_0 : decode cX4_goIn 0 = .ok (.aload_n 0, 1) := by decide +kernel
theorem dX4_goIn_1 : decode cX4_goIn 1 = .ok (.iload_n 1, 1) := by decide +kernel
theorem dX4_goIn_2 : decode cX4_goIn 2 = .ok (.invokestatic 102, 3) := by decide +kernel
theorem dX4_goIn_5 : decode cX4_goIn 5 = .ok (.ifCond .ne 7, 3) := by decide +kernel
theorem dX4_goIn_8 : decode cX4_goIn 8 = .ok (.iconst 1, 1) := by decide +kernel
theorem dX4_goIn_9 : decode cX4_goIn 9 = .ok (.goto 31, 3) := by decide +kernel
theorem dX4_goIn_12 : decode cX4_goIn 12 = .ok (.aload_n 0, 1) := by decide +kernel
theorem dX4_goIn_13 : decode cX4_goIn 13 = .ok (.getfield 29, 3) := by decide +kernel
theorem dX4_goIn_16 : decode cX4_goIn 16 = .ok (.iload_n 1, 1) := by decide +kernel
theorem dX4_goIn_17 : decode cX4_goIn 17 = .ok (.baload, 1) := by decide +kernel
theorem dX4_goIn_18 : decode cX4_goIn 18 = .ok (.ifCond .ne 17, 3) := by decide +kernel
theorem dX4_goIn_21 : decode cX4_goIn 21 = .ok (.aload_n 0, 1) := by decide +kernel
theorem dX4_goIn_22 : decode cX4_goIn 22 = .ok (.getfield 86, 3) := by decide +kernel
theorem dX4_goIn_25 : decode cX4_goIn 25 = .ok (.ifCond .gt 10, 3) := by decide +kernel
theorem dX4_goIn_28 : decode cX4_goIn 28 = .ok (.aload_n 0, 1) := by decide +kernel
theorem dX4_goIn_29 : decode cX4_goIn 29 = .ok (.getfield 96, 3) := by decide +kernel
theorem dX4_goIn_32 : decode cX4_goIn 32 = .ok (.ifCond .eq 7, 3) := by decide +kernel
theorem dX4_goIn_35 : decode cX4_goIn 35 = .ok (.iconst 2, 1) := by decide +kernel
theorem dX4_goIn_36 : decode cX4_goIn 36 = .ok (.goto 4, 3) := by decide +kernel
theorem dX4_goIn_39 : decode cX4_goIn 39 = .ok (.iconst 0, 1) := by decide +kernel
theorem dX4_goIn_40 : decode cX4_goIn 40 = .ok (.putfield 41, 3) := by decide +kernel
theorem dX4_goIn_43 : decode cX4_goIn 43 = .ok (.aload_n 0, 1) := by decide +kernel
theorem dX4_goIn_44 : decode cX4_goIn 44 = .ok (.getfield 41, 3) := by decide +kernel
theorem dX4_goIn_47 : decode cX4_goIn 47 = .ok (.ifCond .le 5, 3) := by decide +kernel
theorem dX4_goIn_50 : decode cX4_goIn 50 = .ok (.iconst 0, 1) := by decide +kernel
theorem dX4_goIn_51 : decode cX4_goIn 51 = .ok (.ireturn, 1) := by decide +kernel
theorem dX4_goIn_52 : decode cX4_goIn 52 = .ok (.aload_n 0, 1) := by decide +kernel
theorem dX4_goIn_53 : decode cX4_goIn 53 = .ok (.getfield 29, 3) := by decide +kernel
theorem dX4_goIn_56 : decode cX4_goIn 56 = .ok (.iload_n 1, 1) := by decide +kernel
theorem dX4_goIn_57 : decode cX4_goIn 57 = .ok (.iconst 1, 1) := by decide +kernel
theorem dX4_goIn_58 : decode cX4_goIn 58 = .ok (.bastore, 1) := by decide +kernel
theorem dX4_goIn_59 : decode cX4_goIn 59 = .ok (.aload_n 0, 1) := by decide +kernel
theorem dX4_goIn_60 : decode cX4_goIn 60 = .ok (.invokevirtual 82, 3) := by decide +kernel
theorem dX4_goIn_63 : decode cX4_goIn 63 = .ok (.ireturn, 1) := by decide +kernel
set_option maxRecDepth 20000 in
theorem ggX4_goOut_X4_isPerson : GoodIn wsX4_goOut wsX4_isPerson := goodIn_r _ [6, 7, 8, 5, 9] (by decide +kernel) (by decide +kernel)
set_option maxRecDepth 20000 in
theorem gX4_goOut_X4_isPerson : GoodIn wsX4_goOut (va_wsS RX4 102 yX4_isPerson wsX4_isPerson) := goodIn_app (goodIn_of _ (by decide +kernel)) ggX4_goOut_X4_isPerson
set_option maxRecDepth 20000 in
theorem ggX4_goOut_X4_inside : GoodIn wsX4_goOut wsX4_inside := goodIn_r _ [13, 1, 14, 15, 16, 17, 18, 19, 20, 21, 22, 23, 24, 25, 26, 27, 28, 29, 30, 31, 32] (by decide +kernel) (by decide +kernel)
set_option maxRecDepth 20000 in
theorem gX4_goOut_X4_inside : GoodIn wsX4_goOut (wsV RX4 82 RX4 yX4_inside wsX4_inside) := goodIn_app (goodIn_of _ (by decide +kernel)) ggX4_goOut_X4_inside
theorem dX4_goOut_0 : decode cX4_goOut 0 = .ok (.aload_n 0, 1) := by decide +kernel
theorem dX4_goOut_1 : decode cX4_goOut 1 = .ok (.iload_n 1, 1) := by decide +kernel
theorem dX4_goOut_2 : decode cX4_goOut 2 = .ok (.invokestatic 102, 3) := by decide +kernel
theorem dX4_goOut_5 : decode cX4_goOut 5 = .ok (.ifCond .ne 7, 3) := by decide +kernel
theorem dX4_goOut_8 : decode cX4_goOut 8 = .ok (.iconst 1, 1) := by decide +kernel
theorem dX4_goOut_9 : decode cX4_goOut 9 = .ok (.goto 17, 3) := by decide +kernel
theorem dX4_goOut_12 : decode cX4_goOut 12 = .ok (.aload_n 0, 1) := by decide +kernel
theorem dX4_goOut_13 : decode cX4_goOut 13 = .ok (.getfield 29, 3) := by decide +kernel
theorem dX4_goOut_16 : decode cX4_goOut 16 = .ok (.iload_n 1, 1) := by decide +kernel
theorem dX4_goOut_17 : decode cX4_goOut 17 = .ok (.baload, 1) := by decide +kernel
theorem dX4_goOut_18 : decode cX4_goOut 18 = .ok (.ifCond .eq 7, 3) := by decide +kernel
theorem dX4_goOut_21 : decode cX4_goOut 21 = .ok (.iconst 0, 1) := by decide +kernel
theorem dX4_goOut_22 : decode cX4_goOut 22 = .ok (.goto 4, 3) := by decide +kernel
theorem dX4_goOut_25 : decode cX4_goOut 25 = .ok (.iconst 2, 1) := by decide +kernel
theorem dX4_goOut_26 : decode cX4_goOut 26 = .ok (.putfield 41, 3) := by decide +kernel
theorem dX4_goOut_29 : decode cX4_goOut 29 = .ok (.aload_n 0, 1) := by decide +kernel
theorem dX4_goOut_30 : decode cX4_goOut 30 = .ok (.getfield 41, 3) := by decide +kernel
theorem dX4_goOut_33 : decode cX4_goOut 33 = .ok (.ifCond .le 5, 3) := by decide +kernel
theorem dX4_goOut_36 : decode cX4_goOut 36 = .ok (.iconst 0, 1) := by decide +kernel
theorem dX4_goOut_37 : decode cX4_goOut 37 = .ok (.ireturn, 1) := by decide +kernel
theorem dX4_goOut_38 : decode cX4_goOut 38 = .ok (.aload_n 0, 1) := by decide +kernel
theorem dX4_goOut_39 : decode cX4_goOut 39 = .ok (.getfield 29, 3) := by decide +kernel
theorem dX4_goOut_42 : decode cX4_goOut 42 = .ok (.iload_n 1, 1) := by decide +kernel
theorem dX4_goOut_43 : decode cX4_goOut 43 = .ok (.iconst 0, 1) := by decide +kernel
theorem dX4_goOut_44 : decode cX4_goOut 44 = .ok (.bastore, 1) := by decide +kernel
theorem dX4_goOut_45 : decode cX4_goOut 45 = .ok (.aload_n 0, 1) := by decide +kernel
theorem dX4_goOut_46 : decode cX4_goOut 46 = .ok (.invokevirtual 82, 3) := by decide +kernel
theorem dX4_goOut_49 : decode cX4_goOut 49 = .ok (.ireturn, 1) := by decide +kernel
set_option maxRecDepth 20000 in
theorem ggX4_doubt_X4_in : GoodIn wsX4_doubt wsX4_in := goodIn_r _ [6] (by decide +kernel) (by decide +kernel)
set_option maxRecDepth 20000 in
theorem gX4_doubt_X4_in : GoodIn wsX4_doubt (va_wsS RX4 45 yX4_in wsX4_in) := goodIn_app (goodIn_of _ (by decide +kernel)) ggX4_doubt_X4_in
theorem dX4_doubt_0 : decode cX4_doubt 0 = .ok (.aload_n 0, 1) := by decide +kernel
theorem dX4_doubt_1 : decode cX4_doubt 1 = .ok (.iload_n 1, 1) := by decide +kernel
theorem dX4_doubt_2 : decode cX4_doubt 2 = .ok (.iconst 0, 1) := by decide +kernel
theorem dX4_doubt_3 : decode cX4_doubt 3 = .ok (.bipush 6, 2) := by decide +kernel
theorem dX4_doubt_5 : decode cX4_doubt 5 = .ok (.invokestatic 45, 3) := by decide +kernel
theorem dX4_doubt_8 : decode cX4_doubt 8 = .ok (.ifCond .eq 7, 3) := by decide +kernel
theorem dX4_doubt_11 : decode cX4_doubt 11 = .ok (.iconst 0, 1) := by decide +kernel
theorem dX4_doubt_12 : decode cX4_doubt 12 = .ok (.goto 4, 3) := by decide +kernel
theorem dX4_doubt_15 : decode cX4_doubt 15 = .ok (.iconst 1, 1) := by decide +kernel
theorem dX4_doubt_16 : decode cX4_doubt 16 = .ok (.putfield 41, 3) := by decide +kernel
theorem dX4_doubt_19 : decode cX4_doubt 19 = .ok (.aload_n 0, 1) := by decide +kernel
theorem dX4_doubt_20 : decode cX4_doubt 20 = .ok (.getfield 41, 3) := by decide +kernel
theorem dX4_doubt_23 : decode cX4_doubt 23 = .ok (.ifCond .le 5, 3) := by decide +kernel
theorem dX4_doubt_26 : decode cX4_doubt 26 = .ok (.iconst 0, 1) := by decide +kernel
theorem dX4_doubt_27 : decode cX4_doubt 27 = .ok (.ireturn, 1) := by decide +kernel
theorem dX4_doubt_28 : decode cX4_doubt 28 = .ok (.aload_n 0, 1) := by decide +kernel
theorem dX4_doubt_29 : decode cX4_doubt 29 = .ok (.getfield 25, 3) := by decide +kernel
theorem dX4_doubt_32 : decode cX4_doubt 32 = .ok (.iload_n 1, 1) := by decide +kernel
theorem dX4_doubt_33 : decode cX4_doubt 33 = .ok (.baload, 1) := by decide +kernel
theorem dX4_doubt_34 : decode cX4_doubt 34 = .ok (.ifCond .ne 7, 3) := by decide +kernel
theorem dX4_doubt_37 : decode cX4_doubt 37 = .ok (.iconst 1, 1) := by decide +kernel
theorem dX4_doubt_38 : decode cX4_doubt 38 = .ok (.goto 4, 3) := by decide +kernel
theorem dX4_doubt_41 : decode cX4_doubt 41 = .ok (.iconst 0, 1) := by decide +kernel
theorem dX4_doubt_42 : decode cX4_doubt 42 = .ok (.istore_n 2, 1) := by decide +kernel
theorem dX4_doubt_43 : decode cX4_doubt 43 = .ok (.aload_n 0, 1) := by decide +kernel
theorem dX4_doubt_44 : decode cX4_doubt 44 = .ok (.getfield 25, 3) := by decide +kernel
theorem dX4_doubt_47 : decode cX4_doubt 47 = .ok (.iload_n 1, 1) := by decide +kernel
theorem dX4_doubt_48 : decode cX4_doubt 48 = .ok (.iconst 1, 1) := by decide +kernel
theorem dX4_doubt_49 : decode cX4_doubt 49 = .ok (.bastore, 1) := by decide +kernel
theorem dX4_doubt_50 : decode cX4_doubt 50 = .ok (.iload_n 2, 1) := by decide +kernel
theorem dX4_doubt_51 : decode cX4_doubt 51 = .ok (.ireturn, 1) := by decide +kernel
theorem dX4_look_0 : decode cX4_look 0 = .ok (.aload_n 0, 1) := by decide +kernel
theorem dX4_look_1 : decode cX4_look 1 = .ok (.aload_n 0, 1) := by decide +kernel
theorem dX4_look_2 : decode cX4_look 2 = .ok (.getfield 86, 3) := by decide +kernel
theorem dX4_look_5 : decode cX4_look 5 = .ok (.ifCond .le 7, 3) := by decide +kernel
theorem dX4_look_8 : decode cX4_look 8 = .ok (.iconst 1, 1) := by decide +kernel
theorem dX4_look_9 : decode cX4_look 9 = .ok (.goto 4, 3) := by decide +kernel
theorem dX4_look_12 : decode cX4_look 12 = .ok (.iconst 0, 1) := by decide +kernel
theorem dX4_look_13 : decode cX4_look 13 = .ok (.putfield 41, 3) := by decide +kernel
theorem dX4_look_16 : decode cX4_look 16 = .ok (.aload_n 0, 1) := by decide +kernel
theorem dX4_look_17 : decode cX4_look 17 = .ok (.getfield 41, 3) := by decide +kernel
theorem dX4_look_20 : decode cX4_look 20 = .ok (.ifCond .le 5, 3) := by decide +kernel
theorem dX4_look_23 : decode cX4_look 23 = .ok (.iconst 0, 1) := by decide +kernel
theorem dX4_look_24 : decode cX4_look 24 = .ok (.ireturn, 1) := by decide +kernel
theorem dX4_look_25 : decode cX4_look 25 = .ok (.aload_n 0, 1) := by decide +kernel
theorem dX4_look_26 : decode cX4_look 26 = .ok (.getfield 25, 3) := by decide +kernel
theorem dX4_look_29 : decode cX4_look 29 = .ok (.aload_n 0, 1) := by decide +kernel
theorem dX4_look_30 : decode cX4_look 30 = .ok (.getfield 89, 3) := by decide +kernel
theorem dX4_look_33 : decode cX4_look 33 = .ok (.baload, 1) := by decide +kernel
theorem dX4_look_34 : decode cX4_look 34 = .ok (.istore_n 1, 1) := by decide +kernel
theorem dX4_look_35 : decode cX4_look 35 = .ok (.aload_n 0, 1) := by decide +kernel
theorem dX4_look_36 : decode cX4_look 36 = .ok (.getfield 25, 3) := by decide +kernel
theorem dX4_look_39 : decode cX4_look 39 = .ok (.aload_n 0, 1) := by decide +kernel
theorem dX4_look_40 : decode cX4_look 40 = .ok (.getfield 89, 3) := by decide +kernel
theorem dX4_look_43 : decode cX4_look 43 = .ok (.iconst 0, 1) := by decide +kernel
theorem dX4_look_44 : decode cX4_look 44 = .ok (.bastore, 1) := by decide +kernel
theorem dX4_look_45 : decode cX4_look 45 = .ok (.iload_n 1, 1) := by decide +kernel
theorem dX4_look_46 : decode cX4_look 46 = .ok (.ireturn, 1) := by decide +kernel
theorem dX4_stall_0 : decode cX4_stall 0 = .ok (.aload_n 0, 1) := by decide +kernel
theorem dX4_stall_1 : decode cX4_stall 1 = .ok (.iconst 0, 1) := by decide +kernel
theorem dX4_stall_2 : decode cX4_stall 2 = .ok (.putfield 41, 3) := by decide +kernel
theorem dX4_stall_5 : decode cX4_stall 5 = .ok (.aload_n 0, 1) := by decide +kernel
theorem dX4_stall_6 : decode cX4_stall 6 = .ok (.getfield 92, 3) := by decide +kernel
theorem dX4_stall_9 : decode cX4_stall 9 = .ok (.iload_n 1, 1) := by decide +kernel
theorem dX4_stall_10 : decode cX4_stall 10 = .ok (.if_icmp .eq 7, 3) := by decide +kernel
theorem dX4_stall_13 : decode cX4_stall 13 = .ok (.iconst 1, 1) := by decide +kernel
theorem dX4_stall_14 : decode cX4_stall 14 = .ok (.goto 4, 3) := by decide +kernel
theorem dX4_stall_17 : decode cX4_stall 17 = .ok (.iconst 0, 1) := by decide +kernel
theorem dX4_stall_18 : decode cX4_stall 18 = .ok (.istore_n 2, 1) := by decide +kernel
theorem dX4_stall_19 : decode cX4_stall 19 = .ok (.aload_n 0, 1) := by decide +kernel
theorem dX4_stall_20 : decode cX4_stall 20 = .ok (.iload_n 1, 1) := by decide +kernel
theorem dX4_stall_21 : decode cX4_stall 21 = .ok (.putfield 92, 3) := by decide +kernel
theorem dX4_stall_24 : decode cX4_stall 24 = .ok (.iload_n 2, 1) := by decide +kernel
theorem dX4_stall_25 : decode cX4_stall 25 = .ok (.ireturn, 1) := by decide +kernel
set_option maxRecDepth 20000 in
theorem ggX4_smoke_X4_inside : GoodIn wsX4_smoke wsX4_inside := goodIn_r _ [8, 3, 9, 10, 11, 12, 13, 14, 15, 16, 17, 18, 19, 20, 21, 22, 23, 24, 25, 26, 27] (by decide +kernel) (by decide +kernel)
set_option maxRecDepth 20000 in
theorem gX4_smoke_X4_inside : GoodIn wsX4_smoke (wsV RX4 82 RX4 yX4_inside wsX4_inside) := goodIn_app (goodIn_of _ (by decide +kernel)) ggX4_smoke_X4_inside
theorem dX4_smoke_0 : decode cX4_smoke 0 = .ok (.aload_n 0, 1) := by decide +kernel
theorem dX4_smoke_1 : decode cX4_smoke 1 = .ok (.iconst 0, 1) := by decide +kernel
theorem dX4_smoke_2 : decode cX4_smoke 2 = .ok (.putfield 41, 3) := by decide +kernel
theorem dX4_smoke_5 : decode cX4_smoke 5 = .ok (.iload_n 1, 1) := by decide +kernel
theorem dX4_smoke_6 : decode cX4_smoke 6 = .ok (.ifCond .eq 10, 3) := by decide +kernel
theorem dX4_smoke_9 : decode cX4_smoke 9 = .ok (.aload_n 0, 1) := by decide +kernel
theorem dX4_smoke_10 : decode cX4_smoke 10 = .ok (.invokevirtual 82, 3) := by decide +kernel
theorem dX4_smoke_13 : decode cX4_smoke 13 = .ok (.goto 4, 3) := by decide +kernel
theorem dX4_smoke_16 : decode cX4_smoke 16 = .ok (.iconst 0, 1) := by decide +kernel
theorem dX4_smoke_17 : decode cX4_smoke 17 = .ok (.istore_n 2, 1) := by decide +kernel
theorem dX4_smoke_18 : decode cX4_smoke 18 = .ok (.aload_n 0, 1) := by decide +kernel
theorem dX4_smoke_19 : decode cX4_smoke 19 = .ok (.iload_n 1, 1) := by decide +kernel
theorem dX4_smoke_20 : decode cX4_smoke 20 = .ok (.putfield 96, 3) := by decide +kernel
theorem dX4_smoke_23 : decode cX4_smoke 23 = .ok (.iconst 0, 1) := by decide +kernel
theorem dX4_smoke_24 : decode cX4_smoke 24 = .ok (.istore_n 3, 1) := by decide +kernel
theorem dX4_smoke_25 : decode cX4_smoke 25 = .ok (.iload_n 3, 1) := by decide +kernel
theorem dX4_smoke_26 : decode cX4_smoke 26 = .ok (.iconst 4, 1) := by decide +kernel
theorem dX4_smoke_27 : decode cX4_smoke 27 = .ok (.if_icmp .ge 33, 3) := by decide +kernel
theorem dX4_smoke_30 : decode cX4_smoke 30 = .ok (.aload_n 0, 1) := by decide +kernel
theorem dX4_smoke_31 : decode cX4_smoke 31 = .ok (.getfield 29, 3) := by decide +kernel
theorem dX4_smoke_34 : decode cX4_smoke 34 = .ok (.iload_n 3, 1) := by decide +kernel
theorem dX4_smoke_35 : decode cX4_smoke 35 = .ok (.aload_n 0, 1) := by decide +kernel
theorem dX4_smoke_36 : decode cX4_smoke 36 = .ok (.getfield 29, 3) := by decide +kernel
theorem dX4_smoke_39 : decode cX4_smoke 39 = .ok (.iload_n 3, 1) := by decide +kernel
theorem dX4_smoke_40 : decode cX4_smoke 40 = .ok (.baload, 1) := by decide +kernel
theorem dX4_smoke_41 : decode cX4_smoke 41 = .ok (.ifCond .eq 11, 3) := by decide +kernel
theorem dX4_smoke_44 : decode cX4_smoke 44 = .ok (.iload_n 1, 1) := by decide +kernel
theorem dX4_smoke_45 : decode cX4_smoke 45 = .ok (.ifCond .ne 7, 3) := by decide +kernel
theorem dX4_smoke_48 : decode cX4_smoke 48 = .ok (.iconst 1, 1) := by decide +kernel
theorem dX4_smoke_49 : decode cX4_smoke 49 = .ok (.goto 4, 3) := by decide +kernel
theorem dX4_smoke_52 : decode cX4_smoke 52 = .ok (.iconst 0, 1) := by decide +kernel
theorem dX4_smoke_53 : decode cX4_smoke 53 = .ok (.bastore, 1) := by decide +kernel
theorem dX4_smoke_54 : decode cX4_smoke 54 = .ok (.iinc 3 1, 3) := by decide +kernel
theorem dX4_smoke_57 : decode cX4_smoke 57 = .ok (.goto (-32), 3) := by decide +kernel
theorem dX4_smoke_60 : decode cX4_smoke 60 = .ok (.iload_n 2, 1) := by decide +kernel
theorem dX4_smoke_61 : decode cX4_smoke 61 = .ok (.ireturn, 1) := by decide +kernel
set_option maxRecDepth 20000 in
theorem ggX4_pass_X4_in : GoodIn wsX4_pass wsX4_in := goodIn_r _ [9] (by decide +kernel) (by decide +kernel)
set_option maxRecDepth 20000 in
theorem gX4_pass_X4_in : GoodIn wsX4_pass (va_wsS RX4 45 yX4_in wsX4_in) := goodIn_app (goodIn_of _ (by decide +kernel)) ggX4_pass_X4_in
theorem dX4_pass_0 : decode cX4_pass 0 = .ok (.aload_n 0, 1) := by decide +kernel
theorem dX4_pass_1 : decode cX4_pass 1 = .ok (.iload_n 1, 1) := by decide +kernel
theorem dX4_pass_2 : decode cX4_pass 2 = .ok (.iconst 1, 1) := by decide +kernel
theorem dX4_pass_3 : decode cX4_pass 3 = .ok (.bipush 100, 2) := by decide +kernel
theorem dX4_pass_5 : decode cX4_pass 5 = .ok (.invokestatic 45, 3) := by decide +kernel
theorem dX4_pass_8 : decode cX4_pass 8 = .ok (.ifCond .ne 7, 3) := by decide +kernel
theorem dX4_pass_11 : decode cX4_pass 11 = .ok (.iconst 1, 1) := by decide +kernel
theorem dX4_pass_12 : decode cX4_pass 12 = .ok (.goto 20, 3) := by decide +kernel
theorem dX4_pass_15 : decode cX4_pass 15 = .ok (.aload_n 0, 1) := by decide +kernel
theorem dX4_pass_16 : decode cX4_pass 16 = .ok (.getfield 105, 3) := by decide +kernel
theorem dX4_pass_19 : decode cX4_pass 19 = .ok (.iload_n 1, 1) := by decide +kernel
theorem dX4_pass_20 : decode cX4_pass 20 = .ok (.iadd, 1) := by decide +kernel
theorem dX4_pass_21 : decode cX4_pass 21 = .ok (.sipush 10000, 3) := by decide +kernel
theorem dX4_pass_24 : decode cX4_pass 24 = .ok (.if_icmp .le 7, 3) := by decide +kernel
theorem dX4_pass_27 : decode cX4_pass 27 = .ok (.iconst 2, 1) := by decide +kernel
theorem dX4_pass_28 : decode cX4_pass 28 = .ok (.goto 4, 3) := by decide +kernel
theorem dX4_pass_31 : decode cX4_pass 31 = .ok (.iconst 0, 1) := by decide +kernel
theorem dX4_pass_32 : decode cX4_pass 32 = .ok (.putfield 41, 3) := by decide +kernel
theorem dX4_pass_35 : decode cX4_pass 35 = .ok (.aload_n 0, 1) := by decide +kernel
theorem dX4_pass_36 : decode cX4_pass 36 = .ok (.getfield 41, 3) := by decide +kernel
theorem dX4_pass_39 : decode cX4_pass 39 = .ok (.ifCond .le 5, 3) := by decide +kernel
theorem dX4_pass_42 : decode cX4_pass 42 = .ok (.iconst 0, 1) := by decide +kernel
theorem dX4_pass_43 : decode cX4_pass 43 = .ok (.ireturn, 1) := by decide +kernel
theorem dX4_pass_44 : decode cX4_pass 44 = .ok (.aload_n 0, 1) := by decide +kernel
theorem dX4_pass_45 : decode cX4_pass 45 = .ok (.dup, 1) := by decide +kernel
theorem dX4_pass_46 : decode cX4_pass 46 = .ok (.getfield 105, 3) := by decide +kernel
theorem dX4_pass_49 : decode cX4_pass 49 = .ok (.iload_n 1, 1) := by decide +kernel
theorem dX4_pass_50 : decode cX4_pass 50 = .ok (.iadd, 1) := by decide +kernel
theorem dX4_pass_51 : decode cX4_pass 51 = .ok (.putfield 105, 3) := by decide +kernel
theorem dX4_pass_54 : decode cX4_pass 54 = .ok (.aload_n 0, 1) := by decide +kernel
theorem dX4_pass_55 : decode cX4_pass 55 = .ok (.getfield 92, 3) := by decide +kernel
theorem dX4_pass_58 : decode cX4_pass 58 = .ok (.ifCond .ne 32, 3) := by decide +kernel
theorem dX4_pass_61 : decode cX4_pass 61 = .ok (.aload_n 0, 1) := by decide +kernel
theorem dX4_pass_62 : decode cX4_pass 62 = .ok (.getfield 96, 3) := by decide +kernel
theorem dX4_pass_65 : decode cX4_pass 65 = .ok (.ifCond .ne 25, 3) := by decide +kernel
theorem dX4_pass_68 : decode cX4_pass 68 = .ok (.aload_n 0, 1) := by decide +kernel
theorem dX4_pass_69 : decode cX4_pass 69 = .ok (.aload_n 0, 1) := by decide +kernel
theorem dX4_pass_70 : decode cX4_pass 70 = .ok (.getfield 86, 3) := by decide +kernel
theorem dX4_pass_73 : decode cX4_pass 73 = .ok (.iload_n 1, 1) := by decide +kernel
theorem dX4_pass_74 : decode cX4_pass 74 = .ok (.if_icmp .le 12, 3) := by decide +kernel
theorem dX4_pass_77 : decode cX4_pass 77 = .ok (.aload_n 0, 1) := by decide +kernel
theorem dX4_pass_78 : decode cX4_pass 78 = .ok (.getfield 86, 3) := by decide +kernel
theorem dX4_pass_81 : decode cX4_pass 81 = .ok (.iload_n 1, 1) := by decide +kernel
theorem dX4_pass_82 : decode cX4_pass 82 = .ok (.isub, 1) := by decide +kernel
theorem dX4_pass_83 : decode cX4_pass 83 = .ok (.goto 4, 3) := by decide +kernel
theorem dX4_pass_86 : decode cX4_pass 86 = .ok (.iconst 0, 1) := by decide +kernel
theorem dX4_pass_87 : decode cX4_pass 87 = .ok (.putfield 86, 3) := by decide +kernel
theorem dX4_pass_90 : decode cX4_pass 90 = .ok (.aload_n 0, 1) := by decide +kernel
theorem dX4_pass_91 : decode cX4_pass 91 = .ok (.getfield 105, 3) := by decide +kernel
theorem dX4_pass_94 : decode cX4_pass 94 = .ok (.ireturn, 1) := by decide +kernel
theorem dX4_hasOpen_0 : decode cX4_hasOpen 0 = .ok (.iconst 0, 1) := by decide +kernel
theorem dX4_hasOpen_1 : decode cX4_hasOpen 1 = .ok (.istore_n 2, 1) := by decide +kernel
theorem dX4_hasOpen_2 : decode cX4_hasOpen 2 = .ok (.iconst 0, 1) := by decide +kernel
theorem dX4_hasOpen_3 : decode cX4_hasOpen 3 = .ok (.istore_n 3, 1) := by decide +kernel
theorem dX4_hasOpen_4 : decode cX4_hasOpen 4 = .ok (.iload_n 3, 1) := by decide +kernel
theorem dX4_hasOpen_5 : decode cX4_hasOpen 5 = .ok (.aload_n 0, 1) := by decide +kernel
theorem dX4_hasOpen_6 : decode cX4_hasOpen 6 = .ok (.getfield 108, 3) := by decide +kernel
theorem dX4_hasOpen_9 : decode cX4_hasOpen 9 = .ok (.if_icmp .ge 38, 3) := by decide +kernel
theorem dX4_hasOpen_12 : decode cX4_hasOpen 12 = .ok (.iload_n 2, 1) := by decide +kernel
theorem dX4_hasOpen_13 : decode cX4_hasOpen 13 = .ok (.ifCond .ne 22, 3) := by decide +kernel
theorem dX4_hasOpen_16 : decode cX4_hasOpen 16 = .ok (.aload_n 0, 1) := by decide +kernel
theorem dX4_hasOpen_17 : decode cX4_hasOpen 17 = .ok (.getfield 32, 3) := by decide +kernel
theorem dX4_hasOpen_20 : decode cX4_hasOpen 20 = .ok (.iload_n 3, 1) := by decide +kernel
theorem dX4_hasOpen_21 : decode cX4_hasOpen 21 = .ok (.iaload, 1) := by decide +kernel
theorem dX4_hasOpen_22 : decode cX4_hasOpen 22 = .ok (.iload_n 1, 1) := by decide +kernel
theorem dX4_hasOpen_23 : decode cX4_hasOpen 23 = .ok (.if_icmp .ne 16, 3) := by decide +kernel
theorem dX4_hasOpen_26 : decode cX4_hasOpen 26 = .ok (.aload_n 0, 1) := by decide +kernel
theorem dX4_hasOpen_27 : decode cX4_hasOpen 27 = .ok (.getfield 38, 3) := by decide +kernel
theorem dX4_hasOpen_30 : decode cX4_hasOpen 30 = .ok (.iload_n 3, 1) := by decide +kernel
theorem dX4_hasOpen_31 : decode cX4_hasOpen 31 = .ok (.baload, 1) := by decide +kernel
theorem dX4_hasOpen_32 : decode cX4_hasOpen 32 = .ok (.ifCond .ne 7, 3) := by decide +kernel
theorem dX4_hasOpen_35 : decode cX4_hasOpen 35 = .ok (.iconst 1, 1) := by decide +kernel
theorem dX4_hasOpen_36 : decode cX4_hasOpen 36 = .ok (.goto 4, 3) := by decide +kernel
theorem dX4_hasOpen_39 : decode cX4_hasOpen 39 = .ok (.iconst 0, 1) := by decide +kernel
theorem dX4_hasOpen_40 : decode cX4_hasOpen 40 = .ok (.istore_n 2, 1) := by decide +kernel
theorem dX4_hasOpen_41 : decode cX4_hasOpen 41 = .ok (.iinc 3 1, 3) := by decide +kernel
theorem dX4_hasOpen_44 : decode cX4_hasOpen 44 = .ok (.goto (-40), 3) := by decide +kernel
theorem dX4_hasOpen_47 : decode cX4_hasOpen 47 = .ok (.iload_n 2, 1) := by decide +kernel
theorem dX4_hasOpen_48 : decode cX4_hasOpen 48 = .ok (.ireturn, 1) := by decide +kernel
set_option maxRecDepth 20000 in
theorem ggX4_order_X4_isBox : GoodIn wsX4_order wsX4_isBox := goodIn_r _ [9, 10, 11, 12, 8, 13, 19, 20, 21, 22, 23, 24, 25, 26, 27, 28, 29, 30, 31, 32, 33, 34, 35, 36, 37] (by decide +kernel) (by decide +kernel)
set_option maxRecDepth 20000 in
theorem gX4_order_X4_isBox : GoodIn wsX4_order (wsV RX4 64 RX4 yX4_isBox wsX4_isBox) := goodIn_app (goodIn_of _ (by decide +kernel)) ggX4_order_X4_isBox
set_option maxRecDepth 20000 in
theorem ggX4_order_X4_in : GoodIn wsX4_order wsX4_in := goodIn_r _ [13] (by decide +kernel) (by decide +kernel)
set_option maxRecDepth 20000 in
theorem gX4_order_X4_in : GoodIn wsX4_order (va_wsS RX4 45 yX4_in wsX4_in) := goodIn_app (goodIn_of _ (by decide +kernel)) ggX4_order_X4_in
set_option maxRecDepth 20000 in
theorem ggX4_order_X4_hasOpen : GoodIn wsX4_order wsX4_hasOpen := goodIn_r _ [17, 1, 3, 18, 19, 20, 21, 22, 23, 24, 25, 26, 27, 28, 29, 30, 31, 32, 33, 34, 35, 36, 37] (by decide +kernel) (by decide +kernel)
set_option maxRecDepth 20000 in
theorem gX4_order_X4_hasOpen : GoodIn wsX4_order (wsV RX4 111 RX4 yX4_hasOpen wsX4_hasOpen) := goodIn_app (goodIn_of _ (by decide +kernel)) ggX4_order_X4_hasOpen
theorem dX4_order_0 : decode cX4_order 0 = .ok (.aload_n 0, 1) := by decide +kernel
theorem dX4_order_1 : decode cX4_order 1 = .ok (.aload_n 0, 1) := by decide +kernel
theorem dX4_order_2 : decode cX4_order 2 = .ok (.iload_n 1, 1) := by decide +kernel
theorem dX4_order_3 : decode cX4_order 3 = .ok (.invokevirtual 64, 3) := by decide +kernel
theorem dX4_order_6 : decode cX4_order 6 = .ok (.ifCond .ne 7, 3) := by decide +kernel
theorem dX4_order_9 : decode cX4_order 9 = .ok (.iconst 1, 1) := by decide +kernel
theorem dX4_order_10 : decode cX4_order 10 = .ok (.goto 40, 3) := by decide +kernel
theorem dX4_order_13 : decode cX4_order 13 = .ok (.iload_n 2, 1) := by decide +kernel
theorem dX4_order_14 : decode cX4_order 14 = .ok (.iconst 0, 1) := by decide +kernel
theorem dX4_order_15 : decode cX4_order 15 = .ok (.sipush 10000, 3) := by decide +kernel
theorem dX4_order_18 : decode cX4_order 18 = .ok (.invokestatic 45, 3) := by decide +kernel
theorem dX4_order_21 : decode cX4_order 21 = .ok (.ifCond .ne 7, 3) := by decide +kernel
theorem dX4_order_24 : decode cX4_order 24 = .ok (.iconst 2, 1) := by decide +kernel
theorem dX4_order_25 : decode cX4_order 25 = .ok (.goto 25, 3) := by decide +kernel
theorem dX4_order_28 : decode cX4_order 28 = .ok (.aload_n 0, 1) := by decide +kernel
theorem dX4_order_29 : decode cX4_order 29 = .ok (.iload_n 1, 1) := by decide +kernel
theorem dX4_order_30 : decode cX4_order 30 = .ok (.invokevirtual 111, 3) := by decide +kernel
theorem dX4_order_33 : decode cX4_order 33 = .ok (.ifCond .ne 12, 3) := by decide +kernel
theorem dX4_order_36 : decode cX4_order 36 = .ok (.aload_n 0, 1) := by decide +kernel
theorem dX4_order_37 : decode cX4_order 37 = .ok (.getfield 108, 3) := by decide +kernel
theorem dX4_order_40 : decode cX4_order 40 = .ok (.bipush 30, 2) := by decide +kernel
theorem dX4_order_42 : decode cX4_order 42 = .ok (.if_icmp .ne 7, 3) := by decide +kernel
theorem dX4_order_45 : decode cX4_order 45 = .ok (.iconst 3, 1) := by decide +kernel
theorem dX4_order_46 : decode cX4_order 46 = .ok (.goto 4, 3) := by decide +kernel
theorem dX4_order_49 : decode cX4_order 49 = .ok (.iconst 0, 1) := by decide +kernel
theorem dX4_order_50 : decode cX4_order 50 = .ok (.putfield 41, 3) := by decide +kernel
theorem dX4_order_53 : decode cX4_order 53 = .ok (.aload_n 0, 1) := by decide +kernel
theorem dX4_order_54 : decode cX4_order 54 = .ok (.getfield 41, 3) := by decide +kernel
theorem dX4_order_57 : decode cX4_order 57 = .ok (.ifCond .le 5, 3) := by decide +kernel
theorem dX4_order_60 : decode cX4_order 60 = .ok (.iconst 0, 1) := by decide +kernel
theorem dX4_order_61 : decode cX4_order 61 = .ok (.ireturn, 1) := by decide +kernel
theorem dX4_order_62 : decode cX4_order 62 = .ok (.aload_n 0, 1) := by decide +kernel
theorem dX4_order_63 : decode cX4_order 63 = .ok (.getfield 32, 3) := by decide +kernel
theorem dX4_order_66 : decode cX4_order 66 = .ok (.aload_n 0, 1) := by decide +kernel
theorem dX4_order_67 : decode cX4_order 67 = .ok (.getfield 108, 3) := by decide +kernel
theorem dX4_order_70 : decode cX4_order 70 = .ok (.iload_n 1, 1) := by decide +kernel
theorem dX4_order_71 : decode cX4_order 71 = .ok (.iastore, 1) := by decide +kernel
theorem dX4_order_72 : decode cX4_order 72 = .ok (.aload_n 0, 1) := by decide +kernel
theorem dX4_order_73 : decode cX4_order 73 = .ok (.getfield 35, 3) := by decide +kernel
theorem dX4_order_76 : decode cX4_order 76 = .ok (.aload_n 0, 1) := by decide +kernel
theorem dX4_order_77 : decode cX4_order 77 = .ok (.getfield 108, 3) := by decide +kernel
theorem dX4_order_80 : decode cX4_order 80 = .ok (.iload_n 2, 1) := by decide +kernel
theorem dX4_order_81 : decode cX4_order 81 = .ok (.iastore, 1) := by decide +kernel
theorem dX4_order_82 : decode cX4_order 82 = .ok (.aload_n 0, 1) := by decide +kernel
theorem dX4_order_83 : decode cX4_order 83 = .ok (.dup, 1) := by decide +kernel
theorem dX4_order_84 : decode cX4_order 84 = .ok (.getfield 108, 3) := by decide +kernel
theorem dX4_order_87 : decode cX4_order 87 = .ok (.iconst 1, 1) := by decide +kernel
theorem dX4_order_88 : decode cX4_order 88 = .ok (.iadd, 1) := by decide +kernel
theorem dX4_order_89 : decode cX4_order 89 = .ok (.putfield 108, 3) := by decide +kernel
theorem dX4_order_92 : decode cX4_order 92 = .ok (.aload_n 0, 1) := by decide +kernel
theorem dX4_order_93 : decode cX4_order 93 = .ok (.getfield 108, 3) := by decide +kernel
theorem dX4_order_96 : decode cX4_order 96 = .ok (.iconst 1, 1) := by decide +kernel
theorem dX4_order_97 : decode cX4_order 97 = .ok (.isub, 1) := by decide +kernel
theorem dX4_order_98 : decode cX4_order 98 = .ok (.ireturn, 1) := by decide +kernel
set_option maxRecDepth 20000 in
theorem ggX4_first_X4_spot : GoodIn wsX4_first wsX4_spot := goodIn_r _ [9, 10, 14, 15, 16, 17, 18, 19, 20, 21, 22, 23, 24, 25, 26, 27, 28, 29, 30, 31, 32] (by decide +kernel) (by decide +kernel)
set_option maxRecDepth 20000 in
theorem gX4_first_X4_spot : GoodIn wsX4_first (wsV RX4 67 RX4 yX4_spot wsX4_spot) := goodIn_app (goodIn_of _ (by decide +kernel)) ggX4_first_X4_spot
set_option maxRecDepth 20000 in
theorem ggX4_first_X4_aisleOf : GoodIn wsX4_first wsX4_aisleOf := goodIn_r _ [13] (by decide +kernel) (by decide +kernel)
set_option maxRecDepth 20000 in
theorem gX4_first_X4_aisleOf : GoodIn wsX4_first (va_wsS RX4 114 yX4_aisleOf wsX4_aisleOf) := goodIn_app (goodIn_of _ (by decide +kernel)) ggX4_first_X4_aisleOf
theorem dX4_first_0 : decode cX4_first 0 = .ok (.iconst (-1), 1) := by decide +kernel
theorem dX4_first_1 : decode cX4_first 1 = .ok (.istore_n 2, 1) := by decide +kernel
theorem dX4_first_2 : decode cX4_first 2 = .ok (.iconst 0, 1) := by decide +kernel
theorem dX4_first_3 : decode cX4_first 3 = .ok (.istore_n 3, 1) := by decide +kernel
theorem dX4_first_4 : decode cX4_first 4 = .ok (.iload_n 3, 1) := by decide +kernel
theorem dX4_first_5 : decode cX4_first 5 = .ok (.aload_n 0, 1) := by decide +kernel
theorem dX4_first_6 : decode cX4_first 6 = .ok (.getfield 108, 3) := by decide +kernel
theorem dX4_first_9 : decode cX4_first 9 = .ok (.if_icmp .ge 92, 3) := by decide +kernel
theorem dX4_first_12 : decode cX4_first 12 = .ok (.aload_n 0, 1) := by decide +kernel
theorem dX4_first_13 : decode cX4_first 13 = .ok (.getfield 38, 3) := by decide +kernel
theorem dX4_first_16 : decode cX4_first 16 = .ok (.iload_n 3, 1) := by decide +kernel
theorem dX4_first_17 : decode cX4_first 17 = .ok (.baload, 1) := by decide +kernel
theorem dX4_first_18 : decode cX4_first 18 = .ok (.ifCond .eq 7, 3) := by decide +kernel
theorem dX4_first_21 : decode cX4_first 21 = .ok (.iconst (-1), 1) := by decide +kernel
theorem dX4_first_22 : decode cX4_first 22 = .ok (.goto 13, 3) := by decide +kernel
theorem dX4_first_25 : decode cX4_first 25 = .ok (.aload_n 0, 1) := by decide +kernel
theorem dX4_first_26 : decode cX4_first 26 = .ok (.aload_n 0, 1) := by decide +kernel
theorem dX4_first_27 : decode cX4_first 27 = .ok (.getfield 32, 3) := by decide +kernel
theorem dX4_first_30 : decode cX4_first 30 = .ok (.iload_n 3, 1) := by decide +kernel
theorem dX4_first_31 : decode cX4_first 31 = .ok (.iaload, 1) := by decide +kernel
theorem dX4_first_32 : decode cX4_first 32 = .ok (.invokevirtual 67, 3) := by decide +kernel
theorem dX4_first_35 : decode cX4_first 35 = .ok (.istore 4, 2) := by decide +kernel
theorem dX4_first_37 : decode cX4_first 37 = .ok (.iload 4, 2) := by decide +kernel
theorem dX4_first_39 : decode cX4_first 39 = .ok (.iconst (-1), 1) := by decide +kernel
theorem dX4_first_40 : decode cX4_first 40 = .ok (.if_icmp .eq 21, 3) := by decide +kernel
theorem dX4_first_43 : decode cX4_first 43 = .ok (.iload_n 1, 1) := by decide +kernel
theorem dX4_first_44 : decode cX4_first 44 = .ok (.iconst (-1), 1) := by decide +kernel
theorem dX4_first_45 : decode cX4_first 45 = .ok (.if_icmp .eq 12, 3) := by decide +kernel
theorem dX4_first_48 : decode cX4_first 48 = .ok (.iload 4, 2) := by decide +kernel
theorem dX4_first_50 : decode cX4_first 50 = .ok (.invokestatic 114, 3) := by decide +kernel
theorem dX4_first_53 : decode cX4_first 53 = .ok (.iload_n 1, 1) := by decide +kernel
theorem dX4_first_54 : decode cX4_first 54 = .ok (.if_icmp .ne 7, 3) := by decide +kernel
theorem dX4_first_57 : decode cX4_first 57 = .ok (.iconst 1, 1) := by decide +kernel
theorem dX4_first_58 : decode cX4_first 58 = .ok (.goto 4, 3) := by decide +kernel
theorem dX4_first_61 : decode cX4_first 61 = .ok (.iconst 0, 1) := by decide +kernel
theorem dX4_first_62 : decode cX4_first 62 = .ok (.istore 5, 2) := by decide +kernel
theorem dX4_first_64 : decode cX4_first 64 = .ok (.iload 5, 2) := by decide +kernel
theorem dX4_first_66 : decode cX4_first 66 = .ok (.ifCond .eq 27, 3) := by decide +kernel
theorem dX4_first_69 : decode cX4_first 69 = .ok (.iload_n 2, 1) := by decide +kernel
theorem dX4_first_70 : decode cX4_first 70 = .ok (.iconst (-1), 1) := by decide +kernel
theorem dX4_first_71 : decode cX4_first 71 = .ok (.if_icmp .eq 18, 3) := by decide +kernel
theorem dX4_first_74 : decode cX4_first 74 = .ok (.aload_n 0, 1) := by decide +kernel
theorem dX4_first_75 : decode cX4_first 75 = .ok (.getfield 35, 3) := by decide +kernel
theorem dX4_first_78 : decode cX4_first 78 = .ok (.iload_n 3, 1) := by decide +kernel
theorem dX4_first_79 : decode cX4_first 79 = .ok (.iaload, 1) := by decide +kernel
theorem dX4_first_80 : decode cX4_first 80 = .ok (.aload_n 0, 1) := by decide +kernel
theorem dX4_first_81 : decode cX4_first 81 = .ok (.getfield 35, 3) := by decide +kernel
theorem dX4_first_84 : decode cX4_first 84 = .ok (.iload_n 2, 1) := by decide +kernel
theorem dX4_first_85 : decode cX4_first 85 = .ok (.iaload, 1) := by decide +kernel
theorem dX4_first_86 : decode cX4_first 86 = .ok (.if_icmp .ge 7, 3) := by decide +kernel
theorem dX4_first_89 : decode cX4_first 89 = .ok (.iload_n 3, 1) := by decide +kernel
theorem dX4_first_90 : decode cX4_first 90 = .ok (.goto 4, 3) := by decide +kernel
theorem dX4_first_93 : decode cX4_first 93 = .ok (.iload_n 2, 1) := by decide +kernel
theorem dX4_first_94 : decode cX4_first 94 = .ok (.istore_n 2, 1) := by decide +kernel
theorem dX4_first_95 : decode cX4_first 95 = .ok (.iinc 3 1, 3) := by decide +kernel
theorem dX4_first_98 : decode cX4_first 98 = .ok (.goto (-94), 3) := by decide +kernel
theorem dX4_first_101 : decode cX4_first 101 = .ok (.iload_n 2, 1) := by decide +kernel
theorem dX4_first_102 : decode cX4_first 102 = .ok (.ireturn, 1) := by decide +kernel
set_option maxRecDepth 20000 in
theorem ggX4_nextAisle_X4_first : GoodIn wsX4_nextAisle wsX4_first := goodIn_r _ [7, 8, 9, 2, 10, 11, 12, 13, 6, 14, 15, 16, 17, 18, 19, 20, 21, 22, 23, 24, 25, 26, 27, 28, 29, 30, 31, 32, 33, 34, 35, 36, 37] (by decide +kernel) (by decide +kernel)
set_option maxRecDepth 20000 in
theorem gX4_nextAisle_X4_first : GoodIn wsX4_nextAisle (wsV RX4 117 RX4 yX4_first wsX4_first) := goodIn_app (goodIn_of _ (by decide +kernel)) ggX4_nextAisle_X4_first
set_option maxRecDepth 20000 in
theorem ggX4_nextAisle_X4_spot : GoodIn wsX4_nextAisle wsX4_spot := goodIn_r _ [14, 15, 19, 20, 21, 22, 23, 24, 25, 26, 27, 28, 29, 30, 31, 32, 33, 34, 35, 36, 37] (by decide +kernel) (by decide +kernel)
set_option maxRecDepth 20000 in
theorem gX4_nextAisle_X4_spot : GoodIn wsX4_nextAisle (wsV RX4 67 RX4 yX4_spot wsX4_spot) := goodIn_app (goodIn_of _ (by decide +kernel)) ggX4_nextAisle_X4_spot
set_option maxRecDepth 20000 in
theorem ggX4_nextAisle_X4_aisleOf : GoodIn wsX4_nextAisle wsX4_aisleOf := goodIn_r _ [18] (by decide +kernel) (by decide +kernel)
set_option maxRecDepth 20000 in
theorem gX4_nextAisle_X4_aisleOf : GoodIn wsX4_nextAisle (va_wsS RX4 114 yX4_aisleOf wsX4_aisleOf) := goodIn_app (goodIn_of _ (by decide +kernel)) ggX4_nextAisle_X4_aisleOf
theorem dX4_nextAisle_0 : decode cX4_nextAisle 0 = .ok (.aload_n 0, 1) := by decide +kernel
theorem dX4_nextAisle_1 : decode cX4_nextAisle 1 = .ok (.iconst 0, 1) := by decide +kernel
theorem dX4_nextAisle_2 : decode cX4_nextAisle 2 = .ok (.putfield 41, 3) := by decide +kernel
theorem dX4_nextAisle_5 : decode cX4_nextAisle 5 = .ok (.aload_n 0, 1) := by decide +kernel
theorem dX4_nextAisle_6 : decode cX4_nextAisle 6 = .ok (.iconst (-1), 1) := by decide +kernel
theorem dX4_nextAisle_7 : decode cX4_nextAisle 7 = .ok (.invokevirtual 117, 3) := by decide +kernel
theorem dX4_nextAisle_10 : decode cX4_nextAisle 10 = .ok (.istore_n 1, 1) := by decide +kernel
theorem dX4_nextAisle_11 : decode cX4_nextAisle 11 = .ok (.iload_n 1, 1) := by decide +kernel
theorem dX4_nextAisle_12 : decode cX4_nextAisle 12 = .ok (.iconst (-1), 1) := by decide +kernel
theorem dX4_nextAisle_13 : decode cX4_nextAisle 13 = .ok (.if_icmp .ne 7, 3) := by decide +kernel
theorem dX4_nextAisle_16 : decode cX4_nextAisle 16 = .ok (.iconst (-1), 1) := by decide +kernel
theorem dX4_nextAisle_17 : decode cX4_nextAisle 17 = .ok (.goto 16, 3) := by decide +kernel
theorem dX4_nextAisle_20 : decode cX4_nextAisle 20 = .ok (.aload_n 0, 1) := by decide +kernel
theorem dX4_nextAisle_21 : decode cX4_nextAisle 21 = .ok (.aload_n 0, 1) := by decide +kernel
theorem dX4_nextAisle_22 : decode cX4_nextAisle 22 = .ok (.getfield 32, 3) := by decide +kernel
theorem dX4_nextAisle_25 : decode cX4_nextAisle 25 = .ok (.iload_n 1, 1) := by decide +kernel
theorem dX4_nextAisle_26 : decode cX4_nextAisle 26 = .ok (.iaload, 1) := by decide +kernel
theorem dX4_nextAisle_27 : decode cX4_nextAisle 27 = .ok (.invokevirtual 67, 3) := by decide +kernel
theorem dX4_nextAisle_30 : decode cX4_nextAisle 30 = .ok (.invokestatic 114, 3) := by decide +kernel
theorem dX4_nextAisle_33 : decode cX4_nextAisle 33 = .ok (.ireturn, 1) := by decide +kernel
set_option maxRecDepth 20000 in
theorem ggX4_fetch_X4_isPerson : GoodIn wsX4_fetch wsX4_isPerson := goodIn_r _ [13, 14, 15, 12, 16] (by decide +kernel) (by decide +kernel)
set_option maxRecDepth 20000 in
theorem gX4_fetch_X4_isPerson : GoodIn wsX4_fetch (va_wsS RX4 102 yX4_isPerson wsX4_isPerson) := goodIn_app (goodIn_of _ (by decide +kernel)) ggX4_fetch_X4_isPerson
set_option maxRecDepth 20000 in
theorem ggX4_fetch_X4_first : GoodIn wsX4_fetch wsX4_first := goodIn_r _ [20, 21, 6, 5, 9, 22, 23, 24, 12, 25, 4, 26, 27, 28, 29, 30, 31, 32, 33, 34, 35, 36, 37, 38, 39, 40, 41, 42, 43, 44, 45, 46, 47] (by decide +kernel) (by decide +kernel)
set_option maxRecDepth 20000 in
theorem gX4_fetch_X4_first : GoodIn wsX4_fetch (wsV RX4 117 RX4 yX4_first wsX4_first) := goodIn_app (goodIn_of _ (by decide +kernel)) ggX4_fetch_X4_first
set_option maxRecDepth 20000 in
theorem ggX4_fetch_X4_spot : GoodIn wsX4_fetch wsX4_spot := goodIn_r _ [25, 4, 29, 30, 31, 32, 33, 34, 35, 36, 37, 38, 39, 40, 41, 42, 43, 44, 45, 46, 47] (by decide +kernel) (by decide +kernel)
set_option maxRecDepth 20000 in
theorem gX4_fetch_X4_spot : GoodIn wsX4_fetch (wsV RX4 67 RX4 yX4_spot wsX4_spot) := goodIn_app (goodIn_of _ (by decide +kernel)) ggX4_fetch_X4_spot
theorem dX4_fetch_0 : decode cX4_fetch 0 = .ok (.aload_n 0, 1) := by decide +kernel
theorem dX4_fetch_1 : decode cX4_fetch 1 = .ok (.iload_n 1, 1) := by decide +kernel
theorem dX4_fetch_2 : decode cX4_fetch 2 = .ok (.invokestatic 102, 3) := by decide +kernel
theorem dX4_fetch_5 : decode cX4_fetch 5 = .ok (.ifCond .ne 7, 3) := by decide +kernel
theorem dX4_fetch_8 : decode cX4_fetch 8 = .ok (.iconst 1, 1) := by decide +kernel
theorem dX4_fetch_9 : decode cX4_fetch 9 = .ok (.goto 29, 3) := by decide +kernel
theorem dX4_fetch_12 : decode cX4_fetch 12 = .ok (.aload_n 0, 1) := by decide +kernel
theorem dX4_fetch_13 : decode cX4_fetch 13 = .ok (.getfield 29, 3) := by decide +kernel
theorem dX4_fetch_16 : decode cX4_fetch 16 = .ok (.iload_n 1, 1) := by decide +kernel
theorem dX4_fetch_17 : decode cX4_fetch 17 = .ok (.baload, 1) := by decide +kernel
theorem dX4_fetch_18 : decode cX4_fetch 18 = .ok (.ifCond .eq 15, 3) := by decide +kernel
theorem dX4_fetch_21 : decode cX4_fetch 21 = .ok (.aload_n 0, 1) := by decide +kernel
theorem dX4_fetch_22 : decode cX4_fetch 22 = .ok (.aload_n 0, 1) := by decide +kernel
theorem dX4_fetch_23 : decode cX4_fetch 23 = .ok (.getfield 89, 3) := by decide +kernel
theorem dX4_fetch_26 : decode cX4_fetch 26 = .ok (.invokevirtual 117, 3) := by decide +kernel
theorem dX4_fetch_29 : decode cX4_fetch 29 = .ok (.iconst (-1), 1) := by decide +kernel
theorem dX4_fetch_30 : decode cX4_fetch 30 = .ok (.if_icmp .ne 7, 3) := by decide +kernel
theorem dX4_fetch_33 : decode cX4_fetch 33 = .ok (.iconst 2, 1) := by decide +kernel
theorem dX4_fetch_34 : decode cX4_fetch 34 = .ok (.goto 4, 3) := by decide +kernel
theorem dX4_fetch_37 : decode cX4_fetch 37 = .ok (.iconst 0, 1) := by decide +kernel
theorem dX4_fetch_38 : decode cX4_fetch 38 = .ok (.putfield 41, 3) := by decide +kernel
theorem dX4_fetch_41 : decode cX4_fetch 41 = .ok (.aload_n 0, 1) := by decide +kernel
theorem dX4_fetch_42 : decode cX4_fetch 42 = .ok (.getfield 41, 3) := by decide +kernel
theorem dX4_fetch_45 : decode cX4_fetch 45 = .ok (.ifCond .le 5, 3) := by decide +kernel
theorem dX4_fetch_48 : decode cX4_fetch 48 = .ok (.iconst 0, 1) := by decide +kernel
theorem dX4_fetch_49 : decode cX4_fetch 49 = .ok (.ireturn, 1) := by decide +kernel
theorem dX4_fetch_50 : decode cX4_fetch 50 = .ok (.aload_n 0, 1) := by decide +kernel
theorem dX4_fetch_51 : decode cX4_fetch 51 = .ok (.aload_n 0, 1) := by decide +kernel
theorem dX4_fetch_52 : decode cX4_fetch 52 = .ok (.getfield 89, 3) := by decide +kernel
theorem dX4_fetch_55 : decode cX4_fetch 55 = .ok (.invokevirtual 117, 3) := by decide +kernel
theorem dX4_fetch_58 : decode cX4_fetch 58 = .ok (.istore_n 2, 1) := by decide +kernel
theorem dX4_fetch_59 : decode cX4_fetch 59 = .ok (.aload_n 0, 1) := by decide +kernel
theorem dX4_fetch_60 : decode cX4_fetch 60 = .ok (.getfield 22, 3) := by decide +kernel
theorem dX4_fetch_63 : decode cX4_fetch 63 = .ok (.aload_n 0, 1) := by decide +kernel
theorem dX4_fetch_64 : decode cX4_fetch 64 = .ok (.aload_n 0, 1) := by decide +kernel
theorem dX4_fetch_65 : decode cX4_fetch 65 = .ok (.getfield 32, 3) := by decide +kernel
theorem dX4_fetch_68 : decode cX4_fetch 68 = .ok (.iload_n 2, 1) := by decide +kernel
theorem dX4_fetch_69 : decode cX4_fetch 69 = .ok (.iaload, 1) := by decide +kernel
theorem dX4_fetch_70 : decode cX4_fetch 70 = .ok (.invokevirtual 67, 3) := by decide +kernel
theorem dX4_fetch_73 : decode cX4_fetch 73 = .ok (.iconst 0, 1) := by decide +kernel
theorem dX4_fetch_74 : decode cX4_fetch 74 = .ok (.iastore, 1) := by decide +kernel
theorem dX4_fetch_75 : decode cX4_fetch 75 = .ok (.aload_n 0, 1) := by decide +kernel
theorem dX4_fetch_76 : decode cX4_fetch 76 = .ok (.getfield 38, 3) := by decide +kernel
theorem dX4_fetch_79 : decode cX4_fetch 79 = .ok (.iload_n 2, 1) := by decide +kernel
theorem dX4_fetch_80 : decode cX4_fetch 80 = .ok (.iconst 1, 1) := by decide +kernel
theorem dX4_fetch_81 : decode cX4_fetch 81 = .ok (.bastore, 1) := by decide +kernel
theorem dX4_fetch_82 : decode cX4_fetch 82 = .ok (.aload_n 0, 1) := by decide +kernel
theorem dX4_fetch_83 : decode cX4_fetch 83 = .ok (.dup, 1) := by decide +kernel
theorem dX4_fetch_84 : decode cX4_fetch 84 = .ok (.getfield 120, 3) := by decide +kernel
theorem dX4_fetch_87 : decode cX4_fetch 87 = .ok (.aload_n 0, 1) := by decide +kernel
theorem dX4_fetch_88 : decode cX4_fetch 88 = .ok (.getfield 105, 3) := by decide +kernel
theorem dX4_fetch_91 : decode cX4_fetch 91 = .ok (.aload_n 0, 1) := by decide +kernel
theorem dX4_fetch_92 : decode cX4_fetch 92 = .ok (.getfield 35, 3) := by decide +kernel
theorem dX4_fetch_95 : decode cX4_fetch 95 = .ok (.iload_n 2, 1) := by decide +kernel
theorem dX4_fetch_96 : decode cX4_fetch 96 = .ok (.iaload, 1) := by decide +kernel
theorem dX4_fetch_97 : decode cX4_fetch 97 = .ok (.if_icmp .le 7, 3) := by decide +kernel
theorem dX4_fetch_100 : decode cX4_fetch 100 = .ok (.iconst 1, 1) := by decide +kernel
theorem dX4_fetch_101 : decode cX4_fetch 101 = .ok (.goto 4, 3) := by decide +kernel
theorem dX4_fetch_104 : decode cX4_fetch 104 = .ok (.iconst 0, 1) := by decide +kernel
theorem dX4_fetch_105 : decode cX4_fetch 105 = .ok (.iadd, 1) := by decide +kernel
theorem dX4_fetch_106 : decode cX4_fetch 106 = .ok (.putfield 120, 3) := by decide +kernel
theorem dX4_fetch_109 : decode cX4_fetch 109 = .ok (.iload_n 2, 1) := by decide +kernel
theorem dX4_fetch_110 : decode cX4_fetch 110 = .ok (.ireturn, 1) := by decide +kernel
set_option maxRecDepth 20000 in
theorem ggX4_giveBack_X4_row : GoodIn wsX4_giveBack wsX4_row := goodIn_r _ [10, 11, 12, 9, 13] (by decide +kernel) (by decide +kernel)
set_option maxRecDepth 20000 in
theorem gX4_giveBack_X4_row : GoodIn wsX4_giveBack (va_wsS RX4 76 yX4_row wsX4_row) := goodIn_app (goodIn_of _ (by decide +kernel)) ggX4_giveBack_X4_row
set_option maxRecDepth 20000 in
theorem ggX4_giveBack_X4_isPerson : GoodIn wsX4_giveBack wsX4_isPerson := goodIn_r _ [16, 11, 12, 9, 13] (by decide +kernel) (by decide +kernel)
set_option maxRecDepth 20000 in
theorem gX4_giveBack_X4_isPerson : GoodIn wsX4_giveBack (va_wsS RX4 102 yX4_isPerson wsX4_isPerson) := goodIn_app (goodIn_of _ (by decide +kernel)) ggX4_giveBack_X4_isPerson
set_option maxRecDepth 20000 in
theorem ggX4_giveBack_X4_isBox : GoodIn wsX4_giveBack wsX4_isBox := goodIn_r _ [20, 21, 11, 12, 9, 13, 33, 34, 35, 36, 37, 38, 39, 40, 41, 42, 43, 44, 45, 46, 47, 48, 49, 50, 51] (by decide +kernel) (by decide +kernel)
set_option maxRecDepth 20000 in
theorem gX4_giveBack_X4_isBox : GoodIn wsX4_giveBack (wsV RX4 64 RX4 yX4_isBox wsX4_isBox) := goodIn_app (goodIn_of _ (by decide +kernel)) ggX4_giveBack_X4_isBox
set_option maxRecDepth 20000 in
theorem ggX4_giveBack_X4_spot : GoodIn wsX4_giveBack wsX4_spot := goodIn_r _ [25, 4, 33, 34, 35, 36, 37, 38, 39, 40, 41, 42, 43, 44, 45, 46, 47, 48, 49, 50, 51] (by decide +kernel) (by decide +kernel)
set_option maxRecDepth 20000 in
theorem gX4_giveBack_X4_spot : GoodIn wsX4_giveBack (wsV RX4 67 RX4 yX4_spot wsX4_spot) := goodIn_app (goodIn_of _ (by decide +kernel)) ggX4_giveBack_X4_spot
set_option maxRecDepth 20000 in
theorem ggX4_giveBack_X4_aisleOf : GoodIn wsX4_giveBack wsX4_aisleOf := goodIn_r _ [28] (by decide +kernel) (by decide +kernel)
set_option maxRecDepth 20000 in
theorem gX4_giveBack_X4_aisleOf : GoodIn wsX4_giveBack (va_wsS RX4 114 yX4_aisleOf wsX4_aisleOf) := goodIn_app (goodIn_of _ (by decide +kernel)) ggX4_giveBack_X4_aisleOf
set_option maxRecDepth 20000 in
theorem ggX4_giveBack_X4_fails : GoodIn wsX4_giveBack wsX4_fails := goodIn_r _ [32, 1, 33, 34, 35, 36, 37, 38, 39, 40, 41, 42, 43, 44, 45, 46, 47, 48, 49, 50, 51] (by decide +kernel) (by decide +kernel)
set_option maxRecDepth 20000 in
theorem gX4_giveBack_X4_fails : GoodIn wsX4_giveBack (wsV RX4 79 RX4 yX4_fails wsX4_fails) := goodIn_app (goodIn_of _ (by decide +kernel)) ggX4_giveBack_X4_fails
theorem dX4_giveBack_0 : decode cX4_giveBack 0 = .ok (.iload_n 3, 1) := by decide +kernel
theorem dX4_giveBack_1 : decode cX4_giveBack 1 = .ok (.invokestatic 76, 3) := by decide +kernel
theorem dX4_giveBack_4 : decode cX4_giveBack 4 = .ok (.istore 4, 2) := by decide +kernel
theorem dX4_giveBack_6 : decode cX4_giveBack 6 = .ok (.aload_n 0, 1) := by decide +kernel
theorem dX4_giveBack_7 : decode cX4_giveBack 7 = .ok (.iload_n 1, 1) := by decide +kernel
theorem dX4_giveBack_8 : decode cX4_giveBack 8 = .ok (.invokestatic 102, 3) := by decide +kernel
theorem dX4_giveBack_11 : decode cX4_giveBack 11 = .ok (.ifCond .eq 17, 3) := by decide +kernel
theorem dX4_giveBack_14 : decode cX4_giveBack 14 = .ok (.aload_n 0, 1) := by decide +kernel
theorem dX4_giveBack_15 : decode cX4_giveBack 15 = .ok (.iload_n 2, 1) := by decide +kernel
theorem dX4_giveBack_16 : decode cX4_giveBack 16 = .ok (.invokevirtual 64, 3) := by decide +kernel
theorem dX4_giveBack_19 : decode cX4_giveBack 19 = .ok (.ifCond .eq 9, 3) := by decide +kernel
theorem dX4_giveBack_22 : decode cX4_giveBack 22 = .ok (.iload 4, 2) := by decide +kernel
theorem dX4_giveBack_24 : decode cX4_giveBack 24 = .ok (.iconst (-1), 1) := by decide +kernel
theorem dX4_giveBack_25 : decode cX4_giveBack 25 = .ok (.if_icmp .ne 7, 3) := by decide +kernel
theorem dX4_giveBack_28 : decode cX4_giveBack 28 = .ok (.iconst 1, 1) := by decide +kernel
theorem dX4_giveBack_29 : decode cX4_giveBack 29 = .ok (.goto 4, 3) := by decide +kernel
theorem dX4_giveBack_32 : decode cX4_giveBack 32 = .ok (.iconst 0, 1) := by decide +kernel
theorem dX4_giveBack_33 : decode cX4_giveBack 33 = .ok (.putfield 41, 3) := by decide +kernel
theorem dX4_giveBack_36 : decode cX4_giveBack 36 = .ok (.aload_n 0, 1) := by decide +kernel
theorem dX4_giveBack_37 : decode cX4_giveBack 37 = .ok (.getfield 41, 3) := by decide +kernel
theorem dX4_giveBack_40 : decode cX4_giveBack 40 = .ok (.ifCond .le 5, 3) := by decide +kernel
theorem dX4_giveBack_43 : decode cX4_giveBack 43 = .ok (.iconst 0, 1) := by decide +kernel
theorem dX4_giveBack_44 : decode cX4_giveBack 44 = .ok (.ireturn, 1) := by decide +kernel
theorem dX4_giveBack_45 : decode cX4_giveBack 45 = .ok (.aload_n 0, 1) := by decide +kernel
theorem dX4_giveBack_46 : decode cX4_giveBack 46 = .ok (.getfield 29, 3) := by decide +kernel
theorem dX4_giveBack_49 : decode cX4_giveBack 49 = .ok (.iload_n 1, 1) := by decide +kernel
theorem dX4_giveBack_50 : decode cX4_giveBack 50 = .ok (.baload, 1) := by decide +kernel
theorem dX4_giveBack_51 : decode cX4_giveBack 51 = .ok (.ifCond .eq 38, 3) := by decide +kernel
theorem dX4_giveBack_54 : decode cX4_giveBack 54 = .ok (.aload_n 0, 1) := by decide +kernel
theorem dX4_giveBack_55 : decode cX4_giveBack 55 = .ok (.iload_n 2, 1) := by decide +kernel
theorem dX4_giveBack_56 : decode cX4_giveBack 56 = .ok (.invokevirtual 67, 3) := by decide +kernel
theorem dX4_giveBack_59 : decode cX4_giveBack 59 = .ok (.iconst (-1), 1) := by decide +kernel
theorem dX4_giveBack_60 : decode cX4_giveBack 60 = .ok (.if_icmp .ne 29, 3) := by decide +kernel
theorem dX4_giveBack_63 : decode cX4_giveBack 63 = .ok (.iload 4, 2) := by decide +kernel
theorem dX4_giveBack_65 : decode cX4_giveBack 65 = .ok (.invokestatic 114, 3) := by decide +kernel
theorem dX4_giveBack_68 : decode cX4_giveBack 68 = .ok (.aload_n 0, 1) := by decide +kernel
theorem dX4_giveBack_69 : decode cX4_giveBack 69 = .ok (.getfield 89, 3) := by decide +kernel
theorem dX4_giveBack_72 : decode cX4_giveBack 72 = .ok (.if_icmp .ne 17, 3) := by decide +kernel
theorem dX4_giveBack_75 : decode cX4_giveBack 75 = .ok (.aload_n 0, 1) := by decide +kernel
theorem dX4_giveBack_76 : decode cX4_giveBack 76 = .ok (.getfield 22, 3) := by decide +kernel
theorem dX4_giveBack_79 : decode cX4_giveBack 79 = .ok (.iload 4, 2) := by decide +kernel
theorem dX4_giveBack_81 : decode cX4_giveBack 81 = .ok (.iaload, 1) := by decide +kernel
theorem dX4_giveBack_82 : decode cX4_giveBack 82 = .ok (.ifCond .ne 7, 3) := by decide +kernel
theorem dX4_giveBack_85 : decode cX4_giveBack 85 = .ok (.iconst 1, 1) := by decide +kernel
theorem dX4_giveBack_86 : decode cX4_giveBack 86 = .ok (.goto 4, 3) := by decide +kernel
theorem dX4_giveBack_89 : decode cX4_giveBack 89 = .ok (.iconst 0, 1) := by decide +kernel
theorem dX4_giveBack_90 : decode cX4_giveBack 90 = .ok (.istore 5, 2) := by decide +kernel
theorem dX4_giveBack_92 : decode cX4_giveBack 92 = .ok (.iload 5, 2) := by decide +kernel
theorem dX4_giveBack_94 : decode cX4_giveBack 94 = .ok (.ifCond .ne 11, 3) := by decide +kernel
theorem dX4_giveBack_97 : decode cX4_giveBack 97 = .ok (.aload_n 0, 1) := by decide +kernel
theorem dX4_giveBack_98 : decode cX4_giveBack 98 = .ok (.iconst 2, 1) := by decide +kernel
theorem dX4_giveBack_99 : decode cX4_giveBack 99 = .ok (.invokevirtual 79, 3) := by decide +kernel
theorem dX4_giveBack_102 : decode cX4_giveBack 102 = .ok (.pop, 1) := by decide +kernel
theorem dX4_giveBack_103 : decode cX4_giveBack 103 = .ok (.iconst 0, 1) := by decide +kernel
theorem dX4_giveBack_104 : decode cX4_giveBack 104 = .ok (.ireturn, 1) := by decide +kernel
theorem dX4_giveBack_105 : decode cX4_giveBack 105 = .ok (.aload_n 0, 1) := by decide +kernel
theorem dX4_giveBack_106 : decode cX4_giveBack 106 = .ok (.getfield 22, 3) := by decide +kernel
theorem dX4_giveBack_109 : decode cX4_giveBack 109 = .ok (.iload 4, 2) := by decide +kernel
theorem dX4_giveBack_111 : decode cX4_giveBack 111 = .ok (.iload_n 2, 1) := by decide +kernel
theorem dX4_giveBack_112 : decode cX4_giveBack 112 = .ok (.iconst 1, 1) := by decide +kernel
theorem dX4_giveBack_113 : decode cX4_giveBack 113 = .ok (.iadd, 1) := by decide +kernel
theorem dX4_giveBack_114 : decode cX4_giveBack 114 = .ok (.iastore, 1) := by decide +kernel
theorem dX4_giveBack_115 : decode cX4_giveBack 115 = .ok (.aload_n 0, 1) := by decide +kernel
theorem dX4_giveBack_116 : decode cX4_giveBack 116 = .ok (.getfield 7, 3) := by decide +kernel
theorem dX4_giveBack_119 : decode cX4_giveBack 119 = .ok (.iload 4, 2) := by decide +kernel
theorem dX4_giveBack_121 : decode cX4_giveBack 121 = .ok (.bipush 6, 2) := by decide +kernel
theorem dX4_giveBack_123 : decode cX4_giveBack 123 = .ok (.idiv, 1) := by decide +kernel
theorem dX4_giveBack_124 : decode cX4_giveBack 124 = .ok (.iaload, 1) := by decide +kernel
theorem dX4_giveBack_125 : decode cX4_giveBack 125 = .ok (.aload_n 0, 1) := by decide +kernel
theorem dX4_giveBack_126 : decode cX4_giveBack 126 = .ok (.getfield 13, 3) := by decide +kernel
theorem dX4_giveBack_129 : decode cX4_giveBack 129 = .ok (.iload_n 2, 1) := by decide +kernel
theorem dX4_giveBack_130 : decode cX4_giveBack 130 = .ok (.iaload, 1) := by decide +kernel
theorem dX4_giveBack_131 : decode cX4_giveBack 131 = .ok (.if_icmp .ne 7, 3) := by decide +kernel
theorem dX4_giveBack_134 : decode cX4_giveBack 134 = .ok (.iconst 1, 1) := by decide +kernel
theorem dX4_giveBack_135 : decode cX4_giveBack 135 = .ok (.goto 4, 3) := by decide +kernel
theorem dX4_giveBack_138 : decode cX4_giveBack 138 = .ok (.iconst 0, 1) := by decide +kernel
theorem dX4_giveBack_139 : decode cX4_giveBack 139 = .ok (.ireturn, 1) := by decide +kernel
theorem dX4_waiting_0 : decode cX4_waiting 0 = .ok (.aload_n 0, 1) := by decide +kernel
theorem dX4_waiting_1 : decode cX4_waiting 1 = .ok (.iconst 0, 1) := by decide +kernel
theorem dX4_waiting_2 : decode cX4_waiting 2 = .ok (.putfield 41, 3) := by decide +kernel
theorem dX4_waiting_5 : decode cX4_waiting 5 = .ok (.iconst 0, 1) := by decide +kernel
theorem dX4_waiting_6 : decode cX4_waiting 6 = .ok (.istore_n 1, 1) := by decide +kernel
theorem dX4_waiting_7 : decode cX4_waiting 7 = .ok (.iconst 0, 1) := by decide +kernel
theorem dX4_waiting_8 : decode cX4_waiting 8 = .ok (.istore_n 2, 1) := by decide +kernel
theorem dX4_waiting_9 : decode cX4_waiting 9 = .ok (.iload_n 2, 1) := by decide +kernel
theorem dX4_waiting_10 : decode cX4_waiting 10 = .ok (.aload_n 0, 1) := by decide +kernel
theorem dX4_waiting_11 : decode cX4_waiting 11 = .ok (.getfield 108, 3) := by decide +kernel
theorem dX4_waiting_14 : decode cX4_waiting 14 = .ok (.if_icmp .ge 26, 3) := by decide +kernel
theorem dX4_waiting_17 : decode cX4_waiting 17 = .ok (.iload_n 1, 1) := by decide +kernel
theorem dX4_waiting_18 : decode cX4_waiting 18 = .ok (.aload_n 0, 1) := by decide +kernel
theorem dX4_waiting_19 : decode cX4_waiting 19 = .ok (.getfield 38, 3) := by decide +kernel
theorem dX4_waiting_22 : decode cX4_waiting 22 = .ok (.iload_n 2, 1) := by decide +kernel
theorem dX4_waiting_23 : decode cX4_waiting 23 = .ok (.baload, 1) := by decide +kernel
theorem dX4_waiting_24 : decode cX4_waiting 24 = .ok (.ifCond .eq 7, 3) := by decide +kernel
theorem dX4_waiting_27 : decode cX4_waiting 27 = .ok (.iconst 0, 1) := by decide +kernel
theorem dX4_waiting_28 : decode cX4_waiting 28 = .ok (.goto 4, 3) := by decide +kernel
theorem dX4_waiting_31 : decode cX4_waiting 31 = .ok (.iconst 1, 1) := by decide +kernel
theorem dX4_waiting_32 : decode cX4_waiting 32 = .ok (.iadd, 1) := by decide +kernel
theorem dX4_waiting_33 : decode cX4_waiting 33 = .ok (.istore_n 1, 1) := by decide +kernel
theorem dX4_waiting_34 : decode cX4_waiting 34 = .ok (.iinc 2 1, 3) := by decide +kernel
theorem dX4_waiting_37 : decode cX4_waiting 37 = .ok (.goto (-28), 3) := by decide +kernel
theorem dX4_waiting_40 : decode cX4_waiting 40 = .ok (.iload_n 1, 1) := by decide +kernel
theorem dX4_waiting_41 : decode cX4_waiting 41 = .ok (.ireturn, 1) := by decide +kernel
theorem dX4_late_0 : decode cX4_late 0 = .ok (.aload_n 0, 1) := by decide +kernel
theorem dX4_late_1 : decode cX4_late 1 = .ok (.iconst 0, 1) := by decide +kernel
theorem dX4_late_2 : decode cX4_late 2 = .ok (.putfield 41, 3) := by decide +kernel
theorem dX4_late_5 : decode cX4_late 5 = .ok (.aload_n 0, 1) := by decide +kernel
theorem dX4_late_6 : decode cX4_late 6 = .ok (.getfield 120, 3) := by decide +kernel
theorem dX4_late_9 : decode cX4_late 9 = .ok (.ireturn, 1) := by decide +kernel
end
section
set_option maxRecDepth 20000 in
theorem ggL_setClimate_X3_setClimate : GoodIn wsL_setClimate wsX3_setClimate := goodIn_ca (goodIn_ca (goodIn_r _ [7, 8, 9, 10, 11, 12, 13, 6, 14, 15, 16, 17, 18, 19, 20, 21, 22, 23, 24, 25, 26, 27, 28, 29, 30, 31, 32, 33, 34, 35, 36, 37, 38, 39] (by decide +kernel) (by decide +kernel)) (goodIn_sub (fun _ h => List.mem_cons_of_mem _ (List.mem_append_left _ (List.mem_append_right _ h))) (by decide +kernel))) (goodIn_sub (fun _ h => List.mem_cons_of_mem _ (List.mem_append_right _ h)) (by decide +kernel))
set_option maxRecDepth 20000 in
theorem gL_setClimate_X3_setClimate : GoodIn wsL_setClimate (wsV RL 7 RX3 yX3_setClimate wsX3_setClimate) := goodIn_app (goodIn_of _ (by decide +kernel)) ggL_setClimate_X3_setClimate
theorem dL_setClimate_0 : decode cL_setClimate 0 = .ok (.aload_n 3, 1) := by decide +kernel
theorem dL_setClimate_1 : decode cL_setClimate 1 = .ok (.iconst 0, 1) := by decide +kernel
theorem dL_setClimate_2 : decode cL_setClimate 2 = .ok (.aload_n 0, 1) := by decide +kernel
theorem dL_setClimate_3 : decode cL_setClimate 3 = .ok (.iload_n 1, 1) := by decide +kernel
theorem dL_setClimate_4 : decode cL_setClimate 4 = .ok (.iload_n 2, 1) := by decide +kernel
theorem dL_setClimate_5 : decode cL_setClimate 5 = .ok (.invokevirtual 7, 3) := by decide +kernel
theorem dL_setClimate_8 : decode cL_setClimate 8 = .ok (.i2l, 1) := by decide +kernel
theorem dL_setClimate_9 : decode cL_setClimate 9 = .ok (.lastore, 1) := by decide +kernel
theorem dL_setClimate_10 : decode cL_setClimate 10 = .ok (.goto 11, 3) := by decide +kernel
theorem dL_setClimate_13 : decode cL_setClimate 13 = .ok (.astore 4, 2) := by decide +kernel
theorem dL_setClimate_15 : decode cL_setClimate 15 = .ok (.iconst 1, 1) := by decide +kernel
theorem dL_setClimate_16 : decode cL_setClimate 16 = .ok (.ireturn, 1) := by decide +kernel
theorem dL_setClimate_17 : decode cL_setClimate 17 = .ok (.astore 4, 2) := by decide +kernel
theorem dL_setClimate_19 : decode cL_setClimate 19 = .ok (.iconst 2, 1) := by decide +kernel
theorem dL_setClimate_20 : decode cL_setClimate 20 = .ok (.ireturn, 1) := by decide +kernel
theorem dL_setClimate_21 : decode cL_setClimate 21 = .ok (.iconst 0, 1) := by decide +kernel
theorem dL_setClimate_22 : decode cL_setClimate 22 = .ok (.ireturn, 1) := by decide +kernel
set_option maxRecDepth 20000 in
theorem ggL_addBox_X3_addBox : GoodIn wsL_addBox wsX3_addBox := goodIn_ca (goodIn_ca (goodIn_r _ [7, 8, 9, 10, 11, 12, 13, 14, 6, 15, 16, 17, 18, 19, 20, 21, 22, 23, 24, 25, 26, 27, 28, 29, 30, 31, 32, 33, 34, 35, 36, 37, 38, 39, 40] (by decide +kernel) (by decide +kernel)) (goodIn_sub (fun _ h => List.mem_cons_of_mem _ (List.mem_append_left _ (List.mem_append_right _ h))) (by decide +kernel))) (goodIn_sub (fun _ h => List.mem_cons_of_mem _ (List.mem_append_right _ h)) (by decide +kernel))
set_option maxRecDepth 20000 in
theorem gL_addBox_X3_addBox : GoodIn wsL_addBox (wsV RL 17 RX3 yX3_addBox wsX3_addBox) := goodIn_app (goodIn_of _ (by decide +kernel)) ggL_addBox_X3_addBox
theorem dL_addBox_0 : decode cL_addBox 0 = .ok (.aload 4, 2) := by decide +kernel
theorem dL_addBox_2 : decode cL_addBox 2 = .ok (.iconst 0, 1) := by decide +kernel
theorem dL_addBox_3 : decode cL_addBox 3 = .ok (.aload_n 0, 1) := by decide +kernel
theorem dL_addBox_4 : decode cL_addBox 4 = .ok (.iload_n 1, 1) := by decide +kernel
theorem dL_addBox_5 : decode cL_addBox 5 = .ok (.iload_n 2, 1) := by decide +kernel
theorem dL_addBox_6 : decode cL_addBox 6 = .ok (.iload_n 3, 1) := by decide +kernel
theorem dL_addBox_7 : decode cL_addBox 7 = .ok (.invokevirtual 17, 3) := by decide +kernel
theorem dL_addBox_10 : decode cL_addBox 10 = .ok (.i2l, 1) := by decide +kernel
theorem dL_addBox_11 : decode cL_addBox 11 = .ok (.lastore, 1) := by decide +kernel
theorem dL_addBox_12 : decode cL_addBox 12 = .ok (.goto 11, 3) := by decide +kernel
theorem dL_addBox_15 : decode cL_addBox 15 = .ok (.astore 5, 2) := by decide +kernel
theorem dL_addBox_17 : decode cL_addBox 17 = .ok (.iconst 1, 1) := by decide +kernel
theorem dL_addBox_18 : decode cL_addBox 18 = .ok (.ireturn, 1) := by decide +kernel
theorem dL_addBox_19 : decode cL_addBox 19 = .ok (.astore 5, 2) := by decide +kernel
theorem dL_addBox_21 : decode cL_addBox 21 = .ok (.iconst 2, 1) := by decide +kernel
theorem dL_addBox_22 : decode cL_addBox 22 = .ok (.ireturn, 1) := by decide +kernel
theorem dL_addBox_23 : decode cL_addBox 23 = .ok (.iconst 0, 1) := by decide +kernel
theorem dL_addBox_24 : decode cL_addBox 24 = .ok (.ireturn, 1) := by decide +kernel
set_option maxRecDepth 20000 in
theorem ggL_bestSpot_X3_bestSpot : GoodIn wsL_bestSpot wsX3_bestSpot := goodIn_ca (goodIn_ca (goodIn_r _ [7, 8, 9, 10, 11, 6, 12, 13, 14, 15, 16, 17, 18, 19, 20, 21, 22, 23, 24, 25, 26, 27, 28, 29, 30, 31, 32, 33, 34, 35, 36, 37, 38, 39, 40, 41, 42, 43, 44, 45, 46, 47, 48, 49, 50, 51, 52, 53, 54, 55, 56, 57, 58, 59, 60, 61, 62, 63, 64, 65, 66, 67, 68, 69, 70, 71, 72, 73, 74, 75, 76, 77] (by decide +kernel) (by decide +kernel)) (goodIn_sub (fun _ h => List.mem_cons_of_mem _ (List.mem_append_left _ (List.mem_append_right _ h))) (by decide +kernel))) (goodIn_sub (fun _ h => List.mem_cons_of_mem _ (List.mem_append_right _ h)) (by decide +kernel))
set_option maxRecDepth 20000 in
theorem gL_bestSpot_X3_bestSpot : GoodIn wsL_bestSpot (wsV RL 23 RX3 yX3_bestSpot wsX3_bestSpot) := goodIn_app (goodIn_of _ (by decide +kernel)) ggL_bestSpot_X3_bestSpot
theorem dL_bestSpot_0 : decode cL_bestSpot 0 = .ok (.aload_n 2, 1) := by decide +kernel
theorem dL_bestSpot_1 : decode cL_bestSpot 1 = .ok (.iconst 0, 1) := by decide +kernel
theorem dL_bestSpot_2 : decode cL_bestSpot 2 = .ok (.aload_n 0, 1) := by decide +kernel
theorem dL_bestSpot_3 : decode cL_bestSpot 3 = .ok (.iload_n 1, 1) := by decide +kernel
theorem dL_bestSpot_4 : decode cL_bestSpot 4 = .ok (.invokevirtual 23, 3) := by decide +kernel
theorem dL_bestSpot_7 : decode cL_bestSpot 7 = .ok (.i2l, 1) := by decide +kernel
theorem dL_bestSpot_8 : decode cL_bestSpot 8 = .ok (.lastore, 1) := by decide +kernel
theorem dL_bestSpot_9 : decode cL_bestSpot 9 = .ok (.goto 9, 3) := by decide +kernel
theorem dL_bestSpot_12 : decode cL_bestSpot 12 = .ok (.astore_n 3, 1) := by decide +kernel
theorem dL_bestSpot_13 : decode cL_bestSpot 13 = .ok (.iconst 1, 1) := by decide +kernel
theorem dL_bestSpot_14 : decode cL_bestSpot 14 = .ok (.ireturn, 1) := by decide +kernel
theorem dL_bestSpot_15 : decode cL_bestSpot 15 = .ok (.astore_n 3, 1) := by decide +kernel
theorem dL_bestSpot_16 : decode cL_bestSpot 16 = .ok (.iconst 2, 1) := by decide +kernel
theorem dL_bestSpot_17 : decode cL_bestSpot 17 = .ok (.ireturn, 1) := by decide +kernel
theorem dL_bestSpot_18 : decode cL_bestSpot 18 = .ok (.iconst 0, 1) := by decide +kernel
theorem dL_bestSpot_19 : decode cL_bestSpot 19 = .ok (.ireturn, 1) := by decide +kernel
set_option maxRecDepth 20000 in
theorem ggL_lay_X3_lay : GoodIn wsL_lay wsX3_lay := goodIn_ca (goodIn_ca (goodIn_r _ [7, 8, 9, 10, 11, 12, 13, 6, 14, 15, 16, 17, 18, 19, 20, 21, 22, 23, 24, 25, 26, 27, 28, 29, 30, 31, 32, 33, 34, 35, 36, 37, 38, 39, 40, 41, 42, 43, 44, 45, 46, 47, 48, 49, 50, 51, 52, 53, 54, 55, 56, 57, 58, 59, 60, 61, 62, 63, 64, 65, 66, 67, 68, 69, 70, 71, 72, 73, 74, 75, 76, 77, 78, 79, 80, 81] (by decide +kernel) (by decide +kernel)) (goodIn_sub (fun _ h => List.mem_cons_of_mem _ (List.mem_append_left _ (List.mem_append_right _ h))) (by decide +kernel))) (goodIn_sub (fun _ h => List.mem_cons_of_mem _ (List.mem_append_right _ h)) (by decide +kernel))
set_option maxRecDepth 20000 in
theorem gL_lay_X3_lay : GoodIn wsL_lay (wsV RL 27 RX3 yX3_lay wsX3_lay) := goodIn_app (goodIn_of _ (by decide +kernel)) ggL_lay_X3_lay
theorem dL_lay_0 : decode cL_lay 0 = .ok (.aload_n 2, 1) := by decide +kernel
theorem dL_lay_1 : decode cL_lay 1 = .ok (.iconst 0, 1) := by decide +kernel
theorem dL_lay_2 : decode cL_lay 2 = .ok (.aload_n 0, 1) := by decide +kernel
theorem dL_lay_3 : decode cL_lay 3 = .ok (.iload_n 1, 1) := by decide +kernel
theorem dL_lay_4 : decode cL_lay 4 = .ok (.invokevirtual 27, 3) := by decide +kernel
theorem dL_lay_7 : decode cL_lay 7 = .ok (.i2l, 1) := by decide +kernel
theorem dL_lay_8 : decode cL_lay 8 = .ok (.lastore, 1) := by decide +kernel
theorem dL_lay_9 : decode cL_lay 9 = .ok (.goto 9, 3) := by decide +kernel
theorem dL_lay_12 : decode cL_lay 12 = .ok (.astore_n 3, 1) := by decide +kernel
theorem dL_lay_13 : decode cL_lay 13 = .ok (.iconst 1, 1) := by decide +kernel
theorem dL_lay_14 : decode cL_lay 14 = .ok (.ireturn, 1) := by decide +kernel
theorem dL_lay_15 : decode cL_lay 15 = .ok (.astore_n 3, 1) := by decide +kernel
theorem dL_lay_16 : decode cL_lay 16 = .ok (.iconst 2, 1) := by decide +kernel
theorem dL_lay_17 : decode cL_lay 17 = .ok (.ireturn, 1) := by decide +kernel
theorem dL_lay_18 : decode cL_lay 18 = .ok (.iconst 0, 1) := by decide +kernel
theorem dL_lay_19 : decode cL_lay 19 = .ok (.ireturn, 1) := by decide +kernel
set_option maxRecDepth 20000 in
theorem ggL_spotOf_X3_spotOf : GoodIn wsL_spotOf wsX3_spotOf := goodIn_ca (goodIn_r _ [6, 7, 8, 9, 10, 5, 11, 12, 13, 14, 15, 16, 17, 18, 19, 20, 21, 22, 23, 24, 25, 26, 27, 28, 29, 30, 31, 32, 33, 34, 35, 36, 37] (by decide +kernel) (by decide +kernel)) (goodIn_sub (fun _ h => List.mem_cons_of_mem _ (List.mem_append_right _ h)) (by decide +kernel))
set_option maxRecDepth 20000 in
theorem gL_spotOf_X3_spotOf : GoodIn wsL_spotOf (wsV RL 30 RX3 yX3_spotOf wsX3_spotOf) := goodIn_app (goodIn_of _ (by decide +kernel)) ggL_spotOf_X3_spotOf
theorem dL_spotOf_0 : decode cL_spotOf 0 = .ok (.aload_n 2, 1) := by decide +kernel
theorem dL_spotOf_1 : decode cL_spotOf 1 = .ok (.iconst 0, 1) := by decide +kernel
theorem dL_spotOf_2 : decode cL_spotOf 2 = .ok (.aload_n 0, 1) := by decide +kernel
theorem dL_spotOf_3 : decode cL_spotOf 3 = .ok (.iload_n 1, 1) := by decide +kernel
theorem dL_spotOf_4 : decode cL_spotOf 4 = .ok (.invokevirtual 30, 3) := by decide +kernel
theorem dL_spotOf_7 : decode cL_spotOf 7 = .ok (.i2l, 1) := by decide +kernel
theorem dL_spotOf_8 : decode cL_spotOf 8 = .ok (.lastore, 1) := by decide +kernel
theorem dL_spotOf_9 : decode cL_spotOf 9 = .ok (.goto 6, 3) := by decide +kernel
theorem dL_spotOf_12 : decode cL_spotOf 12 = .ok (.astore_n 3, 1) := by decide +kernel
theorem dL_spotOf_13 : decode cL_spotOf 13 = .ok (.iconst 1, 1) := by decide +kernel
theorem dL_spotOf_14 : decode cL_spotOf 14 = .ok (.ireturn, 1) := by decide +kernel
theorem dL_spotOf_15 : decode cL_spotOf 15 = .ok (.iconst 0, 1) := by decide +kernel
theorem dL_spotOf_16 : decode cL_spotOf 16 = .ok (.ireturn, 1) := by decide +kernel
set_option maxRecDepth 20000 in
theorem ggL_boxAt_X3_boxAt : GoodIn wsL_boxAt wsX3_boxAt := goodIn_ca (goodIn_r _ [6, 7, 8, 9, 10, 5, 11, 12, 13, 14, 15, 16, 17, 18, 19, 20, 21, 22, 23, 24, 25, 26, 27, 28, 29, 30, 31, 32, 33, 34, 35, 36, 37, 38, 39, 40, 41, 42] (by decide +kernel) (by decide +kernel)) (goodIn_sub (fun _ h => List.mem_cons_of_mem _ (List.mem_append_right _ h)) (by decide +kernel))
set_option maxRecDepth 20000 in
theorem gL_boxAt_X3_boxAt : GoodIn wsL_boxAt (wsV RL 33 RX3 yX3_boxAt wsX3_boxAt) := goodIn_app (goodIn_of _ (by decide +kernel)) ggL_boxAt_X3_boxAt
theorem dL_boxAt_0 : decode cL_boxAt 0 = .ok (.aload_n 2, 1) := by decide +kernel
theorem dL_boxAt_1 : decode cL_boxAt 1 = .ok (.iconst 0, 1) := by decide +kernel
theorem dL_boxAt_2 : decode cL_boxAt 2 = .ok (.aload_n 0, 1) := by decide +kernel
theorem dL_boxAt_3 : decode cL_boxAt 3 = .ok (.iload_n 1, 1) := by decide +kernel
theorem dL_boxAt_4 : decode cL_boxAt 4 = .ok (.invokevirtual 33, 3) := by decide +kernel
theorem dL_boxAt_7 : decode cL_boxAt 7 = .ok (.i2l, 1) := by decide +kernel
theorem dL_boxAt_8 : decode cL_boxAt 8 = .ok (.lastore, 1) := by decide +kernel
theorem dL_boxAt_9 : decode cL_boxAt 9 = .ok (.goto 6, 3) := by decide +kernel
theorem dL_boxAt_12 : decode cL_boxAt 12 = .ok (.astore_n 3, 1) := by decide +kernel
theorem dL_boxAt_13 : decode cL_boxAt 13 = .ok (.iconst 1, 1) := by decide +kernel
theorem dL_boxAt_14 : decode cL_boxAt 14 = .ok (.ireturn, 1) := by decide +kernel
theorem dL_boxAt_15 : decode cL_boxAt 15 = .ok (.iconst 0, 1) := by decide +kernel
theorem dL_boxAt_16 : decode cL_boxAt 16 = .ok (.ireturn, 1) := by decide +kernel
set_option maxRecDepth 20000 in
theorem ggL_weight_X3_weight : GoodIn wsL_weight wsX3_weight := goodIn_ca (goodIn_r _ [6, 7, 8, 9, 10, 5, 11, 12, 13, 14, 15, 16, 17, 18, 19, 20, 21, 22, 23, 24, 25, 26, 27, 28, 29, 30, 31, 32, 33, 34, 35, 36, 37, 38, 39, 40, 41, 42, 43, 44, 45, 46, 47, 48] (by decide +kernel) (by decide +kernel)) (goodIn_sub (fun _ h => List.mem_cons_of_mem _ (List.mem_append_right _ h)) (by decide +kernel))
set_option maxRecDepth 20000 in
theorem gL_weight_X3_weight : GoodIn wsL_weight (wsV RL 36 RX3 yX3_weight wsX3_weight) := goodIn_app (goodIn_of _ (by decide +kernel)) ggL_weight_X3_weight
theorem dL_weight_0 : decode cL_weight 0 = .ok (.aload_n 2, 1) := by decide +kernel
theorem dL_weight_1 : decode cL_weight 1 = .ok (.iconst 0, 1) := by decide +kernel
theorem dL_weight_2 : decode cL_weight 2 = .ok (.aload_n 0, 1) := by decide +kernel
theorem dL_weight_3 : decode cL_weight 3 = .ok (.iload_n 1, 1) := by decide +kernel
theorem dL_weight_4 : decode cL_weight 4 = .ok (.invokevirtual 36, 3) := by decide +kernel
theorem dL_weight_7 : decode cL_weight 7 = .ok (.i2l, 1) := by decide +kernel
theorem dL_weight_8 : decode cL_weight 8 = .ok (.lastore, 1) := by decide +kernel
theorem dL_weight_9 : decode cL_weight 9 = .ok (.goto 6, 3) := by decide +kernel
theorem dL_weight_12 : decode cL_weight 12 = .ok (.astore_n 3, 1) := by decide +kernel
theorem dL_weight_13 : decode cL_weight 13 = .ok (.iconst 1, 1) := by decide +kernel
theorem dL_weight_14 : decode cL_weight 14 = .ok (.ireturn, 1) := by decide +kernel
theorem dL_weight_15 : decode cL_weight 15 = .ok (.iconst 0, 1) := by decide +kernel
theorem dL_weight_16 : decode cL_weight 16 = .ok (.ireturn, 1) := by decide +kernel
set_option maxRecDepth 20000 in
theorem ggL_open_X3_open : GoodIn wsL_open wsX3_open := goodIn_ca (goodIn_ca (goodIn_r _ [7, 8, 9, 10, 11, 12, 13, 6, 14, 15, 16, 17, 18, 19, 20, 21, 22, 23, 24, 25, 26, 27, 28, 29, 30, 31, 32, 33, 34, 35, 36, 37, 38, 39, 40, 41, 42, 43, 44, 45, 46, 47, 48, 49, 50, 51, 52, 53, 54, 55, 56, 57, 58, 59, 60, 61, 62, 63, 64, 65] (by decide +kernel) (by decide +kernel)) (goodIn_sub (fun _ h => List.mem_cons_of_mem _ (List.mem_append_left _ (List.mem_append_right _ h))) (by decide +kernel))) (goodIn_sub (fun _ h => List.mem_cons_of_mem _ (List.mem_append_right _ h)) (by decide +kernel))
set_option maxRecDepth 20000 in
theorem gL_open_X3_open : GoodIn wsL_open (wsV RL 39 RX3 yX3_open wsX3_open) := goodIn_app (goodIn_of _ (by decide +kernel)) ggL_open_X3_open
theorem dL_open_0 : decode cL_open 0 = .ok (.aload_n 2, 1) := by decide +kernel
theorem dL_open_1 : decode cL_open 1 = .ok (.iconst 0, 1) := by decide +kernel
theorem dL_open_2 : decode cL_open 2 = .ok (.aload_n 0, 1) := by decide +kernel
theorem dL_open_3 : decode cL_open 3 = .ok (.iload_n 1, 1) := by decide +kernel
theorem dL_open_4 : decode cL_open 4 = .ok (.invokevirtual 39, 3) := by decide +kernel
theorem dL_open_7 : decode cL_open 7 = .ok (.i2l, 1) := by decide +kernel
theorem dL_open_8 : decode cL_open 8 = .ok (.lastore, 1) := by decide +kernel
theorem dL_open_9 : decode cL_open 9 = .ok (.goto 9, 3) := by decide +kernel
theorem dL_open_12 : decode cL_open 12 = .ok (.astore_n 3, 1) := by decide +kernel
theorem dL_open_13 : decode cL_open 13 = .ok (.iconst 1, 1) := by decide +kernel
theorem dL_open_14 : decode cL_open 14 = .ok (.ireturn, 1) := by decide +kernel
theorem dL_open_15 : decode cL_open 15 = .ok (.astore_n 3, 1) := by decide +kernel
theorem dL_open_16 : decode cL_open 16 = .ok (.iconst 2, 1) := by decide +kernel
theorem dL_open_17 : decode cL_open 17 = .ok (.ireturn, 1) := by decide +kernel
theorem dL_open_18 : decode cL_open 18 = .ok (.iconst 0, 1) := by decide +kernel
theorem dL_open_19 : decode cL_open 19 = .ok (.ireturn, 1) := by decide +kernel
set_option maxRecDepth 20000 in
theorem ggL_goIn_X3_goIn : GoodIn wsL_goIn wsX3_goIn := goodIn_ca (goodIn_ca (goodIn_r _ [7, 8, 9, 10, 11, 12, 13, 6, 14, 15, 16, 17, 18, 19, 20, 21, 22, 23, 24, 25, 26, 27, 28, 29, 30, 31, 32, 33, 34, 35, 36, 37, 38, 39, 40, 41, 42, 43, 44, 45, 46, 47, 48, 49, 50, 51, 52, 53, 54, 55] (by decide +kernel) (by decide +kernel)) (goodIn_sub (fun _ h => List.mem_cons_of_mem _ (List.mem_append_left _ (List.mem_append_right _ h))) (by decide +kernel))) (goodIn_sub (fun _ h => List.mem_cons_of_mem _ (List.mem_append_right _ h)) (by decide +kernel))
set_option maxRecDepth 20000 in
theorem gL_goIn_X3_goIn : GoodIn wsL_goIn (wsV RL 42 RX3 yX3_goIn wsX3_goIn) := goodIn_app (goodIn_of _ (by decide +kernel)) ggL_goIn_X3_goIn
theorem dL_goIn_0 : decode cL_goIn 0 = .ok (.aload_n 2, 1) := by decide +kernel
theorem dL_goIn_1 : decode cL_goIn 1 = .ok (.iconst 0, 1) := by decide +kernel
theorem dL_goIn_2 : decode cL_goIn 2 = .ok (.aload_n 0, 1) := by decide +kernel
theorem dL_goIn_3 : decode cL_goIn 3 = .ok (.iload_n 1, 1) := by decide +kernel
theorem dL_goIn_4 : decode cL_goIn 4 = .ok (.invokevirtual 42, 3) := by decide +kernel
theorem dL_goIn_7 : decode cL_goIn 7 = .ok (.i2l, 1) := by decide +kernel
theorem dL_goIn_8 : decode cL_goIn 8 = .ok (.lastore, 1) := by decide +kernel
theorem dL_goIn_9 : decode cL_goIn 9 = .ok (.goto 9, 3) := by decide +kernel
theorem dL_goIn_12 : decode cL_goIn 12 = .ok (.astore_n 3, 1) := by decide +kernel
theorem dL_goIn_13 : decode cL_goIn 13 = .ok (.iconst 1, 1) := by decide +kernel
theorem dL_goIn_14 : decode cL_goIn 14 = .ok (.ireturn, 1) := by decide +kernel
theorem dL_goIn_15 : decode cL_goIn 15 = .ok (.astore_n 3, 1) := by decide +kernel
theorem dL_goIn_16 : decode cL_goIn 16 = .ok (.iconst 2, 1) := by decide +kernel
theorem dL_goIn_17 : decode cL_goIn 17 = .ok (.ireturn, 1) := by decide +kernel
theorem dL_goIn_18 : decode cL_goIn 18 = .ok (.iconst 0, 1) := by decide +kernel
theorem dL_goIn_19 : decode cL_goIn 19 = .ok (.ireturn, 1) := by decide +kernel
set_option maxRecDepth 20000 in
theorem ggL_goOut_X3_goOut : GoodIn wsL_goOut wsX3_goOut := goodIn_ca (goodIn_ca (goodIn_r _ [7, 8, 9, 10, 11, 6, 12, 13, 14, 15, 16, 17, 18, 19, 20, 21, 22, 23, 24, 25, 26, 27, 28, 29, 30, 31, 32, 33, 34, 35, 36, 37, 38, 39, 40, 41, 42, 43, 44, 45, 46, 47, 48] (by decide +kernel) (by decide +kernel)) (goodIn_sub (fun _ h => List.mem_cons_of_mem _ (List.mem_append_left _ (List.mem_append_right _ h))) (by decide +kernel))) (goodIn_sub (fun _ h => List.mem_cons_of_mem _ (List.mem_append_right _ h)) (by decide +kernel))
set_option maxRecDepth 20000 in
theorem gL_goOut_X3_goOut : GoodIn wsL_goOut (wsV RL 45 RX3 yX3_goOut wsX3_goOut) := goodIn_app (goodIn_of _ (by decide +kernel)) ggL_goOut_X3_goOut
theorem dL_goOut_0 : decode cL_goOut 0 = .ok (.aload_n 2, 1) := by decide +kernel
theorem dL_goOut_1 : decode cL_goOut 1 = .ok (.iconst 0, 1) := by decide +kernel
theorem dL_goOut_2 : decode cL_goOut 2 = .ok (.aload_n 0, 1) := by decide +kernel
theorem dL_goOut_3 : decode cL_goOut 3 = .ok (.iload_n 1, 1) := by decide +kernel
theorem dL_goOut_4 : decode cL_goOut 4 = .ok (.invokevirtual 45, 3) := by decide +kernel
theorem dL_goOut_7 : decode cL_goOut 7 = .ok (.i2l, 1) := by decide +kernel
theorem dL_goOut_8 : decode cL_goOut 8 = .ok (.lastore, 1) := by decide +kernel
theorem dL_goOut_9 : decode cL_goOut 9 = .ok (.goto 9, 3) := by decide +kernel
theorem dL_goOut_12 : decode cL_goOut 12 = .ok (.astore_n 3, 1) := by decide +kernel
theorem dL_goOut_13 : decode cL_goOut 13 = .ok (.iconst 1, 1) := by decide +kernel
theorem dL_goOut_14 : decode cL_goOut 14 = .ok (.ireturn, 1) := by decide +kernel
theorem dL_goOut_15 : decode cL_goOut 15 = .ok (.astore_n 3, 1) := by decide +kernel
theorem dL_goOut_16 : decode cL_goOut 16 = .ok (.iconst 2, 1) := by decide +kernel
theorem dL_goOut_17 : decode cL_goOut 17 = .ok (.ireturn, 1) := by decide +kernel
theorem dL_goOut_18 : decode cL_goOut 18 = .ok (.iconst 0, 1) := by decide +kernel
theorem dL_goOut_19 : decode cL_goOut 19 = .ok (.ireturn, 1) := by decide +kernel
set_option maxRecDepth 20000 in
theorem ggL_doubt_X3_doubt : GoodIn wsL_doubt wsX3_doubt := goodIn_ca (goodIn_r _ [6, 7, 8, 9, 10, 5, 11, 12, 13, 14, 15, 16, 17, 18, 19, 20, 21, 22, 23, 24, 25, 26, 27, 28, 29, 30, 31, 32, 33, 34, 35, 36, 37] (by decide +kernel) (by decide +kernel)) (goodIn_sub (fun _ h => List.mem_cons_of_mem _ (List.mem_append_right _ h)) (by decide +kernel))
set_option maxRecDepth 20000 in
theorem gL_doubt_X3_doubt : GoodIn wsL_doubt (wsV RL 48 RX3 yX3_doubt wsX3_doubt) := goodIn_app (goodIn_of _ (by decide +kernel)) ggL_doubt_X3_doubt
theorem dL_doubt_0 : decode cL_doubt 0 = .ok (.aload_n 2, 1) := by decide +kernel
theorem dL_doubt_1 : decode cL_doubt 1 = .ok (.iconst 0, 1) := by decide +kernel
theorem dL_doubt_2 : decode cL_doubt 2 = .ok (.aload_n 0, 1) := by decide +kernel
theorem dL_doubt_3 : decode cL_doubt 3 = .ok (.iload_n 1, 1) := by decide +kernel
theorem dL_doubt_4 : decode cL_doubt 4 = .ok (.invokevirtual 48, 3) := by decide +kernel
theorem dL_doubt_7 : decode cL_doubt 7 = .ok (.ifCond .eq 7, 3) := by decide +kernel
theorem dL_doubt_10 : decode cL_doubt 10 = .ok (.lconst 1, 1) := by decide +kernel
theorem dL_doubt_11 : decode cL_doubt 11 = .ok (.goto 4, 3) := by decide +kernel
theorem dL_doubt_14 : decode cL_doubt 14 = .ok (.lconst 0, 1) := by decide +kernel
theorem dL_doubt_15 : decode cL_doubt 15 = .ok (.lastore, 1) := by decide +kernel
theorem dL_doubt_16 : decode cL_doubt 16 = .ok (.goto 6, 3) := by decide +kernel
theorem dL_doubt_19 : decode cL_doubt 19 = .ok (.astore_n 3, 1) := by decide +kernel
theorem dL_doubt_20 : decode cL_doubt 20 = .ok (.iconst 1, 1) := by decide +kernel
theorem dL_doubt_21 : decode cL_doubt 21 = .ok (.ireturn, 1) := by decide +kernel
theorem dL_doubt_22 : decode cL_doubt 22 = .ok (.iconst 0, 1) := by decide +kernel
theorem dL_doubt_23 : decode cL_doubt 23 = .ok (.ireturn, 1) := by decide +kernel
set_option maxRecDepth 20000 in
theorem ggL_look_X3_look : GoodIn wsL_look wsX3_look := goodIn_ca (goodIn_r _ [6, 7, 8, 9, 10, 11, 12, 13, 14, 15, 16, 17, 18, 19, 20, 21, 22, 5, 23, 24, 25, 26, 27, 28, 29, 30, 31, 32, 33, 34, 35, 36, 37, 38] (by decide +kernel) (by decide +kernel)) (goodIn_sub (fun _ h => List.mem_cons_of_mem _ (List.mem_append_right _ h)) (by decide +kernel))
set_option maxRecDepth 20000 in
theorem gL_look_X3_look : GoodIn wsL_look (wsV RL 52 RX3 yX3_look wsX3_look) := goodIn_app (goodIn_of _ (by decide +kernel)) ggL_look_X3_look
theorem dL_look_0 : decode cL_look 0 = .ok (.aload_n 1, 1) := by decide +kernel
theorem dL_look_1 : decode cL_look 1 = .ok (.iconst 0, 1) := by decide +kernel
theorem dL_look_2 : decode cL_look 2 = .ok (.aload_n 0, 1) := by decide +kernel
theorem dL_look_3 : decode cL_look 3 = .ok (.invokevirtual 52, 3) := by decide +kernel
theorem dL_look_6 : decode cL_look 6 = .ok (.ifCond .eq 7, 3) := by decide +kernel
theorem dL_look_9 : decode cL_look 9 = .ok (.lconst 1, 1) := by decide +kernel
theorem dL_look_10 : decode cL_look 10 = .ok (.goto 4, 3) := by decide +kernel
theorem dL_look_13 : decode cL_look 13 = .ok (.lconst 0, 1) := by decide +kernel
theorem dL_look_14 : decode cL_look 14 = .ok (.lastore, 1) := by decide +kernel
theorem dL_look_15 : decode cL_look 15 = .ok (.goto 6, 3) := by decide +kernel
theorem dL_look_18 : decode cL_look 18 = .ok (.astore_n 2, 1) := by decide +kernel
theorem dL_look_19 : decode cL_look 19 = .ok (.iconst 1, 1) := by decide +kernel
theorem dL_look_20 : decode cL_look 20 = .ok (.ireturn, 1) := by decide +kernel
theorem dL_look_21 : decode cL_look 21 = .ok (.iconst 0, 1) := by decide +kernel
theorem dL_look_22 : decode cL_look 22 = .ok (.ireturn, 1) := by decide +kernel
set_option maxRecDepth 20000 in
theorem ggL_pass_X3_pass : GoodIn wsL_pass wsX3_pass := goodIn_ca (goodIn_ca (goodIn_r _ [7, 8, 9, 10, 11, 12, 13, 14, 15, 16, 17, 18, 19, 20, 21, 22, 23, 24, 25, 26, 27, 28, 29, 30, 31, 32, 33, 34, 35, 36, 37, 38, 39, 6, 40, 41, 42, 43, 44, 45, 46, 47, 48, 49, 50, 51] (by decide +kernel) (by decide +kernel)) (goodIn_sub (fun _ h => List.mem_cons_of_mem _ (List.mem_append_left _ (List.mem_append_right _ h))) (by decide +kernel))) (goodIn_sub (fun _ h => List.mem_cons_of_mem _ (List.mem_append_right _ h)) (by decide +kernel))
set_option maxRecDepth 20000 in
theorem gL_pass_X3_pass : GoodIn wsL_pass (wsV RL 56 RX3 yX3_pass wsX3_pass) := goodIn_app (goodIn_of _ (by decide +kernel)) ggL_pass_X3_pass
theorem dL_pass_0 : decode cL_pass 0 = .ok (.aload_n 2, 1) := by decide +kernel
theorem dL_pass_1 : decode cL_pass 1 = .ok (.iconst 0, 1) := by decide +kernel
theorem dL_pass_2 : decode cL_pass 2 = .ok (.aload_n 0, 1) := by decide +kernel
theorem dL_pass_3 : decode cL_pass 3 = .ok (.iload_n 1, 1) := by decide +kernel
theorem dL_pass_4 : decode cL_pass 4 = .ok (.invokevirtual 56, 3) := by decide +kernel
theorem dL_pass_7 : decode cL_pass 7 = .ok (.i2l, 1) := by decide +kernel
theorem dL_pass_8 : decode cL_pass 8 = .ok (.lastore, 1) := by decide +kernel
theorem dL_pass_9 : decode cL_pass 9 = .ok (.goto 9, 3) := by decide +kernel
theorem dL_pass_12 : decode cL_pass 12 = .ok (.astore_n 3, 1) := by decide +kernel
theorem dL_pass_13 : decode cL_pass 13 = .ok (.iconst 1, 1) := by decide +kernel
theorem dL_pass_14 : decode cL_pass 14 = .ok (.ireturn, 1) := by decide +kernel
theorem dL_pass_15 : decode cL_pass 15 = .ok (.astore_n 3, 1) := by decide +kernel
theorem dL_pass_16 : decode cL_pass 16 = .ok (.iconst 2, 1) := by decide +kernel
theorem dL_pass_17 : decode cL_pass 17 = .ok (.ireturn, 1) := by decide +kernel
theorem dL_pass_18 : decode cL_pass 18 = .ok (.iconst 0, 1) := by decide +kernel
theorem dL_pass_19 : decode cL_pass 19 = .ok (.ireturn, 1) := by decide +kernel
set_option maxRecDepth 20000 in
theorem ggL_order_X3_order : GoodIn wsL_order wsX3_order := goodIn_ca (goodIn_ca (goodIn_ca (goodIn_r _ [8, 9, 10, 11, 12, 13, 14, 15, 16, 7, 17, 18, 19, 20, 21, 22, 23, 24, 25, 26, 27, 28, 29, 30, 31, 32, 33, 34, 35, 36, 37, 38, 39, 40, 41, 42, 43, 44, 45, 46, 47, 48, 49, 50, 51, 52, 53, 54, 55, 56, 57, 58, 59, 60, 61] (by decide +kernel) (by decide +kernel)) (goodIn_sub (fun _ h => List.mem_cons_of_mem _ (List.mem_append_left _ (List.mem_append_left _ (List.mem_append_right _ h)))) (by decide +kernel))) (goodIn_sub (fun _ h => List.mem_cons_of_mem _ (List.mem_append_left _ (List.mem_append_right _ h))) (by decide +kernel))) (goodIn_sub (fun _ h => List.mem_cons_of_mem _ (List.mem_append_right _ h)) (by decide +kernel))
set_option maxRecDepth 20000 in
theorem gL_order_X3_order : GoodIn wsL_order (wsV RL 59 RX3 yX3_order wsX3_order) := goodIn_app (goodIn_of _ (by decide +kernel)) ggL_order_X3_order
theorem dL_order_0 : decode cL_order 0 = .ok (.aload_n 3, 1) := by decide +kernel
theorem dL_order_1 : decode cL_order 1 = .ok (.iconst 0, 1) := by decide +kernel
theorem dL_order_2 : decode cL_order 2 = .ok (.aload_n 0, 1) := by decide +kernel
theorem dL_order_3 : decode cL_order 3 = .ok (.iload_n 1, 1) := by decide +kernel
theorem dL_order_4 : decode cL_order 4 = .ok (.iload_n 2, 1) := by decide +kernel
theorem dL_order_5 : decode cL_order 5 = .ok (.invokevirtual 59, 3) := by decide +kernel
theorem dL_order_8 : decode cL_order 8 = .ok (.i2l, 1) := by decide +kernel
theorem dL_order_9 : decode cL_order 9 = .ok (.lastore, 1) := by decide +kernel
theorem dL_order_10 : decode cL_order 10 = .ok (.goto 15, 3) := by decide +kernel
theorem dL_order_13 : decode cL_order 13 = .ok (.astore 4, 2) := by decide +kernel
theorem dL_order_15 : decode cL_order 15 = .ok (.iconst 1, 1) := by decide +kernel
theorem dL_order_16 : decode cL_order 16 = .ok (.ireturn, 1) := by decide +kernel
theorem dL_order_17 : decode cL_order 17 = .ok (.astore 4, 2) := by decide +kernel
theorem dL_order_19 : decode cL_order 19 = .ok (.iconst 2, 1) := by decide +kernel
theorem dL_order_20 : decode cL_order 20 = .ok (.ireturn, 1) := by decide +kernel
theorem dL_order_21 : decode cL_order 21 = .ok (.astore 4, 2) := by decide +kernel
theorem dL_order_23 : decode cL_order 23 = .ok (.iconst 3, 1) := by decide +kernel
theorem dL_order_24 : decode cL_order 24 = .ok (.ireturn, 1) := by decide +kernel
theorem dL_order_25 : decode cL_order 25 = .ok (.iconst 0, 1) := by decide +kernel
theorem dL_order_26 : decode cL_order 26 = .ok (.ireturn, 1) := by decide +kernel
set_option maxRecDepth 20000 in
theorem ggL_fetch_X3_fetch : GoodIn wsL_fetch wsX3_fetch := goodIn_ca (goodIn_ca (goodIn_r _ [7, 8, 9, 10, 11, 12, 13, 14, 15, 16, 6, 17, 18, 19, 20, 21, 22, 23, 24, 25, 26, 27, 28, 29, 30, 31, 32, 33, 34, 35, 36, 37, 38, 39, 40, 41, 42, 43, 44, 45, 46, 47, 48, 49, 50, 51, 52, 53, 54, 55, 56, 57, 58, 59, 60, 61, 62, 63, 64, 65, 66, 67, 68, 69, 70, 71, 72, 73, 74, 75, 76, 77, 78, 79, 80, 81, 82, 83, 84, 85, 86, 87, 88, 89, 90, 91, 92, 93, 94, 95, 96, 97, 98, 99, 100, 101, 102, 103, 104, 105] (by decide +kernel) (by decide +kernel)) (goodIn_sub (fun _ h => List.mem_cons_of_mem _ (List.mem_append_left _ (List.mem_append_right _ h))) (by decide +kernel))) (goodIn_sub (fun _ h => List.mem_cons_of_mem _ (List.mem_append_right _ h)) (by decide +kernel))
set_option maxRecDepth 20000 in
theorem gL_fetch_X3_fetch : GoodIn wsL_fetch (wsV RL 62 RX3 yX3_fetch wsX3_fetch) := goodIn_app (goodIn_of _ (by decide +kernel)) ggL_fetch_X3_fetch
theorem dL_fetch_0 : decode cL_fetch 0 = .ok (.aload_n 2, 1) := by decide +kernel
theorem dL_fetch_1 : decode cL_fetch 1 = .ok (.iconst 0, 1) := by decide +kernel
theorem dL_fetch_2 : decode cL_fetch 2 = .ok (.aload_n 0, 1) := by decide +kernel
theorem dL_fetch_3 : decode cL_fetch 3 = .ok (.iload_n 1, 1) := by decide +kernel
theorem dL_fetch_4 : decode cL_fetch 4 = .ok (.invokevirtual 62, 3) := by decide +kernel
theorem dL_fetch_7 : decode cL_fetch 7 = .ok (.i2l, 1) := by decide +kernel
theorem dL_fetch_8 : decode cL_fetch 8 = .ok (.lastore, 1) := by decide +kernel
theorem dL_fetch_9 : decode cL_fetch 9 = .ok (.goto 9, 3) := by decide +kernel
theorem dL_fetch_12 : decode cL_fetch 12 = .ok (.astore_n 3, 1) := by decide +kernel
theorem dL_fetch_13 : decode cL_fetch 13 = .ok (.iconst 1, 1) := by decide +kernel
theorem dL_fetch_14 : decode cL_fetch 14 = .ok (.ireturn, 1) := by decide +kernel
theorem dL_fetch_15 : decode cL_fetch 15 = .ok (.astore_n 3, 1) := by decide +kernel
theorem dL_fetch_16 : decode cL_fetch 16 = .ok (.iconst 2, 1) := by decide +kernel
theorem dL_fetch_17 : decode cL_fetch 17 = .ok (.ireturn, 1) := by decide +kernel
theorem dL_fetch_18 : decode cL_fetch 18 = .ok (.iconst 0, 1) := by decide +kernel
theorem dL_fetch_19 : decode cL_fetch 19 = .ok (.ireturn, 1) := by decide +kernel
set_option maxRecDepth 20000 in
theorem ggL_giveBack_X3_giveBack : GoodIn wsL_giveBack wsX3_giveBack := goodIn_ca (goodIn_ca (goodIn_r _ [7, 8, 9, 10, 11, 12, 13, 14, 6, 15, 16, 17, 18, 19, 20, 21, 22, 23, 24, 25, 26, 27, 28, 29, 30, 31, 32, 33, 34, 35, 36, 37, 38, 39, 40, 41, 42, 43, 44, 45, 46, 47, 48, 49, 50, 51, 52, 53, 54, 55, 56, 57, 58, 59, 60, 61, 62, 63, 64, 65, 66, 67, 68, 69, 70, 71, 72, 73, 74, 75, 76, 77, 78, 79, 80, 81, 82, 83, 84, 85, 86, 87, 88, 89, 90, 91, 92, 93, 94, 95, 96, 97, 98, 99, 100, 101, 102, 103, 104, 105, 106, 107, 108, 109, 110, 111] (by decide +kernel) (by decide +kernel)) (goodIn_sub (fun _ h => List.mem_cons_of_mem _ (List.mem_append_left _ (List.mem_append_right _ h))) (by decide +kernel))) (goodIn_sub (fun _ h => List.mem_cons_of_mem _ (List.mem_append_right _ h)) (by decide +kernel))
set_option maxRecDepth 20000 in
theorem gL_giveBack_X3_giveBack : GoodIn wsL_giveBack (wsV RL 65 RX3 yX3_giveBack wsX3_giveBack) := goodIn_app (goodIn_of _ (by decide +kernel)) ggL_giveBack_X3_giveBack
theorem dL_giveBack_0 : decode cL_giveBack 0 = .ok (.aload 4, 2) := by decide +kernel
theorem dL_giveBack_2 : decode cL_giveBack 2 = .ok (.iconst 0, 1) := by decide +kernel
theorem dL_giveBack_3 : decode cL_giveBack 3 = .ok (.aload_n 0, 1) := by decide +kernel
theorem dL_giveBack_4 : decode cL_giveBack 4 = .ok (.iload_n 1, 1) := by decide +kernel
theorem dL_giveBack_5 : decode cL_giveBack 5 = .ok (.iload_n 2, 1) := by decide +kernel
theorem dL_giveBack_6 : decode cL_giveBack 6 = .ok (.iload_n 3, 1) := by decide +kernel
theorem dL_giveBack_7 : decode cL_giveBack 7 = .ok (.invokevirtual 65, 3) := by decide +kernel
theorem dL_giveBack_10 : decode cL_giveBack 10 = .ok (.ifCond .eq 7, 3) := by decide +kernel
theorem dL_giveBack_13 : decode cL_giveBack 13 = .ok (.lconst 1, 1) := by decide +kernel
theorem dL_giveBack_14 : decode cL_giveBack 14 = .ok (.goto 4, 3) := by decide +kernel
theorem dL_giveBack_17 : decode cL_giveBack 17 = .ok (.lconst 0, 1) := by decide +kernel
theorem dL_giveBack_18 : decode cL_giveBack 18 = .ok (.lastore, 1) := by decide +kernel
theorem dL_giveBack_19 : decode cL_giveBack 19 = .ok (.goto 11, 3) := by decide +kernel
theorem dL_giveBack_22 : decode cL_giveBack 22 = .ok (.astore 5, 2) := by decide +kernel
theorem dL_giveBack_24 : decode cL_giveBack 24 = .ok (.iconst 1, 1) := by decide +kernel
theorem dL_giveBack_25 : decode cL_giveBack 25 = .ok (.ireturn, 1) := by decide +kernel
theorem dL_giveBack_26 : decode cL_giveBack 26 = .ok (.astore 5, 2) := by decide +kernel
theorem dL_giveBack_28 : decode cL_giveBack 28 = .ok (.iconst 2, 1) := by decide +kernel
theorem dL_giveBack_29 : decode cL_giveBack 29 = .ok (.ireturn, 1) := by decide +kernel
theorem dL_giveBack_30 : decode cL_giveBack 30 = .ok (.iconst 0, 1) := by decide +kernel
theorem dL_giveBack_31 : decode cL_giveBack 31 = .ok (.ireturn, 1) := by decide +kernel
end
section
theorem dL_law_0 : decode cL_law 0 = .ok (.new 8, 3) := by decide +kernel
theorem dL_law_3 : decode cL_law 3 = .ok (.dup, 1) := by decide +kernel
theorem dL_law_4 : decode cL_law 4 = .ok (.invokespecial 69, 3) := by decide +kernel
theorem dL_law_7 : decode cL_law 7 = .ok (.astore_n 1, 1) := by decide +kernel
theorem dL_law_8 : decode cL_law 8 = .ok (.new 70, 3) := by decide +kernel
theorem dL_law_11 : decode cL_law 11 = .ok (.dup, 1) := by decide +kernel
theorem dL_law_12 : decode cL_law 12 = .ok (.invokespecial 72, 3) := by decide +kernel
theorem dL_law_15 : decode cL_law 15 = .ok (.astore_n 2, 1) := by decide +kernel
theorem dL_law_16 : decode cL_law 16 = .ok (.iconst 1, 1) := by decide +kernel
theorem dL_law_17 : decode cL_law 17 = .ok (.newarray .long, 2) := by decide +kernel
theorem dL_law_19 : decode cL_law 19 = .ok (.astore_n 3, 1) := by decide +kernel
theorem dL_law_20 : decode cL_law 20 = .ok (.iconst 0, 1) := by decide +kernel
theorem dL_law_21 : decode cL_law 21 = .ok (.istore 4, 2) := by decide +kernel
theorem dL_law_23 : decode cL_law 23 = .ok (.iload 4, 2) := by decide +kernel
theorem dL_law_25 : decode cL_law 25 = .ok (.aload_n 0, 1) := by decide +kernel
theorem dL_law_26 : decode cL_law 26 = .ok (.arraylength, 1) := by decide +kernel
theorem dL_law_27 : decode cL_law 27 = .ok (.iconst 4, 1) := by decide +kernel
theorem dL_law_28 : decode cL_law 28 = .ok (.isub, 1) := by decide +kernel
theorem dL_law_29 : decode cL_law 29 = .ok (.if_icmp .gt 1262, 3) := by decide +kernel
theorem dL_law_32 : decode cL_law 32 = .ok (.aload_n 0, 1) := by decide +kernel
theorem dL_law_33 : decode cL_law 33 = .ok (.iload 4, 2) := by decide +kernel
theorem dL_law_35 : decode cL_law 35 = .ok (.iaload, 1) := by decide +kernel
theorem dL_law_36 : decode cL_law 36 = .ok (.bipush 31, 2) := by decide +kernel
theorem dL_law_38 : decode cL_law 38 = .ok (.iand, 1) := by decide +kernel
theorem dL_law_39 : decode cL_law 39 = .ok (.tableswitch 1246 0 23 #[109, 177, 257, 313, 369, 425, 481, 537, 550, 606, 619, 632, 688, 744, 807, 858, 899, 940, 996, 1064, 1077, 1133, 1220, 1233], 109) := by decide +kernel
theorem dL_law_148 : decode cL_law 148 = .ok (.aload_n 1, 1) := by decide +kernel
theorem dL_law_149 : decode cL_law 149 = .ok (.aload_n 0, 1) := by decide +kernel
theorem dL_law_150 : decode cL_law 150 = .ok (.iload 4, 2) := by decide +kernel
theorem dL_law_152 : decode cL_law 152 = .ok (.iconst 1, 1) := by decide +kernel
theorem dL_law_153 : decode cL_law 153 = .ok (.iadd, 1) := by decide +kernel
theorem dL_law_154 : decode cL_law 154 = .ok (.iaload, 1) := by decide +kernel
theorem dL_law_155 : decode cL_law 155 = .ok (.aload_n 0, 1) := by decide +kernel
theorem dL_law_156 : decode cL_law 156 = .ok (.iload 4, 2) := by decide +kernel
theorem dL_law_158 : decode cL_law 158 = .ok (.iconst 2, 1) := by decide +kernel
theorem dL_law_159 : decode cL_law 159 = .ok (.iadd, 1) := by decide +kernel
theorem dL_law_160 : decode cL_law 160 = .ok (.iaload, 1) := by decide +kernel
theorem dL_law_161 : decode cL_law 161 = .ok (.aload_n 3, 1) := by decide +kernel
theorem dL_law_162 : decode cL_law 162 = .ok (.invokestatic 73, 3) := by decide +kernel
theorem dL_law_165 : decode cL_law 165 = .ok (.istore 5, 2) := by decide +kernel
theorem dL_law_167 : decode cL_law 167 = .ok (.aload_n 2, 1) := by decide +kernel
theorem dL_law_168 : decode cL_law 168 = .ok (.aload_n 0, 1) := by decide +kernel
theorem dL_law_169 : decode cL_law 169 = .ok (.iload 4, 2) := by decide +kernel
theorem dL_law_171 : decode cL_law 171 = .ok (.iconst 1, 1) := by decide +kernel
theorem dL_law_172 : decode cL_law 172 = .ok (.iadd, 1) := by decide +kernel
theorem dL_law_173 : decode cL_law 173 = .ok (.iaload, 1) := by decide +kernel
theorem dL_law_174 : decode cL_law 174 = .ok (.aload_n 0, 1) := by decide +kernel
theorem dL_law_175 : decode cL_law 175 = .ok (.iload 4, 2) := by decide +kernel
theorem dL_law_177 : decode cL_law 177 = .ok (.iconst 2, 1) := by decide +kernel
theorem dL_law_178 : decode cL_law 178 = .ok (.iadd, 1) := by decide +kernel
theorem dL_law_179 : decode cL_law 179 = .ok (.iaload, 1) := by decide +kernel
theorem dL_law_180 : decode cL_law 180 = .ok (.invokevirtual 78, 3) := by decide +kernel
theorem dL_law_183 : decode cL_law 183 = .ok (.istore 6, 2) := by decide +kernel
theorem dL_law_185 : decode cL_law 185 = .ok (.aload_n 2, 1) := by decide +kernel
theorem dL_law_186 : decode cL_law 186 = .ok (.invokevirtual 79, 3) := by decide +kernel
theorem dL_law_189 : decode cL_law 189 = .ok (.iload 5, 2) := by decide +kernel
theorem dL_law_191 : decode cL_law 191 = .ok (.if_icmp .eq 5, 3) := by decide +kernel
theorem dL_law_194 : decode cL_law 194 = .ok (.iconst 0, 1) := by decide +kernel
theorem dL_law_195 : decode cL_law 195 = .ok (.ireturn, 1) := by decide +kernel
theorem dL_law_196 : decode cL_law 196 = .ok (.iload 5, 2) := by decide +kernel
theorem dL_law_198 : decode cL_law 198 = .ok (.ifCond .ne 15, 3) := by decide +kernel
theorem dL_law_201 : decode cL_law 201 = .ok (.aload_n 3, 1) := by decide +kernel
theorem dL_law_202 : decode cL_law 202 = .ok (.iconst 0, 1) := by decide +kernel
theorem dL_law_203 : decode cL_law 203 = .ok (.laload, 1) := by decide +kernel
theorem dL_law_204 : decode cL_law 204 = .ok (.iload 6, 2) := by decide +kernel
theorem dL_law_206 : decode cL_law 206 = .ok (.i2l, 1) := by decide +kernel
theorem dL_law_207 : decode cL_law 207 = .ok (.lcmp, 1) := by decide +kernel
theorem dL_law_208 : decode cL_law 208 = .ok (.ifCond .eq 5, 3) := by decide +kernel
theorem dL_law_211 : decode cL_law 211 = .ok (.iconst 0, 1) := by decide +kernel
theorem dL_law_212 : decode cL_law 212 = .ok (.ireturn, 1) := by decide +kernel
theorem dL_law_213 : decode cL_law 213 = .ok (.goto 1072, 3) := by decide +kernel
theorem dL_law_216 : decode cL_law 216 = .ok (.aload_n 1, 1) := by decide +kernel
theorem dL_law_217 : decode cL_law 217 = .ok (.aload_n 0, 1) := by decide +kernel
theorem dL_law_218 : decode cL_law 218 = .ok (.iload 4, 2) := by decide +kernel
theorem dL_law_220 : decode cL_law 220 = .ok (.iconst 1, 1) := by decide +kernel
theorem dL_law_221 : decode cL_law 221 = .ok (.iadd, 1) := by decide +kernel
theorem dL_law_222 : decode cL_law 222 = .ok (.iaload, 1) := by decide +kernel
theorem dL_law_223 : decode cL_law 223 = .ok (.aload_n 0, 1) := by decide +kernel
theorem dL_law_224 : decode cL_law 224 = .ok (.iload 4, 2) := by decide +kernel
theorem dL_law_226 : decode cL_law 226 = .ok (.iconst 2, 1) := by decide +kernel
theorem dL_law_227 : decode cL_law 227 = .ok (.iadd, 1) := by decide +kernel
theorem dL_law_228 : decode cL_law 228 = .ok (.iaload, 1) := by decide +kernel
theorem dL_law_229 : decode cL_law 229 = .ok (.aload_n 0, 1) := by decide +kernel
theorem dL_law_230 : decode cL_law 230 = .ok (.iload 4, 2) := by decide +kernel
theorem dL_law_232 : decode cL_law 232 = .ok (.iconst 3, 1) := by decide +kernel
theorem dL_law_233 : decode cL_law 233 = .ok (.iadd, 1) := by decide +kernel
theorem dL_law_234 : decode cL_law 234 = .ok (.iaload, 1) := by decide +kernel
theorem dL_law_235 : decode cL_law 235 = .ok (.aload_n 3, 1) := by decide +kernel
theorem dL_law_236 : decode cL_law 236 = .ok (.invokestatic 83, 3) := by decide +kernel
theorem dL_law_239 : decode cL_law 239 = .ok (.istore 5, 2) := by decide +kernel
theorem dL_law_241 : decode cL_law 241 = .ok (.aload_n 2, 1) := by decide +kernel
theorem dL_law_242 : decode cL_law 242 = .ok (.aload_n 0, 1) := by decide +kernel
theorem dL_law_243 : decode cL_law 243 = .ok (.iload 4, 2) := by decide +kernel
theorem dL_law_245 : decode cL_law 245 = .ok (.iconst 1, 1) := by decide +kernel
theorem dL_law_246 : decode cL_law 246 = .ok (.iadd, 1) := by decide +kernel
theorem dL_law_247 : decode cL_law 247 = .ok (.iaload, 1) := by decide +kernel
theorem dL_law_248 : decode cL_law 248 = .ok (.aload_n 0, 1) := by decide +kernel
theorem dL_law_249 : decode cL_law 249 = .ok (.iload 4, 2) := by decide +kernel
theorem dL_law_251 : decode cL_law 251 = .ok (.iconst 2, 1) := by decide +kernel
theorem dL_law_252 : decode cL_law 252 = .ok (.iadd, 1) := by decide +kernel
theorem dL_law_253 : decode cL_law 253 = .ok (.iaload, 1) := by decide +kernel
theorem dL_law_254 : decode cL_law 254 = .ok (.aload_n 0, 1) := by decide +kernel
theorem dL_law_255 : decode cL_law 255 = .ok (.iload 4, 2) := by decide +kernel
theorem dL_law_257 : decode cL_law 257 = .ok (.iconst 3, 1) := by decide +kernel
theorem dL_law_258 : decode cL_law 258 = .ok (.iadd, 1) := by decide +kernel
theorem dL_law_259 : decode cL_law 259 = .ok (.iaload, 1) := by decide +kernel
theorem dL_law_260 : decode cL_law 260 = .ok (.invokevirtual 86, 3) := by decide +kernel
theorem dL_law_263 : decode cL_law 263 = .ok (.istore 6, 2) := by decide +kernel
theorem dL_law_265 : decode cL_law 265 = .ok (.aload_n 2, 1) := by decide +kernel
theorem dL_law_266 : decode cL_law 266 = .ok (.invokevirtual 79, 3) := by decide +kernel
theorem dL_law_269 : decode cL_law 269 = .ok (.iload 5, 2) := by decide +kernel
theorem dL_law_271 : decode cL_law 271 = .ok (.if_icmp .eq 5, 3) := by decide +kernel
theorem dL_law_274 : decode cL_law 274 = .ok (.iconst 0, 1) := by decide +kernel
theorem dL_law_275 : decode cL_law 275 = .ok (.ireturn, 1) := by decide +kernel
theorem dL_law_276 : decode cL_law 276 = .ok (.iload 5, 2) := by decide +kernel
theorem dL_law_278 : decode cL_law 278 = .ok (.ifCond .ne 15, 3) := by decide +kernel
theorem dL_law_281 : decode cL_law 281 = .ok (.aload_n 3, 1) := by decide +kernel
theorem dL_law_282 : decode cL_law 282 = .ok (.iconst 0, 1) := by decide +kernel
theorem dL_law_283 : decode cL_law 283 = .ok (.laload, 1) := by decide +kernel
theorem dL_law_284 : decode cL_law 284 = .ok (.iload 6, 2) := by decide +kernel
theorem dL_law_286 : decode cL_law 286 = .ok (.i2l, 1) := by decide +kernel
theorem dL_law_287 : decode cL_law 287 = .ok (.lcmp, 1) := by decide +kernel
theorem dL_law_288 : decode cL_law 288 = .ok (.ifCond .eq 5, 3) := by decide +kernel
theorem dL_law_291 : decode cL_law 291 = .ok (.iconst 0, 1) := by decide +kernel
theorem dL_law_292 : decode cL_law 292 = .ok (.ireturn, 1) := by decide +kernel
theorem dL_law_293 : decode cL_law 293 = .ok (.goto 992, 3) := by decide +kernel
theorem dL_law_296 : decode cL_law 296 = .ok (.aload_n 1, 1) := by decide +kernel
theorem dL_law_297 : decode cL_law 297 = .ok (.aload_n 0, 1) := by decide +kernel
theorem dL_law_298 : decode cL_law 298 = .ok (.iload 4, 2) := by decide +kernel
theorem dL_law_300 : decode cL_law 300 = .ok (.iconst 1, 1) := by decide +kernel
theorem dL_law_301 : decode cL_law 301 = .ok (.iadd, 1) := by decide +kernel
theorem dL_law_302 : decode cL_law 302 = .ok (.iaload, 1) := by decide +kernel
theorem dL_law_303 : decode cL_law 303 = .ok (.aload_n 3, 1) := by decide +kernel
theorem dL_law_304 : decode cL_law 304 = .ok (.invokestatic 87, 3) := by decide +kernel
theorem dL_law_307 : decode cL_law 307 = .ok (.istore 5, 2) := by decide +kernel
theorem dL_law_309 : decode cL_law 309 = .ok (.aload_n 2, 1) := by decide +kernel
theorem dL_law_310 : decode cL_law 310 = .ok (.aload_n 0, 1) := by decide +kernel
theorem dL_law_311 : decode cL_law 311 = .ok (.iload 4, 2) := by decide +kernel
theorem dL_law_313 : decode cL_law 313 = .ok (.iconst 1, 1) := by decide +kernel
theorem dL_law_314 : decode cL_law 314 = .ok (.iadd, 1) := by decide +kernel
theorem dL_law_315 : decode cL_law 315 = .ok (.iaload, 1) := by decide +kernel
theorem dL_law_316 : decode cL_law 316 = .ok (.invokevirtual 90, 3) := by decide +kernel
theorem dL_law_319 : decode cL_law 319 = .ok (.istore 6, 2) := by decide +kernel
theorem dL_law_321 : decode cL_law 321 = .ok (.aload_n 2, 1) := by decide +kernel
theorem dL_law_322 : decode cL_law 322 = .ok (.invokevirtual 79, 3) := by decide +kernel
theorem dL_law_325 : decode cL_law 325 = .ok (.iload 5, 2) := by decide +kernel
theorem dL_law_327 : decode cL_law 327 = .ok (.if_icmp .eq 5, 3) := by decide +kernel
theorem dL_law_330 : decode cL_law 330 = .ok (.iconst 0, 1) := by decide +kernel
theorem dL_law_331 : decode cL_law 331 = .ok (.ireturn, 1) := by decide +kernel
theorem dL_law_332 : decode cL_law 332 = .ok (.iload 5, 2) := by decide +kernel
theorem dL_law_334 : decode cL_law 334 = .ok (.ifCond .ne 15, 3) := by decide +kernel
theorem dL_law_337 : decode cL_law 337 = .ok (.aload_n 3, 1) := by decide +kernel
theorem dL_law_338 : decode cL_law 338 = .ok (.iconst 0, 1) := by decide +kernel
theorem dL_law_339 : decode cL_law 339 = .ok (.laload, 1) := by decide +kernel
theorem dL_law_340 : decode cL_law 340 = .ok (.iload 6, 2) := by decide +kernel
theorem dL_law_342 : decode cL_law 342 = .ok (.i2l, 1) := by decide +kernel
theorem dL_law_343 : decode cL_law 343 = .ok (.lcmp, 1) := by decide +kernel
theorem dL_law_344 : decode cL_law 344 = .ok (.ifCond .eq 5, 3) := by decide +kernel
theorem dL_law_347 : decode cL_law 347 = .ok (.iconst 0, 1) := by decide +kernel
theorem dL_law_348 : decode cL_law 348 = .ok (.ireturn, 1) := by decide +kernel
theorem dL_law_349 : decode cL_law 349 = .ok (.goto 936, 3) := by decide +kernel
theorem dL_law_352 : decode cL_law 352 = .ok (.aload_n 1, 1) := by decide +kernel
theorem dL_law_353 : decode cL_law 353 = .ok (.aload_n 0, 1) := by decide +kernel
theorem dL_law_354 : decode cL_law 354 = .ok (.iload 4, 2) := by decide +kernel
theorem dL_law_356 : decode cL_law 356 = .ok (.iconst 1, 1) := by decide +kernel
theorem dL_law_357 : decode cL_law 357 = .ok (.iadd, 1) := by decide +kernel
theorem dL_law_358 : decode cL_law 358 = .ok (.iaload, 1) := by decide +kernel
theorem dL_law_359 : decode cL_law 359 = .ok (.aload_n 3, 1) := by decide +kernel
theorem dL_law_360 : decode cL_law 360 = .ok (.invokestatic 91, 3) := by decide +kernel
theorem dL_law_363 : decode cL_law 363 = .ok (.istore 5, 2) := by decide +kernel
theorem dL_law_365 : decode cL_law 365 = .ok (.aload_n 2, 1) := by decide +kernel
theorem dL_law_366 : decode cL_law 366 = .ok (.aload_n 0, 1) := by decide +kernel
theorem dL_law_367 : decode cL_law 367 = .ok (.iload 4, 2) := by decide +kernel
theorem dL_law_369 : decode cL_law 369 = .ok (.iconst 1, 1) := by decide +kernel
theorem dL_law_370 : decode cL_law 370 = .ok (.iadd, 1) := by decide +kernel
theorem dL_law_371 : decode cL_law 371 = .ok (.iaload, 1) := by decide +kernel
theorem dL_law_372 : decode cL_law 372 = .ok (.invokevirtual 93, 3) := by decide +kernel
theorem dL_law_375 : decode cL_law 375 = .ok (.istore 6, 2) := by decide +kernel
theorem dL_law_377 : decode cL_law 377 = .ok (.aload_n 2, 1) := by decide +kernel
theorem dL_law_378 : decode cL_law 378 = .ok (.invokevirtual 79, 3) := by decide +kernel
theorem dL_law_381 : decode cL_law 381 = .ok (.iload 5, 2) := by decide +kernel
theorem dL_law_383 : decode cL_law 383 = .ok (.if_icmp .eq 5, 3) := by decide +kernel
theorem dL_law_386 : decode cL_law 386 = .ok (.iconst 0, 1) := by decide +kernel
theorem dL_law_387 : decode cL_law 387 = .ok (.ireturn, 1) := by decide +kernel
theorem dL_law_388 : decode cL_law 388 = .ok (.iload 5, 2) := by decide +kernel
theorem dL_law_390 : decode cL_law 390 = .ok (.ifCond .ne 15, 3) := by decide +kernel
theorem dL_law_393 : decode cL_law 393 = .ok (.aload_n 3, 1) := by decide +kernel
theorem dL_law_394 : decode cL_law 394 = .ok (.iconst 0, 1) := by decide +kernel
theorem dL_law_395 : decode cL_law 395 = .ok (.laload, 1) := by decide +kernel
theorem dL_law_396 : decode cL_law 396 = .ok (.iload 6, 2) := by decide +kernel
theorem dL_law_398 : decode cL_law 398 = .ok (.i2l, 1) := by decide +kernel
theorem dL_law_399 : decode cL_law 399 = .ok (.lcmp, 1) := by decide +kernel
theorem dL_law_400 : decode cL_law 400 = .ok (.ifCond .eq 5, 3) := by decide +kernel
theorem dL_law_403 : decode cL_law 403 = .ok (.iconst 0, 1) := by decide +kernel
theorem dL_law_404 : decode cL_law 404 = .ok (.ireturn, 1) := by decide +kernel
theorem dL_law_405 : decode cL_law 405 = .ok (.goto 880, 3) := by decide +kernel
theorem dL_law_408 : decode cL_law 408 = .ok (.aload_n 1, 1) := by decide +kernel
theorem dL_law_409 : decode cL_law 409 = .ok (.aload_n 0, 1) := by decide +kernel
theorem dL_law_410 : decode cL_law 410 = .ok (.iload 4, 2) := by decide +kernel
theorem dL_law_412 : decode cL_law 412 = .ok (.iconst 1, 1) := by decide +kernel
theorem dL_law_413 : decode cL_law 413 = .ok (.iadd, 1) := by decide +kernel
theorem dL_law_414 : decode cL_law 414 = .ok (.iaload, 1) := by decide +kernel
theorem dL_law_415 : decode cL_law 415 = .ok (.aload_n 3, 1) := by decide +kernel
theorem dL_law_416 : decode cL_law 416 = .ok (.invokestatic 94, 3) := by decide +kernel
theorem dL_law_419 : decode cL_law 419 = .ok (.istore 5, 2) := by decide +kernel
theorem dL_law_421 : decode cL_law 421 = .ok (.aload_n 2, 1) := by decide +kernel
theorem dL_law_422 : decode cL_law 422 = .ok (.aload_n 0, 1) := by decide +kernel
theorem dL_law_423 : decode cL_law 423 = .ok (.iload 4, 2) := by decide +kernel
theorem dL_law_425 : decode cL_law 425 = .ok (.iconst 1, 1) := by decide +kernel
theorem dL_law_426 : decode cL_law 426 = .ok (.iadd, 1) := by decide +kernel
theorem dL_law_427 : decode cL_law 427 = .ok (.iaload, 1) := by decide +kernel
theorem dL_law_428 : decode cL_law 428 = .ok (.invokevirtual 96, 3) := by decide +kernel
theorem dL_law_431 : decode cL_law 431 = .ok (.istore 6, 2) := by decide +kernel
theorem dL_law_433 : decode cL_law 433 = .ok (.aload_n 2, 1) := by decide +kernel
theorem dL_law_434 : decode cL_law 434 = .ok (.invokevirtual 79, 3) := by decide +kernel
theorem dL_law_437 : decode cL_law 437 = .ok (.iload 5, 2) := by decide +kernel
theorem dL_law_439 : decode cL_law 439 = .ok (.if_icmp .eq 5, 3) := by decide +kernel
theorem dL_law_442 : decode cL_law 442 = .ok (.iconst 0, 1) := by decide +kernel
theorem dL_law_443 : decode cL_law 443 = .ok (.ireturn, 1) := by decide +kernel
theorem dL_law_444 : decode cL_law 444 = .ok (.iload 5, 2) := by decide +kernel
theorem dL_law_446 : decode cL_law 446 = .ok (.ifCond .ne 15, 3) := by decide +kernel
theorem dL_law_449 : decode cL_law 449 = .ok (.aload_n 3, 1) := by decide +kernel
theorem dL_law_450 : decode cL_law 450 = .ok (.iconst 0, 1) := by decide +kernel
theorem dL_law_451 : decode cL_law 451 = .ok (.laload, 1) := by decide +kernel
theorem dL_law_452 : decode cL_law 452 = .ok (.iload 6, 2) := by decide +kernel
theorem dL_law_454 : decode cL_law 454 = .ok (.i2l, 1) := by decide +kernel
theorem dL_law_455 : decode cL_law 455 = .ok (.lcmp, 1) := by decide +kernel
theorem dL_law_456 : decode cL_law 456 = .ok (.ifCond .eq 5, 3) := by decide +kernel
theorem dL_law_459 : decode cL_law 459 = .ok (.iconst 0, 1) := by decide +kernel
theorem dL_law_460 : decode cL_law 460 = .ok (.ireturn, 1) := by decide +kernel
theorem dL_law_461 : decode cL_law 461 = .ok (.goto 824, 3) := by decide +kernel
theorem dL_law_464 : decode cL_law 464 = .ok (.aload_n 1, 1) := by decide +kernel
theorem dL_law_465 : decode cL_law 465 = .ok (.aload_n 0, 1) := by decide +kernel
theorem dL_law_466 : decode cL_law 466 = .ok (.iload 4, 2) := by decide +kernel
theorem dL_law_468 : decode cL_law 468 = .ok (.iconst 1, 1) := by decide +kernel
theorem dL_law_469 : decode cL_law 469 = .ok (.iadd, 1) := by decide +kernel
theorem dL_law_470 : decode cL_law 470 = .ok (.iaload, 1) := by decide +kernel
theorem dL_law_471 : decode cL_law 471 = .ok (.aload_n 3, 1) := by decide +kernel
theorem dL_law_472 : decode cL_law 472 = .ok (.invokestatic 97, 3) := by decide +kernel
theorem dL_law_475 : decode cL_law 475 = .ok (.istore 5, 2) := by decide +kernel
theorem dL_law_477 : decode cL_law 477 = .ok (.aload_n 2, 1) := by decide +kernel
theorem dL_law_478 : decode cL_law 478 = .ok (.aload_n 0, 1) := by decide +kernel
theorem dL_law_479 : decode cL_law 479 = .ok (.iload 4, 2) := by decide +kernel
theorem dL_law_481 : decode cL_law 481 = .ok (.iconst 1, 1) := by decide +kernel
theorem dL_law_482 : decode cL_law 482 = .ok (.iadd, 1) := by decide +kernel
theorem dL_law_483 : decode cL_law 483 = .ok (.iaload, 1) := by decide +kernel
theorem dL_law_484 : decode cL_law 484 = .ok (.invokevirtual 99, 3) := by decide +kernel
theorem dL_law_487 : decode cL_law 487 = .ok (.istore 6, 2) := by decide +kernel
theorem dL_law_489 : decode cL_law 489 = .ok (.aload_n 2, 1) := by decide +kernel
theorem dL_law_490 : decode cL_law 490 = .ok (.invokevirtual 79, 3) := by decide +kernel
theorem dL_law_493 : decode cL_law 493 = .ok (.iload 5, 2) := by decide +kernel
theorem dL_law_495 : decode cL_law 495 = .ok (.if_icmp .eq 5, 3) := by decide +kernel
theorem dL_law_498 : decode cL_law 498 = .ok (.iconst 0, 1) := by decide +kernel
theorem dL_law_499 : decode cL_law 499 = .ok (.ireturn, 1) := by decide +kernel
theorem dL_law_500 : decode cL_law 500 = .ok (.iload 5, 2) := by decide +kernel
theorem dL_law_502 : decode cL_law 502 = .ok (.ifCond .ne 15, 3) := by decide +kernel
theorem dL_law_505 : decode cL_law 505 = .ok (.aload_n 3, 1) := by decide +kernel
theorem dL_law_506 : decode cL_law 506 = .ok (.iconst 0, 1) := by decide +kernel
theorem dL_law_507 : decode cL_law 507 = .ok (.laload, 1) := by decide +kernel
theorem dL_law_508 : decode cL_law 508 = .ok (.iload 6, 2) := by decide +kernel
theorem dL_law_510 : decode cL_law 510 = .ok (.i2l, 1) := by decide +kernel
theorem dL_law_511 : decode cL_law 511 = .ok (.lcmp, 1) := by decide +kernel
theorem dL_law_512 : decode cL_law 512 = .ok (.ifCond .eq 5, 3) := by decide +kernel
theorem dL_law_515 : decode cL_law 515 = .ok (.iconst 0, 1) := by decide +kernel
theorem dL_law_516 : decode cL_law 516 = .ok (.ireturn, 1) := by decide +kernel
theorem dL_law_517 : decode cL_law 517 = .ok (.goto 768, 3) := by decide +kernel
theorem dL_law_520 : decode cL_law 520 = .ok (.aload_n 1, 1) := by decide +kernel
theorem dL_law_521 : decode cL_law 521 = .ok (.aload_n 0, 1) := by decide +kernel
theorem dL_law_522 : decode cL_law 522 = .ok (.iload 4, 2) := by decide +kernel
theorem dL_law_524 : decode cL_law 524 = .ok (.iconst 1, 1) := by decide +kernel
theorem dL_law_525 : decode cL_law 525 = .ok (.iadd, 1) := by decide +kernel
theorem dL_law_526 : decode cL_law 526 = .ok (.iaload, 1) := by decide +kernel
theorem dL_law_527 : decode cL_law 527 = .ok (.aload_n 3, 1) := by decide +kernel
theorem dL_law_528 : decode cL_law 528 = .ok (.invokestatic 100, 3) := by decide +kernel
theorem dL_law_531 : decode cL_law 531 = .ok (.istore 5, 2) := by decide +kernel
theorem dL_law_533 : decode cL_law 533 = .ok (.aload_n 2, 1) := by decide +kernel
theorem dL_law_534 : decode cL_law 534 = .ok (.aload_n 0, 1) := by decide +kernel
theorem dL_law_535 : decode cL_law 535 = .ok (.iload 4, 2) := by decide +kernel
theorem dL_law_537 : decode cL_law 537 = .ok (.iconst 1, 1) := by decide +kernel
theorem dL_law_538 : decode cL_law 538 = .ok (.iadd, 1) := by decide +kernel
theorem dL_law_539 : decode cL_law 539 = .ok (.iaload, 1) := by decide +kernel
theorem dL_law_540 : decode cL_law 540 = .ok (.invokevirtual 102, 3) := by decide +kernel
theorem dL_law_543 : decode cL_law 543 = .ok (.istore 6, 2) := by decide +kernel
theorem dL_law_545 : decode cL_law 545 = .ok (.aload_n 2, 1) := by decide +kernel
theorem dL_law_546 : decode cL_law 546 = .ok (.invokevirtual 79, 3) := by decide +kernel
theorem dL_law_549 : decode cL_law 549 = .ok (.iload 5, 2) := by decide +kernel
theorem dL_law_551 : decode cL_law 551 = .ok (.if_icmp .eq 5, 3) := by decide +kernel
theorem dL_law_554 : decode cL_law 554 = .ok (.iconst 0, 1) := by decide +kernel
theorem dL_law_555 : decode cL_law 555 = .ok (.ireturn, 1) := by decide +kernel
theorem dL_law_556 : decode cL_law 556 = .ok (.iload 5, 2) := by decide +kernel
theorem dL_law_558 : decode cL_law 558 = .ok (.ifCond .ne 15, 3) := by decide +kernel
theorem dL_law_561 : decode cL_law 561 = .ok (.aload_n 3, 1) := by decide +kernel
theorem dL_law_562 : decode cL_law 562 = .ok (.iconst 0, 1) := by decide +kernel
theorem dL_law_563 : decode cL_law 563 = .ok (.laload, 1) := by decide +kernel
theorem dL_law_564 : decode cL_law 564 = .ok (.iload 6, 2) := by decide +kernel
theorem dL_law_566 : decode cL_law 566 = .ok (.i2l, 1) := by decide +kernel
theorem dL_law_567 : decode cL_law 567 = .ok (.lcmp, 1) := by decide +kernel
theorem dL_law_568 : decode cL_law 568 = .ok (.ifCond .eq 5, 3) := by decide +kernel
theorem dL_law_571 : decode cL_law 571 = .ok (.iconst 0, 1) := by decide +kernel
theorem dL_law_572 : decode cL_law 572 = .ok (.ireturn, 1) := by decide +kernel
theorem dL_law_573 : decode cL_law 573 = .ok (.goto 712, 3) := by decide +kernel
theorem dL_law_576 : decode cL_law 576 = .ok (.aload_n 1, 1) := by decide +kernel
theorem dL_law_577 : decode cL_law 577 = .ok (.invokevirtual 103, 3) := by decide +kernel
theorem dL_law_580 : decode cL_law 580 = .ok (.aload_n 2, 1) := by decide +kernel
theorem dL_law_581 : decode cL_law 581 = .ok (.invokevirtual 106, 3) := by decide +kernel
theorem dL_law_584 : decode cL_law 584 = .ok (.if_icmp .eq 701, 3) := by decide +kernel
theorem dL_law_587 : decode cL_law 587 = .ok (.iconst 0, 1) := by decide +kernel
theorem dL_law_588 : decode cL_law 588 = .ok (.ireturn, 1) := by decide +kernel
theorem dL_law_589 : decode cL_law 589 = .ok (.aload_n 1, 1) := by decide +kernel
theorem dL_law_590 : decode cL_law 590 = .ok (.aload_n 0, 1) := by decide +kernel
theorem dL_law_591 : decode cL_law 591 = .ok (.iload 4, 2) := by decide +kernel
theorem dL_law_593 : decode cL_law 593 = .ok (.iconst 1, 1) := by decide +kernel
theorem dL_law_594 : decode cL_law 594 = .ok (.iadd, 1) := by decide +kernel
theorem dL_law_595 : decode cL_law 595 = .ok (.iaload, 1) := by decide +kernel
theorem dL_law_596 : decode cL_law 596 = .ok (.aload_n 3, 1) := by decide +kernel
theorem dL_law_597 : decode cL_law 597 = .ok (.invokestatic 107, 3) := by decide +kernel
theorem dL_law_600 : decode cL_law 600 = .ok (.istore 5, 2) := by decide +kernel
theorem dL_law_602 : decode cL_law 602 = .ok (.aload_n 2, 1) := by decide +kernel
theorem dL_law_603 : decode cL_law 603 = .ok (.aload_n 0, 1) := by decide +kernel
theorem dL_law_604 : decode cL_law 604 = .ok (.iload 4, 2) := by decide +kernel
theorem dL_law_606 : decode cL_law 606 = .ok (.iconst 1, 1) := by decide +kernel
theorem dL_law_607 : decode cL_law 607 = .ok (.iadd, 1) := by decide +kernel
theorem dL_law_608 : decode cL_law 608 = .ok (.iaload, 1) := by decide +kernel
theorem dL_law_609 : decode cL_law 609 = .ok (.invokevirtual 109, 3) := by decide +kernel
theorem dL_law_612 : decode cL_law 612 = .ok (.istore 6, 2) := by decide +kernel
theorem dL_law_614 : decode cL_law 614 = .ok (.aload_n 2, 1) := by decide +kernel
theorem dL_law_615 : decode cL_law 615 = .ok (.invokevirtual 79, 3) := by decide +kernel
theorem dL_law_618 : decode cL_law 618 = .ok (.iload 5, 2) := by decide +kernel
end
section
set_option maxRecDepth 20000 in
theorem ggL_law_X3_init : GoodIn wsL_law wsX3_init := goodIn_r _ [9, 10, 11, 12, 13, 14, 15, 16, 17, 18, 19, 20, 21, 22, 23, 24, 25, 26, 27, 28, 29, 30, 31, 32, 33, 34, 35, 36, 37, 38, 39, 40, 41, 42, 43, 44, 45, 46, 47, 48, 49, 50, 51, 52, 53, 54, 638, 639, 640, 641, 642, 643, 615, 616, 617, 618, 644, 645, 646, 647, 648, 649, 650, 651, 652, 653, 654, 655] (by decide +kernel) (by decide +kernel)
set_option maxRecDepth 20000 in
theorem gL_law_X3_init : GoodIn wsL_law (wsX3_init) := ggL_law_X3_init
set_option maxRecDepth 20000 in
theorem ggL_law_X4_init : GoodIn wsL_law wsX4_init := goodIn_r _ [57, 58, 11, 12, 29, 59, 60, 61, 62, 63, 39, 64, 65, 66, 67, 68, 69, 619, 620, 621, 622, 623, 624, 625, 626, 627, 628, 629, 630, 631, 632, 633, 634, 635, 636, 637] (by decide +kernel) (by decide +kernel)
set_option maxRecDepth 20000 in
theorem gL_law_X4_init : GoodIn wsL_law (wsX4_init) := ggL_law_X4_init
set_option maxRecDepth 20000 in
theorem ggL_law_L_setClimate : GoodIn wsL_law wsL_setClimate := goodIn_ca (goodIn_ca (goodIn_r _ [73, 74, 75, 76, 77, 78, 2, 79, 80, 81, 16, 82, 83, 84, 85, 86, 87, 88, 89, 90, 91, 92, 93, 15, 94, 30, 95, 96, 97, 98, 615, 616, 617, 618, 638, 639, 640, 641, 642, 643] (by decide +kernel) (by decide +kernel)) (goodIn_sub (fun _ h => List.mem_append_left _ (List.mem_append_left _ (List.mem_append_right _ h))) (by decide +kernel))) (goodIn_sub (fun _ h => List.mem_append_left _ (List.mem_append_right _ h)) (by decide +kernel))
set_option maxRecDepth 20000 in
theorem gL_law_L_setClimate : GoodIn wsL_law (va_wsS RL 73 yL_setClimate wsL_setClimate) := goodIn_app (goodIn_of _ (by decide +kernel)) ggL_law_L_setClimate
set_option maxRecDepth 20000 in
theorem ggL_law_X4_setClimate : GoodIn wsL_law wsX4_setClimate := goodIn_r _ [102, 69, 59, 103, 104, 5, 105, 106, 107, 108, 619, 620, 621, 622, 623, 624, 625, 626, 627, 628, 629, 630, 631, 632, 633, 634, 635, 636, 637] (by decide +kernel) (by decide +kernel)
set_option maxRecDepth 20000 in
theorem gL_law_X4_setClimate : GoodIn wsL_law (wsV RL 78 RX4 yX4_setClimate wsX4_setClimate) := goodIn_app (goodIn_of _ (by decide +kernel)) ggL_law_X4_setClimate
set_option maxRecDepth 20000 in
theorem ggL_law_X4_thrown : GoodIn wsL_law wsX4_thrown := goodIn_r _ [112, 69, 619, 620, 621, 622, 623, 624, 625, 626, 627, 628, 629, 630, 631, 632, 633, 634, 635, 636, 637] (by decide +kernel) (by decide +kernel)
set_option maxRecDepth 20000 in
theorem gL_law_X4_thrown : GoodIn wsL_law (wsV RL 79 RX4 yX4_thrown wsX4_thrown) := goodIn_app (goodIn_of _ (by decide +kernel)) ggL_law_X4_thrown
set_option maxRecDepth 20000 in
theorem ggL_law_L_addBox : GoodIn wsL_law wsL_addBox := goodIn_ca (goodIn_ca (goodIn_r _ [115, 75, 116, 117, 118, 119, 2, 120, 80, 81, 121, 122, 16, 88, 89, 90, 123, 124, 125, 15, 126, 35, 127, 128, 129, 130, 31, 32, 33, 34, 131, 615, 616, 617, 618, 638, 639, 640, 641, 642, 643] (by decide +kernel) (by decide +kernel)) (goodIn_sub (fun _ h => List.mem_append_left _ (List.mem_append_left _ (List.mem_append_right _ h))) (by decide +kernel))) (goodIn_sub (fun _ h => List.mem_append_right _ h) (by decide +kernel))
set_option maxRecDepth 20000 in
theorem gL_law_L_addBox : GoodIn wsL_law (va_wsS RL 83 yL_addBox wsL_addBox) := goodIn_app (goodIn_of _ (by decide +kernel)) ggL_law_L_addBox
set_option maxRecDepth 20000 in
theorem ggL_law_X4_addBox : GoodIn wsL_law wsX4_addBox := goodIn_r _ [135, 136, 69, 60, 61, 62, 106, 107, 5, 108, 619, 620, 621, 622, 623, 624, 625, 626, 627, 628, 629, 630, 631, 632, 633, 634, 635, 636, 637] (by decide +kernel) (by decide +kernel)
set_option maxRecDepth 20000 in
theorem gL_law_X4_addBox : GoodIn wsL_law (wsV RL 86 RX4 yX4_addBox wsX4_addBox) := goodIn_app (goodIn_of _ (by decide +kernel)) ggL_law_X4_addBox
set_option maxRecDepth 20000 in
theorem ggL_law_L_bestSpot : GoodIn wsL_law wsL_bestSpot := goodIn_ca (goodIn_ca (goodIn_r _ [139, 74, 116, 140, 141, 142, 2, 143, 16, 144, 145, 146, 147, 86, 87, 148, 149, 150, 15, 151, 35, 89, 90, 152, 153, 154, 155, 121, 122, 156, 157, 158, 159, 34, 160, 161, 162, 163, 164, 30, 31, 32, 33, 165, 166, 167, 168, 169, 170, 171, 172, 173, 174, 175, 176, 177, 178, 179, 180, 181, 182, 183, 184, 185, 186, 187, 188, 189, 615, 616, 617, 618, 638, 639, 640, 641, 642, 643] (by decide +kernel) (by decide +kernel)) (goodIn_sub (fun _ h => List.mem_append_left _ (List.mem_append_right _ h)) (by decide +kernel))) (goodIn_sub (fun _ h => List.mem_append_right _ h) (by decide +kernel))
set_option maxRecDepth 20000 in
theorem gL_law_L_bestSpot : GoodIn wsL_law (va_wsS RL 87 yL_bestSpot wsL_bestSpot) := goodIn_app (goodIn_of _ (by decide +kernel)) ggL_law_L_bestSpot
set_option maxRecDepth 20000 in
theorem ggL_law_X4_bestSpot : GoodIn wsL_law wsX4_bestSpot := goodIn_r _ [193, 69, 194, 195, 196, 5, 197, 136, 106, 107, 108, 198, 199, 200, 201, 63, 202, 203, 204, 205, 59, 60, 61, 62, 206, 207, 208, 209, 210, 211, 212, 213, 214, 215, 216, 619, 620, 621, 622, 623, 624, 625, 626, 627, 628, 629, 630, 631, 632, 633, 634, 635, 636, 637] (by decide +kernel) (by decide +kernel)
set_option maxRecDepth 20000 in
theorem gL_law_X4_bestSpot : GoodIn wsL_law (wsV RL 90 RX4 yX4_bestSpot wsX4_bestSpot) := goodIn_app (goodIn_of _ (by decide +kernel)) ggL_law_X4_bestSpot
set_option maxRecDepth 20000 in
theorem ggL_law_L_lay : GoodIn wsL_law wsL_lay := goodIn_ca (goodIn_ca (goodIn_r _ [219, 74, 116, 220, 221, 222, 2, 223, 121, 122, 16, 144, 145, 146, 147, 86, 87, 148, 149, 150, 15, 151, 35, 89, 90, 152, 153, 154, 155, 156, 157, 158, 159, 34, 160, 161, 162, 163, 164, 30, 31, 32, 33, 165, 166, 167, 168, 169, 170, 171, 172, 173, 174, 175, 176, 177, 178, 179, 180, 181, 182, 183, 184, 185, 186, 187, 188, 189, 224, 225, 226, 227, 615, 616, 617, 618, 638, 639, 640, 641, 642, 643] (by decide +kernel) (by decide +kernel)) (goodIn_sub (fun _ h => List.mem_append_right _ h) (by decide +kernel))) (goodIn_sub (fun _ h => List.mem_append_left _ (List.mem_append_right _ h)) (by decide +kernel))
set_option maxRecDepth 20000 in
theorem gL_law_L_lay : GoodIn wsL_law (va_wsS RL 91 yL_lay wsL_lay) := goodIn_app (goodIn_of _ (by decide +kernel)) ggL_law_L_lay
set_option maxRecDepth 20000 in
theorem ggL_law_X4_lay : GoodIn wsL_law wsX4_lay := goodIn_r _ [231, 69, 63, 194, 195, 196, 5, 197, 136, 106, 107, 108, 198, 199, 200, 201, 202, 203, 204, 205, 59, 60, 61, 62, 206, 207, 208, 209, 210, 211, 212, 213, 214, 215, 216, 619, 620, 621, 622, 623, 624, 625, 626, 627, 628, 629, 630, 631, 632, 633, 634, 635, 636, 637] (by decide +kernel) (by decide +kernel)
set_option maxRecDepth 20000 in
theorem gL_law_X4_lay : GoodIn wsL_law (wsV RL 93 RX4 yX4_lay wsX4_lay) := goodIn_app (goodIn_of _ (by decide +kernel)) ggL_law_X4_lay
set_option maxRecDepth 20000 in
theorem ggL_law_L_spotOf : GoodIn wsL_law wsL_spotOf := goodIn_ca (goodIn_r _ [234, 74, 235, 236, 237, 2, 238, 16, 144, 145, 146, 147, 86, 87, 148, 149, 150, 15, 151, 35, 89, 90, 156, 157, 158, 159, 34, 160, 615, 616, 617, 618, 638, 639, 640, 641, 642, 643] (by decide +kernel) (by decide +kernel)) (goodIn_sub (fun _ h => List.mem_append_left _ (List.mem_append_right _ h)) (by decide +kernel))
set_option maxRecDepth 20000 in
theorem gL_law_L_spotOf : GoodIn wsL_law (va_wsS RL 94 yL_spotOf wsL_spotOf) := goodIn_app (goodIn_of _ (by decide +kernel)) ggL_law_L_spotOf
set_option maxRecDepth 20000 in
theorem ggL_law_X4_spotOf : GoodIn wsL_law wsX4_spotOf := goodIn_r _ [242, 69, 194, 195, 196, 5, 197, 136, 106, 107, 108, 198, 199, 200, 201, 63, 214, 215, 216, 619, 620, 621, 622, 623, 624, 625, 626, 627, 628, 629, 630, 631, 632, 633, 634, 635, 636, 637] (by decide +kernel) (by decide +kernel)
set_option maxRecDepth 20000 in
theorem gL_law_X4_spotOf : GoodIn wsL_law (wsV RL 96 RX4 yX4_spotOf wsX4_spotOf) := goodIn_app (goodIn_of _ (by decide +kernel)) ggL_law_X4_spotOf
set_option maxRecDepth 20000 in
theorem ggL_law_L_boxAt : GoodIn wsL_law wsL_boxAt := goodIn_ca (goodIn_r _ [245, 74, 246, 247, 248, 2, 249, 16, 250, 251, 252, 253, 86, 87, 254, 255, 256, 257, 174, 175, 258, 259, 260, 261, 262, 263, 264, 183, 184, 15, 185, 35, 34, 615, 616, 617, 618, 638, 639, 640, 641, 642, 643] (by decide +kernel) (by decide +kernel)) (goodIn_sub (fun _ h => List.mem_append_left _ (List.mem_append_right _ h)) (by decide +kernel))
set_option maxRecDepth 20000 in
theorem gL_law_L_boxAt : GoodIn wsL_law (va_wsS RL 97 yL_boxAt wsL_boxAt) := goodIn_app (goodIn_of _ (by decide +kernel)) ggL_law_L_boxAt
set_option maxRecDepth 20000 in
theorem ggL_law_X4_boxAt : GoodIn wsL_law wsX4_boxAt := goodIn_r _ [268, 69, 63, 269, 270, 5, 271, 106, 107, 108, 272, 273, 274, 275, 619, 620, 621, 622, 623, 624, 625, 626, 627, 628, 629, 630, 631, 632, 633, 634, 635, 636, 637] (by decide +kernel) (by decide +kernel)
set_option maxRecDepth 20000 in
theorem gL_law_X4_boxAt : GoodIn wsL_law (wsV RL 99 RX4 yX4_boxAt wsX4_boxAt) := goodIn_app (goodIn_of _ (by decide +kernel)) ggL_law_X4_boxAt
set_option maxRecDepth 20000 in
theorem ggL_law_L_weight : GoodIn wsL_law wsL_weight := goodIn_ca (goodIn_r _ [278, 74, 279, 280, 281, 2, 282, 16, 82, 83, 84, 85, 86, 87, 88, 89, 90, 283, 166, 167, 15, 168, 35, 32, 169, 170, 171, 172, 173, 157, 158, 159, 34, 160, 149, 150, 151, 174, 175, 615, 616, 617, 618, 638, 639, 640, 641, 642, 643] (by decide +kernel) (by decide +kernel)) (goodIn_sub (fun _ h => List.mem_append_left _ (List.mem_append_right _ h)) (by decide +kernel))
set_option maxRecDepth 20000 in
theorem gL_law_L_weight : GoodIn wsL_law (va_wsS RL 100 yL_weight wsL_weight) := goodIn_app (goodIn_of _ (by decide +kernel)) ggL_law_L_weight
set_option maxRecDepth 20000 in
theorem ggL_law_X4_weight : GoodIn wsL_law wsX4_weight := goodIn_r _ [287, 69, 103, 104, 5, 105, 106, 107, 108, 206, 207, 208, 209, 63, 61, 272, 273, 274, 275, 619, 620, 621, 622, 623, 624, 625, 626, 627, 628, 629, 630, 631, 632, 633, 634, 635, 636, 637] (by decide +kernel) (by decide +kernel)
set_option maxRecDepth 20000 in
theorem gL_law_X4_weight : GoodIn wsL_law (wsV RL 102 RX4 yX4_weight wsX4_weight) := goodIn_app (goodIn_of _ (by decide +kernel)) ggL_law_X4_weight
set_option maxRecDepth 20000 in
theorem ggL_law_X3_wrong : GoodIn wsL_law wsX3_wrong := goodIn_r _ [291, 16, 292, 293, 294, 15, 295, 35, 296, 297, 298, 299, 31, 173, 157, 158, 159, 34, 160, 149, 150, 151, 89, 2, 90, 174, 175, 300, 92, 93, 94, 30, 615, 616, 617, 618, 638, 639, 640, 641, 642, 643] (by decide +kernel) (by decide +kernel)
set_option maxRecDepth 20000 in
theorem gL_law_X3_wrong : GoodIn wsL_law (wsV RL 103 RX3 yX3_wrong wsX3_wrong) := goodIn_app (goodIn_of _ (by decide +kernel)) ggL_law_X3_wrong
set_option maxRecDepth 20000 in
theorem ggL_law_X4_wrong : GoodIn wsL_law wsX4_wrong := goodIn_r _ [304, 69, 63, 60, 59, 619, 620, 621, 622, 623, 624, 625, 626, 627, 628, 629, 630, 631, 632, 633, 634, 635, 636, 637] (by decide +kernel) (by decide +kernel)
set_option maxRecDepth 20000 in
theorem gL_law_X4_wrong : GoodIn wsL_law (wsV RL 106 RX4 yX4_wrong wsX4_wrong) := goodIn_app (goodIn_of _ (by decide +kernel)) ggL_law_X4_wrong
set_option maxRecDepth 20000 in
theorem ggL_law_L_open : GoodIn wsL_law wsL_open := goodIn_ca (goodIn_ca (goodIn_r _ [307, 74, 116, 308, 309, 310, 2, 311, 121, 122, 20, 312, 313, 314, 315, 86, 87, 88, 89, 90, 316, 317, 318, 19, 319, 45, 46, 320, 321, 322, 323, 43, 44, 324, 325, 326, 327, 41, 328, 329, 330, 331, 40, 332, 333, 334, 335, 336, 337, 338, 339, 340, 341, 342, 343, 615, 616, 617, 618, 644, 645, 646, 647, 648, 649, 650] (by decide +kernel) (by decide +kernel)) (goodIn_sub (fun _ h => List.mem_append_right _ h) (by decide +kernel))) (goodIn_sub (fun _ h => List.mem_append_left _ (List.mem_append_right _ h)) (by decide +kernel))
set_option maxRecDepth 20000 in
theorem gL_law_L_open : GoodIn wsL_law (va_wsS RL 107 yL_open wsL_open) := goodIn_app (goodIn_of _ (by decide +kernel)) ggL_law_L_open
set_option maxRecDepth 20000 in
theorem ggL_law_X4_open : GoodIn wsL_law wsX4_open := goodIn_r _ [347, 348, 64, 349, 350, 351, 69, 352, 353, 354, 5, 355, 65, 106, 107, 108, 619, 620, 621, 622, 623, 624, 625, 626, 627, 628, 629, 630, 631, 632, 633, 634, 635, 636, 637] (by decide +kernel) (by decide +kernel)
set_option maxRecDepth 20000 in
theorem gL_law_X4_open : GoodIn wsL_law (wsV RL 109 RX4 yX4_open wsX4_open) := goodIn_app (goodIn_of _ (by decide +kernel)) ggL_law_X4_open
set_option maxRecDepth 20000 in
theorem ggL_law_X3_opened : GoodIn wsL_law wsX3_opened := goodIn_r _ [359, 20, 360, 321, 322, 19, 323, 43, 44, 615, 616, 617, 618, 644, 645, 646, 647, 648, 649, 650] (by decide +kernel) (by decide +kernel)
set_option maxRecDepth 20000 in
theorem gL_law_X3_opened : GoodIn wsL_law (wsV RL 110 RX3 yX3_opened wsX3_opened) := goodIn_app (goodIn_of _ (by decide +kernel)) ggL_law_X3_opened
set_option maxRecDepth 20000 in
theorem ggL_law_X4_opened : GoodIn wsL_law wsX4_opened := goodIn_r _ [364, 69, 348, 349, 619, 620, 621, 622, 623, 624, 625, 626, 627, 628, 629, 630, 631, 632, 633, 634, 635, 636, 637] (by decide +kernel) (by decide +kernel)
set_option maxRecDepth 20000 in
theorem gL_law_X4_opened : GoodIn wsL_law (wsV RL 113 RX4 yX4_opened wsX4_opened) := goodIn_app (goodIn_of _ (by decide +kernel)) ggL_law_X4_opened
set_option maxRecDepth 20000 in
theorem ggL_law_X3_openedByMoves : GoodIn wsL_law wsX3_openedByMoves := goodIn_r _ [368, 20, 369, 370, 371, 19, 372, 42, 44, 615, 616, 617, 618, 644, 645, 646, 647, 648, 649, 650] (by decide +kernel) (by decide +kernel)
set_option maxRecDepth 20000 in
theorem gL_law_X3_openedByMoves : GoodIn wsL_law (wsV RL 114 RX3 yX3_openedByMoves wsX3_openedByMoves) := goodIn_app (goodIn_of _ (by decide +kernel)) ggL_law_X3_openedByMoves
set_option maxRecDepth 20000 in
theorem ggL_law_X4_openedByMoves : GoodIn wsL_law wsX4_openedByMoves := goodIn_r _ [376, 377, 362, 363, 5, 364, 69, 348, 349, 619, 620, 621, 622, 623, 624, 625, 626, 627, 628, 629, 630, 631, 632, 633, 634, 635, 636, 637] (by decide +kernel) (by decide +kernel)
set_option maxRecDepth 20000 in
theorem gL_law_X4_openedByMoves : GoodIn wsL_law (wsV RL 117 RX4 yX4_openedByMoves wsX4_openedByMoves) := goodIn_app (goodIn_of _ (by decide +kernel)) ggL_law_X4_openedByMoves
set_option maxRecDepth 20000 in
theorem ggL_law_L_goIn : GoodIn wsL_law wsL_goIn := goodIn_ca (goodIn_ca (goodIn_r _ [380, 74, 116, 381, 382, 383, 2, 384, 121, 122, 20, 385, 386, 387, 388, 86, 87, 88, 89, 90, 389, 390, 391, 19, 392, 41, 393, 394, 395, 396, 46, 320, 321, 322, 323, 43, 44, 397, 398, 399, 400, 401, 325, 326, 327, 615, 616, 617, 618, 644, 645, 646, 647, 648, 649, 650] (by decide +kernel) (by decide +kernel)) (goodIn_sub (fun _ h => List.mem_append_right _ h) (by decide +kernel))) (goodIn_sub (fun _ h => List.mem_append_left _ (List.mem_append_right _ h)) (by decide +kernel))
set_option maxRecDepth 20000 in
theorem gL_law_L_goIn : GoodIn wsL_law (va_wsS RL 118 yL_goIn wsL_goIn) := goodIn_app (goodIn_of _ (by decide +kernel)) ggL_law_L_goIn
set_option maxRecDepth 20000 in
theorem ggL_law_X4_goIn : GoodIn wsL_law wsX4_goIn := goodIn_r _ [405, 65, 348, 351, 69, 406, 407, 5, 408, 106, 107, 108, 352, 353, 354, 355, 619, 620, 621, 622, 623, 624, 625, 626, 627, 628, 629, 630, 631, 632, 633, 634, 635, 636, 637] (by decide +kernel) (by decide +kernel)
set_option maxRecDepth 20000 in
theorem gL_law_X4_goIn : GoodIn wsL_law (wsV RL 120 RX4 yX4_goIn wsX4_goIn) := goodIn_app (goodIn_of _ (by decide +kernel)) ggL_law_X4_goIn
set_option maxRecDepth 20000 in
theorem ggL_law_L_goOut : GoodIn wsL_law wsL_goOut := goodIn_ca (goodIn_ca (goodIn_r _ [411, 74, 116, 412, 413, 414, 2, 415, 20, 385, 386, 387, 388, 86, 87, 88, 89, 90, 416, 417, 418, 419, 121, 122, 389, 390, 391, 19, 392, 41, 397, 398, 399, 400, 401, 325, 326, 327, 615, 616, 617, 618, 644, 645, 646, 647, 648, 649, 650] (by decide +kernel) (by decide +kernel)) (goodIn_sub (fun _ h => List.mem_append_left _ (List.mem_append_right _ h)) (by decide +kernel))) (goodIn_sub (fun _ h => List.mem_append_right _ h) (by decide +kernel))
set_option maxRecDepth 20000 in
theorem gL_law_L_goOut : GoodIn wsL_law (va_wsS RL 121 yL_goOut wsL_goOut) := goodIn_app (goodIn_of _ (by decide +kernel)) ggL_law_L_goOut
set_option maxRecDepth 20000 in
theorem ggL_law_X4_goOut : GoodIn wsL_law wsX4_goOut := goodIn_r _ [423, 65, 69, 406, 407, 5, 408, 106, 107, 108, 352, 353, 354, 355, 619, 620, 621, 622, 623, 624, 625, 626, 627, 628, 629, 630, 631, 632, 633, 634, 635, 636, 637] (by decide +kernel) (by decide +kernel)
set_option maxRecDepth 20000 in
theorem gL_law_X4_goOut : GoodIn wsL_law (wsV RL 123 RX4 yX4_goOut wsX4_goOut) := goodIn_app (goodIn_of _ (by decide +kernel)) ggL_law_X4_goOut
set_option maxRecDepth 20000 in
theorem ggL_law_L_doubt : GoodIn wsL_law wsL_doubt := goodIn_ca (goodIn_r _ [426, 74, 427, 428, 429, 2, 430, 20, 312, 313, 314, 315, 86, 87, 88, 89, 90, 431, 329, 330, 19, 331, 40, 432, 433, 434, 435, 615, 616, 617, 618, 644, 645, 646, 647, 648, 649, 650] (by decide +kernel) (by decide +kernel)) (goodIn_sub (fun _ h => List.mem_append_left _ (List.mem_append_right _ h)) (by decide +kernel))
set_option maxRecDepth 20000 in
theorem gL_law_L_doubt : GoodIn wsL_law (va_wsS RL 124 yL_doubt wsL_doubt) := goodIn_app (goodIn_of _ (by decide +kernel)) ggL_law_L_doubt
set_option maxRecDepth 20000 in
theorem ggL_law_X4_doubt : GoodIn wsL_law wsX4_doubt := goodIn_r _ [439, 69, 64, 106, 107, 5, 108, 619, 620, 621, 622, 623, 624, 625, 626, 627, 628, 629, 630, 631, 632, 633, 634, 635, 636, 637] (by decide +kernel) (by decide +kernel)
set_option maxRecDepth 20000 in
theorem gL_law_X4_doubt : GoodIn wsL_law (wsV RL 126 RX4 yX4_doubt wsX4_doubt) := goodIn_app (goodIn_of _ (by decide +kernel)) ggL_law_X4_doubt
set_option maxRecDepth 20000 in
theorem ggL_law_L_look : GoodIn wsL_law wsL_look := goodIn_ca (goodIn_r _ [442, 116, 443, 444, 445, 2, 446, 121, 122, 20, 360, 321, 322, 19, 323, 43, 44, 431, 329, 330, 331, 40, 89, 90, 432, 433, 434, 435, 615, 616, 617, 618, 644, 645, 646, 647, 648, 649, 650] (by decide +kernel) (by decide +kernel)) (goodIn_sub (fun _ h => List.mem_append_right _ h) (by decide +kernel))
set_option maxRecDepth 20000 in
theorem gL_law_L_look : GoodIn wsL_law (va_wsS RL 127 yL_look wsL_look) := goodIn_app (goodIn_of _ (by decide +kernel)) ggL_law_L_look
set_option maxRecDepth 20000 in
theorem ggL_law_X4_look : GoodIn wsL_law wsX4_look := goodIn_r _ [450, 348, 69, 64, 349, 619, 620, 621, 622, 623, 624, 625, 626, 627, 628, 629, 630, 631, 632, 633, 634, 635, 636, 637] (by decide +kernel) (by decide +kernel)
set_option maxRecDepth 20000 in
theorem gL_law_X4_look : GoodIn wsL_law (wsV RL 130 RX4 yX4_look wsX4_look) := goodIn_app (goodIn_of _ (by decide +kernel)) ggL_law_X4_look
set_option maxRecDepth 20000 in
theorem ggL_law_X3_stall : GoodIn wsL_law wsX3_stall := goodIn_r _ [454, 20, 455, 456, 457, 19, 458, 45, 615, 616, 617, 618, 644, 645, 646, 647, 648, 649, 650] (by decide +kernel) (by decide +kernel)
set_option maxRecDepth 20000 in
theorem gL_law_X3_stall : GoodIn wsL_law (wsV RL 131 RX3 yX3_stall wsX3_stall) := goodIn_app (goodIn_of _ (by decide +kernel)) ggL_law_X3_stall
set_option maxRecDepth 20000 in
theorem ggL_law_X4_stall : GoodIn wsL_law wsX4_stall := goodIn_r _ [462, 69, 350, 619, 620, 621, 622, 623, 624, 625, 626, 627, 628, 629, 630, 631, 632, 633, 634, 635, 636, 637] (by decide +kernel) (by decide +kernel)
set_option maxRecDepth 20000 in
theorem gL_law_X4_stall : GoodIn wsL_law (wsV RL 135 RX4 yX4_stall wsX4_stall) := goodIn_app (goodIn_of _ (by decide +kernel)) ggL_law_X4_stall
set_option maxRecDepth 20000 in
theorem ggL_law_X3_smoke : GoodIn wsL_law wsX3_smoke := goodIn_r _ [466, 20, 467, 468, 469, 19, 470, 46, 471, 472, 473, 474, 41, 324, 325, 326, 327, 615, 616, 617, 618, 644, 645, 646, 647, 648, 649, 650] (by decide +kernel) (by decide +kernel)
set_option maxRecDepth 20000 in
theorem gL_law_X3_smoke : GoodIn wsL_law (wsV RL 136 RX3 yX3_smoke wsX3_smoke) := goodIn_app (goodIn_of _ (by decide +kernel)) ggL_law_X3_smoke
set_option maxRecDepth 20000 in
theorem ggL_law_X4_smoke : GoodIn wsL_law wsX4_smoke := goodIn_r _ [478, 69, 351, 65, 352, 353, 354, 5, 355, 619, 620, 621, 622, 623, 624, 625, 626, 627, 628, 629, 630, 631, 632, 633, 634, 635, 636, 637] (by decide +kernel) (by decide +kernel)
set_option maxRecDepth 20000 in
theorem gL_law_X4_smoke : GoodIn wsL_law (wsV RL 140 RX4 yX4_smoke wsX4_smoke) := goodIn_app (goodIn_of _ (by decide +kernel)) ggL_law_X4_smoke
set_option maxRecDepth 20000 in
theorem ggL_law_L_pass : GoodIn wsL_law wsL_pass := goodIn_ca (goodIn_ca (goodIn_r _ [481, 75, 116, 482, 483, 484, 2, 485, 80, 81, 121, 122, 25, 20, 486, 487, 488, 19, 489, 45, 46, 490, 491, 342, 492, 493, 337, 338, 339, 44, 43, 340, 341, 343, 494, 495, 496, 497, 42, 89, 90, 615, 616, 617, 618, 644, 645, 646, 647, 648, 649, 650] (by decide +kernel) (by decide +kernel)) (goodIn_sub (fun _ h => List.mem_append_left _ (List.mem_append_left _ (List.mem_append_right _ h))) (by decide +kernel))) (goodIn_sub (fun _ h => List.mem_append_right _ h) (by decide +kernel))
set_option maxRecDepth 20000 in
theorem gL_law_L_pass : GoodIn wsL_law (va_wsS RL 141 yL_pass wsL_pass) := goodIn_app (goodIn_of _ (by decide +kernel)) ggL_law_L_pass
set_option maxRecDepth 20000 in
theorem ggL_law_X4_pass : GoodIn wsL_law wsX4_pass := goodIn_r _ [501, 502, 69, 350, 351, 348, 106, 107, 5, 108, 619, 620, 621, 622, 623, 624, 625, 626, 627, 628, 629, 630, 631, 632, 633, 634, 635, 636, 637] (by decide +kernel) (by decide +kernel)
set_option maxRecDepth 20000 in
theorem gL_law_X4_pass : GoodIn wsL_law (wsV RL 143 RX4 yX4_pass wsX4_pass) := goodIn_app (goodIn_of _ (by decide +kernel)) ggL_law_X4_pass
set_option maxRecDepth 20000 in
theorem ggL_law_L_order : GoodIn wsL_law wsL_order := goodIn_ca (goodIn_ca (goodIn_ca (goodIn_r _ [505, 74, 75, 116, 506, 507, 508, 2, 509, 80, 81, 121, 122, 24, 144, 145, 146, 147, 86, 87, 16, 148, 149, 150, 15, 151, 35, 89, 90, 510, 511, 512, 23, 513, 53, 52, 50, 514, 515, 516, 517, 518, 519, 520, 521, 51, 522, 615, 616, 617, 618, 638, 639, 640, 641, 642, 643, 651, 652, 653, 654, 655] (by decide +kernel) (by decide +kernel)) (goodIn_sub (fun _ h => List.mem_append_left _ (List.mem_append_left _ (List.mem_append_right _ h))) (by decide +kernel))) (goodIn_sub (fun _ h => List.mem_append_right _ h) (by decide +kernel))) (goodIn_sub (fun _ h => List.mem_append_left _ (List.mem_append_right _ h)) (by decide +kernel))
set_option maxRecDepth 20000 in
theorem gL_law_L_order : GoodIn wsL_law (va_wsS RL 144 yL_order wsL_order) := goodIn_app (goodIn_of _ (by decide +kernel)) ggL_law_L_order
set_option maxRecDepth 20000 in
theorem ggL_law_X4_order : GoodIn wsL_law wsX4_order := goodIn_r _ [526, 527, 69, 66, 67, 194, 195, 196, 5, 197, 136, 106, 107, 108, 528, 529, 530, 531, 68, 619, 620, 621, 622, 623, 624, 625, 626, 627, 628, 629, 630, 631, 632, 633, 634, 635, 636, 637] (by decide +kernel) (by decide +kernel)
set_option maxRecDepth 20000 in
theorem gL_law_X4_order : GoodIn wsL_law (wsV RL 146 RX4 yX4_order wsX4_order) := goodIn_app (goodIn_of _ (by decide +kernel)) ggL_law_X4_order
set_option maxRecDepth 20000 in
theorem ggL_law_X3_nextAisle : GoodIn wsL_law wsX3_nextAisle := goodIn_r _ [535, 24, 16, 536, 537, 538, 23, 539, 53, 50, 52, 51, 540, 541, 542, 15, 543, 173, 157, 158, 159, 34, 160, 149, 150, 151, 35, 89, 2, 90, 544, 545, 257, 174, 175, 258, 259, 260, 546, 547, 548, 549, 550, 615, 616, 617, 618, 651, 652, 653, 654, 655, 638, 639, 640, 641, 642, 643] (by decide +kernel) (by decide +kernel)
set_option maxRecDepth 20000 in
theorem gL_law_X3_nextAisle : GoodIn wsL_law (wsV RL 147 RX3 yX3_nextAisle wsX3_nextAisle) := goodIn_app (goodIn_of _ (by decide +kernel)) ggL_law_X3_nextAisle
set_option maxRecDepth 20000 in
theorem ggL_law_X4_nextAisle : GoodIn wsL_law wsX4_nextAisle := goodIn_r _ [554, 69, 66, 555, 556, 557, 5, 558, 527, 68, 67, 198, 199, 200, 201, 63, 559, 560, 561, 619, 620, 621, 622, 623, 624, 625, 626, 627, 628, 629, 630, 631, 632, 633, 634, 635, 636, 637] (by decide +kernel) (by decide +kernel)
set_option maxRecDepth 20000 in
theorem gL_law_X4_nextAisle : GoodIn wsL_law (wsV RL 150 RX4 yX4_nextAisle wsX4_nextAisle) := goodIn_app (goodIn_of _ (by decide +kernel)) ggL_law_X4_nextAisle
set_option maxRecDepth 20000 in
theorem ggL_law_L_fetch : GoodIn wsL_law wsL_fetch := goodIn_ca (goodIn_ca (goodIn_r _ [564, 74, 116, 565, 566, 567, 2, 568, 121, 122, 24, 16, 20, 25, 385, 386, 387, 388, 86, 87, 88, 89, 90, 416, 417, 418, 419, 389, 390, 391, 19, 392, 41, 360, 321, 322, 323, 43, 44, 536, 537, 538, 23, 539, 53, 50, 52, 51, 540, 541, 542, 15, 543, 173, 157, 158, 159, 34, 160, 149, 150, 151, 35, 544, 545, 257, 174, 175, 258, 259, 260, 569, 570, 571, 572, 54, 546, 547, 548, 549, 224, 225, 226, 227, 615, 616, 617, 618, 644, 645, 646, 647, 648, 649, 650, 651, 652, 653, 654, 655, 638, 639, 640, 641, 642, 643] (by decide +kernel) (by decide +kernel)) (goodIn_sub (fun _ h => List.mem_append_right _ h) (by decide +kernel))) (goodIn_sub (fun _ h => List.mem_append_left _ (List.mem_append_right _ h)) (by decide +kernel))
set_option maxRecDepth 20000 in
theorem gL_law_L_fetch : GoodIn wsL_law (va_wsS RL 151 yL_fetch wsL_fetch) := goodIn_app (goodIn_of _ (by decide +kernel)) ggL_law_L_fetch
set_option maxRecDepth 20000 in
theorem ggL_law_X4_fetch : GoodIn wsL_law wsX4_fetch := goodIn_r _ [576, 65, 349, 69, 63, 66, 68, 577, 502, 67, 406, 407, 5, 408, 106, 107, 108, 555, 556, 557, 558, 527, 198, 199, 200, 201, 559, 560, 561, 619, 620, 621, 622, 623, 624, 625, 626, 627, 628, 629, 630, 631, 632, 633, 634, 635, 636, 637] (by decide +kernel) (by decide +kernel)
set_option maxRecDepth 20000 in
theorem gL_law_X4_fetch : GoodIn wsL_law (wsV RL 153 RX4 yX4_fetch wsX4_fetch) := goodIn_app (goodIn_of _ (by decide +kernel)) ggL_law_X4_fetch
set_option maxRecDepth 20000 in
theorem ggL_law_L_giveBack : GoodIn wsL_law wsL_giveBack := goodIn_ca (goodIn_ca (goodIn_r _ [580, 74, 116, 581, 582, 583, 2, 584, 121, 122, 20, 16, 385, 386, 387, 388, 86, 87, 88, 89, 90, 144, 145, 146, 147, 148, 149, 150, 15, 151, 35, 250, 251, 252, 253, 254, 255, 256, 257, 174, 175, 258, 259, 260, 261, 262, 263, 416, 417, 418, 419, 389, 390, 391, 19, 392, 41, 152, 153, 154, 155, 156, 157, 158, 159, 34, 160, 585, 544, 545, 360, 321, 322, 323, 43, 44, 264, 183, 184, 185, 224, 225, 226, 227, 586, 297, 298, 299, 31, 173, 300, 92, 93, 94, 30, 615, 616, 617, 618, 638, 639, 640, 641, 642, 643, 644, 645, 646, 647, 648, 649, 650] (by decide +kernel) (by decide +kernel)) (goodIn_sub (fun _ h => List.mem_append_right _ h) (by decide +kernel))) (goodIn_sub (fun _ h => List.mem_append_left _ (List.mem_append_right _ h)) (by decide +kernel))
set_option maxRecDepth 20000 in
theorem gL_law_L_giveBack : GoodIn wsL_law (va_wsS RL 154 yL_giveBack wsL_giveBack) := goodIn_app (goodIn_of _ (by decide +kernel)) ggL_law_L_giveBack
set_option maxRecDepth 20000 in
theorem ggL_law_X4_giveBack : GoodIn wsL_law wsX4_giveBack := goodIn_r _ [590, 69, 65, 349, 63, 59, 60, 269, 270, 5, 271, 106, 107, 108, 406, 407, 408, 194, 195, 196, 197, 136, 198, 199, 200, 201, 559, 560, 561, 272, 273, 274, 275, 619, 620, 621, 622, 623, 624, 625, 626, 627, 628, 629, 630, 631, 632, 633, 634, 635, 636, 637] (by decide +kernel) (by decide +kernel)
set_option maxRecDepth 20000 in
theorem gL_law_X4_giveBack : GoodIn wsL_law (wsV RL 156 RX4 yX4_giveBack wsX4_giveBack) := goodIn_app (goodIn_of _ (by decide +kernel)) ggL_law_X4_giveBack
set_option maxRecDepth 20000 in
theorem ggL_law_X3_waiting : GoodIn wsL_law wsX3_waiting := goodIn_r _ [594, 24, 595, 596, 597, 23, 598, 53, 52, 615, 616, 617, 618, 651, 652, 653, 654, 655] (by decide +kernel) (by decide +kernel)
set_option maxRecDepth 20000 in
theorem gL_law_X3_waiting : GoodIn wsL_law (wsV RL 157 RX3 yX3_waiting wsX3_waiting) := goodIn_app (goodIn_of _ (by decide +kernel)) ggL_law_X3_waiting
set_option maxRecDepth 20000 in
theorem ggL_law_X4_waiting : GoodIn wsL_law wsX4_waiting := goodIn_r _ [602, 69, 527, 68, 619, 620, 621, 622, 623, 624, 625, 626, 627, 628, 629, 630, 631, 632, 633, 634, 635, 636, 637] (by decide +kernel) (by decide +kernel)
set_option maxRecDepth 20000 in
theorem gL_law_X4_waiting : GoodIn wsL_law (wsV RL 160 RX4 yX4_waiting wsX4_waiting) := goodIn_app (goodIn_of _ (by decide +kernel)) ggL_law_X4_waiting
set_option maxRecDepth 20000 in
theorem ggL_law_X3_late : GoodIn wsL_law wsX3_late := goodIn_r _ [606, 24, 607, 608, 609, 23, 610, 54, 615, 616, 617, 618, 651, 652, 653, 654, 655] (by decide +kernel) (by decide +kernel)
set_option maxRecDepth 20000 in
theorem gL_law_X3_late : GoodIn wsL_law (wsV RL 161 RX3 yX3_late wsX3_late) := goodIn_app (goodIn_of _ (by decide +kernel)) ggL_law_X3_late
set_option maxRecDepth 20000 in
theorem ggL_law_X4_late : GoodIn wsL_law wsX4_late := goodIn_r _ [614, 69, 577, 619, 620, 621, 622, 623, 624, 625, 626, 627, 628, 629, 630, 631, 632, 633, 634, 635, 636, 637] (by decide +kernel) (by decide +kernel)
set_option maxRecDepth 20000 in
theorem gL_law_X4_late : GoodIn wsL_law (wsV RL 164 RX4 yX4_late wsX4_late) := goodIn_app (goodIn_of _ (by decide +kernel)) ggL_law_X4_late
theorem dL_law_620 : decode cL_law 620 = .ok (.if_icmp .eq 5, 3) := by decide +kernel
theorem dL_law_623 : decode cL_law 623 = .ok (.iconst 0, 1) := by decide +kernel
theorem dL_law_624 : decode cL_law 624 = .ok (.ireturn, 1) := by decide +kernel
theorem dL_law_625 : decode cL_law 625 = .ok (.iload 5, 2) := by decide +kernel
theorem dL_law_627 : decode cL_law 627 = .ok (.ifCond .ne 15, 3) := by decide +kernel
theorem dL_law_630 : decode cL_law 630 = .ok (.aload_n 3, 1) := by decide +kernel
theorem dL_law_631 : decode cL_law 631 = .ok (.iconst 0, 1) := by decide +kernel
theorem dL_law_632 : decode cL_law 632 = .ok (.laload, 1) := by decide +kernel
theorem dL_law_633 : decode cL_law 633 = .ok (.iload 6, 2) := by decide +kernel
theorem dL_law_635 : decode cL_law 635 = .ok (.i2l, 1) := by decide +kernel
theorem dL_law_636 : decode cL_law 636 = .ok (.lcmp, 1) := by decide +kernel
theorem dL_law_637 : decode cL_law 637 = .ok (.ifCond .eq 5, 3) := by decide +kernel
theorem dL_law_640 : decode cL_law 640 = .ok (.iconst 0, 1) := by decide +kernel
theorem dL_law_641 : decode cL_law 641 = .ok (.ireturn, 1) := by decide +kernel
theorem dL_law_642 : decode cL_law 642 = .ok (.goto 643, 3) := by decide +kernel
theorem dL_law_645 : decode cL_law 645 = .ok (.aload_n 1, 1) := by decide +kernel
theorem dL_law_646 : decode cL_law 646 = .ok (.invokevirtual 110, 3) := by decide +kernel
theorem dL_law_649 : decode cL_law 649 = .ok (.aload_n 2, 1) := by decide +kernel
theorem dL_law_650 : decode cL_law 650 = .ok (.invokevirtual 113, 3) := by decide +kernel
theorem dL_law_653 : decode cL_law 653 = .ok (.if_icmp .eq 632, 3) := by decide +kernel
theorem dL_law_656 : decode cL_law 656 = .ok (.iconst 0, 1) := by decide +kernel
theorem dL_law_657 : decode cL_law 657 = .ok (.ireturn, 1) := by decide +kernel
theorem dL_law_658 : decode cL_law 658 = .ok (.aload_n 1, 1) := by decide +kernel
theorem dL_law_659 : decode cL_law 659 = .ok (.invokevirtual 114, 3) := by decide +kernel
theorem dL_law_662 : decode cL_law 662 = .ok (.aload_n 2, 1) := by decide +kernel
theorem dL_law_663 : decode cL_law 663 = .ok (.invokevirtual 117, 3) := by decide +kernel
theorem dL_law_666 : decode cL_law 666 = .ok (.if_icmp .eq 619, 3) := by decide +kernel
theorem dL_law_669 : decode cL_law 669 = .ok (.iconst 0, 1) := by decide +kernel
theorem dL_law_670 : decode cL_law 670 = .ok (.ireturn, 1) := by decide +kernel
theorem dL_law_671 : decode cL_law 671 = .ok (.aload_n 1, 1) := by decide +kernel
theorem dL_law_672 : decode cL_law 672 = .ok (.aload_n 0, 1) := by decide +kernel
theorem dL_law_673 : decode cL_law 673 = .ok (.iload 4, 2) := by decide +kernel
theorem dL_law_675 : decode cL_law 675 = .ok (.iconst 1, 1) := by decide +kernel
theorem dL_law_676 : decode cL_law 676 = .ok (.iadd, 1) := by decide +kernel
theorem dL_law_677 : decode cL_law 677 = .ok (.iaload, 1) := by decide +kernel
theorem dL_law_678 : decode cL_law 678 = .ok (.aload_n 3, 1) := by decide +kernel
theorem dL_law_679 : decode cL_law 679 = .ok (.invokestatic 118, 3) := by decide +kernel
theorem dL_law_682 : decode cL_law 682 = .ok (.istore 5, 2) := by decide +kernel
theorem dL_law_684 : decode cL_law 684 = .ok (.aload_n 2, 1) := by decide +kernel
theorem dL_law_685 : decode cL_law 685 = .ok (.aload_n 0, 1) := by decide +kernel
theorem dL_law_686 : decode cL_law 686 = .ok (.iload 4, 2) := by decide +kernel
theorem dL_law_688 : decode cL_law 688 = .ok (.iconst 1, 1) := by decide +kernel
theorem dL_law_689 : decode cL_law 689 = .ok (.iadd, 1) := by decide +kernel
theorem dL_law_690 : decode cL_law 690 = .ok (.iaload, 1) := by decide +kernel
theorem dL_law_691 : decode cL_law 691 = .ok (.invokevirtual 120, 3) := by decide +kernel
theorem dL_law_694 : decode cL_law 694 = .ok (.istore 6, 2) := by decide +kernel
theorem dL_law_696 : decode cL_law 696 = .ok (.aload_n 2, 1) := by decide +kernel
theorem dL_law_697 : decode cL_law 697 = .ok (.invokevirtual 79, 3) := by decide +kernel
theorem dL_law_700 : decode cL_law 700 = .ok (.iload 5, 2) := by decide +kernel
theorem dL_law_702 : decode cL_law 702 = .ok (.if_icmp .eq 5, 3) := by decide +kernel
theorem dL_law_705 : decode cL_law 705 = .ok (.iconst 0, 1) := by decide +kernel
theorem dL_law_706 : decode cL_law 706 = .ok (.ireturn, 1) := by decide +kernel
theorem dL_law_707 : decode cL_law 707 = .ok (.iload 5, 2) := by decide +kernel
theorem dL_law_709 : decode cL_law 709 = .ok (.ifCond .ne 15, 3) := by decide +kernel
theorem dL_law_712 : decode cL_law 712 = .ok (.aload_n 3, 1) := by decide +kernel
theorem dL_law_713 : decode cL_law 713 = .ok (.iconst 0, 1) := by decide +kernel
theorem dL_law_714 : decode cL_law 714 = .ok (.laload, 1) := by decide +kernel
theorem dL_law_715 : decode cL_law 715 = .ok (.iload 6, 2) := by decide +kernel
theorem dL_law_717 : decode cL_law 717 = .ok (.i2l, 1) := by decide +kernel
theorem dL_law_718 : decode cL_law 718 = .ok (.lcmp, 1) := by decide +kernel
theorem dL_law_719 : decode cL_law 719 = .ok (.ifCond .eq 5, 3) := by decide +kernel
theorem dL_law_722 : decode cL_law 722 = .ok (.iconst 0, 1) := by decide +kernel
theorem dL_law_723 : decode cL_law 723 = .ok (.ireturn, 1) := by decide +kernel
theorem dL_law_724 : decode cL_law 724 = .ok (.goto 561, 3) := by decide +kernel
theorem dL_law_727 : decode cL_law 727 = .ok (.aload_n 1, 1) := by decide +kernel
theorem dL_law_728 : decode cL_law 728 = .ok (.aload_n 0, 1) := by decide +kernel
theorem dL_law_729 : decode cL_law 729 = .ok (.iload 4, 2) := by decide +kernel
theorem dL_law_731 : decode cL_law 731 = .ok (.iconst 1, 1) := by decide +kernel
theorem dL_law_732 : decode cL_law 732 = .ok (.iadd, 1) := by decide +kernel
theorem dL_law_733 : decode cL_law 733 = .ok (.iaload, 1) := by decide +kernel
theorem dL_law_734 : decode cL_law 734 = .ok (.aload_n 3, 1) := by decide +kernel
theorem dL_law_735 : decode cL_law 735 = .ok (.invokestatic 121, 3) := by decide +kernel
theorem dL_law_738 : decode cL_law 738 = .ok (.istore 5, 2) := by decide +kernel
theorem dL_law_740 : decode cL_law 740 = .ok (.aload_n 2, 1) := by decide +kernel
theorem dL_law_741 : decode cL_law 741 = .ok (.aload_n 0, 1) := by decide +kernel
theorem dL_law_742 : decode cL_law 742 = .ok (.iload 4, 2) := by decide +kernel
theorem dL_law_744 : decode cL_law 744 = .ok (.iconst 1, 1) := by decide +kernel
theorem dL_law_745 : decode cL_law 745 = .ok (.iadd, 1) := by decide +kernel
theorem dL_law_746 : decode cL_law 746 = .ok (.iaload, 1) := by decide +kernel
theorem dL_law_747 : decode cL_law 747 = .ok (.invokevirtual 123, 3) := by decide +kernel
theorem dL_law_750 : decode cL_law 750 = .ok (.istore 6, 2) := by decide +kernel
theorem dL_law_752 : decode cL_law 752 = .ok (.aload_n 2, 1) := by decide +kernel
theorem dL_law_753 : decode cL_law 753 = .ok (.invokevirtual 79, 3) := by decide +kernel
theorem dL_law_756 : decode cL_law 756 = .ok (.iload 5, 2) := by decide +kernel
theorem dL_law_758 : decode cL_law 758 = .ok (.if_icmp .eq 5, 3) := by decide +kernel
theorem dL_law_761 : decode cL_law 761 = .ok (.iconst 0, 1) := by decide +kernel
theorem dL_law_762 : decode cL_law 762 = .ok (.ireturn, 1) := by decide +kernel
theorem dL_law_763 : decode cL_law 763 = .ok (.iload 5, 2) := by decide +kernel
theorem dL_law_765 : decode cL_law 765 = .ok (.ifCond .ne 15, 3) := by decide +kernel
theorem dL_law_768 : decode cL_law 768 = .ok (.aload_n 3, 1) := by decide +kernel
theorem dL_law_769 : decode cL_law 769 = .ok (.iconst 0, 1) := by decide +kernel
theorem dL_law_770 : decode cL_law 770 = .ok (.laload, 1) := by decide +kernel
theorem dL_law_771 : decode cL_law 771 = .ok (.iload 6, 2) := by decide +kernel
theorem dL_law_773 : decode cL_law 773 = .ok (.i2l, 1) := by decide +kernel
theorem dL_law_774 : decode cL_law 774 = .ok (.lcmp, 1) := by decide +kernel
theorem dL_law_775 : decode cL_law 775 = .ok (.ifCond .eq 5, 3) := by decide +kernel
theorem dL_law_778 : decode cL_law 778 = .ok (.iconst 0, 1) := by decide +kernel
theorem dL_law_779 : decode cL_law 779 = .ok (.ireturn, 1) := by decide +kernel
theorem dL_law_780 : decode cL_law 780 = .ok (.goto 505, 3) := by decide +kernel
theorem dL_law_783 : decode cL_law 783 = .ok (.aload_n 1, 1) := by decide +kernel
theorem dL_law_784 : decode cL_law 784 = .ok (.aload_n 0, 1) := by decide +kernel
theorem dL_law_785 : decode cL_law 785 = .ok (.iload 4, 2) := by decide +kernel
theorem dL_law_787 : decode cL_law 787 = .ok (.iconst 1, 1) := by decide +kernel
theorem dL_law_788 : decode cL_law 788 = .ok (.iadd, 1) := by decide +kernel
theorem dL_law_789 : decode cL_law 789 = .ok (.iaload, 1) := by decide +kernel
theorem dL_law_790 : decode cL_law 790 = .ok (.aload_n 3, 1) := by decide +kernel
theorem dL_law_791 : decode cL_law 791 = .ok (.invokestatic 124, 3) := by decide +kernel
theorem dL_law_794 : decode cL_law 794 = .ok (.istore 5, 2) := by decide +kernel
theorem dL_law_796 : decode cL_law 796 = .ok (.aload_n 2, 1) := by decide +kernel
theorem dL_law_797 : decode cL_law 797 = .ok (.aload_n 0, 1) := by decide +kernel
theorem dL_law_798 : decode cL_law 798 = .ok (.iload 4, 2) := by decide +kernel
theorem dL_law_800 : decode cL_law 800 = .ok (.iconst 1, 1) := by decide +kernel
theorem dL_law_801 : decode cL_law 801 = .ok (.iadd, 1) := by decide +kernel
theorem dL_law_802 : decode cL_law 802 = .ok (.iaload, 1) := by decide +kernel
theorem dL_law_803 : decode cL_law 803 = .ok (.invokevirtual 126, 3) := by decide +kernel
theorem dL_law_806 : decode cL_law 806 = .ok (.istore 6, 2) := by decide +kernel
theorem dL_law_808 : decode cL_law 808 = .ok (.aload_n 2, 1) := by decide +kernel
theorem dL_law_809 : decode cL_law 809 = .ok (.invokevirtual 79, 3) := by decide +kernel
theorem dL_law_812 : decode cL_law 812 = .ok (.iload 5, 2) := by decide +kernel
theorem dL_law_814 : decode cL_law 814 = .ok (.if_icmp .eq 5, 3) := by decide +kernel
theorem dL_law_817 : decode cL_law 817 = .ok (.iconst 0, 1) := by decide +kernel
theorem dL_law_818 : decode cL_law 818 = .ok (.ireturn, 1) := by decide +kernel
theorem dL_law_819 : decode cL_law 819 = .ok (.iload 5, 2) := by decide +kernel
theorem dL_law_821 : decode cL_law 821 = .ok (.ifCond .ne 22, 3) := by decide +kernel
theorem dL_law_824 : decode cL_law 824 = .ok (.aload_n 3, 1) := by decide +kernel
theorem dL_law_825 : decode cL_law 825 = .ok (.iconst 0, 1) := by decide +kernel
theorem dL_law_826 : decode cL_law 826 = .ok (.laload, 1) := by decide +kernel
theorem dL_law_827 : decode cL_law 827 = .ok (.iload 6, 2) := by decide +kernel
theorem dL_law_829 : decode cL_law 829 = .ok (.ifCond .eq 7, 3) := by decide +kernel
theorem dL_law_832 : decode cL_law 832 = .ok (.lconst 1, 1) := by decide +kernel
theorem dL_law_833 : decode cL_law 833 = .ok (.goto 4, 3) := by decide +kernel
theorem dL_law_836 : decode cL_law 836 = .ok (.lconst 0, 1) := by decide +kernel
theorem dL_law_837 : decode cL_law 837 = .ok (.lcmp, 1) := by decide +kernel
theorem dL_law_838 : decode cL_law 838 = .ok (.ifCond .eq 5, 3) := by decide +kernel
theorem dL_law_841 : decode cL_law 841 = .ok (.iconst 0, 1) := by decide +kernel
theorem dL_law_842 : decode cL_law 842 = .ok (.ireturn, 1) := by decide +kernel
theorem dL_law_843 : decode cL_law 843 = .ok (.goto 442, 3) := by decide +kernel
theorem dL_law_846 : decode cL_law 846 = .ok (.aload_n 1, 1) := by decide +kernel
theorem dL_law_847 : decode cL_law 847 = .ok (.aload_n 3, 1) := by decide +kernel
theorem dL_law_848 : decode cL_law 848 = .ok (.invokestatic 127, 3) := by decide +kernel
theorem dL_law_851 : decode cL_law 851 = .ok (.istore 5, 2) := by decide +kernel
theorem dL_law_853 : decode cL_law 853 = .ok (.aload_n 2, 1) := by decide +kernel
theorem dL_law_854 : decode cL_law 854 = .ok (.invokevirtual 130, 3) := by decide +kernel
theorem dL_law_857 : decode cL_law 857 = .ok (.istore 6, 2) := by decide +kernel
theorem dL_law_859 : decode cL_law 859 = .ok (.aload_n 2, 1) := by decide +kernel
theorem dL_law_860 : decode cL_law 860 = .ok (.invokevirtual 79, 3) := by decide +kernel
theorem dL_law_863 : decode cL_law 863 = .ok (.iload 5, 2) := by decide +kernel
theorem dL_law_865 : decode cL_law 865 = .ok (.if_icmp .eq 5, 3) := by decide +kernel
theorem dL_law_868 : decode cL_law 868 = .ok (.iconst 0, 1) := by decide +kernel
theorem dL_law_869 : decode cL_law 869 = .ok (.ireturn, 1) := by decide +kernel
theorem dL_law_870 : decode cL_law 870 = .ok (.iload 5, 2) := by decide +kernel
theorem dL_law_872 : decode cL_law 872 = .ok (.ifCond .ne 22, 3) := by decide +kernel
theorem dL_law_875 : decode cL_law 875 = .ok (.aload_n 3, 1) := by decide +kernel
theorem dL_law_876 : decode cL_law 876 = .ok (.iconst 0, 1) := by decide +kernel
theorem dL_law_877 : decode cL_law 877 = .ok (.laload, 1) := by decide +kernel
theorem dL_law_878 : decode cL_law 878 = .ok (.iload 6, 2) := by decide +kernel
theorem dL_law_880 : decode cL_law 880 = .ok (.ifCond .eq 7, 3) := by decide +kernel
theorem dL_law_883 : decode cL_law 883 = .ok (.lconst 1, 1) := by decide +kernel
theorem dL_law_884 : decode cL_law 884 = .ok (.goto 4, 3) := by decide +kernel
theorem dL_law_887 : decode cL_law 887 = .ok (.lconst 0, 1) := by decide +kernel
theorem dL_law_888 : decode cL_law 888 = .ok (.lcmp, 1) := by decide +kernel
theorem dL_law_889 : decode cL_law 889 = .ok (.ifCond .eq 5, 3) := by decide +kernel
theorem dL_law_892 : decode cL_law 892 = .ok (.iconst 0, 1) := by decide +kernel
theorem dL_law_893 : decode cL_law 893 = .ok (.ireturn, 1) := by decide +kernel
theorem dL_law_894 : decode cL_law 894 = .ok (.goto 391, 3) := by decide +kernel
theorem dL_law_897 : decode cL_law 897 = .ok (.aload_n 1, 1) := by decide +kernel
theorem dL_law_898 : decode cL_law 898 = .ok (.aload_n 0, 1) := by decide +kernel
theorem dL_law_899 : decode cL_law 899 = .ok (.iload 4, 2) := by decide +kernel
theorem dL_law_901 : decode cL_law 901 = .ok (.iconst 1, 1) := by decide +kernel
theorem dL_law_902 : decode cL_law 902 = .ok (.iadd, 1) := by decide +kernel
theorem dL_law_903 : decode cL_law 903 = .ok (.iaload, 1) := by decide +kernel
theorem dL_law_904 : decode cL_law 904 = .ok (.ifCond .eq 7, 3) := by decide +kernel
theorem dL_law_907 : decode cL_law 907 = .ok (.iconst 1, 1) := by decide +kernel
theorem dL_law_908 : decode cL_law 908 = .ok (.goto 4, 3) := by decide +kernel
theorem dL_law_911 : decode cL_law 911 = .ok (.iconst 0, 1) := by decide +kernel
theorem dL_law_912 : decode cL_law 912 = .ok (.invokevirtual 131, 3) := by decide +kernel
theorem dL_law_915 : decode cL_law 915 = .ok (.aload_n 2, 1) := by decide +kernel
theorem dL_law_916 : decode cL_law 916 = .ok (.aload_n 0, 1) := by decide +kernel
theorem dL_law_917 : decode cL_law 917 = .ok (.iload 4, 2) := by decide +kernel
theorem dL_law_919 : decode cL_law 919 = .ok (.iconst 1, 1) := by decide +kernel
theorem dL_law_920 : decode cL_law 920 = .ok (.iadd, 1) := by decide +kernel
theorem dL_law_921 : decode cL_law 921 = .ok (.iaload, 1) := by decide +kernel
theorem dL_law_922 : decode cL_law 922 = .ok (.ifCond .eq 7, 3) := by decide +kernel
theorem dL_law_925 : decode cL_law 925 = .ok (.iconst 1, 1) := by decide +kernel
theorem dL_law_926 : decode cL_law 926 = .ok (.goto 4, 3) := by decide +kernel
theorem dL_law_929 : decode cL_law 929 = .ok (.iconst 0, 1) := by decide +kernel
theorem dL_law_930 : decode cL_law 930 = .ok (.invokevirtual 135, 3) := by decide +kernel
theorem dL_law_933 : decode cL_law 933 = .ok (.if_icmp .eq 352, 3) := by decide +kernel
theorem dL_law_936 : decode cL_law 936 = .ok (.iconst 0, 1) := by decide +kernel
theorem dL_law_937 : decode cL_law 937 = .ok (.ireturn, 1) := by decide +kernel
theorem dL_law_938 : decode cL_law 938 = .ok (.aload_n 1, 1) := by decide +kernel
theorem dL_law_939 : decode cL_law 939 = .ok (.aload_n 0, 1) := by decide +kernel
theorem dL_law_940 : decode cL_law 940 = .ok (.iload 4, 2) := by decide +kernel
theorem dL_law_942 : decode cL_law 942 = .ok (.iconst 1, 1) := by decide +kernel
theorem dL_law_943 : decode cL_law 943 = .ok (.iadd, 1) := by decide +kernel
theorem dL_law_944 : decode cL_law 944 = .ok (.iaload, 1) := by decide +kernel
theorem dL_law_945 : decode cL_law 945 = .ok (.ifCond .eq 7, 3) := by decide +kernel
theorem dL_law_948 : decode cL_law 948 = .ok (.iconst 1, 1) := by decide +kernel
theorem dL_law_949 : decode cL_law 949 = .ok (.goto 4, 3) := by decide +kernel
theorem dL_law_952 : decode cL_law 952 = .ok (.iconst 0, 1) := by decide +kernel
theorem dL_law_953 : decode cL_law 953 = .ok (.invokevirtual 136, 3) := by decide +kernel
theorem dL_law_956 : decode cL_law 956 = .ok (.aload_n 2, 1) := by decide +kernel
theorem dL_law_957 : decode cL_law 957 = .ok (.aload_n 0, 1) := by decide +kernel
theorem dL_law_958 : decode cL_law 958 = .ok (.iload 4, 2) := by decide +kernel
theorem dL_law_960 : decode cL_law 960 = .ok (.iconst 1, 1) := by decide +kernel
theorem dL_law_961 : decode cL_law 961 = .ok (.iadd, 1) := by decide +kernel
theorem dL_law_962 : decode cL_law 962 = .ok (.iaload, 1) := by decide +kernel
theorem dL_law_963 : decode cL_law 963 = .ok (.ifCond .eq 7, 3) := by decide +kernel
theorem dL_law_966 : decode cL_law 966 = .ok (.iconst 1, 1) := by decide +kernel
theorem dL_law_967 : decode cL_law 967 = .ok (.goto 4, 3) := by decide +kernel
theorem dL_law_970 : decode cL_law 970 = .ok (.iconst 0, 1) := by decide +kernel
theorem dL_law_971 : decode cL_law 971 = .ok (.invokevirtual 140, 3) := by decide +kernel
theorem dL_law_974 : decode cL_law 974 = .ok (.if_icmp .eq 311, 3) := by decide +kernel
theorem dL_law_977 : decode cL_law 977 = .ok (.iconst 0, 1) := by decide +kernel
theorem dL_law_978 : decode cL_law 978 = .ok (.ireturn, 1) := by decide +kernel
theorem dL_law_979 : decode cL_law 979 = .ok (.aload_n 1, 1) := by decide +kernel
theorem dL_law_980 : decode cL_law 980 = .ok (.aload_n 0, 1) := by decide +kernel
theorem dL_law_981 : decode cL_law 981 = .ok (.iload 4, 2) := by decide +kernel
theorem dL_law_983 : decode cL_law 983 = .ok (.iconst 1, 1) := by decide +kernel
theorem dL_law_984 : decode cL_law 984 = .ok (.iadd, 1) := by decide +kernel
theorem dL_law_985 : decode cL_law 985 = .ok (.iaload, 1) := by decide +kernel
theorem dL_law_986 : decode cL_law 986 = .ok (.aload_n 3, 1) := by decide +kernel
theorem dL_law_987 : decode cL_law 987 = .ok (.invokestatic 141, 3) := by decide +kernel
theorem dL_law_990 : decode cL_law 990 = .ok (.istore 5, 2) := by decide +kernel
theorem dL_law_992 : decode cL_law 992 = .ok (.aload_n 2, 1) := by decide +kernel
theorem dL_law_993 : decode cL_law 993 = .ok (.aload_n 0, 1) := by decide +kernel
theorem dL_law_994 : decode cL_law 994 = .ok (.iload 4, 2) := by decide +kernel
theorem dL_law_996 : decode cL_law 996 = .ok (.iconst 1, 1) := by decide +kernel
theorem dL_law_997 : decode cL_law 997 = .ok (.iadd, 1) := by decide +kernel
theorem dL_law_998 : decode cL_law 998 = .ok (.iaload, 1) := by decide +kernel
theorem dL_law_999 : decode cL_law 999 = .ok (.invokevirtual 143, 3) := by decide +kernel
theorem dL_law_1002 : decode cL_law 1002 = .ok (.istore 6, 2) := by decide +kernel
theorem dL_law_1004 : decode cL_law 1004 = .ok (.aload_n 2, 1) := by decide +kernel
theorem dL_law_1005 : decode cL_law 1005 = .ok (.invokevirtual 79, 3) := by decide +kernel
theorem dL_law_1008 : decode cL_law 1008 = .ok (.iload 5, 2) := by decide +kernel
theorem dL_law_1010 : decode cL_law 1010 = .ok (.if_icmp .eq 5, 3) := by decide +kernel
theorem dL_law_1013 : decode cL_law 1013 = .ok (.iconst 0, 1) := by decide +kernel
theorem dL_law_1014 : decode cL_law 1014 = .ok (.ireturn, 1) := by decide +kernel
theorem dL_law_1015 : decode cL_law 1015 = .ok (.iload 5, 2) := by decide +kernel
theorem dL_law_1017 : decode cL_law 1017 = .ok (.ifCond .ne 15, 3) := by decide +kernel
theorem dL_law_1020 : decode cL_law 1020 = .ok (.aload_n 3, 1) := by decide +kernel
theorem dL_law_1021 : decode cL_law 1021 = .ok (.iconst 0, 1) := by decide +kernel
theorem dL_law_1022 : decode cL_law 1022 = .ok (.laload, 1) := by decide +kernel
theorem dL_law_1023 : decode cL_law 1023 = .ok (.iload 6, 2) := by decide +kernel
theorem dL_law_1025 : decode cL_law 1025 = .ok (.i2l, 1) := by decide +kernel
theorem dL_law_1026 : decode cL_law 1026 = .ok (.lcmp, 1) := by decide +kernel
theorem dL_law_1027 : decode cL_law 1027 = .ok (.ifCond .eq 5, 3) := by decide +kernel
theorem dL_law_1030 : decode cL_law 1030 = .ok (.iconst 0, 1) := by decide +kernel
theorem dL_law_1031 : decode cL_law 1031 = .ok (.ireturn, 1) := by decide +kernel
theorem dL_law_1032 : decode cL_law 1032 = .ok (.goto 253, 3) := by decide +kernel
theorem dL_law_1035 : decode cL_law 1035 = .ok (.aload_n 1, 1) := by decide +kernel
theorem dL_law_1036 : decode cL_law 1036 = .ok (.aload_n 0, 1) := by decide +kernel
theorem dL_law_1037 : decode cL_law 1037 = .ok (.iload 4, 2) := by decide +kernel
theorem dL_law_1039 : decode cL_law 1039 = .ok (.iconst 1, 1) := by decide +kernel
theorem dL_law_1040 : decode cL_law 1040 = .ok (.iadd, 1) := by decide +kernel
theorem dL_law_1041 : decode cL_law 1041 = .ok (.iaload, 1) := by decide +kernel
theorem dL_law_1042 : decode cL_law 1042 = .ok (.aload_n 0, 1) := by decide +kernel
theorem dL_law_1043 : decode cL_law 1043 = .ok (.iload 4, 2) := by decide +kernel
theorem dL_law_1045 : decode cL_law 1045 = .ok (.iconst 2, 1) := by decide +kernel
theorem dL_law_1046 : decode cL_law 1046 = .ok (.iadd, 1) := by decide +kernel
theorem dL_law_1047 : decode cL_law 1047 = .ok (.iaload, 1) := by decide +kernel
theorem dL_law_1048 : decode cL_law 1048 = .ok (.aload_n 3, 1) := by decide +kernel
theorem dL_law_1049 : decode cL_law 1049 = .ok (.invokestatic 144, 3) := by decide +kernel
theorem dL_law_1052 : decode cL_law 1052 = .ok (.istore 5, 2) := by decide +kernel
theorem dL_law_1054 : decode cL_law 1054 = .ok (.aload_n 2, 1) := by decide +kernel
theorem dL_law_1055 : decode cL_law 1055 = .ok (.aload_n 0, 1) := by decide +kernel
theorem dL_law_1056 : decode cL_law 1056 = .ok (.iload 4, 2) := by decide +kernel
theorem dL_law_1058 : decode cL_law 1058 = .ok (.iconst 1, 1) := by decide +kernel
theorem dL_law_1059 : decode cL_law 1059 = .ok (.iadd, 1) := by decide +kernel
theorem dL_law_1060 : decode cL_law 1060 = .ok (.iaload, 1) := by decide +kernel
theorem dL_law_1061 : decode cL_law 1061 = .ok (.aload_n 0, 1) := by decide +kernel
theorem dL_law_1062 : decode cL_law 1062 = .ok (.iload 4, 2) := by decide +kernel
theorem dL_law_1064 : decode cL_law 1064 = .ok (.iconst 2, 1) := by decide +kernel
theorem dL_law_1065 : decode cL_law 1065 = .ok (.iadd, 1) := by decide +kernel
theorem dL_law_1066 : decode cL_law 1066 = .ok (.iaload, 1) := by decide +kernel
theorem dL_law_1067 : decode cL_law 1067 = .ok (.invokevirtual 146, 3) := by decide +kernel
theorem dL_law_1070 : decode cL_law 1070 = .ok (.istore 6, 2) := by decide +kernel
theorem dL_law_1072 : decode cL_law 1072 = .ok (.aload_n 2, 1) := by decide +kernel
theorem dL_law_1073 : decode cL_law 1073 = .ok (.invokevirtual 79, 3) := by decide +kernel
theorem dL_law_1076 : decode cL_law 1076 = .ok (.iload 5, 2) := by decide +kernel
theorem dL_law_1078 : decode cL_law 1078 = .ok (.if_icmp .eq 5, 3) := by decide +kernel
theorem dL_law_1081 : decode cL_law 1081 = .ok (.iconst 0, 1) := by decide +kernel
theorem dL_law_1082 : decode cL_law 1082 = .ok (.ireturn, 1) := by decide +kernel
theorem dL_law_1083 : decode cL_law 1083 = .ok (.iload 5, 2) := by decide +kernel
theorem dL_law_1085 : decode cL_law 1085 = .ok (.ifCond .ne 15, 3) := by decide +kernel
theorem dL_law_1088 : decode cL_law 1088 = .ok (.aload_n 3, 1) := by decide +kernel
theorem dL_law_1089 : decode cL_law 1089 = .ok (.iconst 0, 1) := by decide +kernel
theorem dL_law_1090 : decode cL_law 1090 = .ok (.laload, 1) := by decide +kernel
theorem dL_law_1091 : decode cL_law 1091 = .ok (.iload 6, 2) := by decide +kernel
theorem dL_law_1093 : decode cL_law 1093 = .ok (.i2l, 1) := by decide +kernel
theorem dL_law_1094 : decode cL_law 1094 = .ok (.lcmp, 1) := by decide +kernel
theorem dL_law_1095 : decode cL_law 1095 = .ok (.ifCond .eq 5, 3) := by decide +kernel
theorem dL_law_1098 : decode cL_law 1098 = .ok (.iconst 0, 1) := by decide +kernel
theorem dL_law_1099 : decode cL_law 1099 = .ok (.ireturn, 1) := by decide +kernel
theorem dL_law_1100 : decode cL_law 1100 = .ok (.goto 185, 3) := by decide +kernel
theorem dL_law_1103 : decode cL_law 1103 = .ok (.aload_n 1, 1) := by decide +kernel
theorem dL_law_1104 : decode cL_law 1104 = .ok (.invokevirtual 147, 3) := by decide +kernel
theorem dL_law_1107 : decode cL_law 1107 = .ok (.aload_n 2, 1) := by decide +kernel
theorem dL_law_1108 : decode cL_law 1108 = .ok (.invokevirtual 150, 3) := by decide +kernel
theorem dL_law_1111 : decode cL_law 1111 = .ok (.if_icmp .eq 174, 3) := by decide +kernel
theorem dL_law_1114 : decode cL_law 1114 = .ok (.iconst 0, 1) := by decide +kernel
theorem dL_law_1115 : decode cL_law 1115 = .ok (.ireturn, 1) := by decide +kernel
theorem dL_law_1116 : decode cL_law 1116 = .ok (.aload_n 1, 1) := by decide +kernel
theorem dL_law_1117 : decode cL_law 1117 = .ok (.aload_n 0, 1) := by decide +kernel
theorem dL_law_1118 : decode cL_law 1118 = .ok (.iload 4, 2) := by decide +kernel
theorem dL_law_1120 : decode cL_law 1120 = .ok (.iconst 1, 1) := by decide +kernel
theorem dL_law_1121 : decode cL_law 1121 = .ok (.iadd, 1) := by decide +kernel
theorem dL_law_1122 : decode cL_law 1122 = .ok (.iaload, 1) := by decide +kernel
theorem dL_law_1123 : decode cL_law 1123 = .ok (.aload_n 3, 1) := by decide +kernel
theorem dL_law_1124 : decode cL_law 1124 = .ok (.invokestatic 151, 3) := by decide +kernel
theorem dL_law_1127 : decode cL_law 1127 = .ok (.istore 5, 2) := by decide +kernel
theorem dL_law_1129 : decode cL_law 1129 = .ok (.aload_n 2, 1) := by decide +kernel
theorem dL_law_1130 : decode cL_law 1130 = .ok (.aload_n 0, 1) := by decide +kernel
theorem dL_law_1131 : decode cL_law 1131 = .ok (.iload 4, 2) := by decide +kernel
theorem dL_law_1133 : decode cL_law 1133 = .ok (.iconst 1, 1) := by decide +kernel
theorem dL_law_1134 : decode cL_law 1134 = .ok (.iadd, 1) := by decide +kernel
theorem dL_law_1135 : decode cL_law 1135 = .ok (.iaload, 1) := by decide +kernel
theorem dL_law_1136 : decode cL_law 1136 = .ok (.invokevirtual 153, 3) := by decide +kernel
theorem dL_law_1139 : decode cL_law 1139 = .ok (.istore 6, 2) := by decide +kernel
theorem dL_law_1141 : decode cL_law 1141 = .ok (.aload_n 2, 1) := by decide +kernel
theorem dL_law_1142 : decode cL_law 1142 = .ok (.invokevirtual 79, 3) := by decide +kernel
theorem dL_law_1145 : decode cL_law 1145 = .ok (.iload 5, 2) := by decide +kernel
theorem dL_law_1147 : decode cL_law 1147 = .ok (.if_icmp .eq 5, 3) := by decide +kernel
theorem dL_law_1150 : decode cL_law 1150 = .ok (.iconst 0, 1) := by decide +kernel
theorem dL_law_1151 : decode cL_law 1151 = .ok (.ireturn, 1) := by decide +kernel
theorem dL_law_1152 : decode cL_law 1152 = .ok (.iload 5, 2) := by decide +kernel
theorem dL_law_1154 : decode cL_law 1154 = .ok (.ifCond .ne 15, 3) := by decide +kernel
theorem dL_law_1157 : decode cL_law 1157 = .ok (.aload_n 3, 1) := by decide +kernel
theorem dL_law_1158 : decode cL_law 1158 = .ok (.iconst 0, 1) := by decide +kernel
theorem dL_law_1159 : decode cL_law 1159 = .ok (.laload, 1) := by decide +kernel
theorem dL_law_1160 : decode cL_law 1160 = .ok (.iload 6, 2) := by decide +kernel
theorem dL_law_1162 : decode cL_law 1162 = .ok (.i2l, 1) := by decide +kernel
theorem dL_law_1163 : decode cL_law 1163 = .ok (.lcmp, 1) := by decide +kernel
theorem dL_law_1164 : decode cL_law 1164 = .ok (.ifCond .eq 5, 3) := by decide +kernel
theorem dL_law_1167 : decode cL_law 1167 = .ok (.iconst 0, 1) := by decide +kernel
theorem dL_law_1168 : decode cL_law 1168 = .ok (.ireturn, 1) := by decide +kernel
theorem dL_law_1169 : decode cL_law 1169 = .ok (.goto 116, 3) := by decide +kernel
theorem dL_law_1172 : decode cL_law 1172 = .ok (.aload_n 1, 1) := by decide +kernel
theorem dL_law_1173 : decode cL_law 1173 = .ok (.aload_n 0, 1) := by decide +kernel
theorem dL_law_1174 : decode cL_law 1174 = .ok (.iload 4, 2) := by decide +kernel
theorem dL_law_1176 : decode cL_law 1176 = .ok (.iconst 1, 1) := by decide +kernel
theorem dL_law_1177 : decode cL_law 1177 = .ok (.iadd, 1) := by decide +kernel
theorem dL_law_1178 : decode cL_law 1178 = .ok (.iaload, 1) := by decide +kernel
theorem dL_law_1179 : decode cL_law 1179 = .ok (.aload_n 0, 1) := by decide +kernel
theorem dL_law_1180 : decode cL_law 1180 = .ok (.iload 4, 2) := by decide +kernel
theorem dL_law_1182 : decode cL_law 1182 = .ok (.iconst 2, 1) := by decide +kernel
theorem dL_law_1183 : decode cL_law 1183 = .ok (.iadd, 1) := by decide +kernel
theorem dL_law_1184 : decode cL_law 1184 = .ok (.iaload, 1) := by decide +kernel
theorem dL_law_1185 : decode cL_law 1185 = .ok (.aload_n 0, 1) := by decide +kernel
theorem dL_law_1186 : decode cL_law 1186 = .ok (.iload 4, 2) := by decide +kernel
theorem dL_law_1188 : decode cL_law 1188 = .ok (.iconst 3, 1) := by decide +kernel
theorem dL_law_1189 : decode cL_law 1189 = .ok (.iadd, 1) := by decide +kernel
theorem dL_law_1190 : decode cL_law 1190 = .ok (.iaload, 1) := by decide +kernel
theorem dL_law_1191 : decode cL_law 1191 = .ok (.aload_n 3, 1) := by decide +kernel
theorem dL_law_1192 : decode cL_law 1192 = .ok (.invokestatic 154, 3) := by decide +kernel
theorem dL_law_1195 : decode cL_law 1195 = .ok (.istore 5, 2) := by decide +kernel
theorem dL_law_1197 : decode cL_law 1197 = .ok (.aload_n 2, 1) := by decide +kernel
theorem dL_law_1198 : decode cL_law 1198 = .ok (.aload_n 0, 1) := by decide +kernel
theorem dL_law_1199 : decode cL_law 1199 = .ok (.iload 4, 2) := by decide +kernel
theorem dL_law_1201 : decode cL_law 1201 = .ok (.iconst 1, 1) := by decide +kernel
theorem dL_law_1202 : decode cL_law 1202 = .ok (.iadd, 1) := by decide +kernel
theorem dL_law_1203 : decode cL_law 1203 = .ok (.iaload, 1) := by decide +kernel
theorem dL_law_1204 : decode cL_law 1204 = .ok (.aload_n 0, 1) := by decide +kernel
theorem dL_law_1205 : decode cL_law 1205 = .ok (.iload 4, 2) := by decide +kernel
theorem dL_law_1207 : decode cL_law 1207 = .ok (.iconst 2, 1) := by decide +kernel
theorem dL_law_1208 : decode cL_law 1208 = .ok (.iadd, 1) := by decide +kernel
theorem dL_law_1209 : decode cL_law 1209 = .ok (.iaload, 1) := by decide +kernel
theorem dL_law_1210 : decode cL_law 1210 = .ok (.aload_n 0, 1) := by decide +kernel
theorem dL_law_1211 : decode cL_law 1211 = .ok (.iload 4, 2) := by decide +kernel
theorem dL_law_1213 : decode cL_law 1213 = .ok (.iconst 3, 1) := by decide +kernel
theorem dL_law_1214 : decode cL_law 1214 = .ok (.iadd, 1) := by decide +kernel
theorem dL_law_1215 : decode cL_law 1215 = .ok (.iaload, 1) := by decide +kernel
theorem dL_law_1216 : decode cL_law 1216 = .ok (.invokevirtual 156, 3) := by decide +kernel
theorem dL_law_1219 : decode cL_law 1219 = .ok (.istore 6, 2) := by decide +kernel
theorem dL_law_1221 : decode cL_law 1221 = .ok (.aload_n 2, 1) := by decide +kernel
theorem dL_law_1222 : decode cL_law 1222 = .ok (.invokevirtual 79, 3) := by decide +kernel
theorem dL_law_1225 : decode cL_law 1225 = .ok (.iload 5, 2) := by decide +kernel
theorem dL_law_1227 : decode cL_law 1227 = .ok (.if_icmp .eq 5, 3) := by decide +kernel
theorem dL_law_1230 : decode cL_law 1230 = .ok (.iconst 0, 1) := by decide +kernel
theorem dL_law_1231 : decode cL_law 1231 = .ok (.ireturn, 1) := by decide +kernel
theorem dL_law_1232 : decode cL_law 1232 = .ok (.iload 5, 2) := by decide +kernel
theorem dL_law_1234 : decode cL_law 1234 = .ok (.ifCond .ne 22, 3) := by decide +kernel
theorem dL_law_1237 : decode cL_law 1237 = .ok (.aload_n 3, 1) := by decide +kernel
theorem dL_law_1238 : decode cL_law 1238 = .ok (.iconst 0, 1) := by decide +kernel
theorem dL_law_1239 : decode cL_law 1239 = .ok (.laload, 1) := by decide +kernel
theorem dL_law_1240 : decode cL_law 1240 = .ok (.iload 6, 2) := by decide +kernel
theorem dL_law_1242 : decode cL_law 1242 = .ok (.ifCond .eq 7, 3) := by decide +kernel
theorem dL_law_1245 : decode cL_law 1245 = .ok (.lconst 1, 1) := by decide +kernel
theorem dL_law_1246 : decode cL_law 1246 = .ok (.goto 4, 3) := by decide +kernel
theorem dL_law_1249 : decode cL_law 1249 = .ok (.lconst 0, 1) := by decide +kernel
theorem dL_law_1250 : decode cL_law 1250 = .ok (.lcmp, 1) := by decide +kernel
theorem dL_law_1251 : decode cL_law 1251 = .ok (.ifCond .eq 5, 3) := by decide +kernel
theorem dL_law_1254 : decode cL_law 1254 = .ok (.iconst 0, 1) := by decide +kernel
theorem dL_law_1255 : decode cL_law 1255 = .ok (.ireturn, 1) := by decide +kernel
theorem dL_law_1256 : decode cL_law 1256 = .ok (.goto 29, 3) := by decide +kernel
theorem dL_law_1259 : decode cL_law 1259 = .ok (.aload_n 1, 1) := by decide +kernel
theorem dL_law_1260 : decode cL_law 1260 = .ok (.invokevirtual 157, 3) := by decide +kernel
theorem dL_law_1263 : decode cL_law 1263 = .ok (.aload_n 2, 1) := by decide +kernel
theorem dL_law_1264 : decode cL_law 1264 = .ok (.invokevirtual 160, 3) := by decide +kernel
theorem dL_law_1267 : decode cL_law 1267 = .ok (.if_icmp .eq 18, 3) := by decide +kernel
theorem dL_law_1270 : decode cL_law 1270 = .ok (.iconst 0, 1) := by decide +kernel
theorem dL_law_1271 : decode cL_law 1271 = .ok (.ireturn, 1) := by decide +kernel
theorem dL_law_1272 : decode cL_law 1272 = .ok (.aload_n 1, 1) := by decide +kernel
theorem dL_law_1273 : decode cL_law 1273 = .ok (.invokevirtual 161, 3) := by decide +kernel
theorem dL_law_1276 : decode cL_law 1276 = .ok (.aload_n 2, 1) := by decide +kernel
theorem dL_law_1277 : decode cL_law 1277 = .ok (.invokevirtual 164, 3) := by decide +kernel
theorem dL_law_1280 : decode cL_law 1280 = .ok (.if_icmp .eq 5, 3) := by decide +kernel
theorem dL_law_1283 : decode cL_law 1283 = .ok (.iconst 0, 1) := by decide +kernel
theorem dL_law_1284 : decode cL_law 1284 = .ok (.ireturn, 1) := by decide +kernel
theorem dL_law_1285 : decode cL_law 1285 = .ok (.iinc 4 4, 3) := by decide +kernel
theorem dL_law_1288 : decode cL_law 1288 = .ok (.goto (-1265), 3) := by decide +kernel
theorem dL_law_1291 : decode cL_law 1291 = .ok (.iconst 1, 1) := by decide +kernel
theorem dL_law_1292 : decode cL_law 1292 = .ok (.ireturn, 1) := by decide +kernel
end
section
/-! my own layer: what a method is given (the machine's tables, the cells that it needs), what it owes, and a call's row -/
abbrev GT : Type := va_G × ClassId × ClassId × ClassId
abbrev tysG (G : GT) : List (ClassId × FieldType) := [(G.2.1, .int), (G.2.2.1, .boolean), (G.2.2.2, .long)]
def nestW : List (String × Nat × MethodName) := [(RX3, 11, yX2_init), (RX3, 18, yX1_init), (RX3, 25, yX0_init), (RX2, 31, yX3_isBelow), (RX2, 50, yX3_shelfAt), (RX2, 47, yX3_aisleAt), (RX0, 33, yX3_isBelow), (RX2, 62, yX3_spotAt), (RX1, 63, yX3_isBelow)]
def strW : List (Nat × String) := [(110, "no aisle may be opened now"), (131, "the person is inside"), (136, "nobody may go in now"), (154, "no aisle is open"), (167, "minutes out of range"), (169, "the clock would pass its end"), (174, "deadline out of range"), (179, "the box has an open order"), (182, "no more orders"), (197, "no order for this aisle"), (205, "the spot is not reached"), (207, "a box lies there"), (220, "no such shelf"), (223, "no such aisle"), (228, "no such spot"), (230, "no such person"), (235, "no such box"), (237, "the box is not out"), (239, "the person is not inside"), (44, "climate out of range"), (57, "weight out of range"), (59, "kin out of range"), (67, "no more boxes"), (83, "no spot for the box")]
/-- the exceptions by their numbers: 1, 2, and 3 (all else) -/
def exn : Nat → String
  | 1 => "java/lang/IndexOutOfBoundsException"
  | 2 => "java/lang/IllegalArgumentException"
  | _ => "java/lang/IllegalStateException"
def excW : List Nat := [1, 2, 3]
def ncW : List (Nat × Nat) := [(1, 2), (1, 3), (2, 1), (2, 3), (3, 1), (3, 2)]
/-- what the tables say of the machine, beside the methods' own words -/
def Ev (G : GT) (U : State) : Prop :=
  va_K G.1 vwCl (tysG G) U ∧ (∀ q ∈ nestW, va_Nw (.methodLinkNest q.1 q.2.1 q.2.2 "Rackrail") U) ∧ (∀ q ∈ strW, ∃ sa, vk_R RX3 q.1 q.2 sa U) ∧ (∀ q ∈ excW, va_Nw (.castable (exn q) (exn q)) U) ∧ (∀ q ∈ ncW, va_Nc (exn q.1) (exn q.2) U)
theorem Ev.warm {G : GT} {s U : State} (hW : s.WarmedH U.vm) (h : Ev G s) : Ev G U :=
  ⟨va_K.moved hW.alike h.1, fun q hq => va_Nw.warmM hW (h.2.1 q hq), fun q hq => (h.2.2.1 q hq).imp fun _ z => vk_R.warm hW z, fun q hq => va_Nw.warmC hW (h.2.2.2.1 q hq), fun q hq => va_Nc.moved hW.alike (h.2.2.2.2 q hq)⟩
theorem Ev.same {G : GT} {s U : State} (hv : U.vm = s.vm) (h : Ev G s) : Ev G U := Ev.warm (by rw [hv]; exact State.WarmedH.refl s) h
/-- the two statics that a throw reads -/
def Ez (A : Nat → Prop) (U : State) (H : Heap) : Prop := vx_Zq Bundle.tN "UNASSIGNED_STACK" Bundle.steD A U H ∧ vx_Zq Bundle.tN "SUPPRESSED_SENTINEL" Bundle.listD A U H
/-- a method's start: its arguments, its cells, and no more -/
def GP (G : GT) (av : List Value) (ws : va_W) (sz : Nat) : Array Value → State → Prop :=
  va_Pc av (fun U => U.heap.size = sz ∧ va_P G.1 vwCl ws U.heap ∧ Ev G U ∧ va_D (fun _ => True) ws ∧ Ez (va_A ws sz) U U.heap)
theorem GP.blind {G : GT} {av : List Value} {ws : va_W} {sz : Nat} : FrameBlind (GP G av ws sz) := fun _ U _ _ h =>
  ⟨h.1, h.2.1, h.2.2.1, Ev.same (s := U) rfl h.2.2.2.1, h.2.2.2.2.1, vx_Zq.moved (Vm.Alike.refl U.vm) h.2.2.2.2.2.1, vx_Zq.moved (Vm.Alike.refl U.vm) h.2.2.2.2.2.2⟩
theorem fm_some {ws wc : va_W} {isC : List Nat} (hC : isC.map (fun i => ws[i]?) = wc.map some) : isC.filterMap (fun i => ws[i]?) = wc := by
  have h1 : isC.filterMap (fun i => ws[i]?) = (isC.map (fun i => ws[i]?)).filterMap id := by rw [List.filterMap_map]; rfl
  rw [h1, hC, List.filterMap_map]
  simp
theorem GP.go {G : GT} {A : Nat → Prop} {s : State} {H : Heap} {locs : List Loc} {ws wc : va_W} (hE : Ev G s) (hZ : Ez A s s.heap) (hP : va_P G.1 vwCl ws H) (hD : va_D A ws) (hS : va_S A s.heap H locs) (hA : ∀ q, s.heap.size ≤ q → A q)
    (isC : List Nat) (hC : isC.map (fun i => ws[i]?) = wc.map some) (hn : va_nd isC = true) (av : List Value) : ∀ U : State, U.heap = H → s.WarmedH U.vm → GP G av wc H.size av.toArray U := by
  intro U hU hW
  have hF := va_free hD hS hA isC hC
  refine ⟨rfl, by rw [hU], by rw [hU]; exact hP.sub isC (fm_some hC), Ev.warm hW hE, (hD.sub isC hn hC).weaken (fun _ _ _ _ => trivial), ?_, ?_⟩
  · rw [hU]; exact (vx_Zq.moved hW.alike (hZ.1.kept hS.2.1)).narrow hF
  · rw [hU]; exact (vx_Zq.moved hW.alike (hZ.2.kept hS.2.1)).narrow hF
/-- a read: the outcome, the heap as it was -/
def PQo (o0 : Outcome) : Array Value → State → Outcome → State → Prop := fun _ st o t => o = o0 ∧ t.heap = st.heap
/-- a write: the outcome, the cells behind it, no other old cell changed -/
def MQo (G : GT) (o0 : Outcome) (w1 : va_W) (A : Nat → Prop) : Array Value → State → Outcome → State → Prop := fun _ st o t => o = o0 ∧ va_P G.1 vwCl w1 t.heap ∧ va_F A st t
/-- a throw of the exception k: every old cell as it was -/
def XQ (k : Nat) : String → State → State → Prop := fun E st t => E = exn k ∧ st.heap.size ≤ t.heap.size ∧ ∀ q : Nat, q < st.heap.size → t.heap[q]? = st.heap[q]?
def NQ : Array Value → State → Outcome → State → Prop := fun _ _ _ _ => False
/-- what holds at a body's first instruction -/
def Bx (G : GT) (p : Program) (s : State) (m : MethodId) (av : List Value) (meth : Method) (c : Code) (cc : ByteArray) (maxL : Nat) (ret : Option FieldType) (cls : String) (ws : List Cond) (w0 : va_W) (sz : Nat) (ls : Array Slot) : Prop :=
  p.tables.exec = Jvm.exec ∧ c.code = cc ∧ meth.sig.returnType = ret ∧ (∀ w ∈ ws, w.before av.toArray s = true) ∧ s.vm.findClass cls = some m.cls ∧ meth.locks = false ∧ c.maxLocals = maxL ∧ sz = s.heap.size ∧ va_P G.1 vwCl w0 s.heap ∧ Ev G s ∧ va_D (va_A w0 s.heap.size) w0 ∧ Ez (va_A w0 s.heap.size) s s.heap ∧ lv_has ls maxL (lv_args 0 av)
section BODY
variable {l : Launch} {y : MethodName} {ws ws' : List Cond} {rm : Room} {mc ms sz : Nat} {free : Addr → Prop} {cc : ByteArray} {maxL : Nat} {ret : Option FieldType} {G : GT} {av : List Value} {w0 : va_W}
theorem bodyM {Qc : Array Value → State → Outcome → State → Prop} (hy : plainName y.cls = true) (hw : ws = Cond.code y cc maxL ret :: ws') (hn : (lg_sl av).length ≤ maxL)
    (body : ∀ p e s m below meth c ls, Bx G p s m av meth c cc maxL ret y.cls ws w0 sz ls → W p l e rm s m av.toArray below meth c s.heap [] 0 0 (MQ below Qc av.toArray s mc ms free) (F0 m 0 ls [])) : Met l y ws rm (GP G av w0 sz) Qc mc ms free := by
  refine Met.ofW (cc := cc) (maxL := maxL) (ret := ret) hy hw ?_
  intro p e s m args below meth c s₁ B hml hv
  obtain ⟨rfl, hsz, hP, hE, hD0, hZ⟩ := hv
  have hl := lv_entry av (n := maxL) hn
  rw [lg_entry_eq]
  exact body p e s m below meth c _ ⟨B.exec, B.bytes, B.returns, atoms_spec (ws := ws) B.pre, findClass_of_methodNamed B.named, B.notSynchronized, hml, hsz.symm, hP, hE, hD0.self, by rw [hsz]; exact hZ, hl⟩
theorem bodyX {Qc : Array Value → State → Outcome → State → Prop} {XC : String → State → State → Prop} (hy : plainName y.cls = true) (hw : ws = Cond.code y cc maxL ret :: ws') (hn : (lg_sl av).length ≤ maxL)
    (body : ∀ p e s m below meth c ls, Bx G p s m av meth c cc maxL ret y.cls ws w0 sz ls → (∀ x ∈ c.exceptionTable.toList, False) → W p l e rm s m av.toArray below meth c s.heap [] 0 0 (vx_MQ below Qc XC av.toArray s mc ms free) (F0 m 0 ls [])) : vx_Met l y ws rm (GP G av w0 sz) Qc XC mc ms free := by
  refine vx_ofW (cc := cc) (maxL := maxL) (ret := ret) hy hw ?_
  intro p e s m args below meth c s₁ B hml ht hv
  obtain ⟨rfl, hsz, hP, hE, hD0, hZ⟩ := hv
  have hl := lv_entry av (n := maxL) hn
  rw [lg_entry_eq]
  exact body p e s m below meth c _ ⟨B.exec, B.bytes, B.returns, atoms_spec (ws := ws) B.pre, findClass_of_methodNamed B.named, B.notSynchronized, hml, hsz.symm, hP, hE, hD0.self, by rw [hsz]; exact hZ, hl⟩ ht
theorem bodyH {Qc : Array Value → State → Outcome → State → Prop} {hh : List (Nat × Nat × Nat × Nat)} (hy : plainName y.cls = true) (hw : ws = Cond.codeWith y cc maxL ret hh :: ws') (hn : (lg_sl av).length ≤ maxL)
    (body : ∀ p e s m below meth c ls, Bx G p s m av meth c cc maxL ret y.cls ws w0 sz ls → c.exceptionTable.toList = tableOf hh → W p l e rm s m av.toArray below meth c s.heap [] 0 0 (MQ below Qc av.toArray s mc ms free) (F0 m 0 ls [])) : Met l y ws rm (GP G av w0 sz) Qc mc ms free := by
  refine va_MetW (cc := cc) (maxL := maxL) (ret := ret) (hh := hh) hy hw ?_
  intro p e s m args below meth c s₁ B hml hv
  obtain ⟨rfl, hsz, hP, hE, hD0, hZ⟩ := hv
  have hl := lv_entry av (n := maxL) hn
  have hts := atoms_spec (ws := ws) B.pre
  have ht := vx_table B (hts (Cond.codeWith y cc maxL ret hh) (by rw [hw]; exact List.mem_cons_self))
  rw [lg_entry_eq]
  exact body p e s m below meth c _ ⟨B.exec, B.bytes, B.returns, hts, findClass_of_methodNamed B.named, B.notSynchronized, hml, hsz.symm, hP, hE, hD0.self, by rw [hsz]; exact hZ, hl⟩ ht
end BODY
/-- the cells of a callee, put back into the caller's list -/
def sp_put (ws : va_W) : List Nat → va_W → va_W
  | [], _ => ws
  | _ :: _, [] => ws
  | i :: is, w :: wc => (sp_put ws is wc).set i w
theorem sp_put_len (ws : va_W) : ∀ (is : List Nat) (wc : va_W), (sp_put ws is wc).length = ws.length
  | [], _ => rfl
  | _ :: _, [] => rfl
  | i :: is, w :: wc => by simp [sp_put, sp_put_len ws is wc]
theorem sp_put_at (ws : va_W) : ∀ (is : List Nat) (wc : va_W), is.length = wc.length → ∀ (k : Nat) (q : Nat × va_E), (sp_put ws is wc)[k]? = some q → (∃ j : Nat, is[j]? = some k ∧ wc[j]? = some q) ∨ (ws[k]? = some q ∧ k ∉ is)
  | [], _, _, k, q, h => Or.inr ⟨h, fun z => nomatch z⟩
  | _ :: _, [], hl, _, _, _ => by simp at hl
  | i :: is, w :: wc, hl, k, q, h => by
    by_cases hk : i = k
    · subst hk
      by_cases hi : i < (sp_put ws is wc).length
      · have h2 : ((sp_put ws is wc).set i w)[i]? = some w := by rw [List.getElem?_set]; simp [hi]
        have h3 : some w = some q := h2.symm.trans h
        exact Or.inl ⟨0, rfl, h3⟩
      · have h2 : ((sp_put ws is wc).set i w)[i]? = none := by rw [List.getElem?_eq_none]; simp; omega
        have h3 : (none : Option (Nat × va_E)) = some q := h2.symm.trans h
        exact absurd h3 (by simp)
    · have h2 : ((sp_put ws is wc).set i w)[k]? = (sp_put ws is wc)[k]? := List.getElem?_set_ne hk
      rcases sp_put_at ws is wc (by simpa using hl) k q (h2.symm.trans h) with ⟨j, a, b⟩ | ⟨a, b⟩
      · exact Or.inl ⟨j + 1, a, b⟩
      · exact Or.inr ⟨a, fun z => (List.mem_cons.mp z).elim (fun e => hk e.symm) b⟩
theorem va_D_addr {A : Nat → Prop} {ws wn : va_W} (h : va_D A ws) (e : wn.map (·.1) = ws.map (·.1)) : va_D A wn := by
  have key : ∀ (k : Nat) (q : Nat × va_E), wn[k]? = some q → ∃ q0, ws[k]? = some q0 ∧ q0.1 = q.1 := by
    intro k q hk
    have h1 : (wn.map (·.1))[k]? = some q.1 := by rw [List.getElem?_map, hk]; rfl
    rw [e, List.getElem?_map] at h1
    cases hw : ws[k]? with
    | none => rw [hw] at h1; cases h1
    | some q0 => rw [hw] at h1; exact ⟨q0, rfl, Option.some.inj h1⟩
  refine ⟨fun i j p q hi hj hpq => ?_, fun k q hk => ?_⟩
  · obtain ⟨p0, a1, a2⟩ := key i p hi
    obtain ⟨q0, b1, b2⟩ := key j q hj
    exact h.1 i j p0 q0 a1 b1 (by rw [a2, b2, hpq])
  · obtain ⟨q0, a1, a2⟩ := key k q hk
    rw [← a2]; exact h.2 k q0 a1
theorem sp_P {A0 : Nat → Prop} {D : va_G} {cl : List vw_C} {ws wc w1 wn : va_W} {H H1 : Heap} (hP : va_P D cl ws H) (hD : va_D A0 ws) (isC : List Nat) (hC : isC.map (fun i => ws[i]?) = wc.map some) (hl : isC.length = w1.length)
    (hk : ∀ q : Nat, q < H.size → ¬ va_A wc H.size q → H1[q]? = H[q]?) (hP1 : va_P D cl w1 H1) (hnew : sp_put ws isC w1 = wn) : va_P D cl wn H1 := by
  subst hnew
  intro k q hq
  rcases sp_put_at ws isC w1 hl k q hq with ⟨j, -, b⟩ | ⟨a, b⟩
  · exact hP1 j q b
  · have hlt := (hP k q a).lt
    refine (hP k q a).kept (hk q.1 hlt fun z => ?_)
    rcases z with ⟨k2, e, h⟩ | h
    · have h1 : (isC.map (fun i => ws[i]?))[k2]? = some (some (q.1, e)) := by rw [hC, List.getElem?_map, h]; rfl
      rw [List.getElem?_map] at h1
      cases hi : isC[k2]? with
      | none => rw [hi] at h1; cases h1
      | some i =>
        rw [hi] at h1
        have h4 : ws[i]? = some (q.1, e) := Option.some.inj h1
        have hij := hD.1 k i q (q.1, e) a h4 rfl
        subst hij
        exact b (List.mem_of_getElem? hi)
    · omega
section CALLS
variable {p : Program} {l : Launch} {e : Env} {R : Room} {s : State} {m : MethodId} {args : Array Value} {below : List Frame} {meth : Method} {c : Code} {H H0 : Heap} {locs : List Loc} {cells slots mc ms : Nat} {Q : State → Prop} {pc : Nat} {ls : Array Slot} {rest st0 : List Value} {a : Array Value}
/-- a call of a read -/
theorem k_p {rv : Option Value} (hr : va_Run p l e R s m args below meth c H locs cells slots 0 0 (F0 m pc ls st0) rest (PQo (.returned rv) a) (fun _ => False))
    (kk : W p l e R s m args below meth c H locs cells slots Q (F0 m (pc + 3) ls (rv.toList ++ rest))) : W p l e R s m args below meth c H locs cells slots Q (F0 m pc ls st0) := by
  intro T hT X
  obtain ⟨v, st₀, t, T', L, h0, X', hL, e1, -, ⟨hv, hh⟩, st⟩ := hr T hT X
  cases hv
  obtain ⟨t2, a1, b1⟩ := kk T' (by rw [e1, hh, h0]) (Stand.forget X' (fun q h => (hL q h).elim))
  exact ⟨t2, st t2 a1, b1⟩
/-- a call of a write -/
theorem k_m {rv : Option Value} {G : GT} {A0 : Nat → Prop} {ws wc w1 wn : va_W} (hr : va_Run p l e R s m args below meth c H locs cells slots mc ms (F0 m pc ls st0) rest (MQo G (.returned rv) w1 (va_A wc H.size) a) (va_A wc H.size))
    (hP : va_P G.1 vwCl ws H) (hD : va_D A0 ws) (hS : va_S A0 H0 H locs) (hA : ∀ q, H0.size ≤ q → A0 q) (isC : List Nat) (hC : isC.map (fun i => ws[i]?) = wc.map some) (hl : isC.length = w1.length) (hnew : sp_put ws isC w1 = wn) (hadr : wn.map (·.1) = ws.map (·.1))
    (kk : ∀ (H1 : Heap) (locs1 : List Loc), va_P G.1 vwCl wn H1 → va_D A0 wn → va_S A0 H0 H1 locs1 → W p l e R s m args below meth c H1 locs1 (cells + mc) (slots + ms) Q (F0 m (pc + 3) ls (rv.toList ++ rest))) : W p l e R s m args below meth c H locs cells slots Q (F0 m pc ls st0) := by
  intro T hT X
  have hF := va_free hD hS hA isC hC
  obtain ⟨v, st₀, t, T', L, h0, X', hL, e1, -, ⟨hv, hP1, hz, hk⟩, st⟩ := hr T hT X
  cases hv
  rw [h0] at hz hk
  rw [← e1] at hP1 hz hk
  obtain ⟨t2, a1, b1⟩ := kk T'.heap (locs ++ L) (sp_P hP hD isC hC hl hk hP1 hnew) (va_D_addr hD hadr)
    ⟨Nat.le_trans hS.1 hz, fun q h1 h2 => by rw [hk q (Nat.lt_of_lt_of_le h1 hS.1) (fun z => h2 (hF q z))]; exact hS.2.1 q h1 h2, fun q hq => by
      rcases List.mem_append.mp hq with h | h
      · exact hS.2.2 q h
      · exact hF _ (hL q h)⟩ T' rfl X'
  exact ⟨t2, st t2 a1, b1⟩
/-- a call that throws -/
theorem k_x {k : Nat} (hr : vx_Run p l e R s m args below meth c H locs cells slots mc ms (F0 m pc ls st0) rest (NQ a) (XQ k) (fun _ => False))
    (kx : ∀ (H1 : Heap) (ce : Cell) (q9 : Addr), H.size ≤ H1.size → (∀ q : Nat, q < H.size → H1[q]? = H[q]?) → H1[q9]? = some ce → ce.vm = .none → s.vm.findClass (exn k) = some ce.cls → vx_W p l e R s m args below meth c H1 locs (cells + mc) (slots + ms) Q (F0 m pc ls rest) q9) : W p l e R s m args below meth c H locs cells slots Q (F0 m pc ls st0) := by
  intro T hT X
  rcases hr T hT X with ⟨v, st₀, t, T', L, h0, X', hL, e1, e2, hF, st⟩ | ⟨q, st₀, t, T', L, E, ce, h0, X', hL, e1, e2, ⟨hE, hz, hk⟩, hce, hcv, hcl, st⟩
  · exact hF.elim
  · subst hE
    rw [h0] at hz hk
    rw [← e1] at hz hk hce
    obtain ⟨t2, a1, b1⟩ := kx T'.heap ce q hz hk hce hcv hcl T' rfl (Stand.forget X' (fun q h => (hL q h).elim))
    exact ⟨t2, st.trans a1, b1⟩
/-- .. and is not caught here -/
theorem k_xo {k : Nat} {free : Addr → Prop} (ht : ∀ x ∈ c.exceptionTable.toList, False) (hlocks : meth.locks = false) (hc : cells + mc ≤ 1) (hs : slots + ms ≤ 6) (hH : s.heap = H) (hlo : locs = [])
    (hr : vx_Run p l e R s m args below meth c H locs cells slots mc ms (F0 m pc ls st0) rest (NQ a) (XQ k) (fun _ => False)) {k1 : Nat} (hk1 : k1 = k) : W p l e R s m args below meth c H locs cells slots (vx_MQ below NQ (XQ k1) args s 1 6 free) (F0 m pc ls st0) := by
  subst hk1
  refine k_x hr (fun H1 ce q9 hz hk hce hcv hcl => ?_)
  refine vx_out (E := exn k1) (fun x hx => (ht x hx).elim) hlocks hce hcv hcl (fun t h9 _ => ⟨rfl, ?_, ?_⟩) (fun z hz => by rw [hlo] at hz; exact nomatch hz) hc hs
  · rw [h9, hH]; exact hz
  · rw [h9, hH]; exact hk
end CALLS
/-- numbers up to N -/
def okN (N : Nat) (x : Int32) : Prop := ∃ n : Nat, n ≤ N ∧ x = nI n
theorem inc1 (j : Nat) : nI j + Int32.ofInt 1 = nI (j + 1) := nI_1 j
theorem lp_a {y : Int32} {j n : Nat} (hy : y = nI n) (hn : n < 2 ^ 31) (h : j = n) : y ≤ nI j := by rw [hy, h]; exact nI_le (Nat.le_refl n) hn
theorem lp_b {y : Int32} {j n r : Nat} (hy : y = nI n) (hn : n < 2 ^ 31) (h : j + (r + 1) = n) : ¬ y ≤ nI j := by rw [hy]; exact nI_ge (by omega) hn
theorem bool_nar {x : Int32} (h : x = 0 ∨ x = 1) : narrow .boolean (.int x) = .int x := by rcases h with rfl | rfl <;> rfl
theorem bool_vnar {x : Int32} (h : x = 0 ∨ x = 1) : vp_nar .boolean x = x := by rcases h with rfl | rfl <;> rfl
-- the cells
abbrev wcI (G : GT) (q len : Nat) (f : Nat → Int32) : Nat × va_E := (q, .inl (G.2.1, len, .inl f))
abbrev wcZ (G : GT) (q len : Nat) (f : Nat → Int32) : Nat × va_E := (q, .inl (G.2.2.1, len, .inl f))
abbrev wcJ (G : GT) (q len : Nat) (f : Nat → Int64) : Nat × va_E := (q, .inl (G.2.2.2, len, .inr (.inl f)))
abbrev wcA (a : Nat → Nat) (ck : Int32) : Nat × va_E := (a 0, .inr (3, [.ref (a 1), .ref (a 7), .ref (a 11), .int ck]))
abbrev wcS (a : Nat → Nat) (cn : Int32) : Nat × va_E := (a 1, .inr (2, [.ref (a 2), .ref (a 3), .ref (a 4), .ref (a 5), .ref (a 6), .int cn]))
abbrev wcR (a : Nat → Nat) (gp tg st sm : Int32) : Nat × va_E := (a 7, .inr (1, [.ref (a 8), .ref (a 9), .ref (a 10), .int gp, .int tg, .int st, .int sm]))
abbrev wcO (a : Nat → Nat) (oc lt : Int32) : Nat × va_E := (a 11, .inr (0, [.ref (a 12), .ref (a 13), .ref (a 14), .int oc, .int lt]))
abbrev wcM (b : Nat → Nat) (th mk mn ai tm ms mf mo ml : Int32) : Nat × va_E := (b 0, .inr (4, [.int th, .int mk, .ref (b 1), .int mn, .ref (b 2), .ref (b 3), .ref (b 4), .ref (b 5), .int ai, .int tm, .int ms, .int mf, .ref (b 6), .ref (b 7), .int mo, .ref (b 8), .ref (b 9), .ref (b 10), .int ml]))
end
section
theorem zz_end : True := trivial
end
