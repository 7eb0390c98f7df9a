/-! my own layer: what a method is given (the machine's tables, the cells that it needs), what it owes, and a call's row -/
abbrev GT : Type := va_G × ClassId × ClassId
abbrev tysG (G : GT) : List (ClassId × FieldType) := [(G.2.1, .int), (G.2.2, .boolean)]
def nestW : List (String × Nat × MethodName) := [(RX3, 11, yX2_init), (RX3, 18, yX1_init), (RX3, 25, yX0_init), (RX2, 31, yX3_isBelow), (RX2, 50, yX3_shelfAt), (RX2, 47, yX3_aisleAt), (RX0, 33, yX3_isBelow), (RX2, 62, yX3_spotAt), (RX1, 63, yX3_isBelow)]
/-- what the tables say of the machine, beside the methods' own words -/
def Ev (G : GT) (U : State) : Prop :=
  va_K G.1 vwCl (tysG G) U ∧ (∀ q ∈ nestW, va_Nw (.methodLinkNest q.1 q.2.1 q.2.2 "Rackrail") U) ∧ True
theorem Ev.warm {G : GT} {s U : State} (hW : s.WarmedH U.vm) (h : Ev G s) : Ev G U :=
  ⟨va_K.moved hW.alike h.1, fun q hq => va_Nw.warmM hW (h.2.1 q hq), trivial⟩
theorem Ev.same {G : GT} {s U : State} (hv : U.vm = s.vm) (h : Ev G s) : Ev G U := Ev.warm (by rw [hv]; exact State.WarmedH.refl s) h
/-- a method's start: its arguments, its cells, and no more -/
def GP (G : GT) (av : List Value) (ws : va_W) (sz : Nat) : Array Value → State → Prop :=
  va_Pc av (fun U => U.heap.size = sz ∧ va_P G.1 vwCl ws U.heap ∧ Ev G U ∧ va_D (fun _ => True) ws)
theorem GP.blind {G : GT} {av : List Value} {ws : va_W} {sz : Nat} : FrameBlind (GP G av ws sz) := fun _ U _ _ h =>
  ⟨h.1, h.2.1, h.2.2.1, Ev.same (s := U) rfl h.2.2.2.1, h.2.2.2.2⟩
theorem fm_some {ws wc : va_W} {isC : List Nat} (hC : isC.map (fun i => ws[i]?) = wc.map some) : isC.filterMap (fun i => ws[i]?) = wc := by
  have h1 : isC.filterMap (fun i => ws[i]?) = (isC.map (fun i => ws[i]?)).filterMap id := by rw [List.filterMap_map]; rfl
  rw [h1, hC, List.filterMap_map]
  simp
theorem GP.go {G : GT} {A : Nat → Prop} {s : State} {H : Heap} {locs : List Loc} {ws wc : va_W} (hE : Ev G s) (hP : va_P G.1 vwCl ws H) (hD : va_D A ws) (hS : va_S A s.heap H locs) (hA : ∀ q, s.heap.size ≤ q → A q)
    (isC : List Nat) (hC : isC.map (fun i => ws[i]?) = wc.map some) (hn : va_nd isC = true) (av : List Value) : ∀ U : State, U.heap = H → s.WarmedH U.vm → GP G av wc H.size av.toArray U := by
  intro U hU hW
  exact ⟨rfl, by rw [hU], by rw [hU]; exact hP.sub isC (fm_some hC), Ev.warm hW hE, (hD.sub isC hn hC).weaken (fun _ _ _ _ => trivial)⟩
/-- a read: the outcome, the heap as it was -/
def PQo (o0 : Outcome) : Array Value → State → Outcome → State → Prop := fun _ st o t => o = o0 ∧ t.heap = st.heap
/-- a write: the outcome, the cells behind it, no other old cell changed -/
def MQo (G : GT) (o0 : Outcome) (w1 : va_W) (A : Nat → Prop) : Array Value → State → Outcome → State → Prop := fun _ st o t => o = o0 ∧ va_P G.1 vwCl w1 t.heap ∧ va_F A st t
/-- what holds at a body's first instruction -/
def Bx (G : GT) (p : Program) (s : State) (m : MethodId) (av : List Value) (meth : Method) (c : Code) (cc : ByteArray) (maxL : Nat) (ret : Option FieldType) (cls : String) (ws : List Cond) (w0 : va_W) (sz : Nat) (ls : Array Slot) : Prop :=
  p.tables.exec = Jvm.exec ∧ c.code = cc ∧ meth.sig.returnType = ret ∧ (∀ w ∈ ws, w.before av.toArray s = true) ∧ s.vm.findClass cls = some m.cls ∧ meth.locks = false ∧ c.maxLocals = maxL ∧ sz = s.heap.size ∧ va_P G.1 vwCl w0 s.heap ∧ Ev G s ∧ va_D (va_A w0 s.heap.size) w0 ∧ (∀ q : Nat, s.heap.size ≤ q → va_A w0 s.heap.size q) ∧ va_S (va_A w0 s.heap.size) s.heap s.heap [] ∧ lv_has ls maxL (lv_args 0 av)
section BODY
variable {l : Launch} {y : MethodName} {ws ws' : List Cond} {rm : Room} {mc ms sz : Nat} {free : Addr → Prop} {cc : ByteArray} {maxL : Nat} {ret : Option FieldType} {G : GT} {av : List Value} {w0 : va_W}
theorem bodyM {Qc : Array Value → State → Outcome → State → Prop} (hy : plainName y.cls = true) (hw : ws = Cond.code y cc maxL ret :: ws') (hn : (lg_sl av).length ≤ maxL)
    (body : ∀ p e s m below meth c ls, Bx G p s m av meth c cc maxL ret y.cls ws w0 sz ls → W p l e rm s m av.toArray below meth c s.heap [] 0 0 (MQ below Qc av.toArray s mc ms free) (F0 m 0 ls [])) : Met l y ws rm (GP G av w0 sz) Qc mc ms free := by
  refine Met.ofW (cc := cc) (maxL := maxL) (ret := ret) hy hw ?_
  intro p e s m args below meth c s₁ B hml hv
  obtain ⟨rfl, hsz, hP, hE, hD0⟩ := hv
  have hl := lv_entry av (n := maxL) hn
  rw [lg_entry_eq]
  exact body p e s m below meth c _ ⟨B.exec, B.bytes, B.returns, atoms_spec (ws := ws) B.pre, findClass_of_methodNamed B.named, B.notSynchronized, hml, hsz.symm, hP, hE, hD0.self, fun _ h => Or.inr h, va_S.rf, hl⟩
end BODY
/-- the cells of a callee, put back into the caller's list -/
def sp_put (ws : va_W) : List Nat → va_W → va_W
  | [], _ => ws
  | _ :: _, [] => ws
  | i :: is, w :: wc => (sp_put ws is wc).set i w
theorem sp_put_len (ws : va_W) : ∀ (is : List Nat) (wc : va_W), (sp_put ws is wc).length = ws.length
  | [], _ => rfl
  | _ :: _, [] => rfl
  | i :: is, w :: wc => by simp [sp_put, sp_put_len ws is wc]
theorem sp_put_at (ws : va_W) : ∀ (is : List Nat) (wc : va_W), is.length = wc.length → ∀ (k : Nat) (q : Nat × va_E), (sp_put ws is wc)[k]? = some q → (∃ j : Nat, is[j]? = some k ∧ wc[j]? = some q) ∨ (ws[k]? = some q ∧ k ∉ is)
  | [], _, _, k, q, h => Or.inr ⟨h, fun z => nomatch z⟩
  | _ :: _, [], hl, _, _, _ => by simp at hl
  | i :: is, w :: wc, hl, k, q, h => by
    by_cases hk : i = k
    · subst hk
      by_cases hi : i < (sp_put ws is wc).length
      · have h2 : ((sp_put ws is wc).set i w)[i]? = some w := by rw [List.getElem?_set]; simp [hi]
        have h3 : some w = some q := h2.symm.trans h
        exact Or.inl ⟨0, rfl, h3⟩
      · have h2 : ((sp_put ws is wc).set i w)[i]? = none := by rw [List.getElem?_eq_none]; simp; omega
        have h3 : (none : Option (Nat × va_E)) = some q := h2.symm.trans h
        exact absurd h3 (by simp)
    · have h2 : ((sp_put ws is wc).set i w)[k]? = (sp_put ws is wc)[k]? := List.getElem?_set_ne hk
      rcases sp_put_at ws is wc (by simpa using hl) k q (h2.symm.trans h) with ⟨j, a, b⟩ | ⟨a, b⟩
      · exact Or.inl ⟨j + 1, a, b⟩
      · exact Or.inr ⟨a, fun z => (List.mem_cons.mp z).elim (fun e => hk e.symm) b⟩
theorem va_D_addr {A : Nat → Prop} {ws wn : va_W} (h : va_D A ws) (e : wn.map (·.1) = ws.map (·.1)) : va_D A wn := by
  have key : ∀ (k : Nat) (q : Nat × va_E), wn[k]? = some q → ∃ q0, ws[k]? = some q0 ∧ q0.1 = q.1 := by
    intro k q hk
    have h1 : (wn.map (·.1))[k]? = some q.1 := by rw [List.getElem?_map, hk]; rfl
    rw [e, List.getElem?_map] at h1
    cases hw : ws[k]? with
    | none => rw [hw] at h1; cases h1
    | some q0 => rw [hw] at h1; exact ⟨q0, rfl, Option.some.inj h1⟩
  refine ⟨fun i j p q hi hj hpq => ?_, fun k q hk => ?_⟩
  · obtain ⟨p0, a1, a2⟩ := key i p hi
    obtain ⟨q0, b1, b2⟩ := key j q hj
    exact h.1 i j p0 q0 a1 b1 (by rw [a2, b2, hpq])
  · obtain ⟨q0, a1, a2⟩ := key k q hk
    rw [← a2]; exact h.2 k q0 a1
theorem sp_P {A0 : Nat → Prop} {D : va_G} {cl : List vw_C} {ws wc w1 wn : va_W} {H H1 : Heap} (hP : va_P D cl ws H) (hD : va_D A0 ws) (isC : List Nat) (hC : isC.map (fun i => ws[i]?) = wc.map some) (hl : isC.length = w1.length)
    (hk : ∀ q : Nat, q < H.size → ¬ va_A wc H.size q → H1[q]? = H[q]?) (hP1 : va_P D cl w1 H1) (hnew : sp_put ws isC w1 = wn) : va_P D cl wn H1 := by
  subst hnew
  intro k q hq
  rcases sp_put_at ws isC w1 hl k q hq with ⟨j, -, b⟩ | ⟨a, b⟩
  · exact hP1 j q b
  · have hlt := (hP k q a).lt
    refine (hP k q a).kept (hk q.1 hlt fun z => ?_)
    rcases z with ⟨k2, e, h⟩ | h
    · have h1 : (isC.map (fun i => ws[i]?))[k2]? = some (some (q.1, e)) := by rw [hC, List.getElem?_map, h]; rfl
      rw [List.getElem?_map] at h1
      cases hi : isC[k2]? with
      | none => rw [hi] at h1; cases h1
      | some i =>
        rw [hi] at h1
        have h4 : ws[i]? = some (q.1, e) := Option.some.inj h1
        have hij := hD.1 k i q (q.1, e) a h4 rfl
        subst hij
        exact b (List.mem_of_getElem? hi)
    · omega
section CALLS
variable {p : Program} {l : Launch} {e : Env} {R : Room} {s : State} {m : MethodId} {args : Array Value} {below : List Frame} {meth : Method} {c : Code} {H H0 : Heap} {locs : List Loc} {cells slots mc ms : Nat} {Q : State → Prop} {pc : Nat} {ls : Array Slot} {rest st0 : List Value} {a : Array Value}
/-- a call of a read -/
theorem k_p {rv : Option Value} (hr : va_Run p l e R s m args below meth c H locs cells slots 0 0 (F0 m pc ls st0) rest (PQo (.returned rv) a) (fun _ => False))
    (kk : W p l e R s m args below meth c H locs cells slots Q (F0 m (pc + 3) ls (rv.toList ++ rest))) : W p l e R s m args below meth c H locs cells slots Q (F0 m pc ls st0) := by
  intro T hT X
  obtain ⟨v, st₀, t, T', L, h0, X', hL, e1, -, ⟨hv, hh⟩, st⟩ := hr T hT X
  cases hv
  obtain ⟨t2, a1, b1⟩ := kk T' (by rw [e1, hh, h0]) (Stand.forget X' (fun q h => (hL q h).elim))
  exact ⟨t2, st t2 a1, b1⟩
/-- a call of a write -/
theorem k_m {rv : Option Value} {G : GT} {A0 : Nat → Prop} {ws wc w1 wn : va_W} (hr : va_Run p l e R s m args below meth c H locs cells slots mc ms (F0 m pc ls st0) rest (MQo G (.returned rv) w1 (va_A wc H.size) a) (va_A wc H.size))
    (hP : va_P G.1 vwCl ws H) (hD : va_D A0 ws) (hS : va_S A0 H0 H locs) (hA : ∀ q, H0.size ≤ q → A0 q) (isC : List Nat) (hC : isC.map (fun i => ws[i]?) = wc.map some) (hl : isC.length = w1.length) (hnew : sp_put ws isC w1 = wn) (hadr : wn.map (·.1) = ws.map (·.1))
    (kk : ∀ (H1 : Heap) (locs1 : List Loc), va_P G.1 vwCl wn H1 → va_D A0 wn → va_S A0 H0 H1 locs1 → W p l e R s m args below meth c H1 locs1 (cells + mc) (slots + ms) Q (F0 m (pc + 3) ls (rv.toList ++ rest))) : W p l e R s m args below meth c H locs cells slots Q (F0 m pc ls st0) := by
  intro T hT X
  have hF := va_free hD hS hA isC hC
  obtain ⟨v, st₀, t, T', L, h0, X', hL, e1, -, ⟨hv, hP1, hz, hk⟩, st⟩ := hr T hT X
  cases hv
  rw [h0] at hz hk
  rw [← e1] at hP1 hz hk
  obtain ⟨t2, a1, b1⟩ := kk T'.heap (locs ++ L) (sp_P hP hD isC hC hl hk hP1 hnew) (va_D_addr hD hadr)
    ⟨Nat.le_trans hS.1 hz, fun q h1 h2 => by rw [hk q (Nat.lt_of_lt_of_le h1 hS.1) (fun z => h2 (hF q z))]; exact hS.2.1 q h1 h2, fun q hq => by
      rcases List.mem_append.mp hq with h | h
      · exact hS.2.2 q h
      · exact hF _ (hL q h)⟩ T' rfl X'
  exact ⟨t2, st t2 a1, b1⟩
end CALLS
/-- numbers up to N -/
def okN (N : Nat) (x : Int32) : Prop := ∃ n : Nat, n ≤ N ∧ x = nI n
theorem inc1 (j : Nat) : nI j + Int32.ofInt 1 = nI (j + 1) := nI_1 j
theorem lp_a {y : Int32} {j n : Nat} (hy : y = nI n) (hn : n < 2 ^ 31) (h : j = n) : y ≤ nI j := by rw [hy, h]; exact nI_le (Nat.le_refl n) hn
theorem lp_b {y : Int32} {j n r : Nat} (hy : y = nI n) (hn : n < 2 ^ 31) (h : j + (r + 1) = n) : ¬ y ≤ nI j := by rw [hy]; exact nI_ge (by omega) hn
theorem bool_nar {x : Int32} (h : x = 0 ∨ x = 1) : narrow .boolean (.int x) = .int x := by rcases h with rfl | rfl <;> rfl
theorem bool_vnar {x : Int32} (h : x = 0 ∨ x = 1) : vp_nar .boolean x = x := by rcases h with rfl | rfl <;> rfl
-- the cells
abbrev wcI (G : GT) (q len : Nat) (f : Nat → Int32) : Nat × va_E := (q, .inl (G.2.1, len, .inl f))
abbrev wcZ (G : GT) (q len : Nat) (f : Nat → Int32) : Nat × va_E := (q, .inl (G.2.2, len, .inl f))
abbrev wcA (a : Nat → Nat) (ck : Int32) : Nat × va_E := (a 0, .inr (3, [.ref (a 1), .ref (a 7), .ref (a 11), .int ck]))
abbrev wcS (a : Nat → Nat) (cn : Int32) : Nat × va_E := (a 1, .inr (2, [.ref (a 2), .ref (a 3), .ref (a 4), .ref (a 5), .ref (a 6), .int cn]))
abbrev wcR (a : Nat → Nat) (gp tg st sm : Int32) : Nat × va_E := (a 7, .inr (1, [.ref (a 8), .ref (a 9), .ref (a 10), .int gp, .int tg, .int st, .int sm]))
abbrev wcO (a : Nat → Nat) (oc lt : Int32) : Nat × va_E := (a 11, .inr (0, [.ref (a 12), .ref (a 13), .ref (a 14), .int oc, .int lt]))
section LOOPS
variable {p : Program} {l : Launch} {e : Env} {R : Room} {s : State} {m : MethodId} {args : Array Value} {below : List Frame} {meth : Method} {c : Code} {H H0 : Heap} {locs : List Loc} {cells slots mc ms : Nat} {Q : State → Prop} {pc : Nat} {ls : Array Slot} {rest st0 : List Value} {a : Array Value}
/-- a loop that only reads: I of what is left, of the counter, of what the loop carries, of the locals -/
theorem k_loopP {α : Type} (I : Nat → Nat → α → Array Slot → Prop) (N j0 : Nat) (x0 : α) (h0 : I N j0 x0 ls)
    (hz : ∀ (j : Nat) (x : α) (ls : Array Slot), I 0 j x ls → W p l e R s m args below meth c H locs cells slots Q (F0 m pc ls []))
    (hs : ∀ (r : Nat), (∀ (j : Nat) (x : α) (ls : Array Slot), I r j x ls → W p l e R s m args below meth c H locs cells slots Q (F0 m pc ls [])) → ∀ (j : Nat) (x : α) (ls : Array Slot), I (r + 1) j x ls → W p l e R s m args below meth c H locs cells slots Q (F0 m pc ls [])) : W p l e R s m args below meth c H locs cells slots Q (F0 m pc ls []) := by
  have key : ∀ (r j : Nat) (x : α) (ls : Array Slot), I r j x ls → W p l e R s m args below meth c H locs cells slots Q (F0 m pc ls []) := by
    intro r
    induction r with
    | zero => exact hz
    | succ r ih => exact hs r ih
  exact key N j0 x0 ls h0
/-- a loop that writes -/
theorem k_loopM {α : Type} (I : Nat → Nat → α → Heap → List Loc → Array Slot → Prop) (N j0 : Nat) (x0 : α) (h0 : I N j0 x0 H locs ls)
    (hz : ∀ (j : Nat) (x : α) (H : Heap) (locs : List Loc) (ls : Array Slot), I 0 j x H locs ls → W p l e R s m args below meth c H locs cells slots Q (F0 m pc ls []))
    (hs : ∀ (r : Nat), (∀ (j : Nat) (x : α) (H : Heap) (locs : List Loc) (ls : Array Slot), I r j x H locs ls → W p l e R s m args below meth c H locs cells slots Q (F0 m pc ls [])) → ∀ (j : Nat) (x : α) (H : Heap) (locs : List Loc) (ls : Array Slot), I (r + 1) j x H locs ls → W p l e R s m args below meth c H locs cells slots Q (F0 m pc ls [])) : W p l e R s m args below meth c H locs cells slots Q (F0 m pc ls []) := by
  have key : ∀ (r j : Nat) (x : α) (H : Heap) (locs : List Loc) (ls : Array Slot), I r j x H locs ls → W p l e R s m args below meth c H locs cells slots Q (F0 m pc ls []) := by
    intro r
    induction r with
    | zero => exact hz
    | succ r ih => exact hs r ih
  exact key N j0 x0 H locs ls h0
end LOOPS
theorem n4_eq : (4 : Int32) = nI 4 := rfl
theorem n6_eq : (6 : Int32) = nI 6 := rfl
theorem n36_eq : (36 : Int32) = nI 36 := rfl
theorem bool_fits {x : Int32} (h : x = 0 ∨ x = 1) : fits .boolean (.int x) = true := by rcases h with rfl | rfl <;> rfl
theorem in_of {x : Int32} {N : Nat} (hN : N < 2 ^ 31) (h0 : ¬ x < 0) (h1 : ¬ nI N ≤ x) : vp_in x N := by
  rcases pk_ix x hN with h | h | ⟨j, hj, rfl⟩
  · exact absurd h h0
  · exact absurd h h1
  · exact vp_in_nI hj hN
theorem in_mono {x : Int32} {n N : Nat} (h : vp_in x n) (hn : n ≤ N) (hN : N < 2 ^ 31) : vp_in x N := by
  obtain ⟨j, hj, rfl⟩ := vp_in_of h (by omega)
  exact vp_in_nI (by omega) hN
theorem nI_ofi {x : Int32} {N : Nat} (h : vp_in x N) (hN : N < 2 ^ 31) : x = nI x.toNatClampNeg ∧ x.toNatClampNeg < N := by
  obtain ⟨j, hj, rfl⟩ := vp_in_of h hN
  rw [nI_clamp (by omega)]
  exact ⟨rfl, hj⟩
