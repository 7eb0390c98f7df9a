/-! THE CLAIM OUT OF ONE WALK OF THE LAW'S BODY. Your part is whole_start (and what it stands on); all else here is the same for every law, but numbers. -/
def R_law : String := "RackrailLaw"
def lw_P (b : Addr) (xs : List Int32) (args : Array Value) (s : State) : Prop := args = #[.ref b] ∧ s.IntsAt b xs ∧ xs.length ≤ 260 ∧ (Jvm.Cond.and given_1 narrow_1).before args s = true
def lw_Q (_ : Array Value) (s : State) (o : Outcome) (t : State) : Prop := o = .returned (some (.int 1)) ∧ Framed s o t [] 173 1489
def lw_Z (below : List Frame) (a : Array Value) (s : State) : State → Prop := fun t => ∃ o, t.status = .running ∧ Ended t below o ∧ lw_Q a s o t
/-- the law's own end, with 1 on the stack, nothing written that was there before, its room as the claim has it -/
theorem lw_ret {p : Program} {l : Launch} {e : Env} {s : State} {m : MethodId} {below : List Frame} {meth : Method} {c : Code} {b : Nat} (hx : p.tables.exec = Jvm.exec) (hb : c.code = code) (hr : meth.sig.returnType = ret) (hlocks : meth.locks = false) {pc : Nat} {H : Heap} {ls : Array Slot} (hdg : decode code pc = .ok (.ireturn, 1)) : W p l e room_1 s m #[Value.ref b] below meth c H [] 173 1489 (lw_Z below #[Value.ref b] s) (F0 m pc ls [.int 1]) := by
  intro T hT X
  obtain ⟨fs, hret, hrun, hended, hW, hframe⟩ := X.leave (v := some (.int 1)) (hlocks := hlocks) (fun h => by rw [hr] at h; cases h)
  have hmeth' : T.vm.method? m = some meth := X.method'
  refine ⟨T.setFrames fs, ?_, .returned (some (.int 1)), hrun, hended, rfl, ⟨_, rfl⟩, hW, hframe⟩
  jvm_step X.here [X.here.top, hx, hb, hdg, hmeth', hr, ret, narrow_b1]
  (try refine ⟨rfl, ?_⟩); (try refine ⟨rfl, ?_⟩)
  first | (intro acts; rw [hret _ acts rfl rfl rfl]) | rw [hret _ _ rfl rfl rfl]
  exact Steps.refl _
/-- what holds at the law's entry: the machine, the code, the tables' words (any of lw_tbl by 'hts w (by decide +kernel)'), the script of L ints xs at the cell b, what the Statement gives of the start (any of its parts by flat_of_before) -/
def lw_At (p : Program) (s : State) (m : MethodId) (meth : Method) (c : Code) (b L : Nat) (xs : Nat → Int32) : Prop :=
  p.tables.exec = Jvm.exec ∧ c.code = code ∧ meth.sig.returnType = ret ∧ c.maxLocals = 21 ∧ s.vm.findClass R_law = some m.cls ∧ (∀ w ∈ lw_tbl, w.before #[Value.ref b] s = true) ∧ va_X b L xs s s.heap ∧ b < s.heap.size ∧ meth.locks = false ∧ (Jvm.Cond.and given_1 narrow_1).before #[Value.ref b] s = true
/-! what the Statement gives of the start -/
theorem st_nest : ∀ q ∈ nestW, Cond.methodLinkNest q.1 q.2.1 q.2.2 "Rackrail" ∈ lw_tbl := by decide +kernel
theorem st_Ev {s : State} {bs : Nat} (hts : ∀ w ∈ lw_tbl, w.before #[Value.ref bs] s = true) : ∃ G : GT, Ev G s := by
  obtain ⟨c0, i0, h0⟩ := u_known (C := RX0) (T := TX0) (N := 5) (n := 5) hts inX0 (hts (.instantiable RX0 5) (by decide +kernel))
  obtain ⟨c1, i1, h1⟩ := u_known (C := RX1) (T := TX1) (N := 7) (n := 7) hts inX1 (hts (.instantiable RX1 7) (by decide +kernel))
  obtain ⟨c2, i2, h2⟩ := u_known (C := RX2) (T := TX2) (N := 6) (n := 6) hts inX2 (hts (.instantiable RX2 6) (by decide +kernel))
  obtain ⟨c3, i3, h3⟩ := u_known (C := RX3) (T := TX3) (N := 4) (n := 4) hts inX3 (hts (.instantiable RX3 4) (by decide +kernel))
  obtain ⟨cI, aI, fI⟩ := arr_of (hts (.arrayClass .int) (by decide +kernel))
  obtain ⟨cZ, aZ, fZ⟩ := arr_of (hts (.arrayClass .boolean) (by decide +kernel))
  refine ⟨((fun k => ([c0, c1, c2, c3] : List ClassId).getD k c0, fun k => ([i0, i1, i2, i3] : List (Nat → Nat)).getD k i0), cI, cZ), ⟨?_, ?_⟩, ?_, trivial⟩
  · intro k q hq
    match k, hq with
    | 0, hq => cases hq; exact h0
    | 1, hq => cases hq; exact h1
    | 2, hq => cases hq; exact h2
    | 3, hq => cases hq; exact h3
    | k + 4, hq => simp [vwCl] at hq
  · intro k q hq
    match k, hq with
    | 0, hq => cases hq; exact ⟨aI, fI⟩
    | 1, hq => cases hq; exact ⟨aZ, fZ⟩
    | k + 2, hq => simp [tysG] at hq
  · exact fun q hq => va_Nw.of rfl (hts _ (st_nest q hq))
set_option maxHeartbeats 8000000 in
set_option maxRecDepth 100000 in
theorem law_loop {p : Program} {l : Launch} {e : Env} {s : State} {m : MethodId} {below : List Frame} {meth : Method} {c : Code} {bs len : Nat} {xs : Nat → Int32} {G : GT} {a q : Nat → Nat}
    (hl9 : l.stackTraces = false) (hx : p.tables.exec = Jvm.exec) (hb : c.code = cL_law) (hr : meth.sig.returnType = ret) (hlocks : meth.locks = false) (hml : c.maxLocals = 21) (hown : s.vm.findClass RL = some m.cls) (hts : ∀ w ∈ wsL_law, w.before #[Value.ref bs] s = true) (hE : Ev G s)
    (hX : va_X bs len xs s s.heap) (hbl : bs < s.heap.size) (hlen : len ≤ 260) : ∀ (r j : Nat) (n no g ct la : Nat) (sc cl wt kn sp db ins mv ob od dn lo mli : Nat → Int32) (H : Heap) (locs : List Loc) (ls : Array Slot), j + r = 60 → IV j n no g ct la sp mli ob od dn mv ins lo → va_P G.1 vwCl (LW G a q n no g ct la sc cl wt kn sp db ins mv ob od dn lo) H → va_D (fun q : Nat => s.heap.size ≤ q) (LW G a q n no g ct la sc cl wt kn sp db ins mv ob od dn lo) → va_S (fun q : Nat => s.heap.size ≤ q) s.heap H locs →
      lv_has ls 21 [(12, .int (nI j)), (0, .ref bs), (1, .ref (a 0)), (2, .ref (q 0)), (3, .ref (q 1)), (4, .ref (q 2)), (5, .ref (q 3)), (6, .ref (q 4)), (7, .int (nI n)), (8, .int (nI no)), (9, .int (nI (cntN dn no))), (10, .int 0), (11, .int (nI ct))] → W p l e room_1 s m #[Value.ref bs] below meth c H locs 20 311 (lw_Z below #[Value.ref bs] s) (F0 m 54 ls []) := by
  intro r
  induction r with
  | zero =>
    intro j n no g ct la sc cl wt kn sp db ins mv ob od dn lo mli H locs ls hjr hIV hP hD hS hl
    refine lv_iload hx hb dL_law_54 (lv_at hl 0 rfl) ?_
    refine lv_bipush (v := 60) hx hb dL_law_56 (by decide) ?_
    have k_58 : (60 : Int32) ≤ nI j := nI_le (a := 60) (by omega) (by omega)
    refine lv_icmp_ge (tgt := 904) hx hb dL_law_58 (by decide) (fun c_58 => ?_) (fun c_58 => absurd k_58 c_58)
    refine lv_iconst (v := 1) hx hb dL_law_904 (by decide) ?_
    refine va_forget (fun q hq => hS.2.2 q hq) ?_
    refine W.widen (k := 173) (n := 1489) (by omega) (by omega) ?_
    exact lw_ret hx hb hr hlocks dL_law_905
  | succ r ih =>
    intro j n no g ct la sc cl wt kn sp db ins mv ob od dn lo mli H locs ls hjr hIV hP hD hS hl
    have hj : j < 60 := by omega
    refine lv_iload hx hb dL_law_54 (lv_at hl 0 rfl) ?_
    refine lv_bipush (v := 60) hx hb dL_law_56 (by decide) ?_
    have k_58 : ¬ (60 : Int32) ≤ nI j := nI_ge (b := 60) hj (by decide)
    refine lv_icmp_ge (tgt := 904) hx hb dL_law_58 (by decide) (fun c_58 => absurd c_58 k_58) (fun c_58 => ?_)
    refine law_turn n no g ct la sc cl wt kn sp db ins mv ob od dn lo mli hX hbl hlen hl9 hx hb hml hown hts hE hj hIV hP hD hS hl ?_
    refine law_check hl9 hx hb hml hown hts hE hj ?_
    intro n no g ct la sc cl wt kn sp db ins mv ob od dn lo mli H locs ls hIV hP hD hS hl
    exact ih (j + 1) n no g ct la sc cl wt kn sp db ins mv ob od dn lo mli H locs ls (by omega) hIV hP hD hS hl
set_option maxHeartbeats 8000000 in
set_option maxRecDepth 100000 in
/-- THE LAW, from its entry -/
theorem whole_start {p : Program} {e : Env} {s : State} {m : MethodId} {below : List Frame} {meth : Method} {c : Code} (l : Launch) (hflags : l.flags = flags0) {b L : Nat} {xs : Nat → Int32} (hL : L ≤ 260) (C0 : lw_At p s m meth c b L xs) : W p l e room_1 s m #[Value.ref b] below meth c s.heap [] 0 0 (lw_Z below #[Value.ref b] s) (entryFrame m ([Value.ref b] : List Value).toArray 21) := by
  obtain ⟨hx, hb, hr, hml, hown, hts0, hX, hbl, hlocks, hgv⟩ := C0
  have hl9 : l.stackTraces = false := by unfold Launch.stackTraces; rw [hflags]; decide +kernel
  obtain ⟨G, hE⟩ := st_Ev hts0
  have hts : ∀ w ∈ wsL_law, w.before #[Value.ref b] s = true := fun w h => hts0 w (wsL_law_in w h)
  have hown : s.vm.findClass RL = some m.cls := hown
  have hb : c.code = cL_law := hb
  have hA : ∀ q : Nat, s.heap.size ≤ q → (fun q : Nat => s.heap.size ≤ q) q := fun _ h => h
  have hS : va_S (fun q : Nat => s.heap.size ≤ q) s.heap s.heap [] := va_S.rf
  have hP : va_P G.1 vwCl [] s.heap := fun k q h => by simp at h
  have hD : va_D (fun q : Nat => s.heap.size ≤ q) [] := ⟨fun i j p q h => by simp at h, fun k q h => by simp at h⟩
  have hl := lv_entry ([.ref b]) (n := 21) (Nat.le_of_ble_eq_true rfl)
  rw [lg_entry_eq]
  generalize (lg_sl ([.ref b]) ++ List.replicate (21 - (lg_sl ([.ref b])).length) Slot.unset).toArray = ls at hl ⊢
  have hl : lv_has ls 21 [(0, .ref b)] := hl
  refine va_new (ci := 3) (fs := [.null, .null, .null, .int 0]) (C := RX3) (T := TX3) (N := 4) hx hb hts inlX3 tyX3 tyX3_ok hown (hts (.classLink RL 9 RX3) (by decide +kernel)) (hts (.instantiable RX3 4) (by decide +kernel)) (hts (.initialized RX3) (by decide +kernel)) hE.1 hP hD hS hA rfl (fun j hj => by rcases (show j = 0 ∨ j = 1 ∨ j = 2 ∨ j = 3 by omega) with rfl | rfl | rfl | rfl <;> rfl) (Nat.le_of_ble_eq_true rfl) (Nat.le_of_ble_eq_true rfl) dL_law_0 (fun q1 H hP hD hS => ?_)
  have hP : va_P G.1 vwCl [(q1, .inr (3, [.null, .null, .null, .int 0]))] H := hP
  have hD : va_D (fun q : Nat => s.heap.size ≤ q) [(q1, .inr (3, [.null, .null, .null, .int 0]))] := hD
  refine W.widen (k := 1) (n := 4) (by decide) (by decide) ?_
  refine lv_dup hx hb dL_law_3 rfl ?_
  refine k_i (wc := [(q1, .inr (3, [.null, .null, .null, .int 0]))]) (wr := []) (va_runI (As := []) (rest := [.ref q1]) ⟨hx, hb, hml, hown, hts⟩ (c_X3_init l G q1 H.size) (cwI 0 hts gL_law_X3_init rfl rfl rfl (hts (.initialized RX3) (by decide +kernel)) (hts (.methodLink RL 36 yX3_init) (by decide +kernel)) (hts (.instanceMethod yX3_init) (by decide +kernel)) rfl (by decide +kernel) ⟨Nat.le_of_ble_eq_true rfl, Nat.le_of_ble_eq_true rfl⟩) ⟨GP.blind, GP.go (wc := [(q1, .inr (3, [.null, .null, .null, .int 0]))]) hE hP hD hS hA [0] rfl (by decide) [.ref q1]⟩ rfl rfl hl.1 rfl (lv_room (Nat.le_of_ble_eq_true rfl)) dL_law_4 ⟨Nat.le_of_ble_eq_true rfl, Nat.le_of_ble_eq_true rfl⟩) hP hD hS hA [0] [] rfl rfl (by decide) (by decide) (fun H locs w1 hw hP2 hD2 hS => ?_)
  obtain ⟨a, ea, rfl⟩ := hw
  subst ea
  have hP : va_P G.1 vwCl [wcA a 0, wcS a 0, wcI G (a 2) 6 (fun _ => 0), wcI G (a 3) 20 (fun _ => 0), wcI G (a 4) 20 (fun _ => 0), wcI G (a 5) 20 (fun _ => 0), wcI G (a 6) 20 (fun _ => 0), wcR a 0 0 0 0, wcZ G (a 8) 7 (fun _ => 0), wcZ G (a 9) 4 (fun _ => 0), wcI G (a 10) 6 (fun _ => 0), wcO a 0 0, wcI G (a 12) 30 (fun _ => 0), wcI G (a 13) 30 (fun _ => 0), wcZ G (a 14) 30 (fun _ => 0)] H := hP2
  have hD : va_D (fun q : Nat => s.heap.size ≤ q) [wcA a 0, wcS a 0, wcI G (a 2) 6 (fun _ => 0), wcI G (a 3) 20 (fun _ => 0), wcI G (a 4) 20 (fun _ => 0), wcI G (a 5) 20 (fun _ => 0), wcI G (a 6) 20 (fun _ => 0), wcR a 0 0 0 0, wcZ G (a 8) 7 (fun _ => 0), wcZ G (a 9) 4 (fun _ => 0), wcI G (a 10) 6 (fun _ => 0), wcO a 0 0, wcI G (a 12) 30 (fun _ => 0), wcI G (a 13) 30 (fun _ => 0), wcZ G (a 14) 30 (fun _ => 0)] := hD2
  refine W.widen (k := 15) (n := 215) (by decide) (by decide) ?_
  refine lv_astore_n (lv' := [(1, .ref (a 0)), (0, .ref b)]) hx hb dL_law_7 rfl hl (by decide) rfl (fun ls hl => ?_)
  refine lv_bipush (v := 20) hx hb dL_law_8 (by decide) ?_
  refine k_newa (atype := .int) (ty := .int) (c0 := G.2.1) (a0 := (20, .inl (fun _ => 0))) (N' := 20) hx hb (hts (.arrayClass .int) (by decide +kernel)) rfl hE 0 rfl ra_int hP hD hS hA (fun _ => rfl) (by decide) rfl (by decide) (Nat.le_of_ble_eq_true rfl) (Nat.le_of_ble_eq_true rfl) dL_law_10 (fun q_0 H hP hD hS => ?_)
  have hP : va_P G.1 vwCl [wcA a 0, wcS a 0, wcI G (a 2) 6 (fun _ => 0), wcI G (a 3) 20 (fun _ => 0), wcI G (a 4) 20 (fun _ => 0), wcI G (a 5) 20 (fun _ => 0), wcI G (a 6) 20 (fun _ => 0), wcR a 0 0 0 0, wcZ G (a 8) 7 (fun _ => 0), wcZ G (a 9) 4 (fun _ => 0), wcI G (a 10) 6 (fun _ => 0), wcO a 0 0, wcI G (a 12) 30 (fun _ => 0), wcI G (a 13) 30 (fun _ => 0), wcZ G (a 14) 30 (fun _ => 0), wcI G q_0 20 (fun _ => 0)] H := hP
  have hD : va_D (fun q : Nat => s.heap.size ≤ q) [wcA a 0, wcS a 0, wcI G (a 2) 6 (fun _ => 0), wcI G (a 3) 20 (fun _ => 0), wcI G (a 4) 20 (fun _ => 0), wcI G (a 5) 20 (fun _ => 0), wcI G (a 6) 20 (fun _ => 0), wcR a 0 0 0 0, wcZ G (a 8) 7 (fun _ => 0), wcZ G (a 9) 4 (fun _ => 0), wcI G (a 10) 6 (fun _ => 0), wcO a 0 0, wcI G (a 12) 30 (fun _ => 0), wcI G (a 13) 30 (fun _ => 0), wcZ G (a 14) 30 (fun _ => 0), wcI G q_0 20 (fun _ => 0)] := hD
  refine W.widen (k := 16) (n := 235) (by decide) (by decide) ?_
  refine lv_astore_n (lv' := [(2, .ref q_0), (1, .ref (a 0)), (0, .ref b)]) hx hb dL_law_12 rfl hl (by decide) rfl (fun ls hl => ?_)
  refine lv_bipush (v := 20) hx hb dL_law_13 (by decide) ?_
  refine k_newa (atype := .int) (ty := .int) (c0 := G.2.1) (a0 := (20, .inl (fun _ => 0))) (N' := 20) hx hb (hts (.arrayClass .int) (by decide +kernel)) rfl hE 0 rfl ra_int hP hD hS hA (fun _ => rfl) (by decide) rfl (by decide) (Nat.le_of_ble_eq_true rfl) (Nat.le_of_ble_eq_true rfl) dL_law_15 (fun q_1 H hP hD hS => ?_)
  have hP : va_P G.1 vwCl [wcA a 0, wcS a 0, wcI G (a 2) 6 (fun _ => 0), wcI G (a 3) 20 (fun _ => 0), wcI G (a 4) 20 (fun _ => 0), wcI G (a 5) 20 (fun _ => 0), wcI G (a 6) 20 (fun _ => 0), wcR a 0 0 0 0, wcZ G (a 8) 7 (fun _ => 0), wcZ G (a 9) 4 (fun _ => 0), wcI G (a 10) 6 (fun _ => 0), wcO a 0 0, wcI G (a 12) 30 (fun _ => 0), wcI G (a 13) 30 (fun _ => 0), wcZ G (a 14) 30 (fun _ => 0), wcI G q_0 20 (fun _ => 0), wcI G q_1 20 (fun _ => 0)] H := hP
  have hD : va_D (fun q : Nat => s.heap.size ≤ q) [wcA a 0, wcS a 0, wcI G (a 2) 6 (fun _ => 0), wcI G (a 3) 20 (fun _ => 0), wcI G (a 4) 20 (fun _ => 0), wcI G (a 5) 20 (fun _ => 0), wcI G (a 6) 20 (fun _ => 0), wcR a 0 0 0 0, wcZ G (a 8) 7 (fun _ => 0), wcZ G (a 9) 4 (fun _ => 0), wcI G (a 10) 6 (fun _ => 0), wcO a 0 0, wcI G (a 12) 30 (fun _ => 0), wcI G (a 13) 30 (fun _ => 0), wcZ G (a 14) 30 (fun _ => 0), wcI G q_0 20 (fun _ => 0), wcI G q_1 20 (fun _ => 0)] := hD
  refine W.widen (k := 17) (n := 255) (by decide) (by decide) ?_
  refine lv_astore_n (lv' := [(3, .ref q_1), (2, .ref q_0), (1, .ref (a 0)), (0, .ref b)]) hx hb dL_law_17 rfl hl (by decide) rfl (fun ls hl => ?_)
  refine lv_bipush (v := 6) hx hb dL_law_18 (by decide) ?_
  refine k_newa (atype := .int) (ty := .int) (c0 := G.2.1) (a0 := (6, .inl (fun _ => 0))) (N' := 6) hx hb (hts (.arrayClass .int) (by decide +kernel)) rfl hE 0 rfl ra_int hP hD hS hA (fun _ => rfl) (by decide) rfl (by decide) (Nat.le_of_ble_eq_true rfl) (Nat.le_of_ble_eq_true rfl) dL_law_20 (fun q_2 H hP hD hS => ?_)
  have hP : va_P G.1 vwCl [wcA a 0, wcS a 0, wcI G (a 2) 6 (fun _ => 0), wcI G (a 3) 20 (fun _ => 0), wcI G (a 4) 20 (fun _ => 0), wcI G (a 5) 20 (fun _ => 0), wcI G (a 6) 20 (fun _ => 0), wcR a 0 0 0 0, wcZ G (a 8) 7 (fun _ => 0), wcZ G (a 9) 4 (fun _ => 0), wcI G (a 10) 6 (fun _ => 0), wcO a 0 0, wcI G (a 12) 30 (fun _ => 0), wcI G (a 13) 30 (fun _ => 0), wcZ G (a 14) 30 (fun _ => 0), wcI G q_0 20 (fun _ => 0), wcI G q_1 20 (fun _ => 0), wcI G q_2 6 (fun _ => 0)] H := hP
  have hD : va_D (fun q : Nat => s.heap.size ≤ q) [wcA a 0, wcS a 0, wcI G (a 2) 6 (fun _ => 0), wcI G (a 3) 20 (fun _ => 0), wcI G (a 4) 20 (fun _ => 0), wcI G (a 5) 20 (fun _ => 0), wcI G (a 6) 20 (fun _ => 0), wcR a 0 0 0 0, wcZ G (a 8) 7 (fun _ => 0), wcZ G (a 9) 4 (fun _ => 0), wcI G (a 10) 6 (fun _ => 0), wcO a 0 0, wcI G (a 12) 30 (fun _ => 0), wcI G (a 13) 30 (fun _ => 0), wcZ G (a 14) 30 (fun _ => 0), wcI G q_0 20 (fun _ => 0), wcI G q_1 20 (fun _ => 0), wcI G q_2 6 (fun _ => 0)] := hD
  refine W.widen (k := 18) (n := 261) (by decide) (by decide) ?_
  refine lv_astore (lv' := [(4, .ref q_2), (3, .ref q_1), (2, .ref q_0), (1, .ref (a 0)), (0, .ref b)]) hx hb dL_law_22 hl (by decide) rfl (fun ls hl => ?_)
  refine lv_bipush (v := 20) hx hb dL_law_24 (by decide) ?_
  refine k_newa (atype := .int) (ty := .int) (c0 := G.2.1) (a0 := (20, .inl (fun _ => 0))) (N' := 20) hx hb (hts (.arrayClass .int) (by decide +kernel)) rfl hE 0 rfl ra_int hP hD hS hA (fun _ => rfl) (by decide) rfl (by decide) (Nat.le_of_ble_eq_true rfl) (Nat.le_of_ble_eq_true rfl) dL_law_26 (fun q_3 H hP hD hS => ?_)
  have hP : va_P G.1 vwCl [wcA a 0, wcS a 0, wcI G (a 2) 6 (fun _ => 0), wcI G (a 3) 20 (fun _ => 0), wcI G (a 4) 20 (fun _ => 0), wcI G (a 5) 20 (fun _ => 0), wcI G (a 6) 20 (fun _ => 0), wcR a 0 0 0 0, wcZ G (a 8) 7 (fun _ => 0), wcZ G (a 9) 4 (fun _ => 0), wcI G (a 10) 6 (fun _ => 0), wcO a 0 0, wcI G (a 12) 30 (fun _ => 0), wcI G (a 13) 30 (fun _ => 0), wcZ G (a 14) 30 (fun _ => 0), wcI G q_0 20 (fun _ => 0), wcI G q_1 20 (fun _ => 0), wcI G q_2 6 (fun _ => 0), wcI G q_3 20 (fun _ => 0)] H := hP
  have hD : va_D (fun q : Nat => s.heap.size ≤ q) [wcA a 0, wcS a 0, wcI G (a 2) 6 (fun _ => 0), wcI G (a 3) 20 (fun _ => 0), wcI G (a 4) 20 (fun _ => 0), wcI G (a 5) 20 (fun _ => 0), wcI G (a 6) 20 (fun _ => 0), wcR a 0 0 0 0, wcZ G (a 8) 7 (fun _ => 0), wcZ G (a 9) 4 (fun _ => 0), wcI G (a 10) 6 (fun _ => 0), wcO a 0 0, wcI G (a 12) 30 (fun _ => 0), wcI G (a 13) 30 (fun _ => 0), wcZ G (a 14) 30 (fun _ => 0), wcI G q_0 20 (fun _ => 0), wcI G q_1 20 (fun _ => 0), wcI G q_2 6 (fun _ => 0), wcI G q_3 20 (fun _ => 0)] := hD
  refine W.widen (k := 19) (n := 281) (by decide) (by decide) ?_
  refine lv_astore (lv' := [(5, .ref q_3), (4, .ref q_2), (3, .ref q_1), (2, .ref q_0), (1, .ref (a 0)), (0, .ref b)]) hx hb dL_law_28 hl (by decide) rfl (fun ls hl => ?_)
  refine lv_bipush (v := 30) hx hb dL_law_30 (by decide) ?_
  refine k_newa (atype := .int) (ty := .int) (c0 := G.2.1) (a0 := (30, .inl (fun _ => 0))) (N' := 30) hx hb (hts (.arrayClass .int) (by decide +kernel)) rfl hE 0 rfl ra_int hP hD hS hA (fun _ => rfl) (by decide) rfl (by decide) (Nat.le_of_ble_eq_true rfl) (Nat.le_of_ble_eq_true rfl) dL_law_32 (fun q_4 H hP hD hS => ?_)
  have hP : va_P G.1 vwCl [wcA a 0, wcS a 0, wcI G (a 2) 6 (fun _ => 0), wcI G (a 3) 20 (fun _ => 0), wcI G (a 4) 20 (fun _ => 0), wcI G (a 5) 20 (fun _ => 0), wcI G (a 6) 20 (fun _ => 0), wcR a 0 0 0 0, wcZ G (a 8) 7 (fun _ => 0), wcZ G (a 9) 4 (fun _ => 0), wcI G (a 10) 6 (fun _ => 0), wcO a 0 0, wcI G (a 12) 30 (fun _ => 0), wcI G (a 13) 30 (fun _ => 0), wcZ G (a 14) 30 (fun _ => 0), wcI G q_0 20 (fun _ => 0), wcI G q_1 20 (fun _ => 0), wcI G q_2 6 (fun _ => 0), wcI G q_3 20 (fun _ => 0), wcI G q_4 30 (fun _ => 0)] H := hP
  have hD : va_D (fun q : Nat => s.heap.size ≤ q) [wcA a 0, wcS a 0, wcI G (a 2) 6 (fun _ => 0), wcI G (a 3) 20 (fun _ => 0), wcI G (a 4) 20 (fun _ => 0), wcI G (a 5) 20 (fun _ => 0), wcI G (a 6) 20 (fun _ => 0), wcR a 0 0 0 0, wcZ G (a 8) 7 (fun _ => 0), wcZ G (a 9) 4 (fun _ => 0), wcI G (a 10) 6 (fun _ => 0), wcO a 0 0, wcI G (a 12) 30 (fun _ => 0), wcI G (a 13) 30 (fun _ => 0), wcZ G (a 14) 30 (fun _ => 0), wcI G q_0 20 (fun _ => 0), wcI G q_1 20 (fun _ => 0), wcI G q_2 6 (fun _ => 0), wcI G q_3 20 (fun _ => 0), wcI G q_4 30 (fun _ => 0)] := hD
  refine W.widen (k := 20) (n := 311) (by decide) (by decide) ?_
  refine lv_astore (lv' := [(6, .ref q_4), (5, .ref q_3), (4, .ref q_2), (3, .ref q_1), (2, .ref q_0), (1, .ref (a 0)), (0, .ref b)]) hx hb dL_law_34 hl (by decide) rfl (fun ls hl => ?_)
  refine lv_iconst (v := 0) hx hb dL_law_36 (by decide) ?_
  refine lv_istore (lv' := [(7, .int 0), (6, .ref q_4), (5, .ref q_3), (4, .ref q_2), (3, .ref q_1), (2, .ref q_0), (1, .ref (a 0)), (0, .ref b)]) hx hb dL_law_37 hl (by decide) rfl (fun ls hl => ?_)
  refine lv_iconst (v := 0) hx hb dL_law_39 (by decide) ?_
  refine lv_istore (lv' := [(8, .int 0), (7, .int 0), (6, .ref q_4), (5, .ref q_3), (4, .ref q_2), (3, .ref q_1), (2, .ref q_0), (1, .ref (a 0)), (0, .ref b)]) hx hb dL_law_40 hl (by decide) rfl (fun ls hl => ?_)
  refine lv_iconst (v := 0) hx hb dL_law_42 (by decide) ?_
  refine lv_istore (lv' := [(9, .int 0), (8, .int 0), (7, .int 0), (6, .ref q_4), (5, .ref q_3), (4, .ref q_2), (3, .ref q_1), (2, .ref q_0), (1, .ref (a 0)), (0, .ref b)]) hx hb dL_law_43 hl (by decide) rfl (fun ls hl => ?_)
  refine lv_iconst (v := 0) hx hb dL_law_45 (by decide) ?_
  refine lv_istore (lv' := [(10, .int 0), (9, .int 0), (8, .int 0), (7, .int 0), (6, .ref q_4), (5, .ref q_3), (4, .ref q_2), (3, .ref q_1), (2, .ref q_0), (1, .ref (a 0)), (0, .ref b)]) hx hb dL_law_46 hl (by decide) rfl (fun ls hl => ?_)
  refine lv_iconst (v := 0) hx hb dL_law_48 (by decide) ?_
  refine lv_istore (lv' := [(11, .int 0), (10, .int 0), (9, .int 0), (8, .int 0), (7, .int 0), (6, .ref q_4), (5, .ref q_3), (4, .ref q_2), (3, .ref q_1), (2, .ref q_0), (1, .ref (a 0)), (0, .ref b)]) hx hb dL_law_49 hl (by decide) rfl (fun ls hl => ?_)
  refine lv_iconst (v := 0) hx hb dL_law_51 (by decide) ?_
  refine lv_istore (lv' := [(12, .int 0), (11, .int 0), (10, .int 0), (9, .int 0), (8, .int 0), (7, .int 0), (6, .ref q_4), (5, .ref q_3), (4, .ref q_2), (3, .ref q_1), (2, .ref q_0), (1, .ref (a 0)), (0, .ref b)]) hx hb dL_law_52 hl (by decide) rfl (fun ls hl => ?_)
  have hP : va_P G.1 vwCl (LW G a (fun i => ([q_0, q_1, q_2, q_3, q_4] : List Nat).getD i 0) 0 0 0 0 0 (fun _ => 0) (fun _ => 0) (fun _ => 0) (fun _ => 0) (fun _ => 0) (fun _ => 0) (fun _ => 0) (fun _ => 0) (fun _ => 0) (fun _ => 0) (fun _ => 0) (fun _ => 0)) H := hP
  have hD : va_D (fun q : Nat => s.heap.size ≤ q) (LW G a (fun i => ([q_0, q_1, q_2, q_3, q_4] : List Nat).getD i 0) 0 0 0 0 0 (fun _ => 0) (fun _ => 0) (fun _ => 0) (fun _ => 0) (fun _ => 0) (fun _ => 0) (fun _ => 0) (fun _ => 0) (fun _ => 0) (fun _ => 0) (fun _ => 0) (fun _ => 0)) := hD
  exact law_loop hl9 hx hb hr hlocks hml hown hts hE hX hbl hL 60 0 0 0 0 0 0 (fun _ => 0) (fun _ => 0) (fun _ => 0) (fun _ => 0) (fun _ => 0) (fun _ => 0) (fun _ => 0) (fun _ => 0) (fun _ => 0) (fun _ => 0) (fun _ => 0) (fun _ => 0) (fun _ => 0) H _ ls (by omega) IV0 hP hD hS (lv_sub hl [0, 12, 11, 10, 9, 8, 7, 6, 5, 4, 3, 2, 1] rfl)
