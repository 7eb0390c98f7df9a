/-! THE CLAIM OUT OF ONE WALK OF THE LAW'S BODY. Your part is whole_start (and what it stands on); all else here is the same for every law, but numbers. -/
def R_law : String := "RackrailLaw"
def lw_P (b : Addr) (xs : List Int32) (args : Array Value) (s : State) : Prop := args = #[.ref b] ∧ s.IntsAt b xs ∧ xs.length ≤ 2048 ∧ (Jvm.Cond.and given_1 narrow_1).before args s = true
def lw_Q (_ : Array Value) (s : State) (o : Outcome) (t : State) : Prop := o = .returned (some (.int 1)) ∧ Framed s o t [] 1076 8780
def lw_Z (below : List Frame) (a : Array Value) (s : State) : State → Prop := fun t => ∃ o, t.status = .running ∧ Ended t below o ∧ lw_Q a s o t
/-- the law's own end, with 1 on the stack, nothing written that was there before, its room as the claim has it -/
theorem lw_ret {p : Program} {l : Launch} {e : Env} {s : State} {m : MethodId} {below : List Frame} {meth : Method} {c : Code} {b : Nat} (hx : p.tables.exec = Jvm.exec) (hb : c.code = code) (hr : meth.sig.returnType = ret) (hlocks : meth.locks = false) {pc : Nat} {H : Heap} {ls : Array Slot} (hdg : decode code pc = .ok (.ireturn, 1)) : W p l e room_1 s m #[Value.ref b] below meth c H [] 1076 8780 (lw_Z below #[Value.ref b] s) (F0 m pc ls [.int 1]) := by
  intro T hT X
  obtain ⟨fs, hret, hrun, hended, hW, hframe⟩ := X.leave (v := some (.int 1)) (hlocks := hlocks) (fun h => by rw [hr] at h; cases h)
  have hmeth' : T.vm.method? m = some meth := X.method'
  refine ⟨T.setFrames fs, ?_, .returned (some (.int 1)), hrun, hended, rfl, ⟨_, rfl⟩, hW, hframe⟩
  jvm_step X.here [X.here.top, hx, hb, hdg, hmeth', hr, ret, narrow_b1]
  (try refine ⟨rfl, ?_⟩); (try refine ⟨rfl, ?_⟩)
  first | (intro acts; rw [hret _ acts rfl rfl rfl]) | rw [hret _ _ rfl rfl rfl]
  exact Steps.refl _
/-- what holds at the law's entry: the machine, the code, the tables' words (any of lw_tbl by 'hts w (by decide +kernel)'), the script of L ints xs at the cell b, what the Statement gives of the start (any of its parts by flat_of_before) -/
def lw_At (p : Program) (s : State) (m : MethodId) (meth : Method) (c : Code) (b L : Nat) (xs : Nat → Int32) : Prop :=
  p.tables.exec = Jvm.exec ∧ c.code = code ∧ meth.sig.returnType = ret ∧ c.maxLocals = 7 ∧ s.vm.findClass R_law = some m.cls ∧ (∀ w ∈ lw_tbl, w.before #[Value.ref b] s = true) ∧ va_X b L xs s s.heap ∧ b < s.heap.size ∧ meth.locks = false ∧ (Jvm.Cond.and given_1 narrow_1).before #[Value.ref b] s = true
/-! what the Statement gives of the start -/
theorem st_nest : ∀ q ∈ nestW, Cond.methodLinkNest q.1 q.2.1 q.2.2 "Rackrail" ∈ lw_tbl := by decide +kernel
theorem st_str1 : ∀ q ∈ strW, Cond.stringRef RX3 q.1 q.2 ∈ lw_tbl := by decide +kernel
theorem st_str2 : ∀ q ∈ strW, Cond.exactly (.string RX3 q.1) "java/lang/String" ∈ flatC (Jvm.Cond.and given_1 narrow_1) := by decide +kernel
theorem st_cast : ∀ q ∈ excW, Cond.castable (exn q) (exn q) ∈ lw_tbl := by decide +kernel
theorem st_nc : ∀ q ∈ ncW, Cond.not (.castable (exn q.1) (exn q.2)) ∈ flatC (Jvm.Cond.and given_1 narrow_1) := by decide +kernel
theorem st_decl : ∀ q ∈ declW, Cond.declares q ∈ lw_tbl := by decide +kernel
theorem st_Ev {s : State} {bs : Nat} (hts : ∀ w ∈ lw_tbl, w.before #[Value.ref bs] s = true) (hgv : (Jvm.Cond.and given_1 narrow_1).before #[Value.ref bs] s = true) : ∃ G : GT, Ev G s := by
  have hs := flat_of_before _ hgv
  obtain ⟨c0, i0, h0⟩ := u_known (C := RX0) (T := TX0) (N := 5) (n := 5) hts inX0 (hts (.instantiable RX0 5) (by decide +kernel))
  obtain ⟨c1, i1, h1⟩ := u_known (C := RX1) (T := TX1) (N := 7) (n := 7) hts inX1 (hts (.instantiable RX1 7) (by decide +kernel))
  obtain ⟨c2, i2, h2⟩ := u_known (C := RX2) (T := TX2) (N := 6) (n := 6) hts inX2 (hts (.instantiable RX2 6) (by decide +kernel))
  obtain ⟨c3, i3, h3⟩ := u_known (C := RX3) (T := TX3) (N := 4) (n := 4) hts inX3 (hts (.instantiable RX3 4) (by decide +kernel))
  obtain ⟨c4, i4, h4⟩ := u_known (C := RX4) (T := TX4) (N := 19) (n := 19) hts inX4 (hts (.instantiable RX4 19) (by decide +kernel))
  obtain ⟨cI, aI, fI⟩ := arr_of (hts (.arrayClass .int) (by decide +kernel))
  obtain ⟨cZ, aZ, fZ⟩ := arr_of (hts (.arrayClass .boolean) (by decide +kernel))
  obtain ⟨cJ, aJ, fJ⟩ := arr_of (hts (.arrayClass .long) (by decide +kernel))
  refine ⟨((fun k => ([c0, c1, c2, c3, c4] : List ClassId).getD k c0, fun k => ([i0, i1, i2, i3, i4] : List (Nat → Nat)).getD k i0), cI, cZ, cJ), ⟨?_, ?_⟩, ?_, ?_, ?_, ?_, ?_⟩
  · intro k q hq
    match k, hq with
    | 0, hq => cases hq; exact h0
    | 1, hq => cases hq; exact h1
    | 2, hq => cases hq; exact h2
    | 3, hq => cases hq; exact h3
    | 4, hq => cases hq; exact h4
    | k + 5, hq => simp [vwCl] at hq
  · intro k q hq
    match k, hq with
    | 0, hq => cases hq; exact ⟨aI, fI⟩
    | 1, hq => cases hq; exact ⟨aZ, fZ⟩
    | 2, hq => cases hq; exact ⟨aJ, fJ⟩
    | k + 3, hq => simp [tysG] at hq
  · exact fun q hq => va_Nw.of rfl (hts _ (st_nest q hq))
  · intro q hq
    obtain ⟨sa, -, -, -, ha, -⟩ := Cond.exactly_spec (hs _ (st_str2 q hq))
    exact ⟨sa, vk_R.of (hts _ (st_str1 q hq)) ha⟩
  · exact fun q hq => va_Nw.of rfl (hts _ (st_cast q hq))
  · exact fun q hq => va_Nc.of (hs _ (st_nc q hq))
  · exact fun q hq => va_Nw.of rfl (hts _ (st_decl q hq))
theorem st_Ez {s : State} {bs : Nat} (hts : ∀ w ∈ lw_tbl, w.before #[Value.ref bs] s = true) (hgv : (Jvm.Cond.and given_1 narrow_1).before #[Value.ref bs] s = true) : Ez (fun q : Nat => s.heap.size ≤ q) s s.heap := by
  have hs := flat_of_before _ hgv
  have hA : ∀ a : Nat, a < s.heap.size → ¬ (fun q : Nat => s.heap.size ≤ q) a := fun a h => Nat.not_le.mpr h
  exact ⟨vx_Zqof (hts (.laysStatic Bundle.tN "UNASSIGNED_STACK" Bundle.steD) (by decide +kernel)) (hts (.initialized Bundle.tN) (by decide +kernel)) (hs (.isRef (.static Bundle.tN "UNASSIGNED_STACK" Bundle.steD)) (by decide +kernel)) hA,
    vx_Zqof (hts (.laysStatic Bundle.tN "SUPPRESSED_SENTINEL" Bundle.listD) (by decide +kernel)) (hts (.initialized Bundle.tN) (by decide +kernel)) (hs (.isRef (.static Bundle.tN "SUPPRESSED_SENTINEL" Bundle.listD)) (by decide +kernel)) hA⟩
set_option maxHeartbeats 4000000 in
theorem hcs_of {j : Nat} (h : j ≤ 511) : 27 + j + 1 ≤ room_1.cells := by show 27 + j + 1 ≤ 1076; omega
theorem hsl_of {j : Nat} (h : j ≤ 511) : 438 + 6 * j + 6 ≤ room_1.slots := by show 438 + 6 * j + 6 ≤ 8780; omega
theorem len_lt {len j : Nat} (hlen : len ≤ 2048) (hj : 4 * j ≤ len) : (Int32.ofNat len - 4 < nI (4 * j)) ↔ len < 4 * j + 4 := by
  show nI len - nI 4 < nI (4 * j) ↔ len < 4 * j + 4
  rw [Int32.lt_iff_toInt_lt, pk_sub_toInt (by omega) (by omega), nI_toInt (by omega)]
  omega
set_option maxHeartbeats 8000000 in
set_option maxRecDepth 100000 in
theorem law_loop {p : Program} {l : Launch} {e : Env} {s : State} {m : MethodId} {below : List Frame} {meth : Method} {c : Code} {bs len : Nat} {xs : Nat → Int32} {G : GT} {a b : Nat → Nat} {qo : Nat}
    (hl9 : l.stackTraces = false) (hx : p.tables.exec = Jvm.exec) (hb : c.code = cL_law) (hr : meth.sig.returnType = ret) (hlocks : meth.locks = false) (hml : c.maxLocals = 7) (hown : s.vm.findClass RL = some m.cls) (hts : ∀ w ∈ wsL_law, w.before #[Value.ref bs] s = true) (hE : Ev G s) (hZ : Ez (fun q : Nat => s.heap.size ≤ q) s s.heap)
    (hX : va_X bs len xs s s.heap) (hbl : bs < s.heap.size) (hlen : len ≤ 2048) : ∀ (r j : Nat) (ck : Int32) (cn : Int32) (sc : Nat → Int32) (cl : Nat → Int32) (wt : Nat → Int32) (kn : Nat → Int32) (sp : Nat → Int32) (gp : Int32) (tg : Int32) (st : Int32) (sm : Int32) (db : Nat → Int32) (ins : Nat → Int32) (mv : Nat → Int32) (oc : Int32) (lt : Int32) (ob : Nat → Int32) (od : Nat → Int32) (dn : Nat → Int32) (ov : Nat → Int64) (mth : Int32) (mtm : Int32) (mli : Nat → Int32) (H : Heap) (locs : List Loc) (ls : Array Slot), len < 4 * (j + r) → 4 * j ≤ len → CI ck cn sp mli gp tg mtm st sm db ins mv oc ob od → va_P G.1 vwCl (LW G a b qo ck cn sc cl wt kn sp gp tg st sm db ins mv oc lt ob od dn ov mth mtm mli) H → va_D (fun q : Nat => s.heap.size ≤ q) (LW G a b qo ck cn sc cl wt kn sp gp tg st sm db ins mv oc lt ob od dn ov mth mtm mli) → va_S (fun q : Nat => s.heap.size ≤ q) s.heap H locs →
      lv_has ls 7 [(4, .int (nI (4 * j))), (0, .ref bs), (1, .ref (a 0)), (2, .ref (b 0)), (3, .ref qo)] → W p l e room_1 s m #[Value.ref bs] below meth c H locs (27 + j) (438 + 6 * j) (lw_Z below #[Value.ref bs] s) (F0 m 23 ls []) := by
  have hA : ∀ q : Nat, s.heap.size ≤ q → (fun q : Nat => s.heap.size ≤ q) q := fun _ h => h
  have hbA : ¬ (fun q : Nat => s.heap.size ≤ q) bs := Nat.not_le.mpr hbl
  intro r
  induction r with
  | zero => intro j ck cn sc cl wt kn sp gp tg st sm db ins mv oc lt ob od dn ov mth mtm mli H locs ls h1 h2; exact absurd h1 (by omega)
  | succ r ih =>
    intro j ck cn sc cl wt kn sp gp tg st sm db ins mv oc lt ob od dn ov mth mtm mli H locs ls hr0 hj0 hCI hP hD hS hl
    refine lv_iload hx hb dL_law_23 (lv_at hl 0 rfl) ?_
    refine lv_aload_n hx hb dL_law_25 rfl (lv_at hl 1 rfl) ?_
    refine va_slen hx hb hX hbl hbA hS dL_law_26 ?_
    refine lv_iconst (v := 4) hx hb dL_law_27 (by decide) ?_
    refine lv_isub hx hb dL_law_28 ?_
    refine lv_icmp_gt (tgt := 1291) hx hb dL_law_29 (by decide) (fun c_29 => ?_) (fun c_29 => ?_)
    · refine lv_iconst (v := 1) hx hb dL_law_1291 (by decide) ?_
      refine va_forget (fun q hq => hS.2.2 q hq) ?_
      refine W.widen (k := 1076) (n := 8780) (by omega) (by omega) ?_
      exact lw_ret hx hb hr hlocks dL_law_1292
    · have hj4 : 4 * j + 4 ≤ len := Nat.not_lt.mp fun z => c_29 ((len_lt hlen hj0).mpr z)
      have hk : LK p l e s m below meth c (lw_Z below #[Value.ref bs] s) bs G a b qo j (27 + j) (438 + 6 * j) := by
        intro ck cn sc cl wt kn sp gp tg st sm db ins mv oc lt ob od dn ov mth mtm mli H locs ls hCI hP hD hS hl
        refine lv_iinc (v := nI (4 * (j + 1))) (lv' := [(4, .int (nI (4 * (j + 1)))), (0, .ref bs), (1, .ref (a 0)), (2, .ref (b 0)), (3, .ref qo)]) hx hb dL_law_1285 hl (k := 0) rfl (nI_add (4 * j) 4) (by decide) rfl (fun ls hl => ?_)
        refine lv_goto (tgt := 23) hx hb dL_law_1288 (by decide) ?_
        exact ih (j + 1) ck cn sc cl wt kn sp gp tg st sm db ins mv oc lt ob od dn ov mth mtm mli H locs ls (by omega) (by omega) hCI hP hD hS hl
      refine lv_aload_n hx hb dL_law_32 rfl (lv_at hl 1 rfl) ?_
      refine lv_iload hx hb dL_law_33 (lv_at hl 0 rfl) ?_
      refine va_sld hx hb hX hbl hbA hS (vp_in_nI (by omega) (by omega)) dL_law_35 ?_
      refine lv_bipush (v := 31) hx hb dL_law_36 (by decide) ?_
      refine lv_iand hx hb dL_law_38 ?_
      obtain ⟨v, hv, ev⟩ := pk_andE (xs (nI (4 * j)).toNatClampNeg) (m := 31) 5 (by decide)
      match v, hv, ev with
      | 0, _, ev =>
        refine lv_tableIn (off := 109) (tgt := 148) hx hb dL_law_39 (by rw [ev]; decide) (by rw [ev]; decide) (by rw [ev]; rfl) (by decide) ?_
        exact law_setClimate ck cn sc cl wt kn sp gp tg st sm db ins mv oc lt ob od dn ov mth mtm mli hl9 hx hb hml hown hts hE hZ hX hbl hj4 hlen hCI hP hD hS hl (hcs_of (by omega)) (hsl_of (by omega)) hk
      | 1, _, ev =>
        refine lv_tableIn (off := 177) (tgt := 216) hx hb dL_law_39 (by rw [ev]; decide) (by rw [ev]; decide) (by rw [ev]; rfl) (by decide) ?_
        exact law_addBox ck cn sc cl wt kn sp gp tg st sm db ins mv oc lt ob od dn ov mth mtm mli hl9 hx hb hml hown hts hE hZ hX hbl hj4 hlen hCI hP hD hS hl (hcs_of (by omega)) (hsl_of (by omega)) hk
      | 2, _, ev =>
        refine lv_tableIn (off := 257) (tgt := 296) hx hb dL_law_39 (by rw [ev]; decide) (by rw [ev]; decide) (by rw [ev]; rfl) (by decide) ?_
        exact law_bestSpot ck cn sc cl wt kn sp gp tg st sm db ins mv oc lt ob od dn ov mth mtm mli hl9 hx hb hml hown hts hE hZ hX hbl hj4 hlen hCI hP hD hS hl (hcs_of (by omega)) (hsl_of (by omega)) hk
      | 3, _, ev =>
        refine lv_tableIn (off := 313) (tgt := 352) hx hb dL_law_39 (by rw [ev]; decide) (by rw [ev]; decide) (by rw [ev]; rfl) (by decide) ?_
        exact law_lay ck cn sc cl wt kn sp gp tg st sm db ins mv oc lt ob od dn ov mth mtm mli hl9 hx hb hml hown hts hE hZ hX hbl hj4 hlen hCI hP hD hS hl (hcs_of (by omega)) (hsl_of (by omega)) hk
      | 4, _, ev =>
        refine lv_tableIn (off := 369) (tgt := 408) hx hb dL_law_39 (by rw [ev]; decide) (by rw [ev]; decide) (by rw [ev]; rfl) (by decide) ?_
        exact law_spotOf ck cn sc cl wt kn sp gp tg st sm db ins mv oc lt ob od dn ov mth mtm mli hl9 hx hb hml hown hts hE hZ hX hbl hj4 hlen hCI hP hD hS hl (hcs_of (by omega)) (hsl_of (by omega)) hk
      | 5, _, ev =>
        refine lv_tableIn (off := 425) (tgt := 464) hx hb dL_law_39 (by rw [ev]; decide) (by rw [ev]; decide) (by rw [ev]; rfl) (by decide) ?_
        exact law_boxAt ck cn sc cl wt kn sp gp tg st sm db ins mv oc lt ob od dn ov mth mtm mli hl9 hx hb hml hown hts hE hZ hX hbl hj4 hlen hCI hP hD hS hl (hcs_of (by omega)) (hsl_of (by omega)) hk
      | 6, _, ev =>
        refine lv_tableIn (off := 481) (tgt := 520) hx hb dL_law_39 (by rw [ev]; decide) (by rw [ev]; decide) (by rw [ev]; rfl) (by decide) ?_
        exact law_weight ck cn sc cl wt kn sp gp tg st sm db ins mv oc lt ob od dn ov mth mtm mli hl9 hx hb hml hown hts hE hZ hX hbl hj4 hlen hCI hP hD hS hl (hcs_of (by omega)) (hsl_of (by omega)) hk
      | 7, _, ev =>
        refine lv_tableIn (off := 537) (tgt := 576) hx hb dL_law_39 (by rw [ev]; decide) (by rw [ev]; decide) (by rw [ev]; rfl) (by decide) ?_
        exact law_wrong ck cn sc cl wt kn sp gp tg st sm db ins mv oc lt ob od dn ov mth mtm mli hl9 hx hb hml hown hts hE hZ hX hbl hj4 hlen hCI hP hD hS hl (hcs_of (by omega)) (hsl_of (by omega)) hk
      | 8, _, ev =>
        refine lv_tableIn (off := 550) (tgt := 589) hx hb dL_law_39 (by rw [ev]; decide) (by rw [ev]; decide) (by rw [ev]; rfl) (by decide) ?_
        exact law_open ck cn sc cl wt kn sp gp tg st sm db ins mv oc lt ob od dn ov mth mtm mli hl9 hx hb hml hown hts hE hZ hX hbl hj4 hlen hCI hP hD hS hl (hcs_of (by omega)) (hsl_of (by omega)) hk
      | 9, _, ev =>
        refine lv_tableIn (off := 606) (tgt := 645) hx hb dL_law_39 (by rw [ev]; decide) (by rw [ev]; decide) (by rw [ev]; rfl) (by decide) ?_
        exact law_opened ck cn sc cl wt kn sp gp tg st sm db ins mv oc lt ob od dn ov mth mtm mli hl9 hx hb hml hown hts hE hZ hX hbl hj4 hlen hCI hP hD hS hl (hcs_of (by omega)) (hsl_of (by omega)) hk
      | 10, _, ev =>
        refine lv_tableIn (off := 619) (tgt := 658) hx hb dL_law_39 (by rw [ev]; decide) (by rw [ev]; decide) (by rw [ev]; rfl) (by decide) ?_
        exact law_openedByMoves ck cn sc cl wt kn sp gp tg st sm db ins mv oc lt ob od dn ov mth mtm mli hl9 hx hb hml hown hts hE hZ hX hbl hj4 hlen hCI hP hD hS hl (hcs_of (by omega)) (hsl_of (by omega)) hk
      | 11, _, ev =>
        refine lv_tableIn (off := 632) (tgt := 671) hx hb dL_law_39 (by rw [ev]; decide) (by rw [ev]; decide) (by rw [ev]; rfl) (by decide) ?_
        exact law_goIn ck cn sc cl wt kn sp gp tg st sm db ins mv oc lt ob od dn ov mth mtm mli hl9 hx hb hml hown hts hE hZ hX hbl hj4 hlen hCI hP hD hS hl (hcs_of (by omega)) (hsl_of (by omega)) hk
      | 12, _, ev =>
        refine lv_tableIn (off := 688) (tgt := 727) hx hb dL_law_39 (by rw [ev]; decide) (by rw [ev]; decide) (by rw [ev]; rfl) (by decide) ?_
        exact law_goOut ck cn sc cl wt kn sp gp tg st sm db ins mv oc lt ob od dn ov mth mtm mli hl9 hx hb hml hown hts hE hZ hX hbl hj4 hlen hCI hP hD hS hl (hcs_of (by omega)) (hsl_of (by omega)) hk
      | 13, _, ev =>
        refine lv_tableIn (off := 744) (tgt := 783) hx hb dL_law_39 (by rw [ev]; decide) (by rw [ev]; decide) (by rw [ev]; rfl) (by decide) ?_
        exact law_doubt ck cn sc cl wt kn sp gp tg st sm db ins mv oc lt ob od dn ov mth mtm mli hl9 hx hb hml hown hts hE hZ hX hbl hj4 hlen hCI hP hD hS hl (hcs_of (by omega)) (hsl_of (by omega)) hk
      | 14, _, ev =>
        refine lv_tableIn (off := 807) (tgt := 846) hx hb dL_law_39 (by rw [ev]; decide) (by rw [ev]; decide) (by rw [ev]; rfl) (by decide) ?_
        exact law_look ck cn sc cl wt kn sp gp tg st sm db ins mv oc lt ob od dn ov mth mtm mli hl9 hx hb hml hown hts hE hZ hX hbl hj4 hlen hCI hP hD hS hl (hcs_of (by omega)) (hsl_of (by omega)) hk
      | 15, _, ev =>
        refine lv_tableIn (off := 858) (tgt := 897) hx hb dL_law_39 (by rw [ev]; decide) (by rw [ev]; decide) (by rw [ev]; rfl) (by decide) ?_
        exact law_stall ck cn sc cl wt kn sp gp tg st sm db ins mv oc lt ob od dn ov mth mtm mli hl9 hx hb hml hown hts hE hZ hX hbl hj4 hlen hCI hP hD hS hl (hcs_of (by omega)) (hsl_of (by omega)) hk
      | 16, _, ev =>
        refine lv_tableIn (off := 899) (tgt := 938) hx hb dL_law_39 (by rw [ev]; decide) (by rw [ev]; decide) (by rw [ev]; rfl) (by decide) ?_
        exact law_smoke ck cn sc cl wt kn sp gp tg st sm db ins mv oc lt ob od dn ov mth mtm mli hl9 hx hb hml hown hts hE hZ hX hbl hj4 hlen hCI hP hD hS hl (hcs_of (by omega)) (hsl_of (by omega)) hk
      | 17, _, ev =>
        refine lv_tableIn (off := 940) (tgt := 979) hx hb dL_law_39 (by rw [ev]; decide) (by rw [ev]; decide) (by rw [ev]; rfl) (by decide) ?_
        exact law_pass ck cn sc cl wt kn sp gp tg st sm db ins mv oc lt ob od dn ov mth mtm mli hl9 hx hb hml hown hts hE hZ hX hbl hj4 hlen hCI hP hD hS hl (hcs_of (by omega)) (hsl_of (by omega)) hk
      | 18, _, ev =>
        refine lv_tableIn (off := 996) (tgt := 1035) hx hb dL_law_39 (by rw [ev]; decide) (by rw [ev]; decide) (by rw [ev]; rfl) (by decide) ?_
        exact law_order ck cn sc cl wt kn sp gp tg st sm db ins mv oc lt ob od dn ov mth mtm mli hl9 hx hb hml hown hts hE hZ hX hbl hj4 hlen hCI hP hD hS hl (hcs_of (by omega)) (hsl_of (by omega)) hk
      | 19, _, ev =>
        refine lv_tableIn (off := 1064) (tgt := 1103) hx hb dL_law_39 (by rw [ev]; decide) (by rw [ev]; decide) (by rw [ev]; rfl) (by decide) ?_
        exact law_nextAisle ck cn sc cl wt kn sp gp tg st sm db ins mv oc lt ob od dn ov mth mtm mli hl9 hx hb hml hown hts hE hZ hX hbl hj4 hlen hCI hP hD hS hl (hcs_of (by omega)) (hsl_of (by omega)) hk
      | 20, _, ev =>
        refine lv_tableIn (off := 1077) (tgt := 1116) hx hb dL_law_39 (by rw [ev]; decide) (by rw [ev]; decide) (by rw [ev]; rfl) (by decide) ?_
        exact law_fetch ck cn sc cl wt kn sp gp tg st sm db ins mv oc lt ob od dn ov mth mtm mli hl9 hx hb hml hown hts hE hZ hX hbl hj4 hlen hCI hP hD hS hl (hcs_of (by omega)) (hsl_of (by omega)) hk
      | 21, _, ev =>
        refine lv_tableIn (off := 1133) (tgt := 1172) hx hb dL_law_39 (by rw [ev]; decide) (by rw [ev]; decide) (by rw [ev]; rfl) (by decide) ?_
        exact law_giveBack ck cn sc cl wt kn sp gp tg st sm db ins mv oc lt ob od dn ov mth mtm mli hl9 hx hb hml hown hts hE hZ hX hbl hj4 hlen hCI hP hD hS hl (hcs_of (by omega)) (hsl_of (by omega)) hk
      | 22, _, ev =>
        refine lv_tableIn (off := 1220) (tgt := 1259) hx hb dL_law_39 (by rw [ev]; decide) (by rw [ev]; decide) (by rw [ev]; rfl) (by decide) ?_
        exact law_waiting ck cn sc cl wt kn sp gp tg st sm db ins mv oc lt ob od dn ov mth mtm mli hl9 hx hb hml hown hts hE hZ hX hbl hj4 hlen hCI hP hD hS hl (hcs_of (by omega)) (hsl_of (by omega)) hk
      | 23, _, ev =>
        refine lv_tableIn (off := 1233) (tgt := 1272) hx hb dL_law_39 (by rw [ev]; decide) (by rw [ev]; decide) (by rw [ev]; rfl) (by decide) ?_
        exact law_late ck cn sc cl wt kn sp gp tg st sm db ins mv oc lt ob od dn ov mth mtm mli hl9 hx hb hml hown hts hE hZ hX hbl hj4 hlen hCI hP hD hS hl (hcs_of (by omega)) (hsl_of (by omega)) hk
      | v + 24, hv, ev =>
        refine lv_tableOut (tgt := 1285) hx hb dL_law_39 (Or.inr ?_) (by decide) ?_
        · rw [ev, nI_toInt (by omega)]; omega
        · refine W.widen (k := 27 + j + 1) (n := 438 + 6 * j + 6) (by omega) (by omega) ?_
          exact hk ck cn sc cl wt kn sp gp tg st sm db ins mv oc lt ob od dn ov mth mtm mli H locs ls hCI hP hD hS hl
theorem RS0 : RS 0 (fun _ => 0) (fun _ => 0) := ⟨fun b hb => by omega, fun k _ => Or.inl rfl, fun k b _ hb => by omega⟩
theorem CI0 : CI 0 0 (fun _ => 0) (fun _ => 0) 0 0 0 0 0 (fun _ => 0) (fun _ => 0) (fun _ => 0) 0 (fun _ => 0) (fun _ => 0) :=
  ⟨0, 0, 0, 0, 0, by omega, rfl, by omega, rfl, by omega, rfl, by omega, rfl, rfl, by omega, rfl, RS0, fun j hj => by omega, fun s _ => ⟨0, by omega, rfl, by omega⟩, Or.inl rfl, Or.inl rfl, fun _ _ => Or.inl rfl, fun _ _ => Or.inl rfl, Or.inr rfl⟩
set_option maxHeartbeats 8000000 in
set_option maxRecDepth 100000 in
/-- THE LAW, from its entry -/
theorem whole_start {p : Program} {e : Env} {s : State} {m : MethodId} {below : List Frame} {meth : Method} {c : Code} (l : Launch) (hflags : l.flags = flags0) {b L : Nat} {xs : Nat → Int32} (hL : L ≤ 2048) (C0 : lw_At p s m meth c b L xs) : W p l e room_1 s m #[Value.ref b] below meth c s.heap [] 0 0 (lw_Z below #[Value.ref b] s) (entryFrame m ([Value.ref b] : List Value).toArray 7) := by
  obtain ⟨hx, hb, hr, hml, hown, hts0, hX, hbl, hlocks, hgv⟩ := C0
  have hl9 : l.stackTraces = false := by unfold Launch.stackTraces; rw [hflags]; decide +kernel
  obtain ⟨G, hE⟩ := st_Ev hts0 hgv
  have hZ := st_Ez hts0 hgv
  have hts : ∀ w ∈ wsL_law, w.before #[Value.ref b] s = true := fun w h => hts0 w (wsL_law_in w h)
  have hown : s.vm.findClass RL = some m.cls := hown
  have hb : c.code = cL_law := hb
  have hA : ∀ q : Nat, s.heap.size ≤ q → (fun q : Nat => s.heap.size ≤ q) q := fun _ h => h
  have hS : va_S (fun q : Nat => s.heap.size ≤ q) s.heap s.heap [] := va_S.rf
  have hP : va_P G.1 vwCl [] s.heap := fun k q h => by simp at h
  have hD : va_D (fun q : Nat => s.heap.size ≤ q) [] := ⟨fun i j p q h => by simp at h, fun k q h => by simp at h⟩
  have hl := lv_entry ([.ref b]) (n := 7) (Nat.le_of_ble_eq_true rfl)
  rw [lg_entry_eq]
  generalize (lg_sl ([.ref b]) ++ List.replicate (7 - (lg_sl ([.ref b])).length) Slot.unset).toArray = ls at hl ⊢
  have hl : lv_has ls 7 [(0, .ref b)] := hl
  refine va_new (ci := 3) (fs := [.null, .null, .null, .int 0]) (C := RX3) (T := TX3) (N := 4) hx hb hts inlX3 tyX3 tyX3_ok hown (hts (.classLink RL 8 RX3) (by decide +kernel)) (hts (.instantiable RX3 4) (by decide +kernel)) (hts (.initialized RX3) (by decide +kernel)) hE.1 hP hD hS hA rfl (fun j hj => by rcases (show j = 0 ∨ j = 1 ∨ j = 2 ∨ j = 3 by omega) with rfl | rfl | rfl | rfl <;> rfl) (Nat.le_of_ble_eq_true rfl) (Nat.le_of_ble_eq_true rfl) dL_law_0 (fun q1 H hP hD hS => ?_)
  have hP : va_P G.1 vwCl [(q1, .inr (3, [.null, .null, .null, .int 0]))] H := hP
  have hD : va_D (fun q : Nat => s.heap.size ≤ q) [(q1, .inr (3, [.null, .null, .null, .int 0]))] := hD
  refine W.widen (k := 1) (n := 4) (by decide) (by decide) ?_
  refine lv_dup hx hb dL_law_3 rfl ?_
  refine k_i (wc := [(q1, .inr (3, [.null, .null, .null, .int 0]))]) (wr := []) (va_runI (As := []) (rest := [.ref q1]) ⟨hx, hb, hml, hown, hts⟩ (c_X3_init l G q1 H.size) (cwI 0 hts gL_law_X3_init rfl rfl rfl (hts (.initialized RX3) (by decide +kernel)) (hts (.methodLink RL 69 yX3_init) (by decide +kernel)) (hts (.instanceMethod yX3_init) (by decide +kernel)) rfl (by decide +kernel) ⟨Nat.le_of_ble_eq_true rfl, Nat.le_of_ble_eq_true rfl⟩) ⟨GP.blind, GP.go (wc := [(q1, .inr (3, [.null, .null, .null, .int 0]))]) hE hZ hP hD hS hA [0] rfl (by decide) [.ref q1]⟩ rfl rfl hl.1 rfl (lv_room (Nat.le_of_ble_eq_true rfl)) dL_law_4 ⟨Nat.le_of_ble_eq_true rfl, Nat.le_of_ble_eq_true rfl⟩) hP hD hS hA [0] [] rfl rfl (by decide) (by decide) (fun H locs w1 hw hP2 hD2 hS => ?_)
  obtain ⟨a, ea, rfl⟩ := hw
  subst ea
  have hP : va_P G.1 vwCl [wcA a 0, wcS a 0, wcI G (a 2) 6 (fun _ => 0), wcI G (a 3) 20 (fun _ => 0), wcI G (a 4) 20 (fun _ => 0), wcI G (a 5) 20 (fun _ => 0), wcI G (a 6) 20 (fun _ => 0), wcR a 0 0 0 0, wcZ G (a 8) 7 (fun _ => 0), wcZ G (a 9) 4 (fun _ => 0), wcI G (a 10) 6 (fun _ => 0), wcO a 0 0, wcI G (a 12) 30 (fun _ => 0), wcI G (a 13) 30 (fun _ => 0), wcZ G (a 14) 30 (fun _ => 0)] H := hP2
  have hD : va_D (fun q : Nat => s.heap.size ≤ q) [wcA a 0, wcS a 0, wcI G (a 2) 6 (fun _ => 0), wcI G (a 3) 20 (fun _ => 0), wcI G (a 4) 20 (fun _ => 0), wcI G (a 5) 20 (fun _ => 0), wcI G (a 6) 20 (fun _ => 0), wcR a 0 0 0 0, wcZ G (a 8) 7 (fun _ => 0), wcZ G (a 9) 4 (fun _ => 0), wcI G (a 10) 6 (fun _ => 0), wcO a 0 0, wcI G (a 12) 30 (fun _ => 0), wcI G (a 13) 30 (fun _ => 0), wcZ G (a 14) 30 (fun _ => 0)] := hD2
  refine W.widen (k := 15) (n := 215) (by decide) (by decide) ?_
  refine lv_astore_n (lv' := [(1, .ref (a 0)), (0, .ref b)]) hx hb dL_law_7 rfl hl (by decide) rfl (fun ls hl => ?_)
  refine va_new (ci := 4) (fs := [.int 0, .int 0, .null, .int 0, .null, .null, .null, .null, .int 0, .int 0, .int 0, .int 0, .null, .null, .int 0, .null, .null, .null, .int 0]) (C := RX4) (T := TX4) (N := 19) hx hb hts inlX4 tyX4 tyX4_ok hown (hts (.classLink RL 70 RX4) (by decide +kernel)) (hts (.instantiable RX4 19) (by decide +kernel)) (hts (.initialized RX4) (by decide +kernel)) hE.1 hP hD hS hA rfl (fun j hj => by rcases (show j = 0 ∨ j = 1 ∨ j = 2 ∨ j = 3 ∨ j = 4 ∨ j = 5 ∨ j = 6 ∨ j = 7 ∨ j = 8 ∨ j = 9 ∨ j = 10 ∨ j = 11 ∨ j = 12 ∨ j = 13 ∨ j = 14 ∨ j = 15 ∨ j = 16 ∨ j = 17 ∨ j = 18 by omega) with rfl | rfl | rfl | rfl | rfl | rfl | rfl | rfl | rfl | rfl | rfl | rfl | rfl | rfl | rfl | rfl | rfl | rfl | rfl <;> rfl) (Nat.le_of_ble_eq_true rfl) (Nat.le_of_ble_eq_true rfl) dL_law_8 (fun q2 H hP hD hS => ?_)
  have hP : va_P G.1 vwCl [wcA a 0, wcS a 0, wcI G (a 2) 6 (fun _ => 0), wcI G (a 3) 20 (fun _ => 0), wcI G (a 4) 20 (fun _ => 0), wcI G (a 5) 20 (fun _ => 0), wcI G (a 6) 20 (fun _ => 0), wcR a 0 0 0 0, wcZ G (a 8) 7 (fun _ => 0), wcZ G (a 9) 4 (fun _ => 0), wcI G (a 10) 6 (fun _ => 0), wcO a 0 0, wcI G (a 12) 30 (fun _ => 0), wcI G (a 13) 30 (fun _ => 0), wcZ G (a 14) 30 (fun _ => 0), (q2, .inr (4, [.int 0, .int 0, .null, .int 0, .null, .null, .null, .null, .int 0, .int 0, .int 0, .int 0, .null, .null, .int 0, .null, .null, .null, .int 0]))] H := hP
  have hD : va_D (fun q : Nat => s.heap.size ≤ q) [wcA a 0, wcS a 0, wcI G (a 2) 6 (fun _ => 0), wcI G (a 3) 20 (fun _ => 0), wcI G (a 4) 20 (fun _ => 0), wcI G (a 5) 20 (fun _ => 0), wcI G (a 6) 20 (fun _ => 0), wcR a 0 0 0 0, wcZ G (a 8) 7 (fun _ => 0), wcZ G (a 9) 4 (fun _ => 0), wcI G (a 10) 6 (fun _ => 0), wcO a 0 0, wcI G (a 12) 30 (fun _ => 0), wcI G (a 13) 30 (fun _ => 0), wcZ G (a 14) 30 (fun _ => 0), (q2, .inr (4, [.int 0, .int 0, .null, .int 0, .null, .null, .null, .null, .int 0, .int 0, .int 0, .int 0, .null, .null, .int 0, .null, .null, .null, .int 0]))] := hD
  refine W.widen (k := 16) (n := 234) (by decide) (by decide) ?_
  refine lv_dup hx hb dL_law_11 rfl ?_
  refine k_i (wc := [(q2, .inr (4, [.int 0, .int 0, .null, .int 0, .null, .null, .null, .null, .int 0, .int 0, .int 0, .int 0, .null, .null, .int 0, .null, .null, .null, .int 0]))]) (wr := [wcA a 0, wcS a 0, wcI G (a 2) 6 (fun _ => 0), wcI G (a 3) 20 (fun _ => 0), wcI G (a 4) 20 (fun _ => 0), wcI G (a 5) 20 (fun _ => 0), wcI G (a 6) 20 (fun _ => 0), wcR a 0 0 0 0, wcZ G (a 8) 7 (fun _ => 0), wcZ G (a 9) 4 (fun _ => 0), wcI G (a 10) 6 (fun _ => 0), wcO a 0 0, wcI G (a 12) 30 (fun _ => 0), wcI G (a 13) 30 (fun _ => 0), wcZ G (a 14) 30 (fun _ => 0)]) (va_runI (As := []) (rest := [.ref q2]) ⟨hx, hb, hml, hown, hts⟩ (c_X4_init l G q2 H.size) (cwI 0 hts gL_law_X4_init rfl rfl rfl (hts (.initialized RX4) (by decide +kernel)) (hts (.methodLink RL 72 yX4_init) (by decide +kernel)) (hts (.instanceMethod yX4_init) (by decide +kernel)) rfl (by decide +kernel) ⟨Nat.le_of_ble_eq_true rfl, Nat.le_of_ble_eq_true rfl⟩) ⟨GP.blind, GP.go (wc := [(q2, .inr (4, [.int 0, .int 0, .null, .int 0, .null, .null, .null, .null, .int 0, .int 0, .int 0, .int 0, .null, .null, .int 0, .null, .null, .null, .int 0]))]) hE hZ hP hD hS hA [15] rfl (by decide) [.ref q2]⟩ rfl rfl hl.1 rfl (lv_room (Nat.le_of_ble_eq_true rfl)) dL_law_12 ⟨Nat.le_of_ble_eq_true rfl, Nat.le_of_ble_eq_true rfl⟩) hP hD hS hA [15] [0, 1, 2, 3, 4, 5, 6, 7, 8, 9, 10, 11, 12, 13, 14] rfl rfl (by decide) (by decide) (fun H locs w1 hw hP2 hD2 hS => ?_)
  obtain ⟨mb, eb, rfl⟩ := init_M hw
  subst eb
  have hP : va_P G.1 vwCl [wcA a 0, wcS a 0, wcI G (a 2) 6 (fun _ => 0), wcI G (a 3) 20 (fun _ => 0), wcI G (a 4) 20 (fun _ => 0), wcI G (a 5) 20 (fun _ => 0), wcI G (a 6) 20 (fun _ => 0), wcR a 0 0 0 0, wcZ G (a 8) 7 (fun _ => 0), wcZ G (a 9) 4 (fun _ => 0), wcI G (a 10) 6 (fun _ => 0), wcO a 0 0, wcI G (a 12) 30 (fun _ => 0), wcI G (a 13) 30 (fun _ => 0), wcZ G (a 14) 30 (fun _ => 0), wcM mb 0 0 0 0 0 0 0 0 0, wcI G (mb 1) 6 (fun _ => 0), wcI G (mb 2) 20 (fun _ => 0), wcI G (mb 3) 20 (fun _ => 0), wcI G (mb 4) 20 (fun _ => 0), wcI G (mb 5) 36 (fun _ => 0), wcZ G (mb 6) 7 (fun _ => 0), wcZ G (mb 7) 4 (fun _ => 0), wcI G (mb 8) 30 (fun _ => 0), wcI G (mb 9) 30 (fun _ => 0), wcZ G (mb 10) 30 (fun _ => 0)] H := hP2
  have hD : va_D (fun q : Nat => s.heap.size ≤ q) [wcA a 0, wcS a 0, wcI G (a 2) 6 (fun _ => 0), wcI G (a 3) 20 (fun _ => 0), wcI G (a 4) 20 (fun _ => 0), wcI G (a 5) 20 (fun _ => 0), wcI G (a 6) 20 (fun _ => 0), wcR a 0 0 0 0, wcZ G (a 8) 7 (fun _ => 0), wcZ G (a 9) 4 (fun _ => 0), wcI G (a 10) 6 (fun _ => 0), wcO a 0 0, wcI G (a 12) 30 (fun _ => 0), wcI G (a 13) 30 (fun _ => 0), wcZ G (a 14) 30 (fun _ => 0), wcM mb 0 0 0 0 0 0 0 0 0, wcI G (mb 1) 6 (fun _ => 0), wcI G (mb 2) 20 (fun _ => 0), wcI G (mb 3) 20 (fun _ => 0), wcI G (mb 4) 20 (fun _ => 0), wcI G (mb 5) 36 (fun _ => 0), wcZ G (mb 6) 7 (fun _ => 0), wcZ G (mb 7) 4 (fun _ => 0), wcI G (mb 8) 30 (fun _ => 0), wcI G (mb 9) 30 (fun _ => 0), wcZ G (mb 10) 30 (fun _ => 0)] := hD2
  refine W.widen (k := 26) (n := 437) (by decide) (by decide) ?_
  refine lv_astore_n (lv' := [(2, .ref (mb 0)), (1, .ref (a 0)), (0, .ref b)]) hx hb dL_law_15 rfl hl (by decide) rfl (fun ls hl => ?_)
  refine lv_iconst (v := 1) hx hb dL_law_16 (by decide) ?_
  refine k_newa (atype := .long) (ty := .long) (c0 := G.2.2.2) (a0 := (1, .inr (.inl (fun _ => 0)))) (N' := 1) hx hb (hts (.arrayClass .long) (by decide +kernel)) rfl hE 2 rfl ra_long hP hD hS hA (fun _ => rfl) (by decide) rfl (by decide) (Nat.le_of_ble_eq_true rfl) (Nat.le_of_ble_eq_true rfl) dL_law_17 (fun qo H hP hD hS => ?_)
  have hP : va_P G.1 vwCl (LW G a mb qo 0 0 (fun _ => 0) (fun _ => 0) (fun _ => 0) (fun _ => 0) (fun _ => 0) 0 0 0 0 (fun _ => 0) (fun _ => 0) (fun _ => 0) 0 0 (fun _ => 0) (fun _ => 0) (fun _ => 0) (fun _ => 0) 0 0 (fun _ => 0)) H := hP
  have hD : va_D (fun q : Nat => s.heap.size ≤ q) (LW G a mb qo 0 0 (fun _ => 0) (fun _ => 0) (fun _ => 0) (fun _ => 0) (fun _ => 0) 0 0 0 0 (fun _ => 0) (fun _ => 0) (fun _ => 0) 0 0 (fun _ => 0) (fun _ => 0) (fun _ => 0) (fun _ => 0) 0 0 (fun _ => 0)) := hD
  refine lv_astore_n (lv' := [(3, .ref qo), (2, .ref (mb 0)), (1, .ref (a 0)), (0, .ref b)]) hx hb dL_law_19 rfl hl (by decide) rfl (fun ls hl => ?_)
  refine lv_iconst (v := 0) hx hb dL_law_20 (by decide) ?_
  refine lv_istore (lv' := [(4, .int 0), (3, .ref qo), (2, .ref (mb 0)), (1, .ref (a 0)), (0, .ref b)]) hx hb dL_law_21 hl (by decide) rfl (fun ls hl => ?_)
  refine W.widen (k := 27 + 0) (n := 438 + 6 * 0) (by decide) (by decide) ?_
  exact law_loop hl9 hx hb hr hlocks hml hown hts hE hZ hX hbl hL (L + 1) 0 0 0 (fun _ => 0) (fun _ => 0) (fun _ => 0) (fun _ => 0) (fun _ => 0) 0 0 0 0 (fun _ => 0) (fun _ => 0) (fun _ => 0) 0 0 (fun _ => 0) (fun _ => 0) (fun _ => 0) (fun _ => 0) 0 0 (fun _ => 0) H locs ls (by omega) (Nat.zero_le L) CI0 hP hD hS (lv_sub hl [0, 4, 3, 2, 1] rfl)
