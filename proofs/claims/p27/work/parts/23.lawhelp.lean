/-! the law's own methods: cell, low, areBoxes, isOpen -/
section TOPS
variable {p : Program} {l : Launch} {e : Env} {R : Room} {s : State} {m : MethodId} {args : Array Value} {below : List Frame} {meth : Method} {c : Code} {H H0 : Heap} {locs : List Loc} {cells slots : Nat} {Q : State → Prop} {pc : Nat} {ls : Array Slot} {rest st0 : List Value} {a : Array Value}
/-- the number on top by another name -/
theorem k_top {x y : Int32} (h : x = y) (k : W p l e R s m args below meth c H locs cells slots Q (F0 m pc ls (.int y :: rest))) : W p l e R s m args below meth c H locs cells slots Q (F0 m pc ls (.int x :: rest)) := by
  rw [h]; exact k
/-- some number, the heap as it was -/
def PQe : Array Value → State → Outcome → State → Prop := fun _ st o t => (∃ v : Int32, o = .returned (some (.int v))) ∧ t.heap = st.heap
/-- some number below N, the heap as it was -/
def PQl (N : Nat) : Array Value → State → Outcome → State → Prop := fun _ st o t => (∃ v : Nat, v < N ∧ o = .returned (some (.int (nI v)))) ∧ t.heap = st.heap
theorem k_pe (hr : va_Run p l e R s m args below meth c H locs cells slots 0 0 (F0 m pc ls st0) rest (PQe a) (fun _ => False))
    (kk : ∀ v : Int32, W p l e R s m args below meth c H locs cells slots Q (F0 m (pc + 3) ls (.int v :: rest))) : W p l e R s m args below meth c H locs cells slots Q (F0 m pc ls st0) := by
  intro T hT X
  obtain ⟨v, st₀, t, T', L, h0, X', hL, e1, -, ⟨⟨v', hv⟩, hh⟩, st⟩ := hr T hT X
  cases hv
  obtain ⟨t2, a1, b1⟩ := kk v' T' (by rw [e1, hh, h0]) (Stand.forget X' (fun q h => (hL q h).elim))
  exact ⟨t2, st t2 a1, b1⟩
theorem k_pl {N : Nat} (hr : va_Run p l e R s m args below meth c H locs cells slots 0 0 (F0 m pc ls st0) rest (PQl N a) (fun _ => False))
    (kk : ∀ v : Nat, v < N → W p l e R s m args below meth c H locs cells slots Q (F0 m (pc + 3) ls (.int (nI v) :: rest))) : W p l e R s m args below meth c H locs cells slots Q (F0 m pc ls st0) := by
  intro T hT X
  obtain ⟨v, st₀, t, T', L, h0, X', hL, e1, -, ⟨⟨v', hlt, hv⟩, hh⟩, st⟩ := hr T hT X
  cases hv
  obtain ⟨t2, a1, b1⟩ := kk v' hlt T' (by rw [e1, hh, h0]) (Stand.forget X' (fun q h => (hL q h).elim))
  exact ⟨t2, st t2 a1, b1⟩
end TOPS
/-- a start that is given the script, too -/
def GPX (G : GT) (av : List Value) (sz b L : Nat) (xs : Nat → Int32) : Array Value → State → Prop := fun a U => GP G av [] sz a U ∧ va_X b L xs U U.heap ∧ b < U.heap.size
theorem GPX.blind {G : GT} {av : List Value} {sz b L : Nat} {xs : Nat → Int32} : FrameBlind (GPX G av sz b L xs) := fun a U x y h =>
  ⟨GP.blind a U x y h.1, va_X.moved (u := U) (Vm.Alike.refl U.vm) h.2.1, h.2.2⟩
theorem GPX.go {G : GT} {A : Nat → Prop} {s : State} {H : Heap} {locs : List Loc} {ws : va_W} {b L : Nat} {xs : Nat → Int32} (hE : Ev G s) (hX : va_X b L xs s s.heap) (hbl : b < s.heap.size) (hbA : ¬ A b) (hP : va_P G.1 vwCl ws H) (hD : va_D A ws) (hS : va_S A s.heap H locs) (hA : ∀ q, s.heap.size ≤ q → A q) (av : List Value) :
    ∀ U : State, U.heap = H → s.WarmedH U.vm → GPX G av H.size b L xs av.toArray U := by
  intro U hU hW
  refine ⟨GP.go (wc := []) hE hP hD hS hA [] rfl rfl av U hU hW, ?_, ?_⟩
  · rw [hU]; exact va_X.moved hW.alike (hX.kept (hS.2.1 b hbl hbA))
  · rw [hU]; exact Nat.lt_of_lt_of_le hbl hS.1
theorem bodyMX {l : Launch} {y : MethodName} {ws ws' : List Cond} {rm : Room} {mc ms sz : Nat} {free : Addr → Prop} {cc : ByteArray} {maxL : Nat} {ret : Option FieldType} {G : GT} {av : List Value} {b L : Nat} {xs : Nat → Int32} {Qc : Array Value → State → Outcome → State → Prop} (hy : plainName y.cls = true) (hw : ws = Cond.code y cc maxL ret :: ws') (hn : (lg_sl av).length ≤ maxL)
    (body : ∀ p e s m below meth c ls, Bx G p s m av meth c cc maxL ret y.cls ws [] sz ls → va_X b L xs s s.heap → b < s.heap.size → W p l e rm s m av.toArray below meth c s.heap [] 0 0 (MQ below Qc av.toArray s mc ms free) (F0 m 0 ls [])) : Met l y ws rm (GPX G av sz b L xs) Qc mc ms free := by
  refine Met.ofW (cc := cc) (maxL := maxL) (ret := ret) hy hw ?_
  intro p e s m args below meth c s₁ B hml hv
  obtain ⟨⟨rfl, hsz, hP, hE, hD0⟩, hX, hbl⟩ := hv
  have hl := lv_entry av (n := maxL) hn
  rw [lg_entry_eq]
  exact body p e s m below meth c _ ⟨B.exec, B.bytes, B.returns, atoms_spec (ws := ws) B.pre, findClass_of_methodNamed B.named, B.notSynchronized, hml, hsz.symm, hP, hE, hD0.self, fun _ h => Or.inr h, va_S.rf, hl⟩ hX hbl
set_option maxHeartbeats 4000000 in
set_option maxRecDepth 100000 in
theorem c_L_cell (l : Launch) (G : GT) (bs : Nat) (k len : Nat) (xs : Nat → Int32) (sz : Nat) (hlen : len ≤ 260) (hk : k < 2 ^ 31) : Met l yL_cell wsL_cell ({ frames := 0, cells := 0, slots := 0, locals := 0 }) (GPX G [.ref bs, .int (nI k)] sz bs len xs) PQe 0 0 (fun _ => False) := by
  refine bodyMX (cc := cL_cell) (maxL := 2) (ret := (some .int)) (by decide) rfl (Nat.le_of_ble_eq_true rfl) ?_
  intro p e s m below meth c ls C hX hbl
  obtain ⟨hx, hb, hr, hts, hown, hlocks, hml, hsz, hP, hE, hD, hA, hS, hl⟩ := C
  have hbA : ¬ va_A [] s.heap.size bs := fun z => by
    rcases z with ⟨k2, e2, h⟩ | h
    · simp at h
    · exact absurd h (Nat.not_le.mpr hbl)
  have hl : lv_has ls 2 [(0, .ref bs), (1, .int (nI k))] := hl
  refine lv_iload_n hx hb dL_cell_0 rfl (lv_at hl 1 rfl) ?_
  refine lv_aload_n hx hb dL_cell_1 rfl (lv_at hl 0 rfl) ?_
  refine va_slen hx hb hX hbl hbA hS dL_cell_2 ?_
  refine lv_icmp_ge (tgt := 12) hx hb dL_cell_3 (by decide) (fun c_3 => ?_) (fun c_3 => ?_)
  · refine lv_sipush (v := 7919) hx hb dL_cell_12 (by decide) ?_
    refine lv_iload_n hx hb dL_cell_15 rfl (lv_at hl 1 rfl) ?_
    refine lv_iconst (v := 3) hx hb dL_cell_16 (by decide) ?_
    refine lv_iadd hx hb dL_cell_17 ?_
    refine lv_imul hx hb dL_cell_18 ?_
    refine lv_iload_n hx hb dL_cell_19 rfl (lv_at hl 1 rfl) ?_
    refine lv_bipush (v := 11) hx hb dL_cell_20 (by decide) ?_
    refine lv_iadd hx hb dL_cell_22 ?_
    refine lv_imul hx hb dL_cell_23 ?_
    exact W.iret hx hb hr (fun t ht _ => ⟨⟨_, rfl⟩, ht⟩) (fun _ h => nomatch h) dL_cell_24
  · have hkl : k < len := Nat.not_le.mp fun z => c_3 (nI_le (a := len) (b := k) z hk)
    refine lv_aload_n hx hb dL_cell_6 rfl (lv_at hl 0 rfl) ?_
    refine lv_iload_n hx hb dL_cell_7 rfl (lv_at hl 1 rfl) ?_
    refine va_sld hx hb hX hbl hbA hS (vp_in_nI hkl (by omega)) dL_cell_8 ?_
    refine lv_goto (tgt := 24) hx hb dL_cell_9 (by decide) ?_
    exact W.iret hx hb hr (fun t ht _ => ⟨⟨_, rfl⟩, ht⟩) (fun _ h => nomatch h) dL_cell_24
set_option maxHeartbeats 4000000 in
set_option maxRecDepth 100000 in
theorem c_L_low (l : Launch) (G : GT) (sz : Nat) (v p1 : Int32) (N : Nat) (hp1 : p1 = nI N) (hN0 : 0 < N) (hN : N < 2 ^ 31) : Met l yL_low wsL_low ({ frames := 0, cells := 0, slots := 0, locals := 0 }) (GP G [.int v, .int p1] [] sz) (PQl N) 0 0 (fun _ => False) := by
  refine bodyM (cc := cL_low) (maxL := 2) (ret := (some .int)) (by decide) rfl (Nat.le_of_ble_eq_true rfl) ?_
  intro p e s m below meth c ls C
  obtain ⟨hx, hb, hr, hts, hown, hlocks, hml, hsz, hP, hE, hD, hA, hS, hl⟩ := C
  subst hp1
  have hl : lv_has ls 2 [(0, .int v), (1, .int (nI N))] := hl
  refine lv_iload_n hx hb dL_low_0 rfl (lv_at hl 0 rfl) ?_
  refine lv_ldc (v := 2147483647) hx hb hown (hts (.constant RL 7 2147483647) (by decide +kernel)) dL_low_1 ?_
  refine lv_iand hx hb dL_low_3 ?_
  refine lv_iload_n hx hb dL_low_4 rfl (lv_at hl 1 rfl) ?_
  refine lv_irem hx hb dL_low_5 (nI_ne0 hN0 hN) ?_
  refine k_top (y := nI (lowN v N)) (low_eq v hN0 hN) ?_
  exact W.iret hx hb hr (fun t ht _ => ⟨⟨lowN v N, lowN_lt v hN0, rfl⟩, ht⟩) (fun _ h => nomatch h) dL_low_6
theorem spotLaw {s p : Nat} (hs : s < 6) (hp : p < 6) : ((100 * nI s) + (10 * (nI p / 3))) + (nI p - nI p / 3 * 3) = nI (TT (6 * s + p)) := by
  have e1 : nI p / 3 = nI (p / 3) := pk_div (d := 3) (by omega) (by decide) (by decide)
  have e2 : nI p - nI p / 3 * 3 = nI (p % 3) := pk_rem (d := 3) (by omega) (by decide) (by decide)
  have e3 := spotAtT hs hp
  rw [f_X3_spotAt] at e3
  rw [e2, e1]
  exact e3
set_option maxHeartbeats 8000000 in
set_option maxRecDepth 100000 in
theorem c_L_areBoxes (l : Launch) (hl9 : l.stackTraces = false) (G : GT) (a q : Nat → Nat) (sz : Nat) (ck : Int32) (n : Nat) (sc cl wt sp mli : Nat → Int32) (hn : n ≤ 20) (hR : RS n sp mli) : Met l yL_areBoxes wsL_areBoxes ({ frames := 6, cells := 0, slots := 0, locals := 130 }) (GP G [.ref (a 0), .ref (q 0), .ref (q 1), .ref (q 2), .int (nI n)] [wcA a ck, wcS a (nI n), wcI G (a 2) 6 sc, wcI G (a 3) 20 cl, wcI G (a 4) 20 wt, wcI G (a 6) 20 sp, wcI G (q 0) 20 cl, wcI G (q 1) 20 wt, wcI G (q 2) 6 sc] sz) (PQo (.returned (some (.int 1)))) 0 0 (fun _ => False) := by
  refine bodyM (cc := cL_areBoxes) (maxL := 13) (ret := (some .boolean)) (by decide) rfl (Nat.le_of_ble_eq_true rfl) ?_
  intro p e s m below meth c ls C
  obtain ⟨hx, hb, hr, hts, hown, hlocks, hml, hsz, hP, hE, hD, hA, hS, hl⟩ := C
  subst hsz
  have hl : lv_has ls 13 [(0, .ref (a 0)), (1, .ref (q 0)), (2, .ref (q 1)), (3, .ref (q 2)), (4, .int (nI n))] := hl
  have tail : ∀ (r b : Nat) (ls : Array Slot), b + r = n → lv_has ls 13 [(8, .int (nI b)), (5, .int (sumN (qL mli) 36 - sumN (fun b => if sp b = -1 then (0 : Int32) else 1) b)), (6, .int (sumN (qC mli cl sc) 36)), (7, .int 1), (0, .ref (a 0)), (1, .ref (q 0)), (2, .ref (q 1)), (3, .ref (q 2)), (4, .int (nI n))] → W p l e ({ frames := 6, cells := 0, slots := 0, locals := 130 }) s m ([.ref (a 0), .ref (q 0), .ref (q 1), .ref (q 2), .int (nI n)] : List Value).toArray below meth c s.heap [] 0 0 (MQ below (PQo (.returned (some (.int 1)))) ([.ref (a 0), .ref (q 0), .ref (q 1), .ref (q 2), .int (nI n)] : List Value).toArray s 0 0 (fun _ => False)) (F0 m 171 ls []) := by
    intro r
    induction r with
    | zero =>
      intro b ls hbr hl
      obtain rfl : n = b := by omega
      refine lv_iload hx hb dL_areBoxes_171 (lv_at hl 0 rfl) ?_
      refine lv_iload hx hb dL_areBoxes_173 (lv_at hl 8 rfl) ?_
      have k_175 : (nI n) ≤ (nI n) := Int32.le_refl _
      refine lv_icmp_ge (tgt := 203) hx hb dL_areBoxes_175 (by decide) (fun c_175 => ?_) (fun c_175 => absurd k_175 c_175)
      refine lv_iload hx hb dL_areBoxes_203 (lv_at hl 3 rfl) ?_
      have k_205 : ¬ ((1 : Int32) = (0 : Int32)) := by decide
      refine lv_if_eq (tgt := 226) hx hb dL_areBoxes_205 (by decide) (fun c_205 => absurd c_205 k_205) (fun c_205 => ?_)
      refine lv_iload hx hb dL_areBoxes_208 (lv_at hl 1 rfl) ?_
      refine k_top (y := 0) (by rw [lies_rows hR hn]; exact Int32.sub_self _) ?_
      have k_210 : (0 : Int32) = (0 : Int32) := by decide
      refine lv_if_ne (tgt := 226) hx hb dL_areBoxes_210 (by decide) (fun c_210 => absurd k_210 c_210) (fun c_210 => ?_)
      refine lv_aload_n hx hb dL_areBoxes_213 rfl (lv_at hl 4 rfl) ?_
      refine k_p (va_runV (As := []) (rest := []) ⟨hx, hb, hml, hown, hts⟩ (c_X3_wrong l G a s.heap.size ck (nI n) sc cl sp ⟨n, hn, rfl⟩) (cwV 0 hts gL_areBoxes_X3_wrong rfl rfl rfl ⟨rfl, by decide +kernel, by decide +kernel, by decide +kernel⟩ ⟨Nat.le_of_ble_eq_true rfl, Nat.le_of_ble_eq_true rfl⟩) ⟨GP.blind, va_recv hE.1 hP (ci := 3) (q0 := 0) rfl rfl, GP.go (wc := [wcA a ck, wcS a (nI n), wcI G (a 2) 6 sc, wcI G (a 3) 20 cl, wcI G (a 6) 20 sp]) hE hP hD hS hA [0, 1, 2, 3, 5] rfl (by decide) [.ref (a 0)]⟩ rfl rfl hl.1 rfl (lv_room (Nat.le_of_ble_eq_true rfl)) dL_areBoxes_214 ⟨Nat.le_of_ble_eq_true rfl, Nat.le_of_ble_eq_true rfl⟩) ?_
      refine k_top (y := sumN (qC mli cl sc) 36) (by rw [f_X3_wrong]; exact wrong_rows hR hn sc cl) ?_
      refine lv_iload hx hb dL_areBoxes_217 (lv_at hl 2 rfl) ?_
      have k_219 : (sumN (qC mli cl sc) 36) = (sumN (qC mli cl sc) 36) := rfl
      refine lv_icmp_ne (tgt := 226) hx hb dL_areBoxes_219 (by decide) (fun c_219 => absurd k_219 c_219) (fun c_219 => ?_)
      refine lv_iconst (v := 1) hx hb dL_areBoxes_222 (by decide) ?_
      refine lv_goto (tgt := 227) hx hb dL_areBoxes_223 (by decide) ?_
      exact W.zret (v := 1) hx hb hr rfl (fun t ht _ => ⟨rfl, ht⟩) (fun _ h => nomatch h) dL_areBoxes_227
    | succ r ih =>
      intro b ls hbr hl
      refine lv_iload hx hb dL_areBoxes_171 (lv_at hl 0 rfl) ?_
      refine lv_iload hx hb dL_areBoxes_173 (lv_at hl 8 rfl) ?_
      have k_175 : ¬ ((nI n) ≤ (nI b)) := nI_ge (by omega) (by omega)
      refine lv_icmp_ge (tgt := 203) hx hb dL_areBoxes_175 (by decide) (fun c_175 => absurd c_175 k_175) (fun c_175 => ?_)
      refine lv_iload hx hb dL_areBoxes_178 (lv_at hl 1 rfl) ?_
      refine lv_aload_n hx hb dL_areBoxes_180 rfl (lv_at hl 4 rfl) ?_
      refine lv_iload hx hb dL_areBoxes_181 (lv_at hl 0 rfl) ?_
      have kk_183 : k_X3_spotOf (nI n) (nI b) = 0 := k_spotOf hn (by omega)
      refine k_p (va_runV (As := [.int (nI b)]) (rest := [.int (sumN (qL mli) 36 - sumN (fun b => if sp b = -1 then (0 : Int32) else 1) b)]) ⟨hx, hb, hml, hown, hts⟩ (c_X3_spotOf l hl9 G a s.heap.size ck (nI n) sp (nI b) ⟨n, hn, rfl⟩ kk_183) (cwV 1 hts gL_areBoxes_X3_spotOf rfl rfl rfl ⟨rfl, by decide +kernel, by decide +kernel, by decide +kernel⟩ ⟨Nat.le_of_ble_eq_true rfl, Nat.le_of_ble_eq_true rfl⟩) ⟨GP.blind, va_recv hE.1 hP (ci := 3) (q0 := 0) rfl rfl, GP.go (wc := [wcA a ck, wcS a (nI n), wcI G (a 6) 20 sp]) hE hP hD hS hA [0, 1, 5] rfl (by decide) [.ref (a 0), .int (nI b)]⟩ rfl rfl hl.1 rfl (lv_room (Nat.le_of_ble_eq_true rfl)) dL_areBoxes_183 ⟨Nat.le_of_ble_eq_true rfl, Nat.le_of_ble_eq_true rfl⟩) ?_
      refine k_top (y := sp b) (spotOf_eq hn (by omega)) ?_
      rcases sp_neg hR (b := b) (by omega) with ⟨es, el⟩ | ⟨k, hk, es, el⟩
      · have k_186 : (sp b) < (0 : Int32) := el
        refine lv_if_lt (tgt := 193) hx hb dL_areBoxes_186 (by decide) (fun c_186 => ?_) (fun c_186 => absurd k_186 c_186)
        refine lv_iconst (v := 0) hx hb dL_areBoxes_193 (by decide) ?_
        refine lv_isub hx hb dL_areBoxes_194 ?_
        refine lv_istore (lv' := [(5, .int ((sumN (qL mli) 36 - sumN (fun b => if sp b = -1 then (0 : Int32) else 1) b) - 0)), (8, .int (nI b)), (6, .int (sumN (qC mli cl sc) 36)), (7, .int 1), (0, .ref (a 0)), (1, .ref (q 0)), (2, .ref (q 1)), (3, .ref (q 2)), (4, .int (nI n))]) hx hb dL_areBoxes_195 hl (by decide) rfl (fun ls hl => ?_)
        refine lv_iinc (v := nI (b + 1)) (lv' := [(8, .int (nI (b + 1))), (5, .int ((sumN (qL mli) 36 - sumN (fun b => if sp b = -1 then (0 : Int32) else 1) b) - 0)), (6, .int (sumN (qC mli cl sc) 36)), (7, .int 1), (0, .ref (a 0)), (1, .ref (q 0)), (2, .ref (q 1)), (3, .ref (q 2)), (4, .int (nI n))]) hx hb dL_areBoxes_197 hl (k := 1) rfl (inc1 _) (by decide) rfl (fun ls hl => ?_)
        refine lv_goto (tgt := 171) hx hb dL_areBoxes_200 (by decide) ?_
        have e5 : (sumN (qL mli) 36 - sumN (fun b => if sp b = -1 then (0 : Int32) else 1) b) - 0 = sumN (qL mli) 36 - sumN (fun b => if sp b = -1 then (0 : Int32) else 1) (b + 1) := by
          rw [sub_sub1]
          congr 1
          show _ = sumN (fun b => if sp b = -1 then (0 : Int32) else 1) b + (if sp b = -1 then (0 : Int32) else 1)
          rw [if_pos es]
        rw [e5] at hl
        exact ih (b + 1) ls (by omega) (lv_sub hl [0, 1, 2, 3, 4, 5, 6, 7, 8] rfl)
      · have k_186 : ¬ ((sp b) < (0 : Int32)) := el
        refine lv_if_lt (tgt := 193) hx hb dL_areBoxes_186 (by decide) (fun c_186 => absurd c_186 k_186) (fun c_186 => ?_)
        refine lv_iconst (v := 1) hx hb dL_areBoxes_189 (by decide) ?_
        refine lv_goto (tgt := 194) hx hb dL_areBoxes_190 (by decide) ?_
        refine lv_isub hx hb dL_areBoxes_194 ?_
        refine lv_istore (lv' := [(5, .int ((sumN (qL mli) 36 - sumN (fun b => if sp b = -1 then (0 : Int32) else 1) b) - 1)), (8, .int (nI b)), (6, .int (sumN (qC mli cl sc) 36)), (7, .int 1), (0, .ref (a 0)), (1, .ref (q 0)), (2, .ref (q 1)), (3, .ref (q 2)), (4, .int (nI n))]) hx hb dL_areBoxes_195 hl (by decide) rfl (fun ls hl => ?_)
        refine lv_iinc (v := nI (b + 1)) (lv' := [(8, .int (nI (b + 1))), (5, .int ((sumN (qL mli) 36 - sumN (fun b => if sp b = -1 then (0 : Int32) else 1) b) - 1)), (6, .int (sumN (qC mli cl sc) 36)), (7, .int 1), (0, .ref (a 0)), (1, .ref (q 0)), (2, .ref (q 1)), (3, .ref (q 2)), (4, .int (nI n))]) hx hb dL_areBoxes_197 hl (k := 1) rfl (inc1 _) (by decide) rfl (fun ls hl => ?_)
        refine lv_goto (tgt := 171) hx hb dL_areBoxes_200 (by decide) ?_
        have e5 : (sumN (qL mli) 36 - sumN (fun b => if sp b = -1 then (0 : Int32) else 1) b) - 1 = sumN (qL mli) 36 - sumN (fun b => if sp b = -1 then (0 : Int32) else 1) (b + 1) := by
          rw [sub_sub1]
          congr 1
          show _ = sumN (fun b => if sp b = -1 then (0 : Int32) else 1) b + (if sp b = -1 then (0 : Int32) else 1)
          rw [if_neg (by rw [es]; exact TT_nm1 hk)]
        rw [e5] at hl
        exact ih (b + 1) ls (by omega) (lv_sub hl [0, 1, 2, 3, 4, 5, 6, 7, 8] rfl)
  have inner : ∀ (k : Nat), k < 6 → (∀ ls : Array Slot, lv_has ls 13 [(9, .int (sumN (fun i => qW mli wt (6 * k + i)) 6)), (5, .int (sumN (qL mli) (6 * k + 6))), (6, .int (sumN (qC mli cl sc) (6 * k + 6))), (7, .int 1), (8, .int (nI k)), (0, .ref (a 0)), (1, .ref (q 0)), (2, .ref (q 1)), (3, .ref (q 2)), (4, .int (nI n))] → W p l e ({ frames := 6, cells := 0, slots := 0, locals := 130 }) s m ([.ref (a 0), .ref (q 0), .ref (q 1), .ref (q 2), .int (nI n)] : List Value).toArray below meth c s.heap [] 0 0 (MQ below (PQo (.returned (some (.int 1)))) ([.ref (a 0), .ref (q 0), .ref (q 1), .ref (q 2), .int (nI n)] : List Value).toArray s 0 0 (fun _ => False)) (F0 m 139 ls [])) → ∀ (r i : Nat) (ls : Array Slot), i + r = 6 → lv_has ls 13 [(10, .int (nI i)), (9, .int (sumN (fun i => qW mli wt (6 * k + i)) i)), (5, .int (sumN (qL mli) (6 * k + i))), (6, .int (sumN (qC mli cl sc) (6 * k + i))), (7, .int 1), (8, .int (nI k)), (0, .ref (a 0)), (1, .ref (q 0)), (2, .ref (q 1)), (3, .ref (q 2)), (4, .int (nI n))] → W p l e ({ frames := 6, cells := 0, slots := 0, locals := 130 }) s m ([.ref (a 0), .ref (q 0), .ref (q 1), .ref (q 2), .int (nI n)] : List Value).toArray below meth c s.heap [] 0 0 (MQ below (PQo (.returned (some (.int 1)))) ([.ref (a 0), .ref (q 0), .ref (q 1), .ref (q 2), .int (nI n)] : List Value).toArray s 0 0 (fun _ => False)) (F0 m 30 ls []) := by
    intro k hk kk r
    induction r with
    | zero =>
      intro i ls hir hl
      obtain rfl : 6 = i := by omega
      refine lv_iload hx hb dL_areBoxes_30 (lv_at hl 0 rfl) ?_
      refine lv_bipush (v := 6) hx hb dL_areBoxes_32 (by decide) ?_
      have k_34 : (6 : Int32) ≤ (nI 6) := nI_le (a := 6) (by omega) (by omega)
      refine lv_icmp_ge (tgt := 139) hx hb dL_areBoxes_34 (by decide) (fun c_34 => ?_) (fun c_34 => absurd k_34 c_34)
      exact kk ls (lv_sub hl [1, 2, 3, 4, 5, 6, 7, 8, 9, 10] rfl)
    | succ r ih =>
      intro i ls hir hl
      refine lv_iload hx hb dL_areBoxes_30 (lv_at hl 0 rfl) ?_
      refine lv_bipush (v := 6) hx hb dL_areBoxes_32 (by decide) ?_
      have k_34 : ¬ ((6 : Int32) ≤ (nI i)) := nI_ge (b := 6) (by omega) (by decide)
      refine lv_icmp_ge (tgt := 139) hx hb dL_areBoxes_34 (by decide) (fun c_34 => absurd c_34 k_34) (fun c_34 => ?_)
      refine lv_iload hx hb dL_areBoxes_37 (lv_at hl 4 rfl) ?_
      have k_39 : ¬ ((1 : Int32) = (0 : Int32)) := by decide
      refine lv_if_eq (tgt := 139) hx hb dL_areBoxes_39 (by decide) (fun c_39 => absurd c_39 k_39) (fun c_39 => ?_)
      refine lv_bipush (v := 100) hx hb dL_areBoxes_42 (by decide) ?_
      refine lv_iload hx hb dL_areBoxes_44 (lv_at hl 5 rfl) ?_
      refine lv_imul hx hb dL_areBoxes_46 ?_
      refine lv_bipush (v := 10) hx hb dL_areBoxes_47 (by decide) ?_
      refine lv_iload hx hb dL_areBoxes_49 (lv_at hl 0 rfl) ?_
      refine lv_iconst (v := 3) hx hb dL_areBoxes_51 (by decide) ?_
      refine lv_idiv hx hb dL_areBoxes_52 (by decide) ?_
      refine lv_imul hx hb dL_areBoxes_53 ?_
      refine lv_iadd hx hb dL_areBoxes_54 ?_
      refine lv_iload hx hb dL_areBoxes_55 (lv_at hl 0 rfl) ?_
      refine lv_iconst (v := 3) hx hb dL_areBoxes_57 (by decide) ?_
      refine lv_irem hx hb dL_areBoxes_58 (by decide) ?_
      refine lv_iadd hx hb dL_areBoxes_59 ?_
      refine k_top (y := nI (TT (6 * k + i))) (spotLaw hk (by omega)) ?_
      refine lv_istore (lv' := [(11, .int (nI (TT (6 * k + i)))), (10, .int (nI i)), (9, .int (sumN (fun i => qW mli wt (6 * k + i)) i)), (5, .int (sumN (qL mli) (6 * k + i))), (6, .int (sumN (qC mli cl sc) (6 * k + i))), (7, .int 1), (8, .int (nI k)), (0, .ref (a 0)), (1, .ref (q 0)), (2, .ref (q 1)), (3, .ref (q 2)), (4, .int (nI n))]) hx hb dL_areBoxes_60 hl (by decide) rfl (fun ls hl => ?_)
      refine lv_aload_n hx hb dL_areBoxes_62 rfl (lv_at hl 7 rfl) ?_
      refine lv_iload hx hb dL_areBoxes_63 (lv_at hl 0 rfl) ?_
      have kk_65 : k_X3_boxAt (nI (TT (6 * k + i))) = 0 := k_boxAt (by omega)
      refine k_p (va_runV (As := [.int (nI (TT (6 * k + i)))]) (rest := []) ⟨hx, hb, hml, hown, hts⟩ (c_X3_boxAt l hl9 G a s.heap.size ck (nI n) sp (nI (TT (6 * k + i))) ⟨n, hn, rfl⟩ kk_65) (cwV 1 hts gL_areBoxes_X3_boxAt rfl rfl rfl ⟨rfl, by decide +kernel, by decide +kernel, by decide +kernel⟩ ⟨Nat.le_of_ble_eq_true rfl, Nat.le_of_ble_eq_true rfl⟩) ⟨GP.blind, va_recv hE.1 hP (ci := 3) (q0 := 0) rfl rfl, GP.go (wc := [wcA a ck, wcS a (nI n), wcI G (a 6) 20 sp]) hE hP hD hS hA [0, 1, 5] rfl (by decide) [.ref (a 0), .int (nI (TT (6 * k + i)))]⟩ rfl rfl hl.1 rfl (lv_room (Nat.le_of_ble_eq_true rfl)) dL_areBoxes_65 ⟨Nat.le_of_ble_eq_true rfl, Nat.le_of_ble_eq_true rfl⟩) ?_
      refine k_top (y := mli (6 * k + i) - 1) (boxAt_eq hR hn (by omega)) ?_
      rcases hR.2.1 (6 * k + i) (by omega) with em | ⟨b, hbn, em⟩
      · refine k_top (y := (-1)) (by rw [em]; decide) ?_
        refine lv_istore (lv' := [(12, .int (-1)), (11, .int (nI (TT (6 * k + i)))), (10, .int (nI i)), (9, .int (sumN (fun i => qW mli wt (6 * k + i)) i)), (5, .int (sumN (qL mli) (6 * k + i))), (6, .int (sumN (qC mli cl sc) (6 * k + i))), (7, .int 1), (8, .int (nI k)), (0, .ref (a 0)), (1, .ref (q 0)), (2, .ref (q 1)), (3, .ref (q 2)), (4, .int (nI n))]) hx hb dL_areBoxes_68 hl (by decide) rfl (fun ls hl => ?_)
        refine lv_iload hx hb dL_areBoxes_70 (lv_at hl 0 rfl) ?_
        have k_72 : ((-1) : Int32) < (0 : Int32) := by decide
        refine lv_if_lt (tgt := 133) hx hb dL_areBoxes_72 (by decide) (fun c_72 => ?_) (fun c_72 => absurd k_72 c_72)
        refine lv_iinc (v := nI (i + 1)) (lv' := [(10, .int (nI (i + 1))), (12, .int (-1)), (11, .int (nI (TT (6 * k + i)))), (9, .int (sumN (fun i => qW mli wt (6 * k + i)) i)), (5, .int (sumN (qL mli) (6 * k + i))), (6, .int (sumN (qC mli cl sc) (6 * k + i))), (7, .int 1), (8, .int (nI k)), (0, .ref (a 0)), (1, .ref (q 0)), (2, .ref (q 1)), (3, .ref (q 2)), (4, .int (nI n))]) hx hb dL_areBoxes_133 hl (k := 2) rfl (inc1 _) (by decide) rfl (fun ls hl => ?_)
        refine lv_goto (tgt := 30) hx hb dL_areBoxes_136 (by decide) ?_
        have e9 : sumN (fun i => qW mli wt (6 * k + i)) i = sumN (fun i => qW mli wt (6 * k + i)) (i + 1) := by
          show _ = sumN (fun i => qW mli wt (6 * k + i)) i + qW mli wt (6 * k + i)
          rw [qW_0 em, Int32.add_zero]
        have e5 : sumN (qL mli) (6 * k + i) = sumN (qL mli) (6 * k + (i + 1)) := by
          show _ = sumN (qL mli) (6 * k + i) + qL mli (6 * k + i)
          rw [qL_0 em, Int32.add_zero]
        have e6 : sumN (qC mli cl sc) (6 * k + i) = sumN (qC mli cl sc) (6 * k + (i + 1)) := by
          show _ = sumN (qC mli cl sc) (6 * k + i) + qC mli cl sc (6 * k + i)
          rw [qC_0 em, Int32.add_zero]
        rw [e9, e5, e6] at hl
        exact ih (i + 1) ls (by omega) (lv_sub hl [0, 3, 4, 5, 6, 7, 8, 9, 10, 11, 12] rfl)
      · refine k_top (y := nI b) (by rw [em, nI_pred]) ?_
        refine lv_istore (lv' := [(12, .int (nI b)), (11, .int (nI (TT (6 * k + i)))), (10, .int (nI i)), (9, .int (sumN (fun i => qW mli wt (6 * k + i)) i)), (5, .int (sumN (qL mli) (6 * k + i))), (6, .int (sumN (qC mli cl sc) (6 * k + i))), (7, .int 1), (8, .int (nI k)), (0, .ref (a 0)), (1, .ref (q 0)), (2, .ref (q 1)), (3, .ref (q 2)), (4, .int (nI n))]) hx hb dL_areBoxes_68 hl (by decide) rfl (fun ls hl => ?_)
        refine lv_iload hx hb dL_areBoxes_70 (lv_at hl 0 rfl) ?_
        have k_72 : ¬ ((nI b) < (0 : Int32)) := nI_pos (by omega)
        refine lv_if_lt (tgt := 133) hx hb dL_areBoxes_72 (by decide) (fun c_72 => absurd c_72 k_72) (fun c_72 => ?_)
        refine lv_iload hx hb dL_areBoxes_75 (lv_at hl 3 rfl) ?_
        refine lv_aload_n hx hb dL_areBoxes_77 rfl (lv_at hl 10 rfl) ?_
        refine lv_iload hx hb dL_areBoxes_78 (lv_at hl 0 rfl) ?_
        refine va_iald hx hb hE.1 hP 7 0 rfl rfl (vp_in_nI (n := b) (by omega) (by decide)) dL_areBoxes_80 ?_
        refine k_top (y := wt b) (congrArg wt (nI_clamp (by omega))) ?_
        refine lv_iadd hx hb dL_areBoxes_81 ?_
        refine lv_istore (lv' := [(9, .int ((sumN (fun i => qW mli wt (6 * k + i)) i) + (wt b))), (12, .int (nI b)), (11, .int (nI (TT (6 * k + i)))), (10, .int (nI i)), (5, .int (sumN (qL mli) (6 * k + i))), (6, .int (sumN (qC mli cl sc) (6 * k + i))), (7, .int 1), (8, .int (nI k)), (0, .ref (a 0)), (1, .ref (q 0)), (2, .ref (q 1)), (3, .ref (q 2)), (4, .int (nI n))]) hx hb dL_areBoxes_82 hl (by decide) rfl (fun ls hl => ?_)
        refine lv_iinc (v := (sumN (qL mli) (6 * k + i)) + 1) (lv' := [(5, .int ((sumN (qL mli) (6 * k + i)) + 1)), (9, .int ((sumN (fun i => qW mli wt (6 * k + i)) i) + (wt b))), (12, .int (nI b)), (11, .int (nI (TT (6 * k + i)))), (10, .int (nI i)), (6, .int (sumN (qC mli cl sc) (6 * k + i))), (7, .int 1), (8, .int (nI k)), (0, .ref (a 0)), (1, .ref (q 0)), (2, .ref (q 1)), (3, .ref (q 2)), (4, .int (nI n))]) hx hb dL_areBoxes_84 hl (k := 4) rfl rfl (by decide) rfl (fun ls hl => ?_)
        refine lv_iload hx hb dL_areBoxes_87 (lv_at hl 5 rfl) ?_
        refine lv_aload_n hx hb dL_areBoxes_89 rfl (lv_at hl 9 rfl) ?_
        refine lv_iload hx hb dL_areBoxes_90 (lv_at hl 2 rfl) ?_
        refine va_iald hx hb hE.1 hP 6 0 rfl rfl (vp_in_nI (n := b) (by omega) (by decide)) dL_areBoxes_92 ?_
        refine k_top (y := cl b) (congrArg cl (nI_clamp (by omega))) ?_
        refine lv_aload_n hx hb dL_areBoxes_93 rfl (lv_at hl 11 rfl) ?_
        refine lv_iload hx hb dL_areBoxes_94 (lv_at hl 7 rfl) ?_
        refine va_iald hx hb hE.1 hP 8 0 rfl rfl (vp_in_nI (n := k) (by omega) (by decide)) dL_areBoxes_96 ?_
        refine k_top (y := sc k) (congrArg sc (nI_clamp (by omega))) ?_
        refine lv_icmp_ne (tgt := 104) hx hb dL_areBoxes_97 (by decide) (fun c_97 => ?_) (fun c_97 => ?_)
        · refine lv_iconst (v := 1) hx hb dL_areBoxes_104 (by decide) ?_
          refine lv_iadd hx hb dL_areBoxes_105 ?_
          refine lv_istore (lv' := [(6, .int ((sumN (qC mli cl sc) (6 * k + i)) + 1)), (5, .int ((sumN (qL mli) (6 * k + i)) + 1)), (9, .int ((sumN (fun i => qW mli wt (6 * k + i)) i) + (wt b))), (12, .int (nI b)), (11, .int (nI (TT (6 * k + i)))), (10, .int (nI i)), (7, .int 1), (8, .int (nI k)), (0, .ref (a 0)), (1, .ref (q 0)), (2, .ref (q 1)), (3, .ref (q 2)), (4, .int (nI n))]) hx hb dL_areBoxes_106 hl (by decide) rfl (fun ls hl => ?_)
          refine lv_iload hx hb dL_areBoxes_108 (lv_at hl 3 rfl) ?_
          refine lv_iload hx hb dL_areBoxes_110 (lv_at hl 12 rfl) ?_
          have k_112 : ¬ ((nI n) ≤ (nI b)) := nI_ge hbn (by omega)
          refine lv_icmp_ge (tgt := 130) hx hb dL_areBoxes_112 (by decide) (fun c_112 => absurd c_112 k_112) (fun c_112 => ?_)
          refine lv_aload_n hx hb dL_areBoxes_115 rfl (lv_at hl 8 rfl) ?_
          refine lv_iload hx hb dL_areBoxes_116 (lv_at hl 3 rfl) ?_
          have kk_118 : k_X3_spotOf (nI n) (nI b) = 0 := k_spotOf hn hbn
          refine k_p (va_runV (As := [.int (nI b)]) (rest := []) ⟨hx, hb, hml, hown, hts⟩ (c_X3_spotOf l hl9 G a s.heap.size ck (nI n) sp (nI b) ⟨n, hn, rfl⟩ kk_118) (cwV 1 hts gL_areBoxes_X3_spotOf rfl rfl rfl ⟨rfl, by decide +kernel, by decide +kernel, by decide +kernel⟩ ⟨Nat.le_of_ble_eq_true rfl, Nat.le_of_ble_eq_true rfl⟩) ⟨GP.blind, va_recv hE.1 hP (ci := 3) (q0 := 0) rfl rfl, GP.go (wc := [wcA a ck, wcS a (nI n), wcI G (a 6) 20 sp]) hE hP hD hS hA [0, 1, 5] rfl (by decide) [.ref (a 0), .int (nI b)]⟩ rfl rfl hl.1 rfl (lv_room (Nat.le_of_ble_eq_true rfl)) dL_areBoxes_118 ⟨Nat.le_of_ble_eq_true rfl, Nat.le_of_ble_eq_true rfl⟩) ?_
          refine k_top (y := nI (TT (6 * k + i))) ((spotOf_eq hn hbn).trans ((hR.2.2 (6 * k + i) b (by omega) hbn).mpr em)) ?_
          refine lv_iload hx hb dL_areBoxes_121 (lv_at hl 4 rfl) ?_
          have k_123 : (nI (TT (6 * k + i))) = (nI (TT (6 * k + i))) := rfl
          refine lv_icmp_ne (tgt := 130) hx hb dL_areBoxes_123 (by decide) (fun c_123 => absurd k_123 c_123) (fun c_123 => ?_)
          refine lv_iconst (v := 1) hx hb dL_areBoxes_126 (by decide) ?_
          refine lv_goto (tgt := 131) hx hb dL_areBoxes_127 (by decide) ?_
          refine lv_istore (lv' := [(7, .int 1), (6, .int ((sumN (qC mli cl sc) (6 * k + i)) + 1)), (5, .int ((sumN (qL mli) (6 * k + i)) + 1)), (9, .int ((sumN (fun i => qW mli wt (6 * k + i)) i) + (wt b))), (12, .int (nI b)), (11, .int (nI (TT (6 * k + i)))), (10, .int (nI i)), (8, .int (nI k)), (0, .ref (a 0)), (1, .ref (q 0)), (2, .ref (q 1)), (3, .ref (q 2)), (4, .int (nI n))]) hx hb dL_areBoxes_131 hl (by decide) rfl (fun ls hl => ?_)
          refine lv_iinc (v := nI (i + 1)) (lv' := [(10, .int (nI (i + 1))), (7, .int 1), (6, .int ((sumN (qC mli cl sc) (6 * k + i)) + 1)), (5, .int ((sumN (qL mli) (6 * k + i)) + 1)), (9, .int ((sumN (fun i => qW mli wt (6 * k + i)) i) + (wt b))), (12, .int (nI b)), (11, .int (nI (TT (6 * k + i)))), (8, .int (nI k)), (0, .ref (a 0)), (1, .ref (q 0)), (2, .ref (q 1)), (3, .ref (q 2)), (4, .int (nI n))]) hx hb dL_areBoxes_133 hl (k := 6) rfl (inc1 _) (by decide) rfl (fun ls hl => ?_)
          refine lv_goto (tgt := 30) hx hb dL_areBoxes_136 (by decide) ?_
          have e9 : (sumN (fun i => qW mli wt (6 * k + i)) i) + (wt b) = sumN (fun i => qW mli wt (6 * k + i)) (i + 1) := by
            show _ = sumN (fun i => qW mli wt (6 * k + i)) i + qW mli wt (6 * k + i)
            rw [qW_1 (by omega) em]
          have e5 : (sumN (qL mli) (6 * k + i)) + 1 = sumN (qL mli) (6 * k + (i + 1)) := by
            show _ = sumN (qL mli) (6 * k + i) + qL mli (6 * k + i)
            rw [qL_1 (by omega) em]
          have e6 : (sumN (qC mli cl sc) (6 * k + i)) + 1 = sumN (qC mli cl sc) (6 * k + (i + 1)) := by
            show _ = sumN (qC mli cl sc) (6 * k + i) + qC mli cl sc (6 * k + i)
            rw [qC_1 (by omega) em, show (6 * k + i) / 6 = k by omega, if_neg c_97]
          rw [e9, e5, e6] at hl
          exact ih (i + 1) ls (by omega) (lv_sub hl [0, 4, 3, 2, 1, 7, 8, 9, 10, 11, 12] rfl)
        · refine lv_iconst (v := 0) hx hb dL_areBoxes_100 (by decide) ?_
          refine lv_goto (tgt := 105) hx hb dL_areBoxes_101 (by decide) ?_
          refine lv_iadd hx hb dL_areBoxes_105 ?_
          refine lv_istore (lv' := [(6, .int ((sumN (qC mli cl sc) (6 * k + i)) + 0)), (5, .int ((sumN (qL mli) (6 * k + i)) + 1)), (9, .int ((sumN (fun i => qW mli wt (6 * k + i)) i) + (wt b))), (12, .int (nI b)), (11, .int (nI (TT (6 * k + i)))), (10, .int (nI i)), (7, .int 1), (8, .int (nI k)), (0, .ref (a 0)), (1, .ref (q 0)), (2, .ref (q 1)), (3, .ref (q 2)), (4, .int (nI n))]) hx hb dL_areBoxes_106 hl (by decide) rfl (fun ls hl => ?_)
          refine lv_iload hx hb dL_areBoxes_108 (lv_at hl 3 rfl) ?_
          refine lv_iload hx hb dL_areBoxes_110 (lv_at hl 12 rfl) ?_
          have k_112 : ¬ ((nI n) ≤ (nI b)) := nI_ge hbn (by omega)
          refine lv_icmp_ge (tgt := 130) hx hb dL_areBoxes_112 (by decide) (fun c_112 => absurd c_112 k_112) (fun c_112 => ?_)
          refine lv_aload_n hx hb dL_areBoxes_115 rfl (lv_at hl 8 rfl) ?_
          refine lv_iload hx hb dL_areBoxes_116 (lv_at hl 3 rfl) ?_
          have kk_118 : k_X3_spotOf (nI n) (nI b) = 0 := k_spotOf hn hbn
          refine k_p (va_runV (As := [.int (nI b)]) (rest := []) ⟨hx, hb, hml, hown, hts⟩ (c_X3_spotOf l hl9 G a s.heap.size ck (nI n) sp (nI b) ⟨n, hn, rfl⟩ kk_118) (cwV 1 hts gL_areBoxes_X3_spotOf rfl rfl rfl ⟨rfl, by decide +kernel, by decide +kernel, by decide +kernel⟩ ⟨Nat.le_of_ble_eq_true rfl, Nat.le_of_ble_eq_true rfl⟩) ⟨GP.blind, va_recv hE.1 hP (ci := 3) (q0 := 0) rfl rfl, GP.go (wc := [wcA a ck, wcS a (nI n), wcI G (a 6) 20 sp]) hE hP hD hS hA [0, 1, 5] rfl (by decide) [.ref (a 0), .int (nI b)]⟩ rfl rfl hl.1 rfl (lv_room (Nat.le_of_ble_eq_true rfl)) dL_areBoxes_118 ⟨Nat.le_of_ble_eq_true rfl, Nat.le_of_ble_eq_true rfl⟩) ?_
          refine k_top (y := nI (TT (6 * k + i))) ((spotOf_eq hn hbn).trans ((hR.2.2 (6 * k + i) b (by omega) hbn).mpr em)) ?_
          refine lv_iload hx hb dL_areBoxes_121 (lv_at hl 4 rfl) ?_
          have k_123 : (nI (TT (6 * k + i))) = (nI (TT (6 * k + i))) := rfl
          refine lv_icmp_ne (tgt := 130) hx hb dL_areBoxes_123 (by decide) (fun c_123 => absurd k_123 c_123) (fun c_123 => ?_)
          refine lv_iconst (v := 1) hx hb dL_areBoxes_126 (by decide) ?_
          refine lv_goto (tgt := 131) hx hb dL_areBoxes_127 (by decide) ?_
          refine lv_istore (lv' := [(7, .int 1), (6, .int ((sumN (qC mli cl sc) (6 * k + i)) + 0)), (5, .int ((sumN (qL mli) (6 * k + i)) + 1)), (9, .int ((sumN (fun i => qW mli wt (6 * k + i)) i) + (wt b))), (12, .int (nI b)), (11, .int (nI (TT (6 * k + i)))), (10, .int (nI i)), (8, .int (nI k)), (0, .ref (a 0)), (1, .ref (q 0)), (2, .ref (q 1)), (3, .ref (q 2)), (4, .int (nI n))]) hx hb dL_areBoxes_131 hl (by decide) rfl (fun ls hl => ?_)
          refine lv_iinc (v := nI (i + 1)) (lv' := [(10, .int (nI (i + 1))), (7, .int 1), (6, .int ((sumN (qC mli cl sc) (6 * k + i)) + 0)), (5, .int ((sumN (qL mli) (6 * k + i)) + 1)), (9, .int ((sumN (fun i => qW mli wt (6 * k + i)) i) + (wt b))), (12, .int (nI b)), (11, .int (nI (TT (6 * k + i)))), (8, .int (nI k)), (0, .ref (a 0)), (1, .ref (q 0)), (2, .ref (q 1)), (3, .ref (q 2)), (4, .int (nI n))]) hx hb dL_areBoxes_133 hl (k := 6) rfl (inc1 _) (by decide) rfl (fun ls hl => ?_)
          refine lv_goto (tgt := 30) hx hb dL_areBoxes_136 (by decide) ?_
          have e9 : (sumN (fun i => qW mli wt (6 * k + i)) i) + (wt b) = sumN (fun i => qW mli wt (6 * k + i)) (i + 1) := by
            show _ = sumN (fun i => qW mli wt (6 * k + i)) i + qW mli wt (6 * k + i)
            rw [qW_1 (by omega) em]
          have e5 : (sumN (qL mli) (6 * k + i)) + 1 = sumN (qL mli) (6 * k + (i + 1)) := by
            show _ = sumN (qL mli) (6 * k + i) + qL mli (6 * k + i)
            rw [qL_1 (by omega) em]
          have e6 : (sumN (qC mli cl sc) (6 * k + i)) + 0 = sumN (qC mli cl sc) (6 * k + (i + 1)) := by
            show _ = sumN (qC mli cl sc) (6 * k + i) + qC mli cl sc (6 * k + i)
            rw [qC_1 (by omega) em, show (6 * k + i) / 6 = k by omega, if_pos c_97]
          rw [e9, e5, e6] at hl
          exact ih (i + 1) ls (by omega) (lv_sub hl [0, 4, 3, 2, 1, 7, 8, 9, 10, 11, 12] rfl)
  have outer : ∀ (r k : Nat) (ls : Array Slot), k + r = 6 → lv_has ls 13 [(8, .int (nI k)), (5, .int (sumN (qL mli) (6 * k))), (6, .int (sumN (qC mli cl sc) (6 * k))), (7, .int 1), (0, .ref (a 0)), (1, .ref (q 0)), (2, .ref (q 1)), (3, .ref (q 2)), (4, .int (nI n))] → W p l e ({ frames := 6, cells := 0, slots := 0, locals := 130 }) s m ([.ref (a 0), .ref (q 0), .ref (q 1), .ref (q 2), .int (nI n)] : List Value).toArray below meth c s.heap [] 0 0 (MQ below (PQo (.returned (some (.int 1)))) ([.ref (a 0), .ref (q 0), .ref (q 1), .ref (q 2), .int (nI n)] : List Value).toArray s 0 0 (fun _ => False)) (F0 m 12 ls []) := by
    intro r
    induction r with
    | zero =>
      intro k ls hkr hl
      obtain rfl : 6 = k := by omega
      refine lv_iload hx hb dL_areBoxes_12 (lv_at hl 0 rfl) ?_
      refine lv_bipush (v := 6) hx hb dL_areBoxes_14 (by decide) ?_
      have k_16 : (6 : Int32) ≤ (nI 6) := nI_le (a := 6) (by omega) (by omega)
      refine lv_icmp_ge (tgt := 168) hx hb dL_areBoxes_16 (by decide) (fun c_16 => ?_) (fun c_16 => absurd k_16 c_16)
      refine lv_iconst (v := 0) hx hb dL_areBoxes_168 (by decide) ?_
      refine lv_istore (lv' := [(8, .int 0), (5, .int (sumN (qL mli) (6 * 6))), (6, .int (sumN (qC mli cl sc) (6 * 6))), (7, .int 1), (0, .ref (a 0)), (1, .ref (q 0)), (2, .ref (q 1)), (3, .ref (q 2)), (4, .int (nI n))]) hx hb dL_areBoxes_169 hl (by decide) rfl (fun ls hl => ?_)
      refine tail n 0 ls (by omega) (lv_sub (l := [(8, .int 0), (5, .int (sumN (qL mli) 36 - sumN (fun b => if sp b = -1 then (0 : Int32) else 1) 0)), (6, .int (sumN (qC mli cl sc) (6 * 6))), (7, .int 1), (0, .ref (a 0)), (1, .ref (q 0)), (2, .ref (q 1)), (3, .ref (q 2)), (4, .int (nI n))]) ?_ [0, 1, 2, 3, 4, 5, 6, 7, 8] rfl)
      rw [show sumN (qL mli) 36 - sumN (fun b => if sp b = -1 then (0 : Int32) else 1) 0 = sumN (qL mli) (6 * 6) from Int32.sub_zero _]
      exact hl
    | succ r ih =>
      intro k ls hkr hl
      refine lv_iload hx hb dL_areBoxes_12 (lv_at hl 0 rfl) ?_
      refine lv_bipush (v := 6) hx hb dL_areBoxes_14 (by decide) ?_
      have k_16 : ¬ ((6 : Int32) ≤ (nI k)) := nI_ge (b := 6) (by omega) (by decide)
      refine lv_icmp_ge (tgt := 168) hx hb dL_areBoxes_16 (by decide) (fun c_16 => absurd c_16 k_16) (fun c_16 => ?_)
      refine lv_iload hx hb dL_areBoxes_19 (lv_at hl 3 rfl) ?_
      have k_21 : ¬ ((1 : Int32) = (0 : Int32)) := by decide
      refine lv_if_eq (tgt := 168) hx hb dL_areBoxes_21 (by decide) (fun c_21 => absurd c_21 k_21) (fun c_21 => ?_)
      refine lv_iconst (v := 0) hx hb dL_areBoxes_24 (by decide) ?_
      refine lv_istore (lv' := [(9, .int 0), (8, .int (nI k)), (5, .int (sumN (qL mli) (6 * k))), (6, .int (sumN (qC mli cl sc) (6 * k))), (7, .int 1), (0, .ref (a 0)), (1, .ref (q 0)), (2, .ref (q 1)), (3, .ref (q 2)), (4, .int (nI n))]) hx hb dL_areBoxes_25 hl (by decide) rfl (fun ls hl => ?_)
      refine lv_iconst (v := 0) hx hb dL_areBoxes_27 (by decide) ?_
      refine lv_istore (lv' := [(10, .int 0), (9, .int 0), (8, .int (nI k)), (5, .int (sumN (qL mli) (6 * k))), (6, .int (sumN (qC mli cl sc) (6 * k))), (7, .int 1), (0, .ref (a 0)), (1, .ref (q 0)), (2, .ref (q 1)), (3, .ref (q 2)), (4, .int (nI n))]) hx hb dL_areBoxes_28 hl (by decide) rfl (fun ls hl => ?_)
      refine inner k (by omega) (fun ls hl => ?_) 6 0 ls (by omega) (lv_sub hl [0, 1, 3, 4, 5, 2, 6, 7, 8, 9, 10] rfl)
      refine lv_iload hx hb dL_areBoxes_139 (lv_at hl 3 rfl) ?_
      have k_141 : ¬ ((1 : Int32) = (0 : Int32)) := by decide
      refine lv_if_eq (tgt := 159) hx hb dL_areBoxes_141 (by decide) (fun c_141 => absurd c_141 k_141) (fun c_141 => ?_)
      refine lv_aload_n hx hb dL_areBoxes_144 rfl (lv_at hl 5 rfl) ?_
      refine lv_iload hx hb dL_areBoxes_145 (lv_at hl 4 rfl) ?_
      have kk_147 : k_X3_weight (nI k) = 0 := k_weight (by omega)
      refine k_p (va_runV (As := [.int (nI k)]) (rest := []) ⟨hx, hb, hml, hown, hts⟩ (c_X3_weight l hl9 G a s.heap.size ck (nI n) wt sp (nI k) ⟨n, hn, rfl⟩ kk_147) (cwV 1 hts gL_areBoxes_X3_weight rfl rfl rfl ⟨rfl, by decide +kernel, by decide +kernel, by decide +kernel⟩ ⟨Nat.le_of_ble_eq_true rfl, Nat.le_of_ble_eq_true rfl⟩) ⟨GP.blind, va_recv hE.1 hP (ci := 3) (q0 := 0) rfl rfl, GP.go (wc := [wcA a ck, wcS a (nI n), wcI G (a 4) 20 wt, wcI G (a 6) 20 sp]) hE hP hD hS hA [0, 1, 4, 5] rfl (by decide) [.ref (a 0), .int (nI k)]⟩ rfl rfl hl.1 rfl (lv_room (Nat.le_of_ble_eq_true rfl)) dL_areBoxes_147 ⟨Nat.le_of_ble_eq_true rfl, Nat.le_of_ble_eq_true rfl⟩) ?_
      refine k_top (y := sumN (fun i => qW mli wt (6 * k + i)) 6) (weight_eq hR hn (by omega)) ?_
      refine lv_iload hx hb dL_areBoxes_150 (lv_at hl 0 rfl) ?_
      have k_152 : (sumN (fun i => qW mli wt (6 * k + i)) 6) = (sumN (fun i => qW mli wt (6 * k + i)) 6) := rfl
      refine lv_icmp_ne (tgt := 159) hx hb dL_areBoxes_152 (by decide) (fun c_152 => absurd k_152 c_152) (fun c_152 => ?_)
      refine lv_iconst (v := 1) hx hb dL_areBoxes_155 (by decide) ?_
      refine lv_goto (tgt := 160) hx hb dL_areBoxes_156 (by decide) ?_
      refine lv_istore (lv' := [(7, .int 1), (9, .int (sumN (fun i => qW mli wt (6 * k + i)) 6)), (5, .int (sumN (qL mli) (6 * k + 6))), (6, .int (sumN (qC mli cl sc) (6 * k + 6))), (8, .int (nI k)), (0, .ref (a 0)), (1, .ref (q 0)), (2, .ref (q 1)), (3, .ref (q 2)), (4, .int (nI n))]) hx hb dL_areBoxes_160 hl (by decide) rfl (fun ls hl => ?_)
      refine lv_iinc (v := nI (k + 1)) (lv' := [(8, .int (nI (k + 1))), (7, .int 1), (9, .int (sumN (fun i => qW mli wt (6 * k + i)) 6)), (5, .int (sumN (qL mli) (6 * k + 6))), (6, .int (sumN (qC mli cl sc) (6 * k + 6))), (0, .ref (a 0)), (1, .ref (q 0)), (2, .ref (q 1)), (3, .ref (q 2)), (4, .int (nI n))]) hx hb dL_areBoxes_162 hl (k := 4) rfl (inc1 _) (by decide) rfl (fun ls hl => ?_)
      refine lv_goto (tgt := 12) hx hb dL_areBoxes_165 (by decide) ?_
      rw [show 6 * k + 6 = 6 * (k + 1) by omega] at hl
      exact ih (k + 1) ls (by omega) (lv_sub hl [0, 3, 4, 1, 5, 6, 7, 8, 9] rfl)
  refine lv_iconst (v := 0) hx hb dL_areBoxes_0 (by decide) ?_
  refine lv_istore (lv' := [(5, .int 0), (0, .ref (a 0)), (1, .ref (q 0)), (2, .ref (q 1)), (3, .ref (q 2)), (4, .int (nI n))]) hx hb dL_areBoxes_1 hl (by decide) rfl (fun ls hl => ?_)
  refine lv_iconst (v := 0) hx hb dL_areBoxes_3 (by decide) ?_
  refine lv_istore (lv' := [(6, .int 0), (5, .int 0), (0, .ref (a 0)), (1, .ref (q 0)), (2, .ref (q 1)), (3, .ref (q 2)), (4, .int (nI n))]) hx hb dL_areBoxes_4 hl (by decide) rfl (fun ls hl => ?_)
  refine lv_iconst (v := 1) hx hb dL_areBoxes_6 (by decide) ?_
  refine lv_istore (lv' := [(7, .int 1), (6, .int 0), (5, .int 0), (0, .ref (a 0)), (1, .ref (q 0)), (2, .ref (q 1)), (3, .ref (q 2)), (4, .int (nI n))]) hx hb dL_areBoxes_7 hl (by decide) rfl (fun ls hl => ?_)
  refine lv_iconst (v := 0) hx hb dL_areBoxes_9 (by decide) ?_
  refine lv_istore (lv' := [(8, .int 0), (7, .int 1), (6, .int 0), (5, .int 0), (0, .ref (a 0)), (1, .ref (q 0)), (2, .ref (q 1)), (3, .ref (q 2)), (4, .int (nI n))]) hx hb dL_areBoxes_10 hl (by decide) rfl (fun ls hl => ?_)
  exact outer 6 0 ls (by omega) (lv_sub hl [0, 3, 2, 1, 4, 5, 6, 7, 8] rfl)
set_option maxHeartbeats 8000000 in
set_option maxRecDepth 100000 in
theorem c_L_isOpen (l : Launch) (hl9 : l.stackTraces = false) (G : GT) (a : Nat → Nat) (sz : Nat) (ck st sm lt : Int32) (n no g c0 : Nat) (sp mli mv ob od dn : Nat → Int32) (hn : n ≤ 20) (hno : no ≤ 30) (hg : g ≤ 6) (hc0 : c0 ≤ 10000) (hR : RS n sp mli) (hO : OS n no ob od) (hV : RV g mv c0) : Met l yL_isOpen wsL_isOpen ({ frames := 6, cells := 0, slots := 0, locals := 133 }) (GP G [.ref (a 0), .int (nI (cntN dn no))] [wcA a ck, wcS a (nI n), wcI G (a 6) 20 sp, wcR a (nI g) (nI g) st sm, wcI G (a 10) 6 mv, wcO a (nI no) lt, wcI G (a 12) 30 ob, wcI G (a 13) 30 od, wcZ G (a 14) 30 dn] sz) (PQo (.returned (some (.int 1)))) 0 0 (fun _ => False) := by
  refine bodyM (cc := cL_isOpen) (maxL := 3) (ret := (some .boolean)) (by decide) rfl (Nat.le_of_ble_eq_true rfl) ?_
  intro p e s m below meth c ls C
  obtain ⟨hx, hb, hr, hts, hown, hlocks, hml, hsz, hP, hE, hD, hA, hS, hl⟩ := C
  subst hsz
  have hl : lv_has ls 3 [(0, .ref (a 0)), (1, .int (nI (cntN dn no)))] := hl
  refine lv_aload_n hx hb dL_isOpen_0 rfl (lv_at hl 0 rfl) ?_
  refine k_p (va_runV (As := []) (rest := []) ⟨hx, hb, hml, hown, hts⟩ (c_X3_nextAisle l G a s.heap.size ck (nI n) sp (nI no) lt ob od dn ⟨n, hn, rfl⟩ ⟨no, hno, rfl⟩) (cwV 0 hts gL_isOpen_X3_nextAisle rfl rfl rfl ⟨rfl, by decide +kernel, by decide +kernel, by decide +kernel⟩ ⟨Nat.le_of_ble_eq_true rfl, Nat.le_of_ble_eq_true rfl⟩) ⟨GP.blind, va_recv hE.1 hP (ci := 3) (q0 := 0) rfl rfl, GP.go (wc := [wcA a ck, wcS a (nI n), wcI G (a 6) 20 sp, wcO a (nI no) lt, wcI G (a 12) 30 ob, wcI G (a 13) 30 od, wcZ G (a 14) 30 dn]) hE hP hD hS hA [0, 1, 2, 5, 6, 7, 8] rfl (by decide) [.ref (a 0)]⟩ rfl rfl hl.1 rfl (lv_room (Nat.le_of_ble_eq_true rfl)) dL_isOpen_1 ⟨Nat.le_of_ble_eq_true rfl, Nat.le_of_ble_eq_true rfl⟩) ?_
  rcases next_cases (dn := dn) hR hn hno hO with ex | ⟨t, i, ht, ex, hi, hd, -⟩
  · refine k_top (y := (-1)) ex ?_
    refine lv_istore_n (lv' := [(2, .int (-1)), (0, .ref (a 0)), (1, .int (nI (cntN dn no)))]) hx hb dL_isOpen_4 rfl hl (by decide) rfl (fun ls hl => ?_)
    refine lv_aload_n hx hb dL_isOpen_5 rfl (lv_at hl 1 rfl) ?_
    refine k_p (va_runV (As := []) (rest := []) ⟨hx, hb, hml, hown, hts⟩ (c_X3_opened l G a s.heap.size ck (nI g) (nI g) st sm) (cwV 0 hts gL_isOpen_X3_opened rfl rfl rfl ⟨rfl, by decide +kernel, by decide +kernel, by decide +kernel⟩ ⟨Nat.le_of_ble_eq_true rfl, Nat.le_of_ble_eq_true rfl⟩) ⟨GP.blind, va_recv hE.1 hP (ci := 3) (q0 := 0) rfl rfl, GP.go (wc := [wcA a ck, wcR a (nI g) (nI g) st sm]) hE hP hD hS hA [0, 3] rfl (by decide) [.ref (a 0)]⟩ rfl rfl hl.1 rfl (lv_room (Nat.le_of_ble_eq_true rfl)) dL_isOpen_6 ⟨Nat.le_of_ble_eq_true rfl, Nat.le_of_ble_eq_true rfl⟩) ?_
    refine k_top (y := nI g) opened_eq ?_
    refine lv_aload_n hx hb dL_isOpen_9 rfl (lv_at hl 1 rfl) ?_
    refine k_p (va_runV (As := []) (rest := [.int (nI g)]) ⟨hx, hb, hml, hown, hts⟩ (c_X3_openedByMoves l G a s.heap.size ck (nI g) (nI g) st sm mv) (cwV 0 hts gL_isOpen_X3_openedByMoves rfl rfl rfl ⟨rfl, by decide +kernel, by decide +kernel, by decide +kernel⟩ ⟨Nat.le_of_ble_eq_true rfl, Nat.le_of_ble_eq_true rfl⟩) ⟨GP.blind, va_recv hE.1 hP (ci := 3) (q0 := 0) rfl rfl, GP.go (wc := [wcA a ck, wcR a (nI g) (nI g) st sm, wcI G (a 10) 6 mv]) hE hP hD hS hA [0, 3, 4] rfl (by decide) [.ref (a 0)]⟩ rfl rfl hl.1 rfl (lv_room (Nat.le_of_ble_eq_true rfl)) dL_isOpen_10 ⟨Nat.le_of_ble_eq_true rfl, Nat.le_of_ble_eq_true rfl⟩) ?_
    refine k_top (y := nI g) (moves_opened (by omega) hg hV) ?_
    have k_13 : (nI g) = (nI g) := rfl
    refine lv_icmp_ne (tgt := 48) hx hb dL_isOpen_13 (by decide) (fun c_13 => absurd k_13 c_13) (fun c_13 => ?_)
    refine lv_iload_n hx hb dL_isOpen_16 rfl (lv_at hl 0 rfl) ?_
    refine lv_iconst (v := (-1)) hx hb dL_isOpen_17 (by decide) ?_
    have k_18 : ¬ (((-1) : Int32) < ((-1) : Int32)) := by decide
    refine lv_icmp_lt (tgt := 48) hx hb dL_isOpen_18 (by decide) (fun c_18 => absurd c_18 k_18) (fun c_18 => ?_)
    refine lv_iload_n hx hb dL_isOpen_21 rfl (lv_at hl 0 rfl) ?_
    refine lv_bipush (v := 6) hx hb dL_isOpen_22 (by decide) ?_
    have k_24 : ¬ ((6 : Int32) < ((-1) : Int32)) := by decide
    refine lv_icmp_gt (tgt := 48) hx hb dL_isOpen_24 (by decide) (fun c_24 => absurd c_24 k_24) (fun c_24 => ?_)
    refine lv_iload_n hx hb dL_isOpen_27 rfl (lv_at hl 2 rfl) ?_
    refine lv_if_gt (tgt := 36) hx hb dL_isOpen_28 (by decide) (fun c_28 => ?_) (fun c_28 => ?_)
    · refine lv_aload_n hx hb dL_isOpen_36 rfl (lv_at hl 1 rfl) ?_
      refine k_p (va_runV (As := []) (rest := []) ⟨hx, hb, hml, hown, hts⟩ (c_X3_waiting l G a s.heap.size ck (nI no) lt dn ⟨no, hno, rfl⟩) (cwV 0 hts gL_isOpen_X3_waiting rfl rfl rfl ⟨rfl, by decide +kernel, by decide +kernel, by decide +kernel⟩ ⟨Nat.le_of_ble_eq_true rfl, Nat.le_of_ble_eq_true rfl⟩) ⟨GP.blind, va_recv hE.1 hP (ci := 3) (q0 := 0) rfl rfl, GP.go (wc := [wcA a ck, wcO a (nI no) lt, wcZ G (a 14) 30 dn]) hE hP hD hS hA [0, 5, 8] rfl (by decide) [.ref (a 0)]⟩ rfl rfl hl.1 rfl (lv_room (Nat.le_of_ble_eq_true rfl)) dL_isOpen_37 ⟨Nat.le_of_ble_eq_true rfl, Nat.le_of_ble_eq_true rfl⟩) ?_
      refine k_top (y := nI (cntN dn no)) (waiting_cnt hno) ?_
      refine lv_iload_n hx hb dL_isOpen_40 rfl (lv_at hl 2 rfl) ?_
      have k_41 : (nI (cntN dn no)) = (nI (cntN dn no)) := rfl
      refine lv_icmp_ne (tgt := 48) hx hb dL_isOpen_41 (by decide) (fun c_41 => absurd k_41 c_41) (fun c_41 => ?_)
      refine lv_iconst (v := 1) hx hb dL_isOpen_44 (by decide) ?_
      refine lv_goto (tgt := 49) hx hb dL_isOpen_45 (by decide) ?_
      exact W.zret (v := 1) hx hb hr rfl (fun t ht _ => ⟨rfl, ht⟩) (fun _ h => nomatch h) dL_isOpen_49
    · refine lv_iload_n hx hb dL_isOpen_31 rfl (lv_at hl 0 rfl) ?_
      refine lv_iconst (v := (-1)) hx hb dL_isOpen_32 (by decide) ?_
      have k_33 : ((-1) : Int32) = ((-1) : Int32) := by decide
      refine lv_icmp_ne (tgt := 48) hx hb dL_isOpen_33 (by decide) (fun c_33 => absurd k_33 c_33) (fun c_33 => ?_)
      refine lv_aload_n hx hb dL_isOpen_36 rfl (lv_at hl 1 rfl) ?_
      refine k_p (va_runV (As := []) (rest := []) ⟨hx, hb, hml, hown, hts⟩ (c_X3_waiting l G a s.heap.size ck (nI no) lt dn ⟨no, hno, rfl⟩) (cwV 0 hts gL_isOpen_X3_waiting rfl rfl rfl ⟨rfl, by decide +kernel, by decide +kernel, by decide +kernel⟩ ⟨Nat.le_of_ble_eq_true rfl, Nat.le_of_ble_eq_true rfl⟩) ⟨GP.blind, va_recv hE.1 hP (ci := 3) (q0 := 0) rfl rfl, GP.go (wc := [wcA a ck, wcO a (nI no) lt, wcZ G (a 14) 30 dn]) hE hP hD hS hA [0, 5, 8] rfl (by decide) [.ref (a 0)]⟩ rfl rfl hl.1 rfl (lv_room (Nat.le_of_ble_eq_true rfl)) dL_isOpen_37 ⟨Nat.le_of_ble_eq_true rfl, Nat.le_of_ble_eq_true rfl⟩) ?_
      refine k_top (y := nI (cntN dn no)) (waiting_cnt hno) ?_
      refine lv_iload_n hx hb dL_isOpen_40 rfl (lv_at hl 2 rfl) ?_
      have k_41 : (nI (cntN dn no)) = (nI (cntN dn no)) := rfl
      refine lv_icmp_ne (tgt := 48) hx hb dL_isOpen_41 (by decide) (fun c_41 => absurd k_41 c_41) (fun c_41 => ?_)
      refine lv_iconst (v := 1) hx hb dL_isOpen_44 (by decide) ?_
      refine lv_goto (tgt := 49) hx hb dL_isOpen_45 (by decide) ?_
      exact W.zret (v := 1) hx hb hr rfl (fun t ht _ => ⟨rfl, ht⟩) (fun _ h => nomatch h) dL_isOpen_49
  · refine k_top (y := nI t) ex ?_
    refine lv_istore_n (lv' := [(2, .int (nI t)), (0, .ref (a 0)), (1, .int (nI (cntN dn no)))]) hx hb dL_isOpen_4 rfl hl (by decide) rfl (fun ls hl => ?_)
    refine lv_aload_n hx hb dL_isOpen_5 rfl (lv_at hl 1 rfl) ?_
    refine k_p (va_runV (As := []) (rest := []) ⟨hx, hb, hml, hown, hts⟩ (c_X3_opened l G a s.heap.size ck (nI g) (nI g) st sm) (cwV 0 hts gL_isOpen_X3_opened rfl rfl rfl ⟨rfl, by decide +kernel, by decide +kernel, by decide +kernel⟩ ⟨Nat.le_of_ble_eq_true rfl, Nat.le_of_ble_eq_true rfl⟩) ⟨GP.blind, va_recv hE.1 hP (ci := 3) (q0 := 0) rfl rfl, GP.go (wc := [wcA a ck, wcR a (nI g) (nI g) st sm]) hE hP hD hS hA [0, 3] rfl (by decide) [.ref (a 0)]⟩ rfl rfl hl.1 rfl (lv_room (Nat.le_of_ble_eq_true rfl)) dL_isOpen_6 ⟨Nat.le_of_ble_eq_true rfl, Nat.le_of_ble_eq_true rfl⟩) ?_
    refine k_top (y := nI g) opened_eq ?_
    refine lv_aload_n hx hb dL_isOpen_9 rfl (lv_at hl 1 rfl) ?_
    refine k_p (va_runV (As := []) (rest := [.int (nI g)]) ⟨hx, hb, hml, hown, hts⟩ (c_X3_openedByMoves l G a s.heap.size ck (nI g) (nI g) st sm mv) (cwV 0 hts gL_isOpen_X3_openedByMoves rfl rfl rfl ⟨rfl, by decide +kernel, by decide +kernel, by decide +kernel⟩ ⟨Nat.le_of_ble_eq_true rfl, Nat.le_of_ble_eq_true rfl⟩) ⟨GP.blind, va_recv hE.1 hP (ci := 3) (q0 := 0) rfl rfl, GP.go (wc := [wcA a ck, wcR a (nI g) (nI g) st sm, wcI G (a 10) 6 mv]) hE hP hD hS hA [0, 3, 4] rfl (by decide) [.ref (a 0)]⟩ rfl rfl hl.1 rfl (lv_room (Nat.le_of_ble_eq_true rfl)) dL_isOpen_10 ⟨Nat.le_of_ble_eq_true rfl, Nat.le_of_ble_eq_true rfl⟩) ?_
    refine k_top (y := nI g) (moves_opened (by omega) hg hV) ?_
    have k_13 : (nI g) = (nI g) := rfl
    refine lv_icmp_ne (tgt := 48) hx hb dL_isOpen_13 (by decide) (fun c_13 => absurd k_13 c_13) (fun c_13 => ?_)
    refine lv_iload_n hx hb dL_isOpen_16 rfl (lv_at hl 0 rfl) ?_
    refine lv_iconst (v := (-1)) hx hb dL_isOpen_17 (by decide) ?_
    have k_18 : ¬ ((nI t) < ((-1) : Int32)) := fun z => nI_pos (n := t) (by omega) (Int32.lt_trans z (by decide))
    refine lv_icmp_lt (tgt := 48) hx hb dL_isOpen_18 (by decide) (fun c_18 => absurd c_18 k_18) (fun c_18 => ?_)
    refine lv_iload_n hx hb dL_isOpen_21 rfl (lv_at hl 0 rfl) ?_
    refine lv_bipush (v := 6) hx hb dL_isOpen_22 (by decide) ?_
    have k_24 : ¬ ((6 : Int32) < (nI t)) := nI_nlt (a := 6) (b := t) ht (by decide)
    refine lv_icmp_gt (tgt := 48) hx hb dL_isOpen_24 (by decide) (fun c_24 => absurd c_24 k_24) (fun c_24 => ?_)
    refine lv_iload_n hx hb dL_isOpen_27 rfl (lv_at hl 2 rfl) ?_
    have k_28 : (0 : Int32) < (nI (cntN dn no)) := nI_lt (a := 0) (cnt_pos no hi hd) (by have := cnt_le dn no; omega)
    refine lv_if_gt (tgt := 36) hx hb dL_isOpen_28 (by decide) (fun c_28 => ?_) (fun c_28 => absurd k_28 c_28)
    refine lv_aload_n hx hb dL_isOpen_36 rfl (lv_at hl 1 rfl) ?_
    refine k_p (va_runV (As := []) (rest := []) ⟨hx, hb, hml, hown, hts⟩ (c_X3_waiting l G a s.heap.size ck (nI no) lt dn ⟨no, hno, rfl⟩) (cwV 0 hts gL_isOpen_X3_waiting rfl rfl rfl ⟨rfl, by decide +kernel, by decide +kernel, by decide +kernel⟩ ⟨Nat.le_of_ble_eq_true rfl, Nat.le_of_ble_eq_true rfl⟩) ⟨GP.blind, va_recv hE.1 hP (ci := 3) (q0 := 0) rfl rfl, GP.go (wc := [wcA a ck, wcO a (nI no) lt, wcZ G (a 14) 30 dn]) hE hP hD hS hA [0, 5, 8] rfl (by decide) [.ref (a 0)]⟩ rfl rfl hl.1 rfl (lv_room (Nat.le_of_ble_eq_true rfl)) dL_isOpen_37 ⟨Nat.le_of_ble_eq_true rfl, Nat.le_of_ble_eq_true rfl⟩) ?_
    refine k_top (y := nI (cntN dn no)) (waiting_cnt hno) ?_
    refine lv_iload_n hx hb dL_isOpen_40 rfl (lv_at hl 2 rfl) ?_
    have k_41 : (nI (cntN dn no)) = (nI (cntN dn no)) := rfl
    refine lv_icmp_ne (tgt := 48) hx hb dL_isOpen_41 (by decide) (fun c_41 => absurd k_41 c_41) (fun c_41 => ?_)
    refine lv_iconst (v := 1) hx hb dL_isOpen_44 (by decide) ?_
    refine lv_goto (tgt := 49) hx hb dL_isOpen_45 (by decide) ?_
    exact W.zret (v := 1) hx hb hr rfl (fun t ht _ => ⟨rfl, ht⟩) (fun _ h => nomatch h) dL_isOpen_49
