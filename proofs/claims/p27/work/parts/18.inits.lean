/-! the constructors -/
theorem arr_of {ty : FieldType} {args : Array Value} {s : State} (h : (Cond.arrayClass ty).before args s = true) : ∃ cA : ClassId, ArrOfT s cA ty ∧ s.vm.findClass ("[" ++ ty.toString) = some cA := by
  obtain ⟨cA, kA, comp, h1, h2, h3⟩ := Cond.arrayClass_spec h
  exact ⟨cA, fun n z => ⟨fun k h => (by cases h), kA, h2, comp, h3⟩, h1⟩
/-- a constructor's end: its cells, and those that it made -/
def IQ (G : GT) (Wd : va_W → Prop) (A : Nat → Prop) : Array Value → State → Outcome → State → Prop := fun _ st o t => o = .returned none ∧ (∃ w1, Wd w1 ∧ va_P G.1 vwCl w1 t.heap ∧ va_D A w1) ∧ va_F A st t
section INITS
variable {p : Program} {l : Launch} {e : Env} {R : Room} {s : State} {m : MethodId} {args : Array Value} {below : List Frame} {meth : Method} {c : Code} {H H0 : Heap} {locs : List Loc} {cells slots mc ms : Nat} {Q : State → Prop} {pc : Nat} {ls : Array Slot} {rest st0 : List Value} {a : Array Value}
theorem k_newa {cc : ByteArray} {G : GT} {A : Nat → Prop} {ws : va_W} (hx : p.tables.exec = Jvm.exec) (hb : c.code = cc) {atype : ArrayType} (harr : (Cond.arrayClass (newarray.typeOf atype)).before args s = true) {ty : FieldType} (hty : newarray.typeOf atype = ty) (hE : Ev G s) (t0 : Nat) {c0 : ClassId} (ht0 : (tysG G)[t0]? = some (c0, ty))
    (hra : ∀ (U : State) (k : ClassId), va_RA U k ty → U.vm.findClass ("[" ++ ty.toString) = some k) (hP : va_P G.1 vwCl ws H) (hD : va_D A ws) (hS : va_S A H0 H locs) (hA : ∀ q, H0.size ≤ q → A q)
    {n : Int32} {N' : Nat} {a0 : vp_A} (ha : ∀ cA : ClassId, vp_cell cA a0 = arrV cA N' (fun _ => defaultValue ty)) (hn : ¬ n < 0) (hN : n.toNatClampNeg = N') (hbytes : N' * componentBytes ty ≤ 536870912) (hcells : cells + 1 ≤ R.cells) (hslots : slots + N' ≤ R.slots) (hdg : decode cc pc = .ok (.newarray atype, 2))
    (kk : ∀ (q : Nat) (H1 : Heap), va_P G.1 vwCl (ws ++ [(q, .inl (c0, a0))]) H1 → va_D A (ws ++ [(q, .inl (c0, a0))]) → va_S A H0 H1 locs → W p l e R s m args below meth c H1 locs (cells + 1) (slots + N') Q (F0 m (pc + 2) ls (.ref q :: rest))) : W p l e R s m args below meth c H locs cells slots Q (F0 m pc ls (.int n :: rest)) := by
  refine va_newa hx hb harr hty hE.1 hP hD hS hA ha hn hN hbytes hcells hslots hdg (fun q cA H1 hK hP hD hS => ?_)
  have e1 := hra s cA (hK.2 2 (cA, ty) rfl).2
  have e2 := hra s c0 (hE.1.2 t0 _ ht0).2
  have e3 : cA = c0 := Option.some.inj (e1.symm.trans e2)
  subst e3
  exact kk q H1 hP hD hS
/-- a call of a constructor -/
theorem k_i {G : GT} {Wd : va_W → Prop} {A0 : Nat → Prop} {ws wc wr : va_W} (hr : va_Run p l e R s m args below meth c H locs cells slots mc ms (F0 m pc ls st0) rest (IQ G Wd (va_A wc H.size) a) (va_A wc H.size))
    (hP : va_P G.1 vwCl ws H) (hD : va_D A0 ws) (hS : va_S A0 H0 H locs) (hA : ∀ q, H0.size ≤ q → A0 q) (isC isR : List Nat) (hC : isC.map (fun i => ws[i]?) = wc.map some) (hR : isR.map (fun i => ws[i]?) = wr.map some) (hn : va_nd isR = true) (hdis : ∀ i ∈ isR, i ∉ isC)
    (kk : ∀ (H1 : Heap) (locs1 : List Loc) (w1 : va_W), Wd w1 → va_P G.1 vwCl (wr ++ w1) H1 → va_D A0 (wr ++ w1) → va_S A0 H0 H1 locs1 → W p l e R s m args below meth c H1 locs1 (cells + mc) (slots + ms) Q (F0 m (pc + 3) ls rest)) : W p l e R s m args below meth c H locs cells slots Q (F0 m pc ls st0) := by
  intro T hT X
  have hF := va_free hD hS hA isC hC
  obtain ⟨v, st₀, t, T', L, h0, X', hL, e1, -, ⟨hv, ⟨w1, hw1, hP1, hD1⟩, hz, hk⟩, st⟩ := hr T hT X
  cases hv
  rw [h0] at hz hk
  rw [← e1] at hP1 hz hk
  obtain ⟨hP2, hD2⟩ := va_join hP hD isC isR hC hR hn hdis hk hF hP1 hD1
  obtain ⟨t2, a1, b1⟩ := kk T'.heap (locs ++ L) w1 hw1 hP2 hD2
    ⟨Nat.le_trans hS.1 hz, fun q h1 h2 => by rw [hk q (Nat.lt_of_lt_of_le h1 hS.1) (fun z => h2 (hF q z))]; exact hS.2.1 q h1 h2, fun q hq => by
      rcases List.mem_append.mp hq with h | h
      · exact hS.2.2 q h
      · exact hF _ (hL q h)⟩ T' rfl X'
  exact ⟨t2, st t2 a1, b1⟩
/-- a body of a constructor: as any body, and its name -/
theorem bodyI {y : MethodName} {ws ws' : List Cond} {rm : Room} {sz : Nat} {free : Addr → Prop} {cc : ByteArray} {maxL : Nat} {ret : Option FieldType} {G : GT} {av : List Value} {w0 : va_W} {Qc : Array Value → State → Outcome → State → Prop} (hy : plainName y.cls = true) (hi : y.name = "<init>") (hw : ws = Cond.code y cc maxL ret :: ws') (hn : (lg_sl av).length ≤ maxL)
    (body : ∀ p e s m below meth c ls, Bx G p s m av meth c cc maxL ret y.cls ws w0 sz ls → meth.name = "<init>" → W p l e rm s m av.toArray below meth c s.heap [] 0 0 (MQ below Qc av.toArray s mc ms free) (F0 m 0 ls [])) : Met l y ws rm (GP G av w0 sz) Qc mc ms free := by
  refine Met.ofW (cc := cc) (maxL := maxL) (ret := ret) hy hw ?_
  intro p e s m args below meth c s₁ B hml hv
  obtain ⟨rfl, hsz, hP, hE, hD0⟩ := hv
  have hl := lv_entry av (n := maxL) hn
  rw [lg_entry_eq]
  exact body p e s m below meth c _ ⟨B.exec, B.bytes, B.returns, atoms_spec (ws := ws) B.pre, findClass_of_methodNamed B.named, B.notSynchronized, hml, hsz.symm, hP, hE, hD0.self, fun _ h => Or.inr h, va_S.rf, hl⟩ ((name_of_methodNamed B.named B.method).1.trans hi)
end INITS
theorem ra_int (U : State) (k : ClassId) (h : va_RA U k .int) : U.vm.findClass ("[" ++ FieldType.int.toString) = some k := h
theorem ra_boolean (U : State) (k : ClassId) (h : va_RA U k .boolean) : U.vm.findClass ("[" ++ FieldType.boolean.toString) = some k := h

theorem iw_X0_init : ∀ w ∈ u_ws RX0 TX0 5, w ∈ wsX0_init := by decide +kernel
set_option maxHeartbeats 4000000 in
set_option maxRecDepth 100000 in
theorem c_X0_init (l : Launch) (G : GT) (q sz : Nat) : Met l yX0_init wsX0_init ({ frames := 1, cells := 3, slots := 90, locals := 20 }) (GP G [.ref q] [(q, .inr (0, [.null, .null, .null, .int 0, .int 0]))] sz) (IQ G (fun w1 => ∃ q1 q2 q3 : Nat, w1 = [(q, .inr (0, [.ref q1, .ref q2, .ref q3, .int 0, .int 0])), wcI G q1 30 (fun _ => 0), wcI G q2 30 (fun _ => 0), wcZ G q3 30 (fun _ => 0)]) (va_A [(q, .inr (0, [.null, .null, .null, .int 0, .int 0]))] sz)) 3 90 (va_A [(q, .inr (0, [.null, .null, .null, .int 0, .int 0]))] sz) := by
  refine bodyI (cc := cX0_init) (maxL := 1) (ret := none) (by decide) rfl rfl (Nat.le_of_ble_eq_true rfl) ?_
  intro p e s m below meth c ls C hin
  obtain ⟨hx, hb, hr, hts, hown, hlocks, hml, hsz, hP, hE, hD, hA, hS, hl⟩ := C
  subst hsz
  have hl : lv_has ls 1 [(0, .ref q)] := hl
  refine lv_aload_n hx hb dX0_init_0 rfl (lv_at hl 0 rfl) ?_
  refine W.objInit hx hb hown (hts (.methodLink RX0 3 objectInit) (by decide +kernel)) (hts (.instanceMethod objectInit) (by decide +kernel)) (hts (.code objectInit ⟨#[0xb1]⟩ 1 none) (by decide +kernel)) rfl (by rw [hml]; exact hl.1) rfl dX0_init_1 (Nat.le_of_ble_eq_true rfl) (Nat.le_of_ble_eq_true rfl) ?_
  refine W.eq (g2 := F0 m 4 ls []) rfl ?_
  refine lv_aload_n hx hb dX0_init_4 rfl (lv_at hl 0 rfl) ?_
  refine lv_bipush (v := 30) hx hb dX0_init_5 (by decide) ?_
  refine k_newa (atype := .int) (ty := .int) (c0 := G.2.1) (a0 := (30, .inl (fun _ => 0))) (N' := 30) hx hb (hts (.arrayClass .int) (by decide +kernel)) rfl hE 0 rfl ra_int hP hD hS hA (fun _ => rfl) (by decide) rfl (by decide) (Nat.le_of_ble_eq_true rfl) (Nat.le_of_ble_eq_true rfl) dX0_init_7 (fun q1 H hP hD hS => ?_)
  have hP : va_P G.1 vwCl [(q, .inr (0, [.null, .null, .null, .int 0, .int 0])), wcI G q1 30 (fun _ => 0)] H := hP
  have hD : va_D _ [(q, .inr (0, [.null, .null, .null, .int 0, .int 0])), wcI G q1 30 (fun _ => 0)] := hD
  refine W.widen (k := 1) (n := 30) (by decide) (by decide) ?_
  refine va_putF (D := G.1) (ci := 0) (v := .ref q1) (ty := .array .int) (C := RX0) (T := TX0) (N := 5) hx hb hts iw_X0_init tyX0 tyX0_ok nmX0 hown hE.1 hP hD hS 0 rfl rfl 0 (by decide) (hts (.fieldLink RX0 9 "Rackrail$Orders" "boxes" "[I") (by decide +kernel)) (fun _ h9 => h9) rfl hin rfl (by decide +kernel) rfl rfl (Nat.le_of_ble_eq_true rfl) dX0_init_9 (fun H locs hP hD hS => ?_)
  have hP : va_P G.1 vwCl [(q, .inr (0, [.ref q1, .null, .null, .int 0, .int 0])), wcI G q1 30 (fun _ => 0)] H := hP
  have hD : va_D _ [(q, .inr (0, [.ref q1, .null, .null, .int 0, .int 0])), wcI G q1 30 (fun _ => 0)] := hD
  refine lv_aload_n hx hb dX0_init_12 rfl (lv_at hl 0 rfl) ?_
  refine lv_bipush (v := 30) hx hb dX0_init_13 (by decide) ?_
  refine k_newa (atype := .int) (ty := .int) (c0 := G.2.1) (a0 := (30, .inl (fun _ => 0))) (N' := 30) hx hb (hts (.arrayClass .int) (by decide +kernel)) rfl hE 0 rfl ra_int hP hD hS hA (fun _ => rfl) (by decide) rfl (by decide) (Nat.le_of_ble_eq_true rfl) (Nat.le_of_ble_eq_true rfl) dX0_init_15 (fun q2 H hP hD hS => ?_)
  have hP : va_P G.1 vwCl [(q, .inr (0, [.ref q1, .null, .null, .int 0, .int 0])), wcI G q1 30 (fun _ => 0), wcI G q2 30 (fun _ => 0)] H := hP
  have hD : va_D _ [(q, .inr (0, [.ref q1, .null, .null, .int 0, .int 0])), wcI G q1 30 (fun _ => 0), wcI G q2 30 (fun _ => 0)] := hD
  refine W.widen (k := 2) (n := 60) (by decide) (by decide) ?_
  refine va_putF (D := G.1) (ci := 0) (v := .ref q2) (ty := .array .int) (C := RX0) (T := TX0) (N := 5) hx hb hts iw_X0_init tyX0 tyX0_ok nmX0 hown hE.1 hP hD hS 0 rfl rfl 1 (by decide) (hts (.fieldLink RX0 15 "Rackrail$Orders" "deadlines" "[I") (by decide +kernel)) (fun _ h9 => h9) rfl hin rfl (by decide +kernel) rfl rfl (Nat.le_of_ble_eq_true rfl) dX0_init_17 (fun H locs hP hD hS => ?_)
  have hP : va_P G.1 vwCl [(q, .inr (0, [.ref q1, .ref q2, .null, .int 0, .int 0])), wcI G q1 30 (fun _ => 0), wcI G q2 30 (fun _ => 0)] H := hP
  have hD : va_D _ [(q, .inr (0, [.ref q1, .ref q2, .null, .int 0, .int 0])), wcI G q1 30 (fun _ => 0), wcI G q2 30 (fun _ => 0)] := hD
  refine lv_aload_n hx hb dX0_init_20 rfl (lv_at hl 0 rfl) ?_
  refine lv_bipush (v := 30) hx hb dX0_init_21 (by decide) ?_
  refine k_newa (atype := .boolean) (ty := .boolean) (c0 := G.2.2) (a0 := (30, .inl (fun _ => 0))) (N' := 30) hx hb (hts (.arrayClass .boolean) (by decide +kernel)) rfl hE 1 rfl ra_boolean hP hD hS hA (fun _ => rfl) (by decide) rfl (by decide) (Nat.le_of_ble_eq_true rfl) (Nat.le_of_ble_eq_true rfl) dX0_init_23 (fun q3 H hP hD hS => ?_)
  have hP : va_P G.1 vwCl [(q, .inr (0, [.ref q1, .ref q2, .null, .int 0, .int 0])), wcI G q1 30 (fun _ => 0), wcI G q2 30 (fun _ => 0), wcZ G q3 30 (fun _ => 0)] H := hP
  have hD : va_D _ [(q, .inr (0, [.ref q1, .ref q2, .null, .int 0, .int 0])), wcI G q1 30 (fun _ => 0), wcI G q2 30 (fun _ => 0), wcZ G q3 30 (fun _ => 0)] := hD
  refine W.widen (k := 3) (n := 90) (by decide) (by decide) ?_
  refine va_putF (D := G.1) (ci := 0) (v := .ref q3) (ty := .array .boolean) (C := RX0) (T := TX0) (N := 5) hx hb hts iw_X0_init tyX0 tyX0_ok nmX0 hown hE.1 hP hD hS 0 rfl rfl 2 (by decide) (hts (.fieldLink RX0 18 "Rackrail$Orders" "done" "[Z") (by decide +kernel)) (fun _ h9 => h9) rfl hin rfl (by decide +kernel) rfl rfl (Nat.le_of_ble_eq_true rfl) dX0_init_25 (fun H locs hP hD hS => ?_)
  have hP : va_P G.1 vwCl [(q, .inr (0, [.ref q1, .ref q2, .ref q3, .int 0, .int 0])), wcI G q1 30 (fun _ => 0), wcI G q2 30 (fun _ => 0), wcZ G q3 30 (fun _ => 0)] H := hP
  have hD : va_D _ [(q, .inr (0, [.ref q1, .ref q2, .ref q3, .int 0, .int 0])), wcI G q1 30 (fun _ => 0), wcI G q2 30 (fun _ => 0), wcZ G q3 30 (fun _ => 0)] := hD
  refine lv_aload_n hx hb dX0_init_28 rfl (lv_at hl 0 rfl) ?_
  refine lv_iconst (v := 0) hx hb dX0_init_29 (by decide) ?_
  refine va_put (D := G.1) (ci := 0) (v := .int 0) (ty := .int) (C := RX0) (T := TX0) (N := 5) hx hb hts iw_X0_init tyX0 tyX0_ok nmX0 hown hE.1 hP hD hS 0 rfl rfl 3 (by decide) (hts (.fieldLink RX0 22 "Rackrail$Orders" "count" "I") (by decide +kernel)) (fun _ h9 => h9) rfl (by decide +kernel) rfl rfl (Nat.le_of_ble_eq_true rfl) dX0_init_30 (fun H locs hP hD hS => ?_)
  have hP : va_P G.1 vwCl [(q, .inr (0, [.ref q1, .ref q2, .ref q3, .int 0, .int 0])), wcI G q1 30 (fun _ => 0), wcI G q2 30 (fun _ => 0), wcZ G q3 30 (fun _ => 0)] H := hP
  have hD : va_D _ [(q, .inr (0, [.ref q1, .ref q2, .ref q3, .int 0, .int 0])), wcI G q1 30 (fun _ => 0), wcI G q2 30 (fun _ => 0), wcZ G q3 30 (fun _ => 0)] := hD
  refine lv_aload_n hx hb dX0_init_33 rfl (lv_at hl 0 rfl) ?_
  refine lv_iconst (v := 0) hx hb dX0_init_34 (by decide) ?_
  refine va_put (D := G.1) (ci := 0) (v := .int 0) (ty := .int) (C := RX0) (T := TX0) (N := 5) hx hb hts iw_X0_init tyX0 tyX0_ok nmX0 hown hE.1 hP hD hS 0 rfl rfl 4 (by decide) (hts (.fieldLink RX0 26 "Rackrail$Orders" "lateCount" "I") (by decide +kernel)) (fun _ h9 => h9) rfl (by decide +kernel) rfl rfl (Nat.le_of_ble_eq_true rfl) dX0_init_35 (fun H locs hP hD hS => ?_)
  have hP : va_P G.1 vwCl [(q, .inr (0, [.ref q1, .ref q2, .ref q3, .int 0, .int 0])), wcI G q1 30 (fun _ => 0), wcI G q2 30 (fun _ => 0), wcZ G q3 30 (fun _ => 0)] H := hP
  have hD : va_D _ [(q, .inr (0, [.ref q1, .ref q2, .ref q3, .int 0, .int 0])), wcI G q1 30 (fun _ => 0), wcI G q2 30 (fun _ => 0), wcZ G q3 30 (fun _ => 0)] := hD
  exact W.vret hx hb hr (fun t ht _ => ⟨rfl, ⟨_, ⟨q1, q2, q3, rfl⟩, by rw [ht]; exact hP, hD⟩, hS.F ht⟩) hS.2.2 dX0_init_38

theorem iw_X1_init : ∀ w ∈ u_ws RX1 TX1 7, w ∈ wsX1_init := by decide +kernel
set_option maxHeartbeats 4000000 in
set_option maxRecDepth 100000 in
theorem c_X1_init (l : Launch) (G : GT) (q sz : Nat) : Met l yX1_init wsX1_init ({ frames := 1, cells := 3, slots := 17, locals := 20 }) (GP G [.ref q] [(q, .inr (1, [.null, .null, .null, .int 0, .int 0, .int 0, .int 0]))] sz) (IQ G (fun w1 => ∃ q1 q2 q3 : Nat, w1 = [(q, .inr (1, [.ref q1, .ref q2, .ref q3, .int 0, .int 0, .int 0, .int 0])), wcZ G q1 7 (fun _ => 0), wcZ G q2 4 (fun _ => 0), wcI G q3 6 (fun _ => 0)]) (va_A [(q, .inr (1, [.null, .null, .null, .int 0, .int 0, .int 0, .int 0]))] sz)) 3 17 (va_A [(q, .inr (1, [.null, .null, .null, .int 0, .int 0, .int 0, .int 0]))] sz) := by
  refine bodyI (cc := cX1_init) (maxL := 1) (ret := none) (by decide) rfl rfl (Nat.le_of_ble_eq_true rfl) ?_
  intro p e s m below meth c ls C hin
  obtain ⟨hx, hb, hr, hts, hown, hlocks, hml, hsz, hP, hE, hD, hA, hS, hl⟩ := C
  subst hsz
  have hl : lv_has ls 1 [(0, .ref q)] := hl
  refine lv_aload_n hx hb dX1_init_0 rfl (lv_at hl 0 rfl) ?_
  refine W.objInit hx hb hown (hts (.methodLink RX1 3 objectInit) (by decide +kernel)) (hts (.instanceMethod objectInit) (by decide +kernel)) (hts (.code objectInit ⟨#[0xb1]⟩ 1 none) (by decide +kernel)) rfl (by rw [hml]; exact hl.1) rfl dX1_init_1 (Nat.le_of_ble_eq_true rfl) (Nat.le_of_ble_eq_true rfl) ?_
  refine W.eq (g2 := F0 m 4 ls []) rfl ?_
  refine lv_aload_n hx hb dX1_init_4 rfl (lv_at hl 0 rfl) ?_
  refine lv_bipush (v := 7) hx hb dX1_init_5 (by decide) ?_
  refine k_newa (atype := .boolean) (ty := .boolean) (c0 := G.2.2) (a0 := (7, .inl (fun _ => 0))) (N' := 7) hx hb (hts (.arrayClass .boolean) (by decide +kernel)) rfl hE 1 rfl ra_boolean hP hD hS hA (fun _ => rfl) (by decide) rfl (by decide) (Nat.le_of_ble_eq_true rfl) (Nat.le_of_ble_eq_true rfl) dX1_init_7 (fun q1 H hP hD hS => ?_)
  have hP : va_P G.1 vwCl [(q, .inr (1, [.null, .null, .null, .int 0, .int 0, .int 0, .int 0])), wcZ G q1 7 (fun _ => 0)] H := hP
  have hD : va_D _ [(q, .inr (1, [.null, .null, .null, .int 0, .int 0, .int 0, .int 0])), wcZ G q1 7 (fun _ => 0)] := hD
  refine W.widen (k := 1) (n := 7) (by decide) (by decide) ?_
  refine va_putF (D := G.1) (ci := 1) (v := .ref q1) (ty := .array .boolean) (C := RX1) (T := TX1) (N := 7) hx hb hts iw_X1_init tyX1 tyX1_ok nmX1 hown hE.1 hP hD hS 0 rfl rfl 0 (by decide) (hts (.fieldLink RX1 9 "Rackrail$Rail" "doubts" "[Z") (by decide +kernel)) (fun _ h9 => h9) rfl hin rfl (by decide +kernel) rfl rfl (Nat.le_of_ble_eq_true rfl) dX1_init_9 (fun H locs hP hD hS => ?_)
  have hP : va_P G.1 vwCl [(q, .inr (1, [.ref q1, .null, .null, .int 0, .int 0, .int 0, .int 0])), wcZ G q1 7 (fun _ => 0)] H := hP
  have hD : va_D _ [(q, .inr (1, [.ref q1, .null, .null, .int 0, .int 0, .int 0, .int 0])), wcZ G q1 7 (fun _ => 0)] := hD
  refine lv_aload_n hx hb dX1_init_12 rfl (lv_at hl 0 rfl) ?_
  refine lv_iconst (v := 4) hx hb dX1_init_13 (by decide) ?_
  refine k_newa (atype := .boolean) (ty := .boolean) (c0 := G.2.2) (a0 := (4, .inl (fun _ => 0))) (N' := 4) hx hb (hts (.arrayClass .boolean) (by decide +kernel)) rfl hE 1 rfl ra_boolean hP hD hS hA (fun _ => rfl) (by decide) rfl (by decide) (Nat.le_of_ble_eq_true rfl) (Nat.le_of_ble_eq_true rfl) dX1_init_14 (fun q2 H hP hD hS => ?_)
  have hP : va_P G.1 vwCl [(q, .inr (1, [.ref q1, .null, .null, .int 0, .int 0, .int 0, .int 0])), wcZ G q1 7 (fun _ => 0), wcZ G q2 4 (fun _ => 0)] H := hP
  have hD : va_D _ [(q, .inr (1, [.ref q1, .null, .null, .int 0, .int 0, .int 0, .int 0])), wcZ G q1 7 (fun _ => 0), wcZ G q2 4 (fun _ => 0)] := hD
  refine W.widen (k := 2) (n := 11) (by decide) (by decide) ?_
  refine va_putF (D := G.1) (ci := 1) (v := .ref q2) (ty := .array .boolean) (C := RX1) (T := TX1) (N := 7) hx hb hts iw_X1_init tyX1 tyX1_ok nmX1 hown hE.1 hP hD hS 0 rfl rfl 1 (by decide) (hts (.fieldLink RX1 15 "Rackrail$Rail" "inside" "[Z") (by decide +kernel)) (fun _ h9 => h9) rfl hin rfl (by decide +kernel) rfl rfl (Nat.le_of_ble_eq_true rfl) dX1_init_16 (fun H locs hP hD hS => ?_)
  have hP : va_P G.1 vwCl [(q, .inr (1, [.ref q1, .ref q2, .null, .int 0, .int 0, .int 0, .int 0])), wcZ G q1 7 (fun _ => 0), wcZ G q2 4 (fun _ => 0)] H := hP
  have hD : va_D _ [(q, .inr (1, [.ref q1, .ref q2, .null, .int 0, .int 0, .int 0, .int 0])), wcZ G q1 7 (fun _ => 0), wcZ G q2 4 (fun _ => 0)] := hD
  refine lv_aload_n hx hb dX1_init_19 rfl (lv_at hl 0 rfl) ?_
  refine lv_bipush (v := 6) hx hb dX1_init_20 (by decide) ?_
  refine k_newa (atype := .int) (ty := .int) (c0 := G.2.1) (a0 := (6, .inl (fun _ => 0))) (N' := 6) hx hb (hts (.arrayClass .int) (by decide +kernel)) rfl hE 0 rfl ra_int hP hD hS hA (fun _ => rfl) (by decide) rfl (by decide) (Nat.le_of_ble_eq_true rfl) (Nat.le_of_ble_eq_true rfl) dX1_init_22 (fun q3 H hP hD hS => ?_)
  have hP : va_P G.1 vwCl [(q, .inr (1, [.ref q1, .ref q2, .null, .int 0, .int 0, .int 0, .int 0])), wcZ G q1 7 (fun _ => 0), wcZ G q2 4 (fun _ => 0), wcI G q3 6 (fun _ => 0)] H := hP
  have hD : va_D _ [(q, .inr (1, [.ref q1, .ref q2, .null, .int 0, .int 0, .int 0, .int 0])), wcZ G q1 7 (fun _ => 0), wcZ G q2 4 (fun _ => 0), wcI G q3 6 (fun _ => 0)] := hD
  refine W.widen (k := 3) (n := 17) (by decide) (by decide) ?_
  refine va_putF (D := G.1) (ci := 1) (v := .ref q3) (ty := .array .int) (C := RX1) (T := TX1) (N := 7) hx hb hts iw_X1_init tyX1 tyX1_ok nmX1 hown hE.1 hP hD hS 0 rfl rfl 2 (by decide) (hts (.fieldLink RX1 18 "Rackrail$Rail" "moves" "[I") (by decide +kernel)) (fun _ h9 => h9) rfl hin rfl (by decide +kernel) rfl rfl (Nat.le_of_ble_eq_true rfl) dX1_init_24 (fun H locs hP hD hS => ?_)
  have hP : va_P G.1 vwCl [(q, .inr (1, [.ref q1, .ref q2, .ref q3, .int 0, .int 0, .int 0, .int 0])), wcZ G q1 7 (fun _ => 0), wcZ G q2 4 (fun _ => 0), wcI G q3 6 (fun _ => 0)] H := hP
  have hD : va_D _ [(q, .inr (1, [.ref q1, .ref q2, .ref q3, .int 0, .int 0, .int 0, .int 0])), wcZ G q1 7 (fun _ => 0), wcZ G q2 4 (fun _ => 0), wcI G q3 6 (fun _ => 0)] := hD
  refine lv_aload_n hx hb dX1_init_27 rfl (lv_at hl 0 rfl) ?_
  refine lv_iconst (v := 0) hx hb dX1_init_28 (by decide) ?_
  refine va_put (D := G.1) (ci := 1) (v := .int 0) (ty := .int) (C := RX1) (T := TX1) (N := 7) hx hb hts iw_X1_init tyX1 tyX1_ok nmX1 hown hE.1 hP hD hS 0 rfl rfl 3 (by decide) (hts (.fieldLink RX1 22 "Rackrail$Rail" "gap" "I") (by decide +kernel)) (fun _ h9 => h9) rfl (by decide +kernel) rfl rfl (Nat.le_of_ble_eq_true rfl) dX1_init_29 (fun H locs hP hD hS => ?_)
  have hP : va_P G.1 vwCl [(q, .inr (1, [.ref q1, .ref q2, .ref q3, .int 0, .int 0, .int 0, .int 0])), wcZ G q1 7 (fun _ => 0), wcZ G q2 4 (fun _ => 0), wcI G q3 6 (fun _ => 0)] H := hP
  have hD : va_D _ [(q, .inr (1, [.ref q1, .ref q2, .ref q3, .int 0, .int 0, .int 0, .int 0])), wcZ G q1 7 (fun _ => 0), wcZ G q2 4 (fun _ => 0), wcI G q3 6 (fun _ => 0)] := hD
  refine lv_aload_n hx hb dX1_init_32 rfl (lv_at hl 0 rfl) ?_
  refine lv_iconst (v := 0) hx hb dX1_init_33 (by decide) ?_
  refine va_put (D := G.1) (ci := 1) (v := .int 0) (ty := .int) (C := RX1) (T := TX1) (N := 7) hx hb hts iw_X1_init tyX1 tyX1_ok nmX1 hown hE.1 hP hD hS 0 rfl rfl 4 (by decide) (hts (.fieldLink RX1 26 "Rackrail$Rail" "target" "I") (by decide +kernel)) (fun _ h9 => h9) rfl (by decide +kernel) rfl rfl (Nat.le_of_ble_eq_true rfl) dX1_init_34 (fun H locs hP hD hS => ?_)
  have hP : va_P G.1 vwCl [(q, .inr (1, [.ref q1, .ref q2, .ref q3, .int 0, .int 0, .int 0, .int 0])), wcZ G q1 7 (fun _ => 0), wcZ G q2 4 (fun _ => 0), wcI G q3 6 (fun _ => 0)] H := hP
  have hD : va_D _ [(q, .inr (1, [.ref q1, .ref q2, .ref q3, .int 0, .int 0, .int 0, .int 0])), wcZ G q1 7 (fun _ => 0), wcZ G q2 4 (fun _ => 0), wcI G q3 6 (fun _ => 0)] := hD
  refine lv_aload_n hx hb dX1_init_37 rfl (lv_at hl 0 rfl) ?_
  refine lv_iconst (v := 0) hx hb dX1_init_38 (by decide) ?_
  refine va_put (D := G.1) (ci := 1) (v := .int 0) (ty := .boolean) (C := RX1) (T := TX1) (N := 7) hx hb hts iw_X1_init tyX1 tyX1_ok nmX1 hown hE.1 hP hD hS 0 rfl rfl 5 (by decide) (hts (.fieldLink RX1 29 "Rackrail$Rail" "stalled" "Z") (by decide +kernel)) (fun _ h9 => h9) rfl (by decide +kernel) rfl rfl (Nat.le_of_ble_eq_true rfl) dX1_init_39 (fun H locs hP hD hS => ?_)
  have hP : va_P G.1 vwCl [(q, .inr (1, [.ref q1, .ref q2, .ref q3, .int 0, .int 0, .int 0, .int 0])), wcZ G q1 7 (fun _ => 0), wcZ G q2 4 (fun _ => 0), wcI G q3 6 (fun _ => 0)] H := hP
  have hD : va_D _ [(q, .inr (1, [.ref q1, .ref q2, .ref q3, .int 0, .int 0, .int 0, .int 0])), wcZ G q1 7 (fun _ => 0), wcZ G q2 4 (fun _ => 0), wcI G q3 6 (fun _ => 0)] := hD
  refine lv_aload_n hx hb dX1_init_42 rfl (lv_at hl 0 rfl) ?_
  refine lv_iconst (v := 0) hx hb dX1_init_43 (by decide) ?_
  refine va_put (D := G.1) (ci := 1) (v := .int 0) (ty := .boolean) (C := RX1) (T := TX1) (N := 7) hx hb hts iw_X1_init tyX1 tyX1_ok nmX1 hown hE.1 hP hD hS 0 rfl rfl 6 (by decide) (hts (.fieldLink RX1 33 "Rackrail$Rail" "smoky" "Z") (by decide +kernel)) (fun _ h9 => h9) rfl (by decide +kernel) rfl rfl (Nat.le_of_ble_eq_true rfl) dX1_init_44 (fun H locs hP hD hS => ?_)
  have hP : va_P G.1 vwCl [(q, .inr (1, [.ref q1, .ref q2, .ref q3, .int 0, .int 0, .int 0, .int 0])), wcZ G q1 7 (fun _ => 0), wcZ G q2 4 (fun _ => 0), wcI G q3 6 (fun _ => 0)] H := hP
  have hD : va_D _ [(q, .inr (1, [.ref q1, .ref q2, .ref q3, .int 0, .int 0, .int 0, .int 0])), wcZ G q1 7 (fun _ => 0), wcZ G q2 4 (fun _ => 0), wcI G q3 6 (fun _ => 0)] := hD
  exact W.vret hx hb hr (fun t ht _ => ⟨rfl, ⟨_, ⟨q1, q2, q3, rfl⟩, by rw [ht]; exact hP, hD⟩, hS.F ht⟩) hS.2.2 dX1_init_47

theorem iw_X2_init : ∀ w ∈ u_ws RX2 TX2 6, w ∈ wsX2_init := by decide +kernel
set_option maxHeartbeats 4000000 in
set_option maxRecDepth 100000 in
theorem c_X2_init (l : Launch) (G : GT) (q sz : Nat) : Met l yX2_init wsX2_init ({ frames := 1, cells := 5, slots := 86, locals := 20 }) (GP G [.ref q] [(q, .inr (2, [.null, .null, .null, .null, .null, .int 0]))] sz) (IQ G (fun w1 => ∃ q1 q2 q3 q4 q5 : Nat, w1 = [(q, .inr (2, [.ref q1, .ref q2, .ref q3, .ref q4, .ref q5, .int 0])), wcI G q1 6 (fun _ => 0), wcI G q2 20 (fun _ => 0), wcI G q3 20 (fun _ => 0), wcI G q4 20 (fun _ => 0), wcI G q5 20 (fun _ => 0)]) (va_A [(q, .inr (2, [.null, .null, .null, .null, .null, .int 0]))] sz)) 5 86 (va_A [(q, .inr (2, [.null, .null, .null, .null, .null, .int 0]))] sz) := by
  refine bodyI (cc := cX2_init) (maxL := 1) (ret := none) (by decide) rfl rfl (Nat.le_of_ble_eq_true rfl) ?_
  intro p e s m below meth c ls C hin
  obtain ⟨hx, hb, hr, hts, hown, hlocks, hml, hsz, hP, hE, hD, hA, hS, hl⟩ := C
  subst hsz
  have hl : lv_has ls 1 [(0, .ref q)] := hl
  refine lv_aload_n hx hb dX2_init_0 rfl (lv_at hl 0 rfl) ?_
  refine W.objInit hx hb hown (hts (.methodLink RX2 3 objectInit) (by decide +kernel)) (hts (.instanceMethod objectInit) (by decide +kernel)) (hts (.code objectInit ⟨#[0xb1]⟩ 1 none) (by decide +kernel)) rfl (by rw [hml]; exact hl.1) rfl dX2_init_1 (Nat.le_of_ble_eq_true rfl) (Nat.le_of_ble_eq_true rfl) ?_
  refine W.eq (g2 := F0 m 4 ls []) rfl ?_
  refine lv_aload_n hx hb dX2_init_4 rfl (lv_at hl 0 rfl) ?_
  refine lv_bipush (v := 6) hx hb dX2_init_5 (by decide) ?_
  refine k_newa (atype := .int) (ty := .int) (c0 := G.2.1) (a0 := (6, .inl (fun _ => 0))) (N' := 6) hx hb (hts (.arrayClass .int) (by decide +kernel)) rfl hE 0 rfl ra_int hP hD hS hA (fun _ => rfl) (by decide) rfl (by decide) (Nat.le_of_ble_eq_true rfl) (Nat.le_of_ble_eq_true rfl) dX2_init_7 (fun q1 H hP hD hS => ?_)
  have hP : va_P G.1 vwCl [(q, .inr (2, [.null, .null, .null, .null, .null, .int 0])), wcI G q1 6 (fun _ => 0)] H := hP
  have hD : va_D _ [(q, .inr (2, [.null, .null, .null, .null, .null, .int 0])), wcI G q1 6 (fun _ => 0)] := hD
  refine W.widen (k := 1) (n := 6) (by decide) (by decide) ?_
  refine va_putF (D := G.1) (ci := 2) (v := .ref q1) (ty := .array .int) (C := RX2) (T := TX2) (N := 6) hx hb hts iw_X2_init tyX2 tyX2_ok nmX2 hown hE.1 hP hD hS 0 rfl rfl 0 (by decide) (hts (.fieldLink RX2 9 "Rackrail$Store" "shelfClimates" "[I") (by decide +kernel)) (fun _ h9 => h9) rfl hin rfl (by decide +kernel) rfl rfl (Nat.le_of_ble_eq_true rfl) dX2_init_9 (fun H locs hP hD hS => ?_)
  have hP : va_P G.1 vwCl [(q, .inr (2, [.ref q1, .null, .null, .null, .null, .int 0])), wcI G q1 6 (fun _ => 0)] H := hP
  have hD : va_D _ [(q, .inr (2, [.ref q1, .null, .null, .null, .null, .int 0])), wcI G q1 6 (fun _ => 0)] := hD
  refine lv_aload_n hx hb dX2_init_12 rfl (lv_at hl 0 rfl) ?_
  refine lv_bipush (v := 20) hx hb dX2_init_13 (by decide) ?_
  refine k_newa (atype := .int) (ty := .int) (c0 := G.2.1) (a0 := (20, .inl (fun _ => 0))) (N' := 20) hx hb (hts (.arrayClass .int) (by decide +kernel)) rfl hE 0 rfl ra_int hP hD hS hA (fun _ => rfl) (by decide) rfl (by decide) (Nat.le_of_ble_eq_true rfl) (Nat.le_of_ble_eq_true rfl) dX2_init_15 (fun q2 H hP hD hS => ?_)
  have hP : va_P G.1 vwCl [(q, .inr (2, [.ref q1, .null, .null, .null, .null, .int 0])), wcI G q1 6 (fun _ => 0), wcI G q2 20 (fun _ => 0)] H := hP
  have hD : va_D _ [(q, .inr (2, [.ref q1, .null, .null, .null, .null, .int 0])), wcI G q1 6 (fun _ => 0), wcI G q2 20 (fun _ => 0)] := hD
  refine W.widen (k := 2) (n := 26) (by decide) (by decide) ?_
  refine va_putF (D := G.1) (ci := 2) (v := .ref q2) (ty := .array .int) (C := RX2) (T := TX2) (N := 6) hx hb hts iw_X2_init tyX2 tyX2_ok nmX2 hown hE.1 hP hD hS 0 rfl rfl 1 (by decide) (hts (.fieldLink RX2 15 "Rackrail$Store" "climates" "[I") (by decide +kernel)) (fun _ h9 => h9) rfl hin rfl (by decide +kernel) rfl rfl (Nat.le_of_ble_eq_true rfl) dX2_init_17 (fun H locs hP hD hS => ?_)
  have hP : va_P G.1 vwCl [(q, .inr (2, [.ref q1, .ref q2, .null, .null, .null, .int 0])), wcI G q1 6 (fun _ => 0), wcI G q2 20 (fun _ => 0)] H := hP
  have hD : va_D _ [(q, .inr (2, [.ref q1, .ref q2, .null, .null, .null, .int 0])), wcI G q1 6 (fun _ => 0), wcI G q2 20 (fun _ => 0)] := hD
  refine lv_aload_n hx hb dX2_init_20 rfl (lv_at hl 0 rfl) ?_
  refine lv_bipush (v := 20) hx hb dX2_init_21 (by decide) ?_
  refine k_newa (atype := .int) (ty := .int) (c0 := G.2.1) (a0 := (20, .inl (fun _ => 0))) (N' := 20) hx hb (hts (.arrayClass .int) (by decide +kernel)) rfl hE 0 rfl ra_int hP hD hS hA (fun _ => rfl) (by decide) rfl (by decide) (Nat.le_of_ble_eq_true rfl) (Nat.le_of_ble_eq_true rfl) dX2_init_23 (fun q3 H hP hD hS => ?_)
  have hP : va_P G.1 vwCl [(q, .inr (2, [.ref q1, .ref q2, .null, .null, .null, .int 0])), wcI G q1 6 (fun _ => 0), wcI G q2 20 (fun _ => 0), wcI G q3 20 (fun _ => 0)] H := hP
  have hD : va_D _ [(q, .inr (2, [.ref q1, .ref q2, .null, .null, .null, .int 0])), wcI G q1 6 (fun _ => 0), wcI G q2 20 (fun _ => 0), wcI G q3 20 (fun _ => 0)] := hD
  refine W.widen (k := 3) (n := 46) (by decide) (by decide) ?_
  refine va_putF (D := G.1) (ci := 2) (v := .ref q3) (ty := .array .int) (C := RX2) (T := TX2) (N := 6) hx hb hts iw_X2_init tyX2 tyX2_ok nmX2 hown hE.1 hP hD hS 0 rfl rfl 2 (by decide) (hts (.fieldLink RX2 18 "Rackrail$Store" "weights" "[I") (by decide +kernel)) (fun _ h9 => h9) rfl hin rfl (by decide +kernel) rfl rfl (Nat.le_of_ble_eq_true rfl) dX2_init_25 (fun H locs hP hD hS => ?_)
  have hP : va_P G.1 vwCl [(q, .inr (2, [.ref q1, .ref q2, .ref q3, .null, .null, .int 0])), wcI G q1 6 (fun _ => 0), wcI G q2 20 (fun _ => 0), wcI G q3 20 (fun _ => 0)] H := hP
  have hD : va_D _ [(q, .inr (2, [.ref q1, .ref q2, .ref q3, .null, .null, .int 0])), wcI G q1 6 (fun _ => 0), wcI G q2 20 (fun _ => 0), wcI G q3 20 (fun _ => 0)] := hD
  refine lv_aload_n hx hb dX2_init_28 rfl (lv_at hl 0 rfl) ?_
  refine lv_bipush (v := 20) hx hb dX2_init_29 (by decide) ?_
  refine k_newa (atype := .int) (ty := .int) (c0 := G.2.1) (a0 := (20, .inl (fun _ => 0))) (N' := 20) hx hb (hts (.arrayClass .int) (by decide +kernel)) rfl hE 0 rfl ra_int hP hD hS hA (fun _ => rfl) (by decide) rfl (by decide) (Nat.le_of_ble_eq_true rfl) (Nat.le_of_ble_eq_true rfl) dX2_init_31 (fun q4 H hP hD hS => ?_)
  have hP : va_P G.1 vwCl [(q, .inr (2, [.ref q1, .ref q2, .ref q3, .null, .null, .int 0])), wcI G q1 6 (fun _ => 0), wcI G q2 20 (fun _ => 0), wcI G q3 20 (fun _ => 0), wcI G q4 20 (fun _ => 0)] H := hP
  have hD : va_D _ [(q, .inr (2, [.ref q1, .ref q2, .ref q3, .null, .null, .int 0])), wcI G q1 6 (fun _ => 0), wcI G q2 20 (fun _ => 0), wcI G q3 20 (fun _ => 0), wcI G q4 20 (fun _ => 0)] := hD
  refine W.widen (k := 4) (n := 66) (by decide) (by decide) ?_
  refine va_putF (D := G.1) (ci := 2) (v := .ref q4) (ty := .array .int) (C := RX2) (T := TX2) (N := 6) hx hb hts iw_X2_init tyX2 tyX2_ok nmX2 hown hE.1 hP hD hS 0 rfl rfl 3 (by decide) (hts (.fieldLink RX2 21 "Rackrail$Store" "kins" "[I") (by decide +kernel)) (fun _ h9 => h9) rfl hin rfl (by decide +kernel) rfl rfl (Nat.le_of_ble_eq_true rfl) dX2_init_33 (fun H locs hP hD hS => ?_)
  have hP : va_P G.1 vwCl [(q, .inr (2, [.ref q1, .ref q2, .ref q3, .ref q4, .null, .int 0])), wcI G q1 6 (fun _ => 0), wcI G q2 20 (fun _ => 0), wcI G q3 20 (fun _ => 0), wcI G q4 20 (fun _ => 0)] H := hP
  have hD : va_D _ [(q, .inr (2, [.ref q1, .ref q2, .ref q3, .ref q4, .null, .int 0])), wcI G q1 6 (fun _ => 0), wcI G q2 20 (fun _ => 0), wcI G q3 20 (fun _ => 0), wcI G q4 20 (fun _ => 0)] := hD
  refine lv_aload_n hx hb dX2_init_36 rfl (lv_at hl 0 rfl) ?_
  refine lv_bipush (v := 20) hx hb dX2_init_37 (by decide) ?_
  refine k_newa (atype := .int) (ty := .int) (c0 := G.2.1) (a0 := (20, .inl (fun _ => 0))) (N' := 20) hx hb (hts (.arrayClass .int) (by decide +kernel)) rfl hE 0 rfl ra_int hP hD hS hA (fun _ => rfl) (by decide) rfl (by decide) (Nat.le_of_ble_eq_true rfl) (Nat.le_of_ble_eq_true rfl) dX2_init_39 (fun q5 H hP hD hS => ?_)
  have hP : va_P G.1 vwCl [(q, .inr (2, [.ref q1, .ref q2, .ref q3, .ref q4, .null, .int 0])), wcI G q1 6 (fun _ => 0), wcI G q2 20 (fun _ => 0), wcI G q3 20 (fun _ => 0), wcI G q4 20 (fun _ => 0), wcI G q5 20 (fun _ => 0)] H := hP
  have hD : va_D _ [(q, .inr (2, [.ref q1, .ref q2, .ref q3, .ref q4, .null, .int 0])), wcI G q1 6 (fun _ => 0), wcI G q2 20 (fun _ => 0), wcI G q3 20 (fun _ => 0), wcI G q4 20 (fun _ => 0), wcI G q5 20 (fun _ => 0)] := hD
  refine W.widen (k := 5) (n := 86) (by decide) (by decide) ?_
  refine va_putF (D := G.1) (ci := 2) (v := .ref q5) (ty := .array .int) (C := RX2) (T := TX2) (N := 6) hx hb hts iw_X2_init tyX2 tyX2_ok nmX2 hown hE.1 hP hD hS 0 rfl rfl 4 (by decide) (hts (.fieldLink RX2 24 "Rackrail$Store" "spots" "[I") (by decide +kernel)) (fun _ h9 => h9) rfl hin rfl (by decide +kernel) rfl rfl (Nat.le_of_ble_eq_true rfl) dX2_init_41 (fun H locs hP hD hS => ?_)
  have hP : va_P G.1 vwCl [(q, .inr (2, [.ref q1, .ref q2, .ref q3, .ref q4, .ref q5, .int 0])), wcI G q1 6 (fun _ => 0), wcI G q2 20 (fun _ => 0), wcI G q3 20 (fun _ => 0), wcI G q4 20 (fun _ => 0), wcI G q5 20 (fun _ => 0)] H := hP
  have hD : va_D _ [(q, .inr (2, [.ref q1, .ref q2, .ref q3, .ref q4, .ref q5, .int 0])), wcI G q1 6 (fun _ => 0), wcI G q2 20 (fun _ => 0), wcI G q3 20 (fun _ => 0), wcI G q4 20 (fun _ => 0), wcI G q5 20 (fun _ => 0)] := hD
  refine lv_aload_n hx hb dX2_init_44 rfl (lv_at hl 0 rfl) ?_
  refine lv_iconst (v := 0) hx hb dX2_init_45 (by decide) ?_
  refine va_put (D := G.1) (ci := 2) (v := .int 0) (ty := .int) (C := RX2) (T := TX2) (N := 6) hx hb hts iw_X2_init tyX2 tyX2_ok nmX2 hown hE.1 hP hD hS 0 rfl rfl 5 (by decide) (hts (.fieldLink RX2 27 "Rackrail$Store" "count" "I") (by decide +kernel)) (fun _ h9 => h9) rfl (by decide +kernel) rfl rfl (Nat.le_of_ble_eq_true rfl) dX2_init_46 (fun H locs hP hD hS => ?_)
  have hP : va_P G.1 vwCl [(q, .inr (2, [.ref q1, .ref q2, .ref q3, .ref q4, .ref q5, .int 0])), wcI G q1 6 (fun _ => 0), wcI G q2 20 (fun _ => 0), wcI G q3 20 (fun _ => 0), wcI G q4 20 (fun _ => 0), wcI G q5 20 (fun _ => 0)] H := hP
  have hD : va_D _ [(q, .inr (2, [.ref q1, .ref q2, .ref q3, .ref q4, .ref q5, .int 0])), wcI G q1 6 (fun _ => 0), wcI G q2 20 (fun _ => 0), wcI G q3 20 (fun _ => 0), wcI G q4 20 (fun _ => 0), wcI G q5 20 (fun _ => 0)] := hD
  exact W.vret hx hb hr (fun t ht _ => ⟨rfl, ⟨_, ⟨q1, q2, q3, q4, q5, rfl⟩, by rw [ht]; exact hP, hD⟩, hS.F ht⟩) hS.2.2 dX2_init_49

theorem iw_X3_init_RX0 : ∀ w ∈ u_ws RX0 TX0 5, w ∈ wsX3_init := by decide +kernel
theorem iw_X3_init_RX1 : ∀ w ∈ u_ws RX1 TX1 7, w ∈ wsX3_init := by decide +kernel
theorem iw_X3_init_RX2 : ∀ w ∈ u_ws RX2 TX2 6, w ∈ wsX3_init := by decide +kernel
theorem iw_X3_init_RX3 : ∀ w ∈ u_ws RX3 TX3 4, w ∈ wsX3_init := by decide +kernel
set_option maxHeartbeats 4000000 in
set_option maxRecDepth 100000 in
theorem c_X3_init (l : Launch) (G : GT) (q sz : Nat) : Met l yX3_init wsX3_init ({ frames := 2, cells := 14, slots := 211, locals := 45 }) (GP G [.ref q] [(q, .inr (3, [.null, .null, .null, .int 0]))] sz) (IQ G (fun w1 => ∃ a : Nat → Nat, a 0 = q ∧ w1 = [wcA a 0, wcS a 0, wcI G (a 2) 6 (fun _ => 0), wcI G (a 3) 20 (fun _ => 0), wcI G (a 4) 20 (fun _ => 0), wcI G (a 5) 20 (fun _ => 0), wcI G (a 6) 20 (fun _ => 0), wcR a 0 0 0 0, wcZ G (a 8) 7 (fun _ => 0), wcZ G (a 9) 4 (fun _ => 0), wcI G (a 10) 6 (fun _ => 0), wcO a 0 0, wcI G (a 12) 30 (fun _ => 0), wcI G (a 13) 30 (fun _ => 0), wcZ G (a 14) 30 (fun _ => 0)]) (va_A [(q, .inr (3, [.null, .null, .null, .int 0]))] sz)) 14 211 (va_A [(q, .inr (3, [.null, .null, .null, .int 0]))] sz) := by
  refine bodyI (cc := cX3_init) (maxL := 1) (ret := none) (by decide) rfl rfl (Nat.le_of_ble_eq_true rfl) ?_
  intro p e s m below meth c ls C hin
  obtain ⟨hx, hb, hr, hts, hown, hlocks, hml, hsz, hP, hE, hD, hA, hS, hl⟩ := C
  subst hsz
  have hl : lv_has ls 1 [(0, .ref q)] := hl
  refine lv_aload_n hx hb dX3_init_0 rfl (lv_at hl 0 rfl) ?_
  refine W.objInit hx hb hown (hts (.methodLink RX3 3 objectInit) (by decide +kernel)) (hts (.instanceMethod objectInit) (by decide +kernel)) (hts (.code objectInit ⟨#[0xb1]⟩ 1 none) (by decide +kernel)) rfl (by rw [hml]; exact hl.1) rfl dX3_init_1 (Nat.le_of_ble_eq_true rfl) (Nat.le_of_ble_eq_true rfl) ?_
  refine W.eq (g2 := F0 m 4 ls []) rfl ?_
  refine lv_aload_n hx hb dX3_init_4 rfl (lv_at hl 0 rfl) ?_
  refine va_new (ci := 2) (fs := [.null, .null, .null, .null, .null, .int 0]) (C := RX2) (T := TX2) (N := 6) hx hb hts iw_X3_init_RX2 tyX2 tyX2_ok hown (hts (.classLink RX3 9 RX2) (by decide +kernel)) (hts (.instantiable RX2 6) (by decide +kernel)) (hts (.initialized RX2) (by decide +kernel)) hE.1 hP hD hS hA rfl (fun j hj => by rcases (show j = 0 ∨ j = 1 ∨ j = 2 ∨ j = 3 ∨ j = 4 ∨ j = 5 by omega) with rfl | rfl | rfl | rfl | rfl | rfl <;> rfl) (Nat.le_of_ble_eq_true rfl) (Nat.le_of_ble_eq_true rfl) dX3_init_5 (fun qs H hP hD hS => ?_)
  have hP : va_P G.1 vwCl [(q, .inr (3, [.null, .null, .null, .int 0])), (qs, .inr (2, [.null, .null, .null, .null, .null, .int 0]))] H := hP
  have hD : va_D _ [(q, .inr (3, [.null, .null, .null, .int 0])), (qs, .inr (2, [.null, .null, .null, .null, .null, .int 0]))] := hD
  refine W.widen (k := 1) (n := 6) (by decide) (by decide) ?_
  refine lv_dup hx hb dX3_init_8 rfl ?_
  refine k_i (wc := [(qs, .inr (2, [.null, .null, .null, .null, .null, .int 0]))]) (wr := [(q, .inr (3, [.null, .null, .null, .int 0]))]) (va_runIN (As := []) (rest := [.ref qs, .ref q]) ⟨hx, hb, hml, hown, hts⟩ (c_X2_init l G qs H.size) ⟨va_cnB (host := "Rackrail") 0 hts gX3_init_X2_init_n11 rfl rfl rfl (hE.2.1 (RX3, 11, yX2_init) (by decide)) (hts (.initialized RX2) (by decide +kernel)) ⟨by decide +kernel, by decide +kernel, by decide +kernel⟩ ⟨Nat.le_of_ble_eq_true rfl, Nat.le_of_ble_eq_true rfl⟩, rfl, hts (.instanceMethod yX2_init) (by decide +kernel)⟩ ⟨GP.blind, GP.go (wc := [(qs, .inr (2, [.null, .null, .null, .null, .null, .int 0]))]) hE hP hD hS hA [1] rfl (by decide) [.ref qs]⟩ rfl rfl hl.1 rfl (lv_room (Nat.le_of_ble_eq_true rfl)) dX3_init_9 ⟨Nat.le_of_ble_eq_true rfl, Nat.le_of_ble_eq_true rfl⟩) hP hD hS hA [1] [0] rfl rfl (by decide) (by decide) (fun H locs w1 hw hP hD hS => ?_)
  obtain ⟨s1, s2, s3, s4, s5, rfl⟩ := hw
  have hP : va_P G.1 vwCl [(q, .inr (3, [.null, .null, .null, .int 0])), (qs, .inr (2, [.ref s1, .ref s2, .ref s3, .ref s4, .ref s5, .int 0])), wcI G s1 6 (fun _ => 0), wcI G s2 20 (fun _ => 0), wcI G s3 20 (fun _ => 0), wcI G s4 20 (fun _ => 0), wcI G s5 20 (fun _ => 0)] H := hP
  have hD : va_D _ [(q, .inr (3, [.null, .null, .null, .int 0])), (qs, .inr (2, [.ref s1, .ref s2, .ref s3, .ref s4, .ref s5, .int 0])), wcI G s1 6 (fun _ => 0), wcI G s2 20 (fun _ => 0), wcI G s3 20 (fun _ => 0), wcI G s4 20 (fun _ => 0), wcI G s5 20 (fun _ => 0)] := hD
  refine W.widen (k := 6) (n := 92) (by decide) (by decide) ?_
  refine va_putF (D := G.1) (ci := 3) (v := .ref qs) (ty := .object "Rackrail$Store") (C := RX3) (T := TX3) (N := 4) hx hb hts iw_X3_init_RX3 tyX3 tyX3_ok nmX3 hown hE.1 hP hD hS 0 rfl rfl 0 (by decide) (hts (.fieldLink RX3 12 "Rackrail" "store" "LRackrail$Store;") (by decide +kernel)) (fun _ h9 => h9) rfl hin rfl (by decide +kernel) rfl rfl (Nat.le_of_ble_eq_true rfl) dX3_init_12 (fun H locs hP hD hS => ?_)
  have hP : va_P G.1 vwCl [(q, .inr (3, [.ref qs, .null, .null, .int 0])), (qs, .inr (2, [.ref s1, .ref s2, .ref s3, .ref s4, .ref s5, .int 0])), wcI G s1 6 (fun _ => 0), wcI G s2 20 (fun _ => 0), wcI G s3 20 (fun _ => 0), wcI G s4 20 (fun _ => 0), wcI G s5 20 (fun _ => 0)] H := hP
  have hD : va_D _ [(q, .inr (3, [.ref qs, .null, .null, .int 0])), (qs, .inr (2, [.ref s1, .ref s2, .ref s3, .ref s4, .ref s5, .int 0])), wcI G s1 6 (fun _ => 0), wcI G s2 20 (fun _ => 0), wcI G s3 20 (fun _ => 0), wcI G s4 20 (fun _ => 0), wcI G s5 20 (fun _ => 0)] := hD
  refine lv_aload_n hx hb dX3_init_15 rfl (lv_at hl 0 rfl) ?_
  refine va_new (ci := 1) (fs := [.null, .null, .null, .int 0, .int 0, .int 0, .int 0]) (C := RX1) (T := TX1) (N := 7) hx hb hts iw_X3_init_RX1 tyX1 tyX1_ok hown (hts (.classLink RX3 16 RX1) (by decide +kernel)) (hts (.instantiable RX1 7) (by decide +kernel)) (hts (.initialized RX1) (by decide +kernel)) hE.1 hP hD hS hA rfl (fun j hj => by rcases (show j = 0 ∨ j = 1 ∨ j = 2 ∨ j = 3 ∨ j = 4 ∨ j = 5 ∨ j = 6 by omega) with rfl | rfl | rfl | rfl | rfl | rfl | rfl <;> rfl) (Nat.le_of_ble_eq_true rfl) (Nat.le_of_ble_eq_true rfl) dX3_init_16 (fun qr H hP hD hS => ?_)
  have hP : va_P G.1 vwCl [(q, .inr (3, [.ref qs, .null, .null, .int 0])), (qs, .inr (2, [.ref s1, .ref s2, .ref s3, .ref s4, .ref s5, .int 0])), wcI G s1 6 (fun _ => 0), wcI G s2 20 (fun _ => 0), wcI G s3 20 (fun _ => 0), wcI G s4 20 (fun _ => 0), wcI G s5 20 (fun _ => 0), (qr, .inr (1, [.null, .null, .null, .int 0, .int 0, .int 0, .int 0]))] H := hP
  have hD : va_D _ [(q, .inr (3, [.ref qs, .null, .null, .int 0])), (qs, .inr (2, [.ref s1, .ref s2, .ref s3, .ref s4, .ref s5, .int 0])), wcI G s1 6 (fun _ => 0), wcI G s2 20 (fun _ => 0), wcI G s3 20 (fun _ => 0), wcI G s4 20 (fun _ => 0), wcI G s5 20 (fun _ => 0), (qr, .inr (1, [.null, .null, .null, .int 0, .int 0, .int 0, .int 0]))] := hD
  refine W.widen (k := 7) (n := 99) (by decide) (by decide) ?_
  refine lv_dup hx hb dX3_init_19 rfl ?_
  refine k_i (wc := [(qr, .inr (1, [.null, .null, .null, .int 0, .int 0, .int 0, .int 0]))]) (wr := [(q, .inr (3, [.ref qs, .null, .null, .int 0])), (qs, .inr (2, [.ref s1, .ref s2, .ref s3, .ref s4, .ref s5, .int 0])), wcI G s1 6 (fun _ => 0), wcI G s2 20 (fun _ => 0), wcI G s3 20 (fun _ => 0), wcI G s4 20 (fun _ => 0), wcI G s5 20 (fun _ => 0)]) (va_runIN (As := []) (rest := [.ref qr, .ref q]) ⟨hx, hb, hml, hown, hts⟩ (c_X1_init l G qr H.size) ⟨va_cnB (host := "Rackrail") 0 hts gX3_init_X1_init_n18 rfl rfl rfl (hE.2.1 (RX3, 18, yX1_init) (by decide)) (hts (.initialized RX1) (by decide +kernel)) ⟨by decide +kernel, by decide +kernel, by decide +kernel⟩ ⟨Nat.le_of_ble_eq_true rfl, Nat.le_of_ble_eq_true rfl⟩, rfl, hts (.instanceMethod yX1_init) (by decide +kernel)⟩ ⟨GP.blind, GP.go (wc := [(qr, .inr (1, [.null, .null, .null, .int 0, .int 0, .int 0, .int 0]))]) hE hP hD hS hA [7] rfl (by decide) [.ref qr]⟩ rfl rfl hl.1 rfl (lv_room (Nat.le_of_ble_eq_true rfl)) dX3_init_20 ⟨Nat.le_of_ble_eq_true rfl, Nat.le_of_ble_eq_true rfl⟩) hP hD hS hA [7] [0, 1, 2, 3, 4, 5, 6] rfl rfl (by decide) (by decide) (fun H locs w1 hw hP hD hS => ?_)
  obtain ⟨r1, r2, r3, rfl⟩ := hw
  have hP : va_P G.1 vwCl [(q, .inr (3, [.ref qs, .null, .null, .int 0])), (qs, .inr (2, [.ref s1, .ref s2, .ref s3, .ref s4, .ref s5, .int 0])), wcI G s1 6 (fun _ => 0), wcI G s2 20 (fun _ => 0), wcI G s3 20 (fun _ => 0), wcI G s4 20 (fun _ => 0), wcI G s5 20 (fun _ => 0), (qr, .inr (1, [.ref r1, .ref r2, .ref r3, .int 0, .int 0, .int 0, .int 0])), wcZ G r1 7 (fun _ => 0), wcZ G r2 4 (fun _ => 0), wcI G r3 6 (fun _ => 0)] H := hP
  have hD : va_D _ [(q, .inr (3, [.ref qs, .null, .null, .int 0])), (qs, .inr (2, [.ref s1, .ref s2, .ref s3, .ref s4, .ref s5, .int 0])), wcI G s1 6 (fun _ => 0), wcI G s2 20 (fun _ => 0), wcI G s3 20 (fun _ => 0), wcI G s4 20 (fun _ => 0), wcI G s5 20 (fun _ => 0), (qr, .inr (1, [.ref r1, .ref r2, .ref r3, .int 0, .int 0, .int 0, .int 0])), wcZ G r1 7 (fun _ => 0), wcZ G r2 4 (fun _ => 0), wcI G r3 6 (fun _ => 0)] := hD
  refine W.widen (k := 10) (n := 116) (by decide) (by decide) ?_
  refine va_putF (D := G.1) (ci := 3) (v := .ref qr) (ty := .object "Rackrail$Rail") (C := RX3) (T := TX3) (N := 4) hx hb hts iw_X3_init_RX3 tyX3 tyX3_ok nmX3 hown hE.1 hP hD hS 0 rfl rfl 1 (by decide) (hts (.fieldLink RX3 19 "Rackrail" "rail" "LRackrail$Rail;") (by decide +kernel)) (fun _ h9 => h9) rfl hin rfl (by decide +kernel) rfl rfl (Nat.le_of_ble_eq_true rfl) dX3_init_23 (fun H locs hP hD hS => ?_)
  have hP : va_P G.1 vwCl [(q, .inr (3, [.ref qs, .ref qr, .null, .int 0])), (qs, .inr (2, [.ref s1, .ref s2, .ref s3, .ref s4, .ref s5, .int 0])), wcI G s1 6 (fun _ => 0), wcI G s2 20 (fun _ => 0), wcI G s3 20 (fun _ => 0), wcI G s4 20 (fun _ => 0), wcI G s5 20 (fun _ => 0), (qr, .inr (1, [.ref r1, .ref r2, .ref r3, .int 0, .int 0, .int 0, .int 0])), wcZ G r1 7 (fun _ => 0), wcZ G r2 4 (fun _ => 0), wcI G r3 6 (fun _ => 0)] H := hP
  have hD : va_D _ [(q, .inr (3, [.ref qs, .ref qr, .null, .int 0])), (qs, .inr (2, [.ref s1, .ref s2, .ref s3, .ref s4, .ref s5, .int 0])), wcI G s1 6 (fun _ => 0), wcI G s2 20 (fun _ => 0), wcI G s3 20 (fun _ => 0), wcI G s4 20 (fun _ => 0), wcI G s5 20 (fun _ => 0), (qr, .inr (1, [.ref r1, .ref r2, .ref r3, .int 0, .int 0, .int 0, .int 0])), wcZ G r1 7 (fun _ => 0), wcZ G r2 4 (fun _ => 0), wcI G r3 6 (fun _ => 0)] := hD
  refine lv_aload_n hx hb dX3_init_26 rfl (lv_at hl 0 rfl) ?_
  refine va_new (ci := 0) (fs := [.null, .null, .null, .int 0, .int 0]) (C := RX0) (T := TX0) (N := 5) hx hb hts iw_X3_init_RX0 tyX0 tyX0_ok hown (hts (.classLink RX3 23 RX0) (by decide +kernel)) (hts (.instantiable RX0 5) (by decide +kernel)) (hts (.initialized RX0) (by decide +kernel)) hE.1 hP hD hS hA rfl (fun j hj => by rcases (show j = 0 ∨ j = 1 ∨ j = 2 ∨ j = 3 ∨ j = 4 by omega) with rfl | rfl | rfl | rfl | rfl <;> rfl) (Nat.le_of_ble_eq_true rfl) (Nat.le_of_ble_eq_true rfl) dX3_init_27 (fun qo H hP hD hS => ?_)
  have hP : va_P G.1 vwCl [(q, .inr (3, [.ref qs, .ref qr, .null, .int 0])), (qs, .inr (2, [.ref s1, .ref s2, .ref s3, .ref s4, .ref s5, .int 0])), wcI G s1 6 (fun _ => 0), wcI G s2 20 (fun _ => 0), wcI G s3 20 (fun _ => 0), wcI G s4 20 (fun _ => 0), wcI G s5 20 (fun _ => 0), (qr, .inr (1, [.ref r1, .ref r2, .ref r3, .int 0, .int 0, .int 0, .int 0])), wcZ G r1 7 (fun _ => 0), wcZ G r2 4 (fun _ => 0), wcI G r3 6 (fun _ => 0), (qo, .inr (0, [.null, .null, .null, .int 0, .int 0]))] H := hP
  have hD : va_D _ [(q, .inr (3, [.ref qs, .ref qr, .null, .int 0])), (qs, .inr (2, [.ref s1, .ref s2, .ref s3, .ref s4, .ref s5, .int 0])), wcI G s1 6 (fun _ => 0), wcI G s2 20 (fun _ => 0), wcI G s3 20 (fun _ => 0), wcI G s4 20 (fun _ => 0), wcI G s5 20 (fun _ => 0), (qr, .inr (1, [.ref r1, .ref r2, .ref r3, .int 0, .int 0, .int 0, .int 0])), wcZ G r1 7 (fun _ => 0), wcZ G r2 4 (fun _ => 0), wcI G r3 6 (fun _ => 0), (qo, .inr (0, [.null, .null, .null, .int 0, .int 0]))] := hD
  refine W.widen (k := 11) (n := 121) (by decide) (by decide) ?_
  refine lv_dup hx hb dX3_init_30 rfl ?_
  refine k_i (wc := [(qo, .inr (0, [.null, .null, .null, .int 0, .int 0]))]) (wr := [(q, .inr (3, [.ref qs, .ref qr, .null, .int 0])), (qs, .inr (2, [.ref s1, .ref s2, .ref s3, .ref s4, .ref s5, .int 0])), wcI G s1 6 (fun _ => 0), wcI G s2 20 (fun _ => 0), wcI G s3 20 (fun _ => 0), wcI G s4 20 (fun _ => 0), wcI G s5 20 (fun _ => 0), (qr, .inr (1, [.ref r1, .ref r2, .ref r3, .int 0, .int 0, .int 0, .int 0])), wcZ G r1 7 (fun _ => 0), wcZ G r2 4 (fun _ => 0), wcI G r3 6 (fun _ => 0)]) (va_runIN (As := []) (rest := [.ref qo, .ref q]) ⟨hx, hb, hml, hown, hts⟩ (c_X0_init l G qo H.size) ⟨va_cnB (host := "Rackrail") 0 hts gX3_init_X0_init_n25 rfl rfl rfl (hE.2.1 (RX3, 25, yX0_init) (by decide)) (hts (.initialized RX0) (by decide +kernel)) ⟨by decide +kernel, by decide +kernel, by decide +kernel⟩ ⟨Nat.le_of_ble_eq_true rfl, Nat.le_of_ble_eq_true rfl⟩, rfl, hts (.instanceMethod yX0_init) (by decide +kernel)⟩ ⟨GP.blind, GP.go (wc := [(qo, .inr (0, [.null, .null, .null, .int 0, .int 0]))]) hE hP hD hS hA [11] rfl (by decide) [.ref qo]⟩ rfl rfl hl.1 rfl (lv_room (Nat.le_of_ble_eq_true rfl)) dX3_init_31 ⟨Nat.le_of_ble_eq_true rfl, Nat.le_of_ble_eq_true rfl⟩) hP hD hS hA [11] [0, 1, 2, 3, 4, 5, 6, 7, 8, 9, 10] rfl rfl (by decide) (by decide) (fun H locs w1 hw hP hD hS => ?_)
  obtain ⟨o1, o2, o3, rfl⟩ := hw
  have hP : va_P G.1 vwCl [(q, .inr (3, [.ref qs, .ref qr, .null, .int 0])), (qs, .inr (2, [.ref s1, .ref s2, .ref s3, .ref s4, .ref s5, .int 0])), wcI G s1 6 (fun _ => 0), wcI G s2 20 (fun _ => 0), wcI G s3 20 (fun _ => 0), wcI G s4 20 (fun _ => 0), wcI G s5 20 (fun _ => 0), (qr, .inr (1, [.ref r1, .ref r2, .ref r3, .int 0, .int 0, .int 0, .int 0])), wcZ G r1 7 (fun _ => 0), wcZ G r2 4 (fun _ => 0), wcI G r3 6 (fun _ => 0), (qo, .inr (0, [.ref o1, .ref o2, .ref o3, .int 0, .int 0])), wcI G o1 30 (fun _ => 0), wcI G o2 30 (fun _ => 0), wcZ G o3 30 (fun _ => 0)] H := hP
  have hD : va_D _ [(q, .inr (3, [.ref qs, .ref qr, .null, .int 0])), (qs, .inr (2, [.ref s1, .ref s2, .ref s3, .ref s4, .ref s5, .int 0])), wcI G s1 6 (fun _ => 0), wcI G s2 20 (fun _ => 0), wcI G s3 20 (fun _ => 0), wcI G s4 20 (fun _ => 0), wcI G s5 20 (fun _ => 0), (qr, .inr (1, [.ref r1, .ref r2, .ref r3, .int 0, .int 0, .int 0, .int 0])), wcZ G r1 7 (fun _ => 0), wcZ G r2 4 (fun _ => 0), wcI G r3 6 (fun _ => 0), (qo, .inr (0, [.ref o1, .ref o2, .ref o3, .int 0, .int 0])), wcI G o1 30 (fun _ => 0), wcI G o2 30 (fun _ => 0), wcZ G o3 30 (fun _ => 0)] := hD
  refine W.widen (k := 14) (n := 211) (by decide) (by decide) ?_
  refine va_putF (D := G.1) (ci := 3) (v := .ref qo) (ty := .object "Rackrail$Orders") (C := RX3) (T := TX3) (N := 4) hx hb hts iw_X3_init_RX3 tyX3 tyX3_ok nmX3 hown hE.1 hP hD hS 0 rfl rfl 2 (by decide) (hts (.fieldLink RX3 26 "Rackrail" "orders" "LRackrail$Orders;") (by decide +kernel)) (fun _ h9 => h9) rfl hin rfl (by decide +kernel) rfl rfl (Nat.le_of_ble_eq_true rfl) dX3_init_34 (fun H locs hP hD hS => ?_)
  have hP : va_P G.1 vwCl [(q, .inr (3, [.ref qs, .ref qr, .ref qo, .int 0])), (qs, .inr (2, [.ref s1, .ref s2, .ref s3, .ref s4, .ref s5, .int 0])), wcI G s1 6 (fun _ => 0), wcI G s2 20 (fun _ => 0), wcI G s3 20 (fun _ => 0), wcI G s4 20 (fun _ => 0), wcI G s5 20 (fun _ => 0), (qr, .inr (1, [.ref r1, .ref r2, .ref r3, .int 0, .int 0, .int 0, .int 0])), wcZ G r1 7 (fun _ => 0), wcZ G r2 4 (fun _ => 0), wcI G r3 6 (fun _ => 0), (qo, .inr (0, [.ref o1, .ref o2, .ref o3, .int 0, .int 0])), wcI G o1 30 (fun _ => 0), wcI G o2 30 (fun _ => 0), wcZ G o3 30 (fun _ => 0)] H := hP
  have hD : va_D _ [(q, .inr (3, [.ref qs, .ref qr, .ref qo, .int 0])), (qs, .inr (2, [.ref s1, .ref s2, .ref s3, .ref s4, .ref s5, .int 0])), wcI G s1 6 (fun _ => 0), wcI G s2 20 (fun _ => 0), wcI G s3 20 (fun _ => 0), wcI G s4 20 (fun _ => 0), wcI G s5 20 (fun _ => 0), (qr, .inr (1, [.ref r1, .ref r2, .ref r3, .int 0, .int 0, .int 0, .int 0])), wcZ G r1 7 (fun _ => 0), wcZ G r2 4 (fun _ => 0), wcI G r3 6 (fun _ => 0), (qo, .inr (0, [.ref o1, .ref o2, .ref o3, .int 0, .int 0])), wcI G o1 30 (fun _ => 0), wcI G o2 30 (fun _ => 0), wcZ G o3 30 (fun _ => 0)] := hD
  refine lv_aload_n hx hb dX3_init_37 rfl (lv_at hl 0 rfl) ?_
  refine lv_iconst (v := 0) hx hb dX3_init_38 (by decide) ?_
  refine va_put (D := G.1) (ci := 3) (v := .int 0) (ty := .int) (C := RX3) (T := TX3) (N := 4) hx hb hts iw_X3_init_RX3 tyX3 tyX3_ok nmX3 hown hE.1 hP hD hS 0 rfl rfl 3 (by decide) (hts (.fieldLink RX3 30 "Rackrail" "clock" "I") (by decide +kernel)) (fun _ h9 => h9) rfl (by decide +kernel) rfl rfl (Nat.le_of_ble_eq_true rfl) dX3_init_39 (fun H locs hP hD hS => ?_)
  have hP : va_P G.1 vwCl [(q, .inr (3, [.ref qs, .ref qr, .ref qo, .int 0])), (qs, .inr (2, [.ref s1, .ref s2, .ref s3, .ref s4, .ref s5, .int 0])), wcI G s1 6 (fun _ => 0), wcI G s2 20 (fun _ => 0), wcI G s3 20 (fun _ => 0), wcI G s4 20 (fun _ => 0), wcI G s5 20 (fun _ => 0), (qr, .inr (1, [.ref r1, .ref r2, .ref r3, .int 0, .int 0, .int 0, .int 0])), wcZ G r1 7 (fun _ => 0), wcZ G r2 4 (fun _ => 0), wcI G r3 6 (fun _ => 0), (qo, .inr (0, [.ref o1, .ref o2, .ref o3, .int 0, .int 0])), wcI G o1 30 (fun _ => 0), wcI G o2 30 (fun _ => 0), wcZ G o3 30 (fun _ => 0)] H := hP
  have hD : va_D _ [(q, .inr (3, [.ref qs, .ref qr, .ref qo, .int 0])), (qs, .inr (2, [.ref s1, .ref s2, .ref s3, .ref s4, .ref s5, .int 0])), wcI G s1 6 (fun _ => 0), wcI G s2 20 (fun _ => 0), wcI G s3 20 (fun _ => 0), wcI G s4 20 (fun _ => 0), wcI G s5 20 (fun _ => 0), (qr, .inr (1, [.ref r1, .ref r2, .ref r3, .int 0, .int 0, .int 0, .int 0])), wcZ G r1 7 (fun _ => 0), wcZ G r2 4 (fun _ => 0), wcI G r3 6 (fun _ => 0), (qo, .inr (0, [.ref o1, .ref o2, .ref o3, .int 0, .int 0])), wcI G o1 30 (fun _ => 0), wcI G o2 30 (fun _ => 0), wcZ G o3 30 (fun _ => 0)] := hD
  exact W.vret hx hb hr (fun t ht _ => ⟨rfl, ⟨_, ⟨fun i => ([q, qs, s1, s2, s3, s4, s5, qr, r1, r2, r3, qo, o1, o2, o3] : List Nat).getD i 0, rfl, rfl⟩, by rw [ht]; exact hP, hD⟩, hS.F ht⟩) hS.2.2 dX3_init_42

