/-! X0_isFull -/
def f_X0_isFull (oc : Int32) : Int32 :=
  if oc < 30 then 0
    else 1
theorem b_X0_isFull (oc : Int32) : f_X0_isFull oc = 0 ∨ f_X0_isFull oc = 1 := by
  rw [f_X0_isFull]
  (repeat' split) <;> first | exact Or.inl rfl | exact Or.inr rfl
theorem in_fullO {oc : Int32} (hoc : okN 30 oc) (h : f_X0_isFull oc = 0) : vp_in oc 30 := by
  obtain ⟨n, hn, e⟩ := hoc
  refine in_of (by decide) (by rw [e]; exact nI_pos (by omega)) (fun z => ?_)
  have h1 : f_X0_isFull oc = 1 := by
    rw [f_X0_isFull, if_neg]
    intro z2
    rw [e] at z z2
    have h2 := (nI_leI (by decide) (by omega)).mp z
    exact absurd z2 (nI_nlt h2 (by omega))
  rw [h1] at h
  exact absurd h (by decide)
theorem iw_X0_isFull_RX0 : ∀ w ∈ u_ws RX0 TX0 5, w ∈ wsX0_isFull := by decide +kernel
set_option maxHeartbeats 4000000 in
set_option maxRecDepth 100000 in
theorem c_X0_isFull (l : Launch) (G : GT) (a : Nat → Nat) (sz : Nat) (oc : Int32) (lt : Int32) : Met l yX0_isFull wsX0_isFull ({ frames := 0, cells := 0, slots := 0, locals := 0 }) (GP G [.ref (a 11)] [wcO a oc lt] sz) (PQo (.returned (some (.int (f_X0_isFull oc))))) 0 0 (fun _ => False) := by
  refine bodyM (cc := cX0_isFull) (maxL := 1) (ret := (some .boolean)) (by decide) rfl (Nat.le_of_ble_eq_true rfl) ?_
  intro p e s m below meth c ls C
  obtain ⟨hx, hb, hr, hts, hown, hlocks, hml, hsz, hP, hE, hD, hA, hS, hl⟩ := C
  subst hsz
  have hl : lv_has ls 1 [(0, .ref (a 11))] := hl
  refine lv_aload_n hx hb dX0_isFull_0 rfl (lv_at hl 0 rfl) ?_
  refine va_get (D := G.1) (ci := 0) (v := .int oc) (C := RX0) (T := TX0) (N := 5) hx hb hts iw_X0_isFull_RX0 hown hE.1 hP 0 rfl rfl 3 (by decide) (hts (.fieldLink RX0 22 "Rackrail$Orders" "count" "I") (by decide +kernel)) (fun _ h9 => h9) rfl dX0_isFull_1 ?_
  refine lv_bipush (v := 30) hx hb dX0_isFull_4 (by decide) ?_
  refine lv_icmp_lt (tgt := 13) hx hb dX0_isFull_6 (by decide) (fun c_6 => ?_) (fun c_6 => ?_)
  · refine lv_iconst (v := 0) hx hb dX0_isFull_13 (by decide) ?_
    have hq : f_X0_isFull oc = 0 := (by rw [f_X0_isFull, if_pos c_6])
    exact W.zret (v := 0) hx hb hr rfl (fun t ht _ => ⟨by rw [hq], ht⟩) (fun _ h => nomatch h) dX0_isFull_14
  · refine lv_iconst (v := 1) hx hb dX0_isFull_9 (by decide) ?_
    refine lv_goto (tgt := 14) hx hb dX0_isFull_10 (by decide) ?_
    have hq : f_X0_isFull oc = 1 := (by rw [f_X0_isFull, if_neg c_6])
    exact W.zret (v := 1) hx hb hr rfl (fun t ht _ => ⟨by rw [hq], ht⟩) (fun _ h => nomatch h) dX0_isFull_14

/-! X0_enter -/
def f_X0_enter (oc : Int32) (ob : Nat → Int32) (od : Nat → Int32) (p0 : Int32) (p1 : Int32) : Int32 × Int32 × (Nat → Int32) × (Nat → Int32) :=
  if (f_X0_isFull oc) = 0 then (oc, oc + 1, upd ob oc.toNatClampNeg p0, upd od oc.toNatClampNeg p1)
    else ((-1), oc, ob, od)
theorem iw_X0_enter_RX0 : ∀ w ∈ u_ws RX0 TX0 5, w ∈ wsX0_enter := by decide +kernel
set_option maxHeartbeats 4000000 in
set_option maxRecDepth 100000 in
theorem c_X0_enter (l : Launch) (G : GT) (a : Nat → Nat) (sz : Nat) (oc : Int32) (lt : Int32) (ob : Nat → Int32) (od : Nat → Int32) (p0 : Int32) (p1 : Int32) (hoc : okN 30 oc) : Met l yX0_enter wsX0_enter ({ frames := 1, cells := 0, slots := 0, locals := 20 }) (GP G [.ref (a 11), .int p0, .int p1] [wcO a oc lt, wcI G (a 12) 30 ob, wcI G (a 13) 30 od] sz) (MQo G (.returned (some (.int ((f_X0_enter oc ob od p0 p1).1)))) [wcO a ((f_X0_enter oc ob od p0 p1).2.1) lt, wcI G (a 12) 30 ((f_X0_enter oc ob od p0 p1).2.2.1), wcI G (a 13) 30 ((f_X0_enter oc ob od p0 p1).2.2.2)] (va_A [wcO a oc lt, wcI G (a 12) 30 ob, wcI G (a 13) 30 od] sz)) 0 0 (va_A [wcO a oc lt, wcI G (a 12) 30 ob, wcI G (a 13) 30 od] sz) := by
  refine bodyM (cc := cX0_enter) (maxL := 4) (ret := (some .int)) (by decide) rfl (Nat.le_of_ble_eq_true rfl) ?_
  intro p e s m below meth c ls C
  obtain ⟨hx, hb, hr, hts, hown, hlocks, hml, hsz, hP, hE, hD, hA, hS, hl⟩ := C
  subst hsz
  have hl : lv_has ls 4 [(0, .ref (a 11)), (1, .int p0), (2, .int p1)] := hl
  refine lv_aload_n hx hb dX0_enter_0 rfl (lv_at hl 0 rfl) ?_
  refine k_p (va_runV (As := []) (rest := []) ⟨hx, hb, hml, hown, hts⟩ (c_X0_isFull l G a s.heap.size oc lt) (cwV 0 hts gX0_enter_X0_isFull rfl rfl rfl ⟨rfl, by decide +kernel, by decide +kernel, by decide +kernel⟩ ⟨Nat.le_of_ble_eq_true rfl, Nat.le_of_ble_eq_true rfl⟩) ⟨GP.blind, va_recv hE.1 hP (ci := 0) (q0 := 0) rfl rfl, GP.go (wc := [wcO a oc lt]) hE hP hD hS hA [0] rfl (by decide) [.ref (a 11)]⟩ rfl rfl hl.1 rfl (lv_room (Nat.le_of_ble_eq_true rfl)) dX0_enter_1 ⟨Nat.le_of_ble_eq_true rfl, Nat.le_of_ble_eq_true rfl⟩) ?_
  refine lv_if_eq (tgt := 9) hx hb dX0_enter_4 (by decide) (fun c_4 => ?_) (fun c_4 => ?_)
  · refine lv_aload_n hx hb dX0_enter_9 rfl (lv_at hl 0 rfl) ?_
    refine va_get (D := G.1) (ci := 0) (v := .int oc) (C := RX0) (T := TX0) (N := 5) hx hb hts iw_X0_enter_RX0 hown hE.1 hP 0 rfl rfl 3 (by decide) (hts (.fieldLink RX0 22 "Rackrail$Orders" "count" "I") (by decide +kernel)) (fun _ h9 => h9) rfl dX0_enter_10 ?_
    refine lv_istore_n (lv' := [(3, .int oc), (0, .ref (a 11)), (1, .int p0), (2, .int p1)]) hx hb dX0_enter_13 rfl hl (by decide) rfl (fun ls hl => ?_)
    refine lv_aload_n hx hb dX0_enter_14 rfl (lv_at hl 1 rfl) ?_
    refine va_get (D := G.1) (ci := 0) (v := .ref (a 12)) (C := RX0) (T := TX0) (N := 5) hx hb hts iw_X0_enter_RX0 hown hE.1 hP 0 rfl rfl 0 (by decide) (hts (.fieldLink RX0 9 "Rackrail$Orders" "boxes" "[I") (by decide +kernel)) (fun _ h9 => h9) rfl dX0_enter_15 ?_
    refine lv_iload_n hx hb dX0_enter_18 rfl (lv_at hl 0 rfl) ?_
    refine lv_iload_n hx hb dX0_enter_19 rfl (lv_at hl 2 rfl) ?_
    refine va_iast hx hb hE.1 hP hD hS 1 0 rfl rfl (in_fullO hoc c_4) dX0_enter_20 (fun H locs hP hD hS => ?_)
    have hP : va_P G.1 vwCl [wcO a oc lt, wcI G (a 12) 30 (upd ob oc.toNatClampNeg p0), wcI G (a 13) 30 od] H := hP
    have hD : va_D _ [wcO a oc lt, wcI G (a 12) 30 (upd ob oc.toNatClampNeg p0), wcI G (a 13) 30 od] := hD
    refine lv_aload_n hx hb dX0_enter_21 rfl (lv_at hl 1 rfl) ?_
    refine va_get (D := G.1) (ci := 0) (v := .ref (a 13)) (C := RX0) (T := TX0) (N := 5) hx hb hts iw_X0_enter_RX0 hown hE.1 hP 0 rfl rfl 1 (by decide) (hts (.fieldLink RX0 15 "Rackrail$Orders" "deadlines" "[I") (by decide +kernel)) (fun _ h9 => h9) rfl dX0_enter_22 ?_
    refine lv_iload_n hx hb dX0_enter_25 rfl (lv_at hl 0 rfl) ?_
    refine lv_iload_n hx hb dX0_enter_26 rfl (lv_at hl 3 rfl) ?_
    refine va_iast hx hb hE.1 hP hD hS 2 0 rfl rfl (in_fullO hoc c_4) dX0_enter_27 (fun H locs hP hD hS => ?_)
    have hP : va_P G.1 vwCl [wcO a oc lt, wcI G (a 12) 30 (upd ob oc.toNatClampNeg p0), wcI G (a 13) 30 (upd od oc.toNatClampNeg p1)] H := hP
    have hD : va_D _ [wcO a oc lt, wcI G (a 12) 30 (upd ob oc.toNatClampNeg p0), wcI G (a 13) 30 (upd od oc.toNatClampNeg p1)] := hD
    refine lv_aload_n hx hb dX0_enter_28 rfl (lv_at hl 1 rfl) ?_
    refine lv_dup hx hb dX0_enter_29 rfl ?_
    refine va_get (D := G.1) (ci := 0) (v := .int oc) (C := RX0) (T := TX0) (N := 5) hx hb hts iw_X0_enter_RX0 hown hE.1 hP 0 rfl rfl 3 (by decide) (hts (.fieldLink RX0 22 "Rackrail$Orders" "count" "I") (by decide +kernel)) (fun _ h9 => h9) rfl dX0_enter_30 ?_
    refine lv_iconst (v := 1) hx hb dX0_enter_33 (by decide) ?_
    refine lv_iadd hx hb dX0_enter_34 ?_
    refine va_put (D := G.1) (ci := 0) (v := .int (oc + 1)) (ty := .int) (C := RX0) (T := TX0) (N := 5) hx hb hts iw_X0_enter_RX0 tyX0 tyX0_ok nmX0 hown hE.1 hP hD hS 0 rfl rfl 3 (by decide) (hts (.fieldLink RX0 22 "Rackrail$Orders" "count" "I") (by decide +kernel)) (fun _ h9 => h9) rfl (by decide +kernel) rfl rfl (Nat.le_of_ble_eq_true rfl) dX0_enter_35 (fun H locs hP hD hS => ?_)
    have hP : va_P G.1 vwCl [wcO a (oc + 1) lt, wcI G (a 12) 30 (upd ob oc.toNatClampNeg p0), wcI G (a 13) 30 (upd od oc.toNatClampNeg p1)] H := hP
    have hD : va_D _ [wcO a (oc + 1) lt, wcI G (a 12) 30 (upd ob oc.toNatClampNeg p0), wcI G (a 13) 30 (upd od oc.toNatClampNeg p1)] := hD
    refine lv_iload_n hx hb dX0_enter_38 rfl (lv_at hl 0 rfl) ?_
    have hq : f_X0_enter oc ob od p0 p1 = (oc, oc + 1, upd ob oc.toNatClampNeg p0, upd od oc.toNatClampNeg p1) := (by rw [f_X0_enter, if_pos c_4])
    exact W.iret (v := oc) hx hb hr (fun t ht _ => ⟨by rw [hq], by rw [hq, ht]; exact hP, hS.F ht⟩) hS.2.2 dX0_enter_39
  · refine lv_iconst (v := (-1)) hx hb dX0_enter_7 (by decide) ?_
    have hq : f_X0_enter oc ob od p0 p1 = ((-1), oc, ob, od) := (by rw [f_X0_enter, if_neg c_4])
    exact W.iret (v := (-1)) hx hb hr (fun t ht _ => ⟨by rw [hq], by rw [hq, ht]; exact hP, hS.F ht⟩) hS.2.2 dX0_enter_8

/-! X0_boxOf -/
def f_X0_boxOf (oc : Int32) (ob : Nat → Int32) (p0 : Int32) : Int32 :=
  if (f_X3_isBelow p0 oc) = 0 then (-1)
    else ob p0.toNatClampNeg
theorem iw_X0_boxOf_RX0 : ∀ w ∈ u_ws RX0 TX0 5, w ∈ wsX0_boxOf := by decide +kernel
set_option maxHeartbeats 4000000 in
set_option maxRecDepth 100000 in
theorem c_X0_boxOf (l : Launch) (G : GT) (a : Nat → Nat) (sz : Nat) (oc : Int32) (lt : Int32) (ob : Nat → Int32) (p0 : Int32) (hoc : okN 30 oc) : Met l yX0_boxOf wsX0_boxOf ({ frames := 1, cells := 0, slots := 0, locals := 21 }) (GP G [.ref (a 11), .int p0] [wcO a oc lt, wcI G (a 12) 30 ob] sz) (PQo (.returned (some (.int (f_X0_boxOf oc ob p0))))) 0 0 (fun _ => False) := by
  refine bodyM (cc := cX0_boxOf) (maxL := 2) (ret := (some .int)) (by decide) rfl (Nat.le_of_ble_eq_true rfl) ?_
  intro p e s m below meth c ls C
  obtain ⟨hx, hb, hr, hts, hown, hlocks, hml, hsz, hP, hE, hD, hA, hS, hl⟩ := C
  subst hsz
  have hl : lv_has ls 2 [(0, .ref (a 11)), (1, .int p0)] := hl
  refine lv_iload_n hx hb dX0_boxOf_0 rfl (lv_at hl 1 rfl) ?_
  refine lv_aload_n hx hb dX0_boxOf_1 rfl (lv_at hl 0 rfl) ?_
  refine va_get (D := G.1) (ci := 0) (v := .int oc) (C := RX0) (T := TX0) (N := 5) hx hb hts iw_X0_boxOf_RX0 hown hE.1 hP 0 rfl rfl 3 (by decide) (hts (.fieldLink RX0 22 "Rackrail$Orders" "count" "I") (by decide +kernel)) (fun _ h9 => h9) rfl dX0_boxOf_2 ?_
  refine k_p (va_runSN (As := [.int p0, .int oc]) (rest := []) ⟨hx, hb, hml, hown, hts⟩ (c_X3_isBelow l G s.heap.size p0 oc) ⟨va_cnB (host := "Rackrail") 2 hts gX0_boxOf_X3_isBelow_n33 rfl rfl rfl (hE.2.1 (RX0, 33, yX3_isBelow) (by decide)) (hts (.initialized RX3) (by decide +kernel)) ⟨by decide +kernel, by decide +kernel, by decide +kernel⟩ ⟨Nat.le_of_ble_eq_true rfl, Nat.le_of_ble_eq_true rfl⟩, hts (.static yX3_isBelow) (by decide +kernel), trivial⟩ ⟨GP.blind, GP.go (wc := []) hE hP hD hS hA [] rfl (by decide) [.int p0, .int oc]⟩ rfl rfl hl.1 rfl (lv_room (Nat.le_of_ble_eq_true rfl)) dX0_boxOf_5 ⟨Nat.le_of_ble_eq_true rfl, Nat.le_of_ble_eq_true rfl⟩) ?_
  refine lv_if_eq (tgt := 20) hx hb dX0_boxOf_8 (by decide) (fun c_8 => ?_) (fun c_8 => ?_)
  · refine lv_iconst (v := (-1)) hx hb dX0_boxOf_20 (by decide) ?_
    have hq : f_X0_boxOf oc ob p0 = (-1) := (by rw [f_X0_boxOf, if_pos c_8])
    exact W.iret (v := (-1)) hx hb hr (fun t ht _ => ⟨by rw [hq], ht⟩) (fun _ h => nomatch h) dX0_boxOf_21
  · refine lv_aload_n hx hb dX0_boxOf_11 rfl (lv_at hl 0 rfl) ?_
    refine va_get (D := G.1) (ci := 0) (v := .ref (a 12)) (C := RX0) (T := TX0) (N := 5) hx hb hts iw_X0_boxOf_RX0 hown hE.1 hP 0 rfl rfl 0 (by decide) (hts (.fieldLink RX0 9 "Rackrail$Orders" "boxes" "[I") (by decide +kernel)) (fun _ h9 => h9) rfl dX0_boxOf_12 ?_
    refine lv_iload_n hx hb dX0_boxOf_15 rfl (lv_at hl 1 rfl) ?_
    refine va_iald hx hb hE.1 hP 1 0 rfl rfl (in_mo hoc c_8) dX0_boxOf_16 ?_
    refine lv_goto (tgt := 21) hx hb dX0_boxOf_17 (by decide) ?_
    have hq : f_X0_boxOf oc ob p0 = (ob p0.toNatClampNeg) := (by rw [f_X0_boxOf, if_neg c_8])
    exact W.iret (v := ob p0.toNatClampNeg) hx hb hr (fun t ht _ => ⟨by rw [hq], ht⟩) (fun _ h => nomatch h) dX0_boxOf_21

/-! X0_isOpenFor -/
def f_X0_isOpenFor_L (ob : Nat → Int32) (dn : Nat → Int32) (p0 : Int32) : Nat → Nat → Int32
  | 0, j => 0
  | r + 1, j => if (dn (nI j).toNatClampNeg) = 0 then (if (ob (nI j).toNatClampNeg) = p0 then 1
      else f_X0_isOpenFor_L ob dn p0 r (j + 1))
    else f_X0_isOpenFor_L ob dn p0 r (j + 1)
def f_X0_isOpenFor (oc : Int32) (ob : Nat → Int32) (dn : Nat → Int32) (p0 : Int32) : Int32 :=
  f_X0_isOpenFor_L ob dn p0 oc.toNatClampNeg 0
theorem iw_X0_isOpenFor_RX0 : ∀ w ∈ u_ws RX0 TX0 5, w ∈ wsX0_isOpenFor := by decide +kernel
set_option maxHeartbeats 4000000 in
set_option maxRecDepth 100000 in
theorem c_X0_isOpenFor (l : Launch) (G : GT) (a : Nat → Nat) (sz : Nat) (oc : Int32) (lt : Int32) (ob : Nat → Int32) (dn : Nat → Int32) (p0 : Int32) (hoc : okN 30 oc) : Met l yX0_isOpenFor wsX0_isOpenFor ({ frames := 0, cells := 0, slots := 0, locals := 0 }) (GP G [.ref (a 11), .int p0] [wcO a oc lt, wcI G (a 12) 30 ob, wcZ G (a 14) 30 dn] sz) (PQo (.returned (some (.int (f_X0_isOpenFor oc ob dn p0))))) 0 0 (fun _ => False) := by
  refine bodyM (cc := cX0_isOpenFor) (maxL := 3) (ret := (some .boolean)) (by decide) rfl (Nat.le_of_ble_eq_true rfl) ?_
  intro p e s m below meth c ls C
  obtain ⟨hx, hb, hr, hts, hown, hlocks, hml, hsz, hP, hE, hD, hA, hS, hl⟩ := C
  subst hsz
  have hl : lv_has ls 3 [(0, .ref (a 11)), (1, .int p0)] := hl
  obtain ⟨n, hn, hoc2⟩ := id hoc
  have hcl : oc.toNatClampNeg = n := by rw [hoc2]; exact nI_clamp (by omega)
  refine lv_iconst (v := 0) hx hb dX0_isOpenFor_0 (by decide) ?_
  refine lv_istore_n (lv' := [(2, .int 0), (0, .ref (a 11)), (1, .int p0)]) hx hb dX0_isOpenFor_1 rfl hl (by decide) rfl (fun ls hl => ?_)
  refine k_loopP (α := Unit) (fun (r j : Nat) (x : Unit) (ls : Array Slot) => j + r = n ∧ f_X0_isOpenFor oc ob dn p0 = f_X0_isOpenFor_L ob dn p0 r j ∧ lv_has ls 3 [(2, .int (nI j)), (0, .ref (a 11)), (1, .int p0)]) n 0 () ⟨by omega, (by rw [f_X0_isOpenFor, hcl]), lv_sub hl [0, 1, 2] rfl⟩ ?_ ?_
  · intro j x ls hI
    obtain ⟨hj, hf, hl⟩ := hI
    have hl : lv_has ls 3 [(2, .int (nI j)), (0, .ref (a 11)), (1, .int p0)] := hl
    have hf : f_X0_isOpenFor oc ob dn p0 = f_X0_isOpenFor_L ob dn p0 0 j := hf
    refine lv_iload_n hx hb dX0_isOpenFor_2 rfl (lv_at hl 0 rfl) ?_
    refine lv_aload_n hx hb dX0_isOpenFor_3 rfl (lv_at hl 1 rfl) ?_
    refine va_get (D := G.1) (ci := 0) (v := .int oc) (C := RX0) (T := TX0) (N := 5) hx hb hts iw_X0_isOpenFor_RX0 hown hE.1 hP 0 rfl rfl 3 (by decide) (hts (.fieldLink RX0 22 "Rackrail$Orders" "count" "I") (by decide +kernel)) (fun _ h9 => h9) rfl dX0_isOpenFor_4 ?_
    refine lv_icmp_ge (tgt := 37) hx hb dX0_isOpenFor_7 (by decide) (fun c_7 => ?_) (fun c_7 => absurd (lp_a hoc2 (by omega) (by omega)) c_7)
    refine lv_iconst (v := 0) hx hb dX0_isOpenFor_37 (by decide) ?_
    have hq : f_X0_isOpenFor oc ob dn p0 = 0 := (hf.trans (by rw [f_X0_isOpenFor_L]))
    exact W.zret (v := 0) hx hb hr rfl (fun t ht _ => ⟨by rw [hq], ht⟩) (fun _ h => nomatch h) dX0_isOpenFor_38
  · intro r ih j x ls hI
    obtain ⟨hj, hf, hl⟩ := hI
    have hl : lv_has ls 3 [(2, .int (nI j)), (0, .ref (a 11)), (1, .int p0)] := hl
    have hf : f_X0_isOpenFor oc ob dn p0 = f_X0_isOpenFor_L ob dn p0 (r + 1) j := hf
    refine lv_iload_n hx hb dX0_isOpenFor_2 rfl (lv_at hl 0 rfl) ?_
    refine lv_aload_n hx hb dX0_isOpenFor_3 rfl (lv_at hl 1 rfl) ?_
    refine va_get (D := G.1) (ci := 0) (v := .int oc) (C := RX0) (T := TX0) (N := 5) hx hb hts iw_X0_isOpenFor_RX0 hown hE.1 hP 0 rfl rfl 3 (by decide) (hts (.fieldLink RX0 22 "Rackrail$Orders" "count" "I") (by decide +kernel)) (fun _ h9 => h9) rfl dX0_isOpenFor_4 ?_
    refine lv_icmp_ge (tgt := 37) hx hb dX0_isOpenFor_7 (by decide) (fun c_7 => absurd c_7 (lp_b (r := r) hoc2 (by omega) (by omega))) (fun c_7 => ?_)
    refine lv_aload_n hx hb dX0_isOpenFor_10 rfl (lv_at hl 1 rfl) ?_
    refine va_get (D := G.1) (ci := 0) (v := .ref (a 14)) (C := RX0) (T := TX0) (N := 5) hx hb hts iw_X0_isOpenFor_RX0 hown hE.1 hP 0 rfl rfl 2 (by decide) (hts (.fieldLink RX0 18 "Rackrail$Orders" "done" "[Z") (by decide +kernel)) (fun _ h9 => h9) rfl dX0_isOpenFor_11 ?_
    refine lv_iload_n hx hb dX0_isOpenFor_14 rfl (lv_at hl 0 rfl) ?_
    refine va_zald hx hb hE.1 hP 2 1 rfl rfl (vp_in_nI (by omega) (by decide)) dX0_isOpenFor_15 ?_
    refine lv_if_ne (tgt := 31) hx hb dX0_isOpenFor_16 (by decide) (fun c_16 => ?_) (fun c_16 => ?_)
    · refine lv_iinc (v := nI (j + 1)) (lv' := [(2, .int (nI (j + 1))), (0, .ref (a 11)), (1, .int p0)]) hx hb dX0_isOpenFor_31 hl (k := 0) rfl (inc1 _) (by decide) rfl (fun ls hl => ?_)
      refine lv_goto (tgt := 2) hx hb dX0_isOpenFor_34 (by decide) ?_
      exact ih (j + 1) () _ ⟨by omega, (hf.trans (by rw [f_X0_isOpenFor_L, if_neg c_16])), lv_sub hl [0, 1, 2] rfl⟩
    · refine lv_aload_n hx hb dX0_isOpenFor_19 rfl (lv_at hl 1 rfl) ?_
      refine va_get (D := G.1) (ci := 0) (v := .ref (a 12)) (C := RX0) (T := TX0) (N := 5) hx hb hts iw_X0_isOpenFor_RX0 hown hE.1 hP 0 rfl rfl 0 (by decide) (hts (.fieldLink RX0 9 "Rackrail$Orders" "boxes" "[I") (by decide +kernel)) (fun _ h9 => h9) rfl dX0_isOpenFor_20 ?_
      refine lv_iload_n hx hb dX0_isOpenFor_23 rfl (lv_at hl 0 rfl) ?_
      refine va_iald hx hb hE.1 hP 1 0 rfl rfl (vp_in_nI (by omega) (by decide)) dX0_isOpenFor_24 ?_
      refine lv_iload_n hx hb dX0_isOpenFor_25 rfl (lv_at hl 2 rfl) ?_
      refine lv_icmp_ne (tgt := 31) hx hb dX0_isOpenFor_26 (by decide) (fun c_26 => ?_) (fun c_26 => ?_)
      · refine lv_iinc (v := nI (j + 1)) (lv' := [(2, .int (nI (j + 1))), (0, .ref (a 11)), (1, .int p0)]) hx hb dX0_isOpenFor_31 hl (k := 0) rfl (inc1 _) (by decide) rfl (fun ls hl => ?_)
        refine lv_goto (tgt := 2) hx hb dX0_isOpenFor_34 (by decide) ?_
        exact ih (j + 1) () _ ⟨by omega, (hf.trans (by rw [f_X0_isOpenFor_L, if_pos c_16, if_neg c_26])), lv_sub hl [0, 1, 2] rfl⟩
      · refine lv_iconst (v := 1) hx hb dX0_isOpenFor_29 (by decide) ?_
        have hq : f_X0_isOpenFor oc ob dn p0 = 1 := (hf.trans (by rw [f_X0_isOpenFor_L, if_pos c_16, if_pos c_26]))
        exact W.zret (v := 1) hx hb hr rfl (fun t ht _ => ⟨by rw [hq], ht⟩) (fun _ h => nomatch h) dX0_isOpenFor_30

/-! X0_earliest -/
def f_X0_earliest_L (ob : Nat → Int32) (od : Nat → Int32) (dn : Nat → Int32) (cn : Int32) (sp : Nat → Int32) (p0 : Int32) : Nat → Nat → Int32 → Int32 → Int32
  | 0, j, bst, bdl => bst
  | r + 1, j, bst, bdl => if (f_X2_aisleOfBox cn sp (ob (nI j).toNatClampNeg)) = (-1) then (if (dn (nI j).toNatClampNeg) = 0 then f_X0_earliest_L ob od dn cn sp p0 r (j + 1) bst bdl
      else f_X0_earliest_L ob od dn cn sp p0 r (j + 1) bst bdl)
    else if p0 = (-2) then (if (dn (nI j).toNatClampNeg) = 0 then (if bdl ≤ (od (nI j).toNatClampNeg) then f_X0_earliest_L ob od dn cn sp p0 r (j + 1) bst bdl
        else f_X0_earliest_L ob od dn cn sp p0 r (j + 1) (nI j) (od (nI j).toNatClampNeg))
      else f_X0_earliest_L ob od dn cn sp p0 r (j + 1) bst bdl)
    else if (f_X2_aisleOfBox cn sp (ob (nI j).toNatClampNeg)) = p0 then (if (dn (nI j).toNatClampNeg) = 0 then (if bdl ≤ (od (nI j).toNatClampNeg) then f_X0_earliest_L ob od dn cn sp p0 r (j + 1) bst bdl
        else f_X0_earliest_L ob od dn cn sp p0 r (j + 1) (nI j) (od (nI j).toNatClampNeg))
      else f_X0_earliest_L ob od dn cn sp p0 r (j + 1) bst bdl)
    else if (dn (nI j).toNatClampNeg) = 0 then f_X0_earliest_L ob od dn cn sp p0 r (j + 1) bst bdl
    else f_X0_earliest_L ob od dn cn sp p0 r (j + 1) bst bdl
def f_X0_earliest (oc : Int32) (ob : Nat → Int32) (od : Nat → Int32) (dn : Nat → Int32) (cn : Int32) (sp : Nat → Int32) (p0 : Int32) : Int32 :=
  f_X0_earliest_L ob od dn cn sp p0 oc.toNatClampNeg 0 (-1) 10001
theorem iw_X0_earliest_RX0 : ∀ w ∈ u_ws RX0 TX0 5, w ∈ wsX0_earliest := by decide +kernel
set_option maxHeartbeats 4000000 in
set_option maxRecDepth 100000 in
theorem c_X0_earliest (l : Launch) (G : GT) (a : Nat → Nat) (sz : Nat) (oc : Int32) (lt : Int32) (ob : Nat → Int32) (od : Nat → Int32) (dn : Nat → Int32) (cn : Int32) (sp : Nat → Int32) (p0 : Int32) (hcn : okN 20 cn) (hoc : okN 30 oc) : Met l yX0_earliest wsX0_earliest ({ frames := 4, cells := 0, slots := 0, locals := 85 }) (GP G [.ref (a 11), .ref (a 1), .int p0] [wcO a oc lt, wcI G (a 12) 30 ob, wcI G (a 13) 30 od, wcZ G (a 14) 30 dn, wcS a cn, wcI G (a 6) 20 sp] sz) (PQo (.returned (some (.int (f_X0_earliest oc ob od dn cn sp p0))))) 0 0 (fun _ => False) := by
  refine bodyM (cc := cX0_earliest) (maxL := 8) (ret := (some .int)) (by decide) rfl (Nat.le_of_ble_eq_true rfl) ?_
  intro p e s m below meth c ls C
  obtain ⟨hx, hb, hr, hts, hown, hlocks, hml, hsz, hP, hE, hD, hA, hS, hl⟩ := C
  subst hsz
  have hl : lv_has ls 8 [(0, .ref (a 11)), (1, .ref (a 1)), (2, .int p0)] := hl
  obtain ⟨n, hn, hoc2⟩ := id hoc
  have hcl : oc.toNatClampNeg = n := by rw [hoc2]; exact nI_clamp (by omega)
  refine lv_iconst (v := (-1)) hx hb dX0_earliest_0 (by decide) ?_
  refine lv_istore_n (lv' := [(3, .int (-1)), (0, .ref (a 11)), (1, .ref (a 1)), (2, .int p0)]) hx hb dX0_earliest_1 rfl hl (by decide) rfl (fun ls hl => ?_)
  refine lv_sipush (v := 10001) hx hb dX0_earliest_2 (by decide) ?_
  refine lv_istore (lv' := [(4, .int 10001), (3, .int (-1)), (0, .ref (a 11)), (1, .ref (a 1)), (2, .int p0)]) hx hb dX0_earliest_5 hl (by decide) rfl (fun ls hl => ?_)
  refine lv_iconst (v := 0) hx hb dX0_earliest_7 (by decide) ?_
  refine lv_istore (lv' := [(5, .int 0), (4, .int 10001), (3, .int (-1)), (0, .ref (a 11)), (1, .ref (a 1)), (2, .int p0)]) hx hb dX0_earliest_8 hl (by decide) rfl (fun ls hl => ?_)
  refine k_loopP (α := Int32 × Int32) (fun (r j : Nat) (x : Int32 × Int32) (ls : Array Slot) => j + r = n ∧ f_X0_earliest oc ob od dn cn sp p0 = f_X0_earliest_L ob od dn cn sp p0 r j x.1 x.2 ∧ lv_has ls 8 [(5, .int (nI j)), (3, .int x.1), (4, .int x.2), (0, .ref (a 11)), (1, .ref (a 1)), (2, .int p0)]) n 0 ((-1), 10001) ⟨by omega, (by rw [f_X0_earliest, hcl]), lv_sub hl [0, 2, 1, 3, 4, 5] rfl⟩ ?_ ?_
  · intro j x ls hI
    obtain ⟨bst, bdl⟩ := x
    obtain ⟨hj, hf, hl⟩ := hI
    have hl : lv_has ls 8 [(5, .int (nI j)), (3, .int bst), (4, .int bdl), (0, .ref (a 11)), (1, .ref (a 1)), (2, .int p0)] := hl
    have hf : f_X0_earliest oc ob od dn cn sp p0 = f_X0_earliest_L ob od dn cn sp p0 0 j bst bdl := hf
    refine lv_iload hx hb dX0_earliest_10 (lv_at hl 0 rfl) ?_
    refine lv_aload_n hx hb dX0_earliest_12 rfl (lv_at hl 3 rfl) ?_
    refine va_get (D := G.1) (ci := 0) (v := .int oc) (C := RX0) (T := TX0) (N := 5) hx hb hts iw_X0_earliest_RX0 hown hE.1 hP 0 rfl rfl 3 (by decide) (hts (.fieldLink RX0 22 "Rackrail$Orders" "count" "I") (by decide +kernel)) (fun _ h9 => h9) rfl dX0_earliest_13 ?_
    refine lv_icmp_ge (tgt := 102) hx hb dX0_earliest_16 (by decide) (fun c_16 => ?_) (fun c_16 => absurd (lp_a hoc2 (by omega) (by omega)) c_16)
    refine lv_iload_n hx hb dX0_earliest_102 rfl (lv_at hl 1 rfl) ?_
    have hq : f_X0_earliest oc ob od dn cn sp p0 = bst := (hf.trans (by rw [f_X0_earliest_L]))
    exact W.iret (v := bst) hx hb hr (fun t ht _ => ⟨by rw [hq], ht⟩) (fun _ h => nomatch h) dX0_earliest_103
  · intro r ih j x ls hI
    obtain ⟨bst, bdl⟩ := x
    obtain ⟨hj, hf, hl⟩ := hI
    have hl : lv_has ls 8 [(5, .int (nI j)), (3, .int bst), (4, .int bdl), (0, .ref (a 11)), (1, .ref (a 1)), (2, .int p0)] := hl
    have hf : f_X0_earliest oc ob od dn cn sp p0 = f_X0_earliest_L ob od dn cn sp p0 (r + 1) j bst bdl := hf
    refine lv_iload hx hb dX0_earliest_10 (lv_at hl 0 rfl) ?_
    refine lv_aload_n hx hb dX0_earliest_12 rfl (lv_at hl 3 rfl) ?_
    refine va_get (D := G.1) (ci := 0) (v := .int oc) (C := RX0) (T := TX0) (N := 5) hx hb hts iw_X0_earliest_RX0 hown hE.1 hP 0 rfl rfl 3 (by decide) (hts (.fieldLink RX0 22 "Rackrail$Orders" "count" "I") (by decide +kernel)) (fun _ h9 => h9) rfl dX0_earliest_13 ?_
    refine lv_icmp_ge (tgt := 102) hx hb dX0_earliest_16 (by decide) (fun c_16 => absurd c_16 (lp_b (r := r) hoc2 (by omega) (by omega))) (fun c_16 => ?_)
    refine lv_aload_n hx hb dX0_earliest_19 rfl (lv_at hl 4 rfl) ?_
    refine lv_aload_n hx hb dX0_earliest_20 rfl (lv_at hl 3 rfl) ?_
    refine va_get (D := G.1) (ci := 0) (v := .ref (a 12)) (C := RX0) (T := TX0) (N := 5) hx hb hts iw_X0_earliest_RX0 hown hE.1 hP 0 rfl rfl 0 (by decide) (hts (.fieldLink RX0 9 "Rackrail$Orders" "boxes" "[I") (by decide +kernel)) (fun _ h9 => h9) rfl dX0_earliest_21 ?_
    refine lv_iload hx hb dX0_earliest_24 (lv_at hl 0 rfl) ?_
    refine va_iald hx hb hE.1 hP 1 0 rfl rfl (vp_in_nI (by omega) (by decide)) dX0_earliest_26 ?_
    refine k_p (va_runV (As := [.int (ob (nI j).toNatClampNeg)]) (rest := []) ⟨hx, hb, hml, hown, hts⟩ (c_X2_aisleOfBox l G a s.heap.size cn sp (ob (nI j).toNatClampNeg) hcn) (cwV 1 hts gX0_earliest_X2_aisleOfBox rfl rfl rfl ⟨rfl, by decide +kernel, by decide +kernel, by decide +kernel⟩ ⟨Nat.le_of_ble_eq_true rfl, Nat.le_of_ble_eq_true rfl⟩) ⟨GP.blind, va_recv hE.1 hP (ci := 2) (q0 := 4) rfl rfl, GP.go (wc := [wcS a cn, wcI G (a 6) 20 sp]) hE hP hD hS hA [4, 5] rfl (by decide) [.ref (a 1), .int (ob (nI j).toNatClampNeg)]⟩ rfl rfl hl.1 rfl (lv_room (Nat.le_of_ble_eq_true rfl)) dX0_earliest_27 ⟨Nat.le_of_ble_eq_true rfl, Nat.le_of_ble_eq_true rfl⟩) ?_
    refine lv_istore (lv' := [(6, .int (f_X2_aisleOfBox cn sp (ob (nI j).toNatClampNeg))), (5, .int (nI j)), (3, .int bst), (4, .int bdl), (0, .ref (a 11)), (1, .ref (a 1)), (2, .int p0)]) hx hb dX0_earliest_30 hl (by decide) rfl (fun ls hl => ?_)
    refine lv_iload hx hb dX0_earliest_32 (lv_at hl 0 rfl) ?_
    refine lv_iconst (v := (-1)) hx hb dX0_earliest_34 (by decide) ?_
    refine lv_icmp_eq (tgt := 54) hx hb dX0_earliest_35 (by decide) (fun c_35 => ?_) (fun c_35 => ?_)
    · refine lv_iconst (v := 0) hx hb dX0_earliest_54 (by decide) ?_
      refine lv_istore (lv' := [(7, .int 0), (6, .int (f_X2_aisleOfBox cn sp (ob (nI j).toNatClampNeg))), (5, .int (nI j)), (3, .int bst), (4, .int bdl), (0, .ref (a 11)), (1, .ref (a 1)), (2, .int p0)]) hx hb dX0_earliest_55 hl (by decide) rfl (fun ls hl => ?_)
      refine lv_aload_n hx hb dX0_earliest_57 rfl (lv_at hl 5 rfl) ?_
      refine va_get (D := G.1) (ci := 0) (v := .ref (a 14)) (C := RX0) (T := TX0) (N := 5) hx hb hts iw_X0_earliest_RX0 hown hE.1 hP 0 rfl rfl 2 (by decide) (hts (.fieldLink RX0 18 "Rackrail$Orders" "done" "[Z") (by decide +kernel)) (fun _ h9 => h9) rfl dX0_earliest_58 ?_
      refine lv_iload hx hb dX0_earliest_61 (lv_at hl 2 rfl) ?_
      refine va_zald hx hb hE.1 hP 3 1 rfl rfl (vp_in_nI (by omega) (by decide)) dX0_earliest_63 ?_
      refine lv_if_ne (tgt := 96) hx hb dX0_earliest_64 (by decide) (fun c_64 => ?_) (fun c_64 => ?_)
      · refine lv_iinc (v := nI (j + 1)) (lv' := [(5, .int (nI (j + 1))), (7, .int 0), (6, .int (f_X2_aisleOfBox cn sp (ob (nI j).toNatClampNeg))), (3, .int bst), (4, .int bdl), (0, .ref (a 11)), (1, .ref (a 1)), (2, .int p0)]) hx hb dX0_earliest_96 hl (k := 2) rfl (inc1 _) (by decide) rfl (fun ls hl => ?_)
        refine lv_goto (tgt := 10) hx hb dX0_earliest_99 (by decide) ?_
        exact ih (j + 1) (bst, bdl) _ ⟨by omega, (hf.trans (by rw [f_X0_earliest_L, if_pos c_35, if_neg c_64])), lv_sub hl [0, 3, 4, 5, 6, 7] rfl⟩
      · refine lv_iload hx hb dX0_earliest_67 (lv_at hl 0 rfl) ?_
        refine lv_if_eq (tgt := 96) hx hb dX0_earliest_69 (by decide) (fun c_69 => ?_) (fun c_69 => absurd (by decide) c_69)
        refine lv_iinc (v := nI (j + 1)) (lv' := [(5, .int (nI (j + 1))), (7, .int 0), (6, .int (f_X2_aisleOfBox cn sp (ob (nI j).toNatClampNeg))), (3, .int bst), (4, .int bdl), (0, .ref (a 11)), (1, .ref (a 1)), (2, .int p0)]) hx hb dX0_earliest_96 hl (k := 2) rfl (inc1 _) (by decide) rfl (fun ls hl => ?_)
        refine lv_goto (tgt := 10) hx hb dX0_earliest_99 (by decide) ?_
        exact ih (j + 1) (bst, bdl) _ ⟨by omega, (hf.trans (by rw [f_X0_earliest_L, if_pos c_35, if_pos c_64])), lv_sub hl [0, 3, 4, 5, 6, 7] rfl⟩
    · refine lv_iload_n hx hb dX0_earliest_38 rfl (lv_at hl 6 rfl) ?_
      refine lv_bipush (v := (-2)) hx hb dX0_earliest_39 (by decide) ?_
      refine lv_icmp_eq (tgt := 50) hx hb dX0_earliest_41 (by decide) (fun c_41 => ?_) (fun c_41 => ?_)
      · refine lv_iconst (v := 1) hx hb dX0_earliest_50 (by decide) ?_
        refine lv_goto (tgt := 55) hx hb dX0_earliest_51 (by decide) ?_
        refine lv_istore (lv' := [(7, .int 1), (6, .int (f_X2_aisleOfBox cn sp (ob (nI j).toNatClampNeg))), (5, .int (nI j)), (3, .int bst), (4, .int bdl), (0, .ref (a 11)), (1, .ref (a 1)), (2, .int p0)]) hx hb dX0_earliest_55 hl (by decide) rfl (fun ls hl => ?_)
        refine lv_aload_n hx hb dX0_earliest_57 rfl (lv_at hl 5 rfl) ?_
        refine va_get (D := G.1) (ci := 0) (v := .ref (a 14)) (C := RX0) (T := TX0) (N := 5) hx hb hts iw_X0_earliest_RX0 hown hE.1 hP 0 rfl rfl 2 (by decide) (hts (.fieldLink RX0 18 "Rackrail$Orders" "done" "[Z") (by decide +kernel)) (fun _ h9 => h9) rfl dX0_earliest_58 ?_
        refine lv_iload hx hb dX0_earliest_61 (lv_at hl 2 rfl) ?_
        refine va_zald hx hb hE.1 hP 3 1 rfl rfl (vp_in_nI (by omega) (by decide)) dX0_earliest_63 ?_
        refine lv_if_ne (tgt := 96) hx hb dX0_earliest_64 (by decide) (fun c_64 => ?_) (fun c_64 => ?_)
        · refine lv_iinc (v := nI (j + 1)) (lv' := [(5, .int (nI (j + 1))), (7, .int 1), (6, .int (f_X2_aisleOfBox cn sp (ob (nI j).toNatClampNeg))), (3, .int bst), (4, .int bdl), (0, .ref (a 11)), (1, .ref (a 1)), (2, .int p0)]) hx hb dX0_earliest_96 hl (k := 2) rfl (inc1 _) (by decide) rfl (fun ls hl => ?_)
          refine lv_goto (tgt := 10) hx hb dX0_earliest_99 (by decide) ?_
          exact ih (j + 1) (bst, bdl) _ ⟨by omega, (hf.trans (by rw [f_X0_earliest_L, if_neg c_35, if_pos c_41, if_neg c_64])), lv_sub hl [0, 3, 4, 5, 6, 7] rfl⟩
        · refine lv_iload hx hb dX0_earliest_67 (lv_at hl 0 rfl) ?_
          refine lv_if_eq (tgt := 96) hx hb dX0_earliest_69 (by decide) (fun c_69 => absurd c_69 (by decide)) (fun c_69 => ?_)
          refine lv_aload_n hx hb dX0_earliest_72 rfl (lv_at hl 5 rfl) ?_
          refine va_get (D := G.1) (ci := 0) (v := .ref (a 13)) (C := RX0) (T := TX0) (N := 5) hx hb hts iw_X0_earliest_RX0 hown hE.1 hP 0 rfl rfl 1 (by decide) (hts (.fieldLink RX0 15 "Rackrail$Orders" "deadlines" "[I") (by decide +kernel)) (fun _ h9 => h9) rfl dX0_earliest_73 ?_
          refine lv_iload hx hb dX0_earliest_76 (lv_at hl 2 rfl) ?_
          refine va_iald hx hb hE.1 hP 2 0 rfl rfl (vp_in_nI (by omega) (by decide)) dX0_earliest_78 ?_
          refine lv_iload hx hb dX0_earliest_79 (lv_at hl 4 rfl) ?_
          refine lv_icmp_ge (tgt := 96) hx hb dX0_earliest_81 (by decide) (fun c_81 => ?_) (fun c_81 => ?_)
          · refine lv_iinc (v := nI (j + 1)) (lv' := [(5, .int (nI (j + 1))), (7, .int 1), (6, .int (f_X2_aisleOfBox cn sp (ob (nI j).toNatClampNeg))), (3, .int bst), (4, .int bdl), (0, .ref (a 11)), (1, .ref (a 1)), (2, .int p0)]) hx hb dX0_earliest_96 hl (k := 2) rfl (inc1 _) (by decide) rfl (fun ls hl => ?_)
            refine lv_goto (tgt := 10) hx hb dX0_earliest_99 (by decide) ?_
            exact ih (j + 1) (bst, bdl) _ ⟨by omega, (hf.trans (by rw [f_X0_earliest_L, if_neg c_35, if_pos c_41, if_pos c_64, if_pos c_81])), lv_sub hl [0, 3, 4, 5, 6, 7] rfl⟩
          · refine lv_iload hx hb dX0_earliest_84 (lv_at hl 2 rfl) ?_
            refine lv_istore_n (lv' := [(3, .int (nI j)), (7, .int 1), (6, .int (f_X2_aisleOfBox cn sp (ob (nI j).toNatClampNeg))), (5, .int (nI j)), (4, .int bdl), (0, .ref (a 11)), (1, .ref (a 1)), (2, .int p0)]) hx hb dX0_earliest_86 rfl hl (by decide) rfl (fun ls hl => ?_)
            refine lv_aload_n hx hb dX0_earliest_87 rfl (lv_at hl 5 rfl) ?_
            refine va_get (D := G.1) (ci := 0) (v := .ref (a 13)) (C := RX0) (T := TX0) (N := 5) hx hb hts iw_X0_earliest_RX0 hown hE.1 hP 0 rfl rfl 1 (by decide) (hts (.fieldLink RX0 15 "Rackrail$Orders" "deadlines" "[I") (by decide +kernel)) (fun _ h9 => h9) rfl dX0_earliest_88 ?_
            refine lv_iload hx hb dX0_earliest_91 (lv_at hl 3 rfl) ?_
            refine va_iald hx hb hE.1 hP 2 0 rfl rfl (vp_in_nI (by omega) (by decide)) dX0_earliest_93 ?_
            refine lv_istore (lv' := [(4, .int (od (nI j).toNatClampNeg)), (3, .int (nI j)), (7, .int 1), (6, .int (f_X2_aisleOfBox cn sp (ob (nI j).toNatClampNeg))), (5, .int (nI j)), (0, .ref (a 11)), (1, .ref (a 1)), (2, .int p0)]) hx hb dX0_earliest_94 hl (by decide) rfl (fun ls hl => ?_)
            refine lv_iinc (v := nI (j + 1)) (lv' := [(5, .int (nI (j + 1))), (4, .int (od (nI j).toNatClampNeg)), (3, .int (nI j)), (7, .int 1), (6, .int (f_X2_aisleOfBox cn sp (ob (nI j).toNatClampNeg))), (0, .ref (a 11)), (1, .ref (a 1)), (2, .int p0)]) hx hb dX0_earliest_96 hl (k := 4) rfl (inc1 _) (by decide) rfl (fun ls hl => ?_)
            refine lv_goto (tgt := 10) hx hb dX0_earliest_99 (by decide) ?_
            exact ih (j + 1) (nI j, od (nI j).toNatClampNeg) _ ⟨by omega, (hf.trans (by rw [f_X0_earliest_L, if_neg c_35, if_pos c_41, if_pos c_64, if_neg c_81])), lv_sub hl [0, 2, 1, 5, 6, 7] rfl⟩
      · refine lv_iload hx hb dX0_earliest_44 (lv_at hl 0 rfl) ?_
        refine lv_iload_n hx hb dX0_earliest_46 rfl (lv_at hl 6 rfl) ?_
        refine lv_icmp_ne (tgt := 54) hx hb dX0_earliest_47 (by decide) (fun c_47 => ?_) (fun c_47 => ?_)
        · refine lv_iconst (v := 0) hx hb dX0_earliest_54 (by decide) ?_
          refine lv_istore (lv' := [(7, .int 0), (6, .int (f_X2_aisleOfBox cn sp (ob (nI j).toNatClampNeg))), (5, .int (nI j)), (3, .int bst), (4, .int bdl), (0, .ref (a 11)), (1, .ref (a 1)), (2, .int p0)]) hx hb dX0_earliest_55 hl (by decide) rfl (fun ls hl => ?_)
          refine lv_aload_n hx hb dX0_earliest_57 rfl (lv_at hl 5 rfl) ?_
          refine va_get (D := G.1) (ci := 0) (v := .ref (a 14)) (C := RX0) (T := TX0) (N := 5) hx hb hts iw_X0_earliest_RX0 hown hE.1 hP 0 rfl rfl 2 (by decide) (hts (.fieldLink RX0 18 "Rackrail$Orders" "done" "[Z") (by decide +kernel)) (fun _ h9 => h9) rfl dX0_earliest_58 ?_
          refine lv_iload hx hb dX0_earliest_61 (lv_at hl 2 rfl) ?_
          refine va_zald hx hb hE.1 hP 3 1 rfl rfl (vp_in_nI (by omega) (by decide)) dX0_earliest_63 ?_
          refine lv_if_ne (tgt := 96) hx hb dX0_earliest_64 (by decide) (fun c_64 => ?_) (fun c_64 => ?_)
          · refine lv_iinc (v := nI (j + 1)) (lv' := [(5, .int (nI (j + 1))), (7, .int 0), (6, .int (f_X2_aisleOfBox cn sp (ob (nI j).toNatClampNeg))), (3, .int bst), (4, .int bdl), (0, .ref (a 11)), (1, .ref (a 1)), (2, .int p0)]) hx hb dX0_earliest_96 hl (k := 2) rfl (inc1 _) (by decide) rfl (fun ls hl => ?_)
            refine lv_goto (tgt := 10) hx hb dX0_earliest_99 (by decide) ?_
            exact ih (j + 1) (bst, bdl) _ ⟨by omega, (hf.trans (by rw [f_X0_earliest_L, if_neg c_35, if_neg c_41, if_neg c_47, if_neg c_64])), lv_sub hl [0, 3, 4, 5, 6, 7] rfl⟩
          · refine lv_iload hx hb dX0_earliest_67 (lv_at hl 0 rfl) ?_
            refine lv_if_eq (tgt := 96) hx hb dX0_earliest_69 (by decide) (fun c_69 => ?_) (fun c_69 => absurd (by decide) c_69)
            refine lv_iinc (v := nI (j + 1)) (lv' := [(5, .int (nI (j + 1))), (7, .int 0), (6, .int (f_X2_aisleOfBox cn sp (ob (nI j).toNatClampNeg))), (3, .int bst), (4, .int bdl), (0, .ref (a 11)), (1, .ref (a 1)), (2, .int p0)]) hx hb dX0_earliest_96 hl (k := 2) rfl (inc1 _) (by decide) rfl (fun ls hl => ?_)
            refine lv_goto (tgt := 10) hx hb dX0_earliest_99 (by decide) ?_
            exact ih (j + 1) (bst, bdl) _ ⟨by omega, (hf.trans (by rw [f_X0_earliest_L, if_neg c_35, if_neg c_41, if_neg c_47, if_pos c_64])), lv_sub hl [0, 3, 4, 5, 6, 7] rfl⟩
        · refine lv_iconst (v := 1) hx hb dX0_earliest_50 (by decide) ?_
          refine lv_goto (tgt := 55) hx hb dX0_earliest_51 (by decide) ?_
          refine lv_istore (lv' := [(7, .int 1), (6, .int (f_X2_aisleOfBox cn sp (ob (nI j).toNatClampNeg))), (5, .int (nI j)), (3, .int bst), (4, .int bdl), (0, .ref (a 11)), (1, .ref (a 1)), (2, .int p0)]) hx hb dX0_earliest_55 hl (by decide) rfl (fun ls hl => ?_)
          refine lv_aload_n hx hb dX0_earliest_57 rfl (lv_at hl 5 rfl) ?_
          refine va_get (D := G.1) (ci := 0) (v := .ref (a 14)) (C := RX0) (T := TX0) (N := 5) hx hb hts iw_X0_earliest_RX0 hown hE.1 hP 0 rfl rfl 2 (by decide) (hts (.fieldLink RX0 18 "Rackrail$Orders" "done" "[Z") (by decide +kernel)) (fun _ h9 => h9) rfl dX0_earliest_58 ?_
          refine lv_iload hx hb dX0_earliest_61 (lv_at hl 2 rfl) ?_
          refine va_zald hx hb hE.1 hP 3 1 rfl rfl (vp_in_nI (by omega) (by decide)) dX0_earliest_63 ?_
          refine lv_if_ne (tgt := 96) hx hb dX0_earliest_64 (by decide) (fun c_64 => ?_) (fun c_64 => ?_)
          · refine lv_iinc (v := nI (j + 1)) (lv' := [(5, .int (nI (j + 1))), (7, .int 1), (6, .int (f_X2_aisleOfBox cn sp (ob (nI j).toNatClampNeg))), (3, .int bst), (4, .int bdl), (0, .ref (a 11)), (1, .ref (a 1)), (2, .int p0)]) hx hb dX0_earliest_96 hl (k := 2) rfl (inc1 _) (by decide) rfl (fun ls hl => ?_)
            refine lv_goto (tgt := 10) hx hb dX0_earliest_99 (by decide) ?_
            exact ih (j + 1) (bst, bdl) _ ⟨by omega, (hf.trans (by rw [f_X0_earliest_L, if_neg c_35, if_neg c_41, if_pos c_47, if_neg c_64])), lv_sub hl [0, 3, 4, 5, 6, 7] rfl⟩
          · refine lv_iload hx hb dX0_earliest_67 (lv_at hl 0 rfl) ?_
            refine lv_if_eq (tgt := 96) hx hb dX0_earliest_69 (by decide) (fun c_69 => absurd c_69 (by decide)) (fun c_69 => ?_)
            refine lv_aload_n hx hb dX0_earliest_72 rfl (lv_at hl 5 rfl) ?_
            refine va_get (D := G.1) (ci := 0) (v := .ref (a 13)) (C := RX0) (T := TX0) (N := 5) hx hb hts iw_X0_earliest_RX0 hown hE.1 hP 0 rfl rfl 1 (by decide) (hts (.fieldLink RX0 15 "Rackrail$Orders" "deadlines" "[I") (by decide +kernel)) (fun _ h9 => h9) rfl dX0_earliest_73 ?_
            refine lv_iload hx hb dX0_earliest_76 (lv_at hl 2 rfl) ?_
            refine va_iald hx hb hE.1 hP 2 0 rfl rfl (vp_in_nI (by omega) (by decide)) dX0_earliest_78 ?_
            refine lv_iload hx hb dX0_earliest_79 (lv_at hl 4 rfl) ?_
            refine lv_icmp_ge (tgt := 96) hx hb dX0_earliest_81 (by decide) (fun c_81 => ?_) (fun c_81 => ?_)
            · refine lv_iinc (v := nI (j + 1)) (lv' := [(5, .int (nI (j + 1))), (7, .int 1), (6, .int (f_X2_aisleOfBox cn sp (ob (nI j).toNatClampNeg))), (3, .int bst), (4, .int bdl), (0, .ref (a 11)), (1, .ref (a 1)), (2, .int p0)]) hx hb dX0_earliest_96 hl (k := 2) rfl (inc1 _) (by decide) rfl (fun ls hl => ?_)
              refine lv_goto (tgt := 10) hx hb dX0_earliest_99 (by decide) ?_
              exact ih (j + 1) (bst, bdl) _ ⟨by omega, (hf.trans (by rw [f_X0_earliest_L, if_neg c_35, if_neg c_41, if_pos c_47, if_pos c_64, if_pos c_81])), lv_sub hl [0, 3, 4, 5, 6, 7] rfl⟩
            · refine lv_iload hx hb dX0_earliest_84 (lv_at hl 2 rfl) ?_
              refine lv_istore_n (lv' := [(3, .int (nI j)), (7, .int 1), (6, .int (f_X2_aisleOfBox cn sp (ob (nI j).toNatClampNeg))), (5, .int (nI j)), (4, .int bdl), (0, .ref (a 11)), (1, .ref (a 1)), (2, .int p0)]) hx hb dX0_earliest_86 rfl hl (by decide) rfl (fun ls hl => ?_)
              refine lv_aload_n hx hb dX0_earliest_87 rfl (lv_at hl 5 rfl) ?_
              refine va_get (D := G.1) (ci := 0) (v := .ref (a 13)) (C := RX0) (T := TX0) (N := 5) hx hb hts iw_X0_earliest_RX0 hown hE.1 hP 0 rfl rfl 1 (by decide) (hts (.fieldLink RX0 15 "Rackrail$Orders" "deadlines" "[I") (by decide +kernel)) (fun _ h9 => h9) rfl dX0_earliest_88 ?_
              refine lv_iload hx hb dX0_earliest_91 (lv_at hl 3 rfl) ?_
              refine va_iald hx hb hE.1 hP 2 0 rfl rfl (vp_in_nI (by omega) (by decide)) dX0_earliest_93 ?_
              refine lv_istore (lv' := [(4, .int (od (nI j).toNatClampNeg)), (3, .int (nI j)), (7, .int 1), (6, .int (f_X2_aisleOfBox cn sp (ob (nI j).toNatClampNeg))), (5, .int (nI j)), (0, .ref (a 11)), (1, .ref (a 1)), (2, .int p0)]) hx hb dX0_earliest_94 hl (by decide) rfl (fun ls hl => ?_)
              refine lv_iinc (v := nI (j + 1)) (lv' := [(5, .int (nI (j + 1))), (4, .int (od (nI j).toNatClampNeg)), (3, .int (nI j)), (7, .int 1), (6, .int (f_X2_aisleOfBox cn sp (ob (nI j).toNatClampNeg))), (0, .ref (a 11)), (1, .ref (a 1)), (2, .int p0)]) hx hb dX0_earliest_96 hl (k := 4) rfl (inc1 _) (by decide) rfl (fun ls hl => ?_)
              refine lv_goto (tgt := 10) hx hb dX0_earliest_99 (by decide) ?_
              exact ih (j + 1) (nI j, od (nI j).toNatClampNeg) _ ⟨by omega, (hf.trans (by rw [f_X0_earliest_L, if_neg c_35, if_neg c_41, if_pos c_47, if_pos c_64, if_neg c_81])), lv_sub hl [0, 2, 1, 5, 6, 7] rfl⟩

/-! X0_finish -/
def f_X0_finish (oc : Int32) (lt : Int32) (od : Nat → Int32) (dn : Nat → Int32) (p0 : Int32) (p1 : Int32) : Int32 × (Nat → Int32) :=
  if (f_X3_isBelow p0 oc) = 0 then (lt, dn)
    else if p1 ≤ (od p0.toNatClampNeg) then (lt, upd dn p0.toNatClampNeg 1)
    else (lt + 1, upd dn p0.toNatClampNeg 1)
theorem iw_X0_finish_RX0 : ∀ w ∈ u_ws RX0 TX0 5, w ∈ wsX0_finish := by decide +kernel
set_option maxHeartbeats 4000000 in
set_option maxRecDepth 100000 in
theorem c_X0_finish (l : Launch) (G : GT) (a : Nat → Nat) (sz : Nat) (oc : Int32) (lt : Int32) (od : Nat → Int32) (dn : Nat → Int32) (p0 : Int32) (p1 : Int32) (hoc : okN 30 oc) : Met l yX0_finish wsX0_finish ({ frames := 1, cells := 0, slots := 0, locals := 21 }) (GP G [.ref (a 11), .int p0, .int p1] [wcO a oc lt, wcI G (a 13) 30 od, wcZ G (a 14) 30 dn] sz) (MQo G (.returned none) [wcO a oc ((f_X0_finish oc lt od dn p0 p1).1), wcI G (a 13) 30 od, wcZ G (a 14) 30 ((f_X0_finish oc lt od dn p0 p1).2)] (va_A [wcO a oc lt, wcI G (a 13) 30 od, wcZ G (a 14) 30 dn] sz)) 0 0 (va_A [wcO a oc lt, wcI G (a 13) 30 od, wcZ G (a 14) 30 dn] sz) := by
  refine bodyM (cc := cX0_finish) (maxL := 3) (ret := none) (by decide) rfl (Nat.le_of_ble_eq_true rfl) ?_
  intro p e s m below meth c ls C
  obtain ⟨hx, hb, hr, hts, hown, hlocks, hml, hsz, hP, hE, hD, hA, hS, hl⟩ := C
  subst hsz
  have hl : lv_has ls 3 [(0, .ref (a 11)), (1, .int p0), (2, .int p1)] := hl
  refine lv_iload_n hx hb dX0_finish_0 rfl (lv_at hl 1 rfl) ?_
  refine lv_aload_n hx hb dX0_finish_1 rfl (lv_at hl 0 rfl) ?_
  refine va_get (D := G.1) (ci := 0) (v := .int oc) (C := RX0) (T := TX0) (N := 5) hx hb hts iw_X0_finish_RX0 hown hE.1 hP 0 rfl rfl 3 (by decide) (hts (.fieldLink RX0 22 "Rackrail$Orders" "count" "I") (by decide +kernel)) (fun _ h9 => h9) rfl dX0_finish_2 ?_
  refine k_p (va_runSN (As := [.int p0, .int oc]) (rest := []) ⟨hx, hb, hml, hown, hts⟩ (c_X3_isBelow l G s.heap.size p0 oc) ⟨va_cnB (host := "Rackrail") 2 hts gX0_finish_X3_isBelow_n33 rfl rfl rfl (hE.2.1 (RX0, 33, yX3_isBelow) (by decide)) (hts (.initialized RX3) (by decide +kernel)) ⟨by decide +kernel, by decide +kernel, by decide +kernel⟩ ⟨Nat.le_of_ble_eq_true rfl, Nat.le_of_ble_eq_true rfl⟩, hts (.static yX3_isBelow) (by decide +kernel), trivial⟩ ⟨GP.blind, GP.go (wc := []) hE hP hD hS hA [] rfl (by decide) [.int p0, .int oc]⟩ rfl rfl hl.1 rfl (lv_room (Nat.le_of_ble_eq_true rfl)) dX0_finish_5 ⟨Nat.le_of_ble_eq_true rfl, Nat.le_of_ble_eq_true rfl⟩) ?_
  refine lv_if_eq (tgt := 38) hx hb dX0_finish_8 (by decide) (fun c_8 => ?_) (fun c_8 => ?_)
  · have hq : f_X0_finish oc lt od dn p0 p1 = (lt, dn) := (by rw [f_X0_finish, if_pos c_8])
    exact W.vret hx hb hr (fun t ht _ => ⟨rfl, by rw [hq, ht]; exact hP, hS.F ht⟩) hS.2.2 dX0_finish_38
  · refine lv_aload_n hx hb dX0_finish_11 rfl (lv_at hl 0 rfl) ?_
    refine va_get (D := G.1) (ci := 0) (v := .ref (a 14)) (C := RX0) (T := TX0) (N := 5) hx hb hts iw_X0_finish_RX0 hown hE.1 hP 0 rfl rfl 2 (by decide) (hts (.fieldLink RX0 18 "Rackrail$Orders" "done" "[Z") (by decide +kernel)) (fun _ h9 => h9) rfl dX0_finish_12 ?_
    refine lv_iload_n hx hb dX0_finish_15 rfl (lv_at hl 1 rfl) ?_
    refine lv_iconst (v := 1) hx hb dX0_finish_16 (by decide) ?_
    refine va_zast hx hb hE.1 hP hD hS 2 1 rfl rfl (in_mo hoc c_8) dX0_finish_17 (fun H locs hP hD hS => ?_)
    have hP : va_P G.1 vwCl [wcO a oc lt, wcI G (a 13) 30 od, wcZ G (a 14) 30 (upd dn p0.toNatClampNeg 1)] H := hP
    have hD : va_D _ [wcO a oc lt, wcI G (a 13) 30 od, wcZ G (a 14) 30 (upd dn p0.toNatClampNeg 1)] := hD
    refine lv_iload_n hx hb dX0_finish_18 rfl (lv_at hl 2 rfl) ?_
    refine lv_aload_n hx hb dX0_finish_19 rfl (lv_at hl 0 rfl) ?_
    refine va_get (D := G.1) (ci := 0) (v := .ref (a 13)) (C := RX0) (T := TX0) (N := 5) hx hb hts iw_X0_finish_RX0 hown hE.1 hP 0 rfl rfl 1 (by decide) (hts (.fieldLink RX0 15 "Rackrail$Orders" "deadlines" "[I") (by decide +kernel)) (fun _ h9 => h9) rfl dX0_finish_20 ?_
    refine lv_iload_n hx hb dX0_finish_23 rfl (lv_at hl 1 rfl) ?_
    refine va_iald hx hb hE.1 hP 1 0 rfl rfl (in_mo hoc c_8) dX0_finish_24 ?_
    refine lv_icmp_le (tgt := 38) hx hb dX0_finish_25 (by decide) (fun c_25 => ?_) (fun c_25 => ?_)
    · have hq : f_X0_finish oc lt od dn p0 p1 = (lt, upd dn p0.toNatClampNeg 1) := (by rw [f_X0_finish, if_neg c_8, if_pos c_25])
      exact W.vret hx hb hr (fun t ht _ => ⟨rfl, by rw [hq, ht]; exact hP, hS.F ht⟩) hS.2.2 dX0_finish_38
    · refine lv_aload_n hx hb dX0_finish_28 rfl (lv_at hl 0 rfl) ?_
      refine lv_dup hx hb dX0_finish_29 rfl ?_
      refine va_get (D := G.1) (ci := 0) (v := .int lt) (C := RX0) (T := TX0) (N := 5) hx hb hts iw_X0_finish_RX0 hown hE.1 hP 0 rfl rfl 4 (by decide) (hts (.fieldLink RX0 26 "Rackrail$Orders" "lateCount" "I") (by decide +kernel)) (fun _ h9 => h9) rfl dX0_finish_30 ?_
      refine lv_iconst (v := 1) hx hb dX0_finish_33 (by decide) ?_
      refine lv_iadd hx hb dX0_finish_34 ?_
      refine va_put (D := G.1) (ci := 0) (v := .int (lt + 1)) (ty := .int) (C := RX0) (T := TX0) (N := 5) hx hb hts iw_X0_finish_RX0 tyX0 tyX0_ok nmX0 hown hE.1 hP hD hS 0 rfl rfl 4 (by decide) (hts (.fieldLink RX0 26 "Rackrail$Orders" "lateCount" "I") (by decide +kernel)) (fun _ h9 => h9) rfl (by decide +kernel) rfl rfl (Nat.le_of_ble_eq_true rfl) dX0_finish_35 (fun H locs hP hD hS => ?_)
      have hP : va_P G.1 vwCl [wcO a oc (lt + 1), wcI G (a 13) 30 od, wcZ G (a 14) 30 (upd dn p0.toNatClampNeg 1)] H := hP
      have hD : va_D _ [wcO a oc (lt + 1), wcI G (a 13) 30 od, wcZ G (a 14) 30 (upd dn p0.toNatClampNeg 1)] := hD
      have hq : f_X0_finish oc lt od dn p0 p1 = (lt + 1, upd dn p0.toNatClampNeg 1) := (by rw [f_X0_finish, if_neg c_8, if_neg c_25])
      exact W.vret hx hb hr (fun t ht _ => ⟨rfl, by rw [hq, ht]; exact hP, hS.F ht⟩) hS.2.2 dX0_finish_38

/-! X0_countOpen -/
def f_X0_countOpen_L (dn : Nat → Int32) : Nat → Nat → Int32 → Int32
  | 0, j, opn => opn
  | r + 1, j, opn => if (dn (nI j).toNatClampNeg) = 0 then f_X0_countOpen_L dn r (j + 1) (opn + 1)
    else f_X0_countOpen_L dn r (j + 1) opn
def f_X0_countOpen (oc : Int32) (dn : Nat → Int32) : Int32 :=
  f_X0_countOpen_L dn oc.toNatClampNeg 0 0
theorem iw_X0_countOpen_RX0 : ∀ w ∈ u_ws RX0 TX0 5, w ∈ wsX0_countOpen := by decide +kernel
set_option maxHeartbeats 4000000 in
set_option maxRecDepth 100000 in
theorem c_X0_countOpen (l : Launch) (G : GT) (a : Nat → Nat) (sz : Nat) (oc : Int32) (lt : Int32) (dn : Nat → Int32) (hoc : okN 30 oc) : Met l yX0_countOpen wsX0_countOpen ({ frames := 0, cells := 0, slots := 0, locals := 0 }) (GP G [.ref (a 11)] [wcO a oc lt, wcZ G (a 14) 30 dn] sz) (PQo (.returned (some (.int (f_X0_countOpen oc dn))))) 0 0 (fun _ => False) := by
  refine bodyM (cc := cX0_countOpen) (maxL := 3) (ret := (some .int)) (by decide) rfl (Nat.le_of_ble_eq_true rfl) ?_
  intro p e s m below meth c ls C
  obtain ⟨hx, hb, hr, hts, hown, hlocks, hml, hsz, hP, hE, hD, hA, hS, hl⟩ := C
  subst hsz
  have hl : lv_has ls 3 [(0, .ref (a 11))] := hl
  obtain ⟨n, hn, hoc2⟩ := id hoc
  have hcl : oc.toNatClampNeg = n := by rw [hoc2]; exact nI_clamp (by omega)
  refine lv_iconst (v := 0) hx hb dX0_countOpen_0 (by decide) ?_
  refine lv_istore_n (lv' := [(1, .int 0), (0, .ref (a 11))]) hx hb dX0_countOpen_1 rfl hl (by decide) rfl (fun ls hl => ?_)
  refine lv_iconst (v := 0) hx hb dX0_countOpen_2 (by decide) ?_
  refine lv_istore_n (lv' := [(2, .int 0), (1, .int 0), (0, .ref (a 11))]) hx hb dX0_countOpen_3 rfl hl (by decide) rfl (fun ls hl => ?_)
  refine k_loopP (α := Int32) (fun (r j : Nat) (x : Int32) (ls : Array Slot) => j + r = n ∧ f_X0_countOpen oc dn = f_X0_countOpen_L dn r j x ∧ lv_has ls 3 [(2, .int (nI j)), (1, .int x), (0, .ref (a 11))]) n 0 0 ⟨by omega, (by rw [f_X0_countOpen, hcl]), lv_sub hl [0, 1, 2] rfl⟩ ?_ ?_
  · intro j x ls hI
    obtain ⟨opn, rfl⟩ : ∃ y, y = x := ⟨_, rfl⟩
    obtain ⟨hj, hf, hl⟩ := hI
    have hl : lv_has ls 3 [(2, .int (nI j)), (1, .int opn), (0, .ref (a 11))] := hl
    have hf : f_X0_countOpen oc dn = f_X0_countOpen_L dn 0 j opn := hf
    refine lv_iload_n hx hb dX0_countOpen_4 rfl (lv_at hl 0 rfl) ?_
    refine lv_aload_n hx hb dX0_countOpen_5 rfl (lv_at hl 2 rfl) ?_
    refine va_get (D := G.1) (ci := 0) (v := .int oc) (C := RX0) (T := TX0) (N := 5) hx hb hts iw_X0_countOpen_RX0 hown hE.1 hP 0 rfl rfl 3 (by decide) (hts (.fieldLink RX0 22 "Rackrail$Orders" "count" "I") (by decide +kernel)) (fun _ h9 => h9) rfl dX0_countOpen_6 ?_
    refine lv_icmp_ge (tgt := 30) hx hb dX0_countOpen_9 (by decide) (fun c_9 => ?_) (fun c_9 => absurd (lp_a hoc2 (by omega) (by omega)) c_9)
    refine lv_iload_n hx hb dX0_countOpen_30 rfl (lv_at hl 1 rfl) ?_
    have hq : f_X0_countOpen oc dn = opn := (hf.trans (by rw [f_X0_countOpen_L]))
    exact W.iret (v := opn) hx hb hr (fun t ht _ => ⟨by rw [hq], ht⟩) (fun _ h => nomatch h) dX0_countOpen_31
  · intro r ih j x ls hI
    obtain ⟨opn, rfl⟩ : ∃ y, y = x := ⟨_, rfl⟩
    obtain ⟨hj, hf, hl⟩ := hI
    have hl : lv_has ls 3 [(2, .int (nI j)), (1, .int opn), (0, .ref (a 11))] := hl
    have hf : f_X0_countOpen oc dn = f_X0_countOpen_L dn (r + 1) j opn := hf
    refine lv_iload_n hx hb dX0_countOpen_4 rfl (lv_at hl 0 rfl) ?_
    refine lv_aload_n hx hb dX0_countOpen_5 rfl (lv_at hl 2 rfl) ?_
    refine va_get (D := G.1) (ci := 0) (v := .int oc) (C := RX0) (T := TX0) (N := 5) hx hb hts iw_X0_countOpen_RX0 hown hE.1 hP 0 rfl rfl 3 (by decide) (hts (.fieldLink RX0 22 "Rackrail$Orders" "count" "I") (by decide +kernel)) (fun _ h9 => h9) rfl dX0_countOpen_6 ?_
    refine lv_icmp_ge (tgt := 30) hx hb dX0_countOpen_9 (by decide) (fun c_9 => absurd c_9 (lp_b (r := r) hoc2 (by omega) (by omega))) (fun c_9 => ?_)
    refine lv_aload_n hx hb dX0_countOpen_12 rfl (lv_at hl 2 rfl) ?_
    refine va_get (D := G.1) (ci := 0) (v := .ref (a 14)) (C := RX0) (T := TX0) (N := 5) hx hb hts iw_X0_countOpen_RX0 hown hE.1 hP 0 rfl rfl 2 (by decide) (hts (.fieldLink RX0 18 "Rackrail$Orders" "done" "[Z") (by decide +kernel)) (fun _ h9 => h9) rfl dX0_countOpen_13 ?_
    refine lv_iload_n hx hb dX0_countOpen_16 rfl (lv_at hl 0 rfl) ?_
    refine va_zald hx hb hE.1 hP 1 1 rfl rfl (vp_in_nI (by omega) (by decide)) dX0_countOpen_17 ?_
    refine lv_if_ne (tgt := 24) hx hb dX0_countOpen_18 (by decide) (fun c_18 => ?_) (fun c_18 => ?_)
    · refine lv_iinc (v := nI (j + 1)) (lv' := [(2, .int (nI (j + 1))), (1, .int opn), (0, .ref (a 11))]) hx hb dX0_countOpen_24 hl (k := 0) rfl (inc1 _) (by decide) rfl (fun ls hl => ?_)
      refine lv_goto (tgt := 4) hx hb dX0_countOpen_27 (by decide) ?_
      exact ih (j + 1) opn _ ⟨by omega, (hf.trans (by rw [f_X0_countOpen_L, if_neg c_18])), lv_sub hl [0, 1, 2] rfl⟩
    · refine lv_iinc (v := opn + 1) (lv' := [(1, .int (opn + 1)), (2, .int (nI j)), (0, .ref (a 11))]) hx hb dX0_countOpen_21 hl (k := 1) rfl rfl (by decide) rfl (fun ls hl => ?_)
      refine lv_iinc (v := nI (j + 1)) (lv' := [(2, .int (nI (j + 1))), (1, .int (opn + 1)), (0, .ref (a 11))]) hx hb dX0_countOpen_24 hl (k := 1) rfl (inc1 _) (by decide) rfl (fun ls hl => ?_)
      refine lv_goto (tgt := 4) hx hb dX0_countOpen_27 (by decide) ?_
      exact ih (j + 1) (opn + 1) _ ⟨by omega, (hf.trans (by rw [f_X0_countOpen_L, if_pos c_18])), lv_sub hl [0, 1, 2] rfl⟩

/-! X0_countLate -/
def f_X0_countLate (lt : Int32) : Int32 :=
  lt
theorem iw_X0_countLate_RX0 : ∀ w ∈ u_ws RX0 TX0 5, w ∈ wsX0_countLate := by decide +kernel
set_option maxHeartbeats 4000000 in
set_option maxRecDepth 100000 in
theorem c_X0_countLate (l : Launch) (G : GT) (a : Nat → Nat) (sz : Nat) (oc : Int32) (lt : Int32) : Met l yX0_countLate wsX0_countLate ({ frames := 0, cells := 0, slots := 0, locals := 0 }) (GP G [.ref (a 11)] [wcO a oc lt] sz) (PQo (.returned (some (.int (f_X0_countLate lt))))) 0 0 (fun _ => False) := by
  refine bodyM (cc := cX0_countLate) (maxL := 1) (ret := (some .int)) (by decide) rfl (Nat.le_of_ble_eq_true rfl) ?_
  intro p e s m below meth c ls C
  obtain ⟨hx, hb, hr, hts, hown, hlocks, hml, hsz, hP, hE, hD, hA, hS, hl⟩ := C
  subst hsz
  have hl : lv_has ls 1 [(0, .ref (a 11))] := hl
  refine lv_aload_n hx hb dX0_countLate_0 rfl (lv_at hl 0 rfl) ?_
  refine va_get (D := G.1) (ci := 0) (v := .int lt) (C := RX0) (T := TX0) (N := 5) hx hb hts iw_X0_countLate_RX0 hown hE.1 hP 0 rfl rfl 4 (by decide) (hts (.fieldLink RX0 26 "Rackrail$Orders" "lateCount" "I") (by decide +kernel)) (fun _ h9 => h9) rfl dX0_countLate_1 ?_
  have hq : f_X0_countLate lt = lt := (by rw [f_X0_countLate])
  exact W.iret (v := lt) hx hb hr (fun t ht _ => ⟨by rw [hq], ht⟩) (fun _ h => nomatch h) dX0_countLate_4

