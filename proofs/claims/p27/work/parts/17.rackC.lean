/-! X3_order -/
def f_X3_order (cn : Int32) (oc : Int32) (ob : Nat → Int32) (od : Nat → Int32) (dn : Nat → Int32) (p0 : Int32) (p1 : Int32) : Int32 × Int32 × (Nat → Int32) × (Nat → Int32) :=
  if k_X3_requireBox cn p0 = 0 then (if p1 < 0 then (0, oc, ob, od)
      else if p1 ≤ 10000 then (if (f_X0_isOpenFor oc ob dn p0) = 0 then (if (f_X0_isFull oc) = 0 then ((f_X0_enter oc ob od p0 p1).1, (f_X0_enter oc ob od p0 p1).2.1, (f_X0_enter oc ob od p0 p1).2.2.1, (f_X0_enter oc ob od p0 p1).2.2.2)
          else (0, oc, ob, od))
        else (0, oc, ob, od))
      else (0, oc, ob, od))
    else (0, oc, ob, od)
def k_X3_order (cn : Int32) (oc : Int32) (ob : Nat → Int32) (dn : Nat → Int32) (p0 : Int32) (p1 : Int32) : Nat :=
  if k_X3_requireBox cn p0 = 0 then (if p1 < 0 then 2
      else if p1 ≤ 10000 then (if (f_X0_isOpenFor oc ob dn p0) = 0 then (if (f_X0_isFull oc) = 0 then 0
          else 3)
        else 3)
      else 2)
    else 1
theorem kr_X3_order (cn : Int32) (oc : Int32) (ob : Nat → Int32) (dn : Nat → Int32) (p0 : Int32) (p1 : Int32) : k_X3_order cn oc ob dn p0 p1 = 0 ∨ k_X3_order cn oc ob dn p0 p1 = 1 ∨ k_X3_order cn oc ob dn p0 p1 = 2 ∨ k_X3_order cn oc ob dn p0 p1 = 3 := by
  unfold k_X3_order
  (repeat' split) <;> decide
theorem iw_X3_order_RX3 : ∀ w ∈ u_ws RX3 TX3 4, w ∈ wsX3_order := by decide +kernel
set_option maxHeartbeats 4000000 in
set_option maxRecDepth 100000 in
theorem c_X3_order (l : Launch) (hl9 : l.stackTraces = false) (G : GT) (a : Nat → Nat) (sz : Nat) (ck : Int32) (cn : Int32) (oc : Int32) (lt : Int32) (ob : Nat → Int32) (od : Nat → Int32) (dn : Nat → Int32) (p0 : Int32) (p1 : Int32) (hoc : okN 30 oc) (h0 : k_X3_order cn oc ob dn p0 p1 = 0) : Met l yX3_order wsX3_order ({ frames := 3, cells := 0, slots := 0, locals := 63 }) (GP G [.ref (a 0), .int p0, .int p1] [wcA a ck, wcS a cn, wcO a oc lt, wcI G (a 12) 30 ob, wcI G (a 13) 30 od, wcZ G (a 14) 30 dn] sz) (MQo G (.returned (some (.int ((f_X3_order cn oc ob od dn p0 p1).1)))) [wcA a ck, wcS a cn, wcO a ((f_X3_order cn oc ob od dn p0 p1).2.1) lt, wcI G (a 12) 30 ((f_X3_order cn oc ob od dn p0 p1).2.2.1), wcI G (a 13) 30 ((f_X3_order cn oc ob od dn p0 p1).2.2.2), wcZ G (a 14) 30 dn] (va_A [wcA a ck, wcS a cn, wcO a oc lt, wcI G (a 12) 30 ob, wcI G (a 13) 30 od, wcZ G (a 14) 30 dn] sz)) 0 0 (va_A [wcA a ck, wcS a cn, wcO a oc lt, wcI G (a 12) 30 ob, wcI G (a 13) 30 od, wcZ G (a 14) 30 dn] sz) := by
  refine bodyM (cc := cX3_order) (maxL := 3) (ret := (some .int)) (by decide) rfl (Nat.le_of_ble_eq_true rfl) ?_
  intro p e s m below meth c ls C
  obtain ⟨hx, hb, hr, hts, hown, hlocks, hml, hsz, hP, hE, hD, hA, hS, hl⟩ := C
  subst hsz
  have hl : lv_has ls 3 [(0, .ref (a 0)), (1, .int p0), (2, .int p1)] := hl
  refine lv_aload_n hx hb dX3_order_0 rfl (lv_at hl 0 rfl) ?_
  refine lv_iload_n hx hb dX3_order_1 rfl (lv_at hl 1 rfl) ?_
  have c_2 : k_X3_requireBox cn p0 = 0 := Decidable.byContradiction (fun c_2 => absurd (h0.symm.trans (by rw [k_X3_order, if_neg c_2])) (by decide))
  refine k_p (va_runV (As := [.int p0]) (rest := []) ⟨hx, hb, hml, hown, hts⟩ (c_X3_requireBox l hl9 G a s.heap.size ck cn p0 c_2) (cwV 1 hts gX3_order_X3_requireBox rfl rfl rfl ⟨rfl, by decide +kernel, by decide +kernel, by decide +kernel⟩ ⟨Nat.le_of_ble_eq_true rfl, Nat.le_of_ble_eq_true rfl⟩) ⟨GP.blind, va_recv hE.1 hP (ci := 3) (q0 := 0) rfl rfl, GP.go (wc := [wcA a ck, wcS a cn]) hE hP hD hS hA [0, 1] rfl (by decide) [.ref (a 0), .int p0]⟩ rfl rfl hl.1 rfl (lv_room (Nat.le_of_ble_eq_true rfl)) dX3_order_2 ⟨Nat.le_of_ble_eq_true rfl, Nat.le_of_ble_eq_true rfl⟩) ?_
  refine lv_iload_n hx hb dX3_order_5 rfl (lv_at hl 2 rfl) ?_
  refine lv_if_lt (tgt := 16) hx hb dX3_order_6 (by decide) (fun c_6 => ?_) (fun c_6 => ?_)
  · exact absurd (h0.symm.trans (by rw [k_X3_order, if_pos c_2, if_pos c_6])) (by decide)
  · refine lv_iload_n hx hb dX3_order_9 rfl (lv_at hl 2 rfl) ?_
    refine lv_sipush (v := 10000) hx hb dX3_order_10 (by decide) ?_
    refine lv_icmp_le (tgt := 26) hx hb dX3_order_13 (by decide) (fun c_13 => ?_) (fun c_13 => ?_)
    · refine lv_aload_n hx hb dX3_order_26 rfl (lv_at hl 0 rfl) ?_
      refine va_get (D := G.1) (ci := 3) (v := .ref (a 11)) (C := RX3) (T := TX3) (N := 4) hx hb hts iw_X3_order_RX3 hown hE.1 hP 0 rfl rfl 2 (by decide) (hts (.fieldLink RX3 26 "Rackrail" "orders" "LRackrail$Orders;") (by decide +kernel)) (fun _ h9 => h9) rfl dX3_order_27 ?_
      refine lv_iload_n hx hb dX3_order_30 rfl (lv_at hl 1 rfl) ?_
      refine k_p (va_runV (As := [.int p0]) (rest := []) ⟨hx, hb, hml, hown, hts⟩ (c_X0_isOpenFor l G a s.heap.size oc lt ob dn p0 hoc) (cwV 1 hts gX3_order_X0_isOpenFor rfl rfl rfl ⟨rfl, by decide +kernel, by decide +kernel, by decide +kernel⟩ ⟨Nat.le_of_ble_eq_true rfl, Nat.le_of_ble_eq_true rfl⟩) ⟨GP.blind, va_recv hE.1 hP (ci := 0) (q0 := 2) rfl rfl, GP.go (wc := [wcO a oc lt, wcI G (a 12) 30 ob, wcZ G (a 14) 30 dn]) hE hP hD hS hA [2, 3, 5] rfl (by decide) [.ref (a 11), .int p0]⟩ rfl rfl hl.1 rfl (lv_room (Nat.le_of_ble_eq_true rfl)) dX3_order_31 ⟨Nat.le_of_ble_eq_true rfl, Nat.le_of_ble_eq_true rfl⟩) ?_
      refine lv_if_eq (tgt := 47) hx hb dX3_order_34 (by decide) (fun c_34 => ?_) (fun c_34 => ?_)
      · refine lv_aload_n hx hb dX3_order_47 rfl (lv_at hl 0 rfl) ?_
        refine va_get (D := G.1) (ci := 3) (v := .ref (a 11)) (C := RX3) (T := TX3) (N := 4) hx hb hts iw_X3_order_RX3 hown hE.1 hP 0 rfl rfl 2 (by decide) (hts (.fieldLink RX3 26 "Rackrail" "orders" "LRackrail$Orders;") (by decide +kernel)) (fun _ h9 => h9) rfl dX3_order_48 ?_
        refine k_p (va_runV (As := []) (rest := []) ⟨hx, hb, hml, hown, hts⟩ (c_X0_isFull l G a s.heap.size oc lt) (cwV 0 hts gX3_order_X0_isFull rfl rfl rfl ⟨rfl, by decide +kernel, by decide +kernel, by decide +kernel⟩ ⟨Nat.le_of_ble_eq_true rfl, Nat.le_of_ble_eq_true rfl⟩) ⟨GP.blind, va_recv hE.1 hP (ci := 0) (q0 := 2) rfl rfl, GP.go (wc := [wcO a oc lt]) hE hP hD hS hA [2] rfl (by decide) [.ref (a 11)]⟩ rfl rfl hl.1 rfl (lv_room (Nat.le_of_ble_eq_true rfl)) dX3_order_51 ⟨Nat.le_of_ble_eq_true rfl, Nat.le_of_ble_eq_true rfl⟩) ?_
        refine lv_if_eq (tgt := 67) hx hb dX3_order_54 (by decide) (fun c_54 => ?_) (fun c_54 => ?_)
        · refine lv_aload_n hx hb dX3_order_67 rfl (lv_at hl 0 rfl) ?_
          refine va_get (D := G.1) (ci := 3) (v := .ref (a 11)) (C := RX3) (T := TX3) (N := 4) hx hb hts iw_X3_order_RX3 hown hE.1 hP 0 rfl rfl 2 (by decide) (hts (.fieldLink RX3 26 "Rackrail" "orders" "LRackrail$Orders;") (by decide +kernel)) (fun _ h9 => h9) rfl dX3_order_68 ?_
          refine lv_iload_n hx hb dX3_order_71 rfl (lv_at hl 1 rfl) ?_
          refine lv_iload_n hx hb dX3_order_72 rfl (lv_at hl 2 rfl) ?_
          refine k_m (wc := [wcO a oc lt, wcI G (a 12) 30 ob, wcI G (a 13) 30 od]) (w1 := [wcO a ((f_X0_enter oc ob od p0 p1).2.1) lt, wcI G (a 12) 30 ((f_X0_enter oc ob od p0 p1).2.2.1), wcI G (a 13) 30 ((f_X0_enter oc ob od p0 p1).2.2.2)]) (wn := [wcA a ck, wcS a cn, wcO a ((f_X0_enter oc ob od p0 p1).2.1) lt, wcI G (a 12) 30 ((f_X0_enter oc ob od p0 p1).2.2.1), wcI G (a 13) 30 ((f_X0_enter oc ob od p0 p1).2.2.2), wcZ G (a 14) 30 dn]) (va_runV (As := [.int p0, .int p1]) (rest := []) ⟨hx, hb, hml, hown, hts⟩ (c_X0_enter l G a s.heap.size oc lt ob od p0 p1 hoc) (cwV 2 hts gX3_order_X0_enter rfl rfl rfl ⟨rfl, by decide +kernel, by decide +kernel, by decide +kernel⟩ ⟨Nat.le_of_ble_eq_true rfl, Nat.le_of_ble_eq_true rfl⟩) ⟨GP.blind, va_recv hE.1 hP (ci := 0) (q0 := 2) rfl rfl, GP.go (wc := [wcO a oc lt, wcI G (a 12) 30 ob, wcI G (a 13) 30 od]) hE hP hD hS hA [2, 3, 4] rfl (by decide) [.ref (a 11), .int p0, .int p1]⟩ rfl rfl hl.1 rfl (lv_room (Nat.le_of_ble_eq_true rfl)) dX3_order_73 ⟨Nat.le_of_ble_eq_true rfl, Nat.le_of_ble_eq_true rfl⟩) hP hD hS hA [2, 3, 4] rfl rfl rfl rfl (fun H locs hP hD hS => ?_)
          have hq : f_X3_order cn oc ob od dn p0 p1 = ((f_X0_enter oc ob od p0 p1).1, (f_X0_enter oc ob od p0 p1).2.1, (f_X0_enter oc ob od p0 p1).2.2.1, (f_X0_enter oc ob od p0 p1).2.2.2) := (by rw [f_X3_order, if_pos c_2, if_neg c_6, if_pos c_13, if_pos c_34, if_pos c_54])
          exact W.iret (v := (f_X0_enter oc ob od p0 p1).1) hx hb hr (fun t ht _ => ⟨by rw [hq], by rw [hq, ht]; exact hP, hS.F ht⟩) hS.2.2 dX3_order_76
        · exact absurd (h0.symm.trans (by rw [k_X3_order, if_pos c_2, if_neg c_6, if_pos c_13, if_pos c_34, if_neg c_54])) (by decide)
      · exact absurd (h0.symm.trans (by rw [k_X3_order, if_pos c_2, if_neg c_6, if_pos c_13, if_neg c_34])) (by decide)
    · exact absurd (h0.symm.trans (by rw [k_X3_order, if_pos c_2, if_neg c_6, if_neg c_13])) (by decide)

/-! X3_nextAisle -/
def f_X3_nextAisle (cn : Int32) (sp : Nat → Int32) (oc : Int32) (ob : Nat → Int32) (od : Nat → Int32) (dn : Nat → Int32) : Int32 :=
  f_X2_aisleOfBox cn sp (f_X0_boxOf oc ob (f_X0_earliest oc ob od dn cn sp (-2)))
theorem iw_X3_nextAisle_RX3 : ∀ w ∈ u_ws RX3 TX3 4, w ∈ wsX3_nextAisle := by decide +kernel
set_option maxHeartbeats 4000000 in
set_option maxRecDepth 100000 in
theorem c_X3_nextAisle (l : Launch) (G : GT) (a : Nat → Nat) (sz : Nat) (ck : Int32) (cn : Int32) (sp : Nat → Int32) (oc : Int32) (lt : Int32) (ob : Nat → Int32) (od : Nat → Int32) (dn : Nat → Int32) (hcn : okN 20 cn) (hoc : okN 30 oc) : Met l yX3_nextAisle wsX3_nextAisle ({ frames := 5, cells := 0, slots := 0, locals := 112 }) (GP G [.ref (a 0)] [wcA a ck, wcS a cn, wcI G (a 6) 20 sp, wcO a oc lt, wcI G (a 12) 30 ob, wcI G (a 13) 30 od, wcZ G (a 14) 30 dn] sz) (PQo (.returned (some (.int (f_X3_nextAisle cn sp oc ob od dn))))) 0 0 (fun _ => False) := by
  refine bodyM (cc := cX3_nextAisle) (maxL := 2) (ret := (some .int)) (by decide) rfl (Nat.le_of_ble_eq_true rfl) ?_
  intro p e s m below meth c ls C
  obtain ⟨hx, hb, hr, hts, hown, hlocks, hml, hsz, hP, hE, hD, hA, hS, hl⟩ := C
  subst hsz
  have hl : lv_has ls 2 [(0, .ref (a 0))] := hl
  refine lv_aload_n hx hb dX3_nextAisle_0 rfl (lv_at hl 0 rfl) ?_
  refine va_get (D := G.1) (ci := 3) (v := .ref (a 11)) (C := RX3) (T := TX3) (N := 4) hx hb hts iw_X3_nextAisle_RX3 hown hE.1 hP 0 rfl rfl 2 (by decide) (hts (.fieldLink RX3 26 "Rackrail" "orders" "LRackrail$Orders;") (by decide +kernel)) (fun _ h9 => h9) rfl dX3_nextAisle_1 ?_
  refine lv_aload_n hx hb dX3_nextAisle_4 rfl (lv_at hl 0 rfl) ?_
  refine va_get (D := G.1) (ci := 3) (v := .ref (a 1)) (C := RX3) (T := TX3) (N := 4) hx hb hts iw_X3_nextAisle_RX3 hown hE.1 hP 0 rfl rfl 0 (by decide) (hts (.fieldLink RX3 12 "Rackrail" "store" "LRackrail$Store;") (by decide +kernel)) (fun _ h9 => h9) rfl dX3_nextAisle_5 ?_
  refine lv_bipush (v := (-2)) hx hb dX3_nextAisle_8 (by decide) ?_
  refine k_p (va_runV (As := [.ref (a 1), .int (-2)]) (rest := []) ⟨hx, hb, hml, hown, hts⟩ (c_X0_earliest l G a s.heap.size oc lt ob od dn cn sp (-2) hcn hoc) (cwV 2 hts gX3_nextAisle_X0_earliest rfl rfl rfl ⟨rfl, by decide +kernel, by decide +kernel, by decide +kernel⟩ ⟨Nat.le_of_ble_eq_true rfl, Nat.le_of_ble_eq_true rfl⟩) ⟨GP.blind, va_recv hE.1 hP (ci := 0) (q0 := 3) rfl rfl, GP.go (wc := [wcO a oc lt, wcI G (a 12) 30 ob, wcI G (a 13) 30 od, wcZ G (a 14) 30 dn, wcS a cn, wcI G (a 6) 20 sp]) hE hP hD hS hA [3, 4, 5, 6, 1, 2] rfl (by decide) [.ref (a 11), .ref (a 1), .int (-2)]⟩ rfl rfl hl.1 rfl (lv_room (Nat.le_of_ble_eq_true rfl)) dX3_nextAisle_10 ⟨Nat.le_of_ble_eq_true rfl, Nat.le_of_ble_eq_true rfl⟩) ?_
  refine lv_istore_n (lv' := [(1, .int (f_X0_earliest oc ob od dn cn sp (-2))), (0, .ref (a 0))]) hx hb dX3_nextAisle_13 rfl hl (by decide) rfl (fun ls hl => ?_)
  refine lv_aload_n hx hb dX3_nextAisle_14 rfl (lv_at hl 1 rfl) ?_
  refine va_get (D := G.1) (ci := 3) (v := .ref (a 1)) (C := RX3) (T := TX3) (N := 4) hx hb hts iw_X3_nextAisle_RX3 hown hE.1 hP 0 rfl rfl 0 (by decide) (hts (.fieldLink RX3 12 "Rackrail" "store" "LRackrail$Store;") (by decide +kernel)) (fun _ h9 => h9) rfl dX3_nextAisle_15 ?_
  refine lv_aload_n hx hb dX3_nextAisle_18 rfl (lv_at hl 1 rfl) ?_
  refine va_get (D := G.1) (ci := 3) (v := .ref (a 11)) (C := RX3) (T := TX3) (N := 4) hx hb hts iw_X3_nextAisle_RX3 hown hE.1 hP 0 rfl rfl 2 (by decide) (hts (.fieldLink RX3 26 "Rackrail" "orders" "LRackrail$Orders;") (by decide +kernel)) (fun _ h9 => h9) rfl dX3_nextAisle_19 ?_
  refine lv_iload_n hx hb dX3_nextAisle_22 rfl (lv_at hl 0 rfl) ?_
  refine k_p (va_runV (As := [.int (f_X0_earliest oc ob od dn cn sp (-2))]) (rest := [.ref (a 1)]) ⟨hx, hb, hml, hown, hts⟩ (c_X0_boxOf l G a s.heap.size oc lt ob (f_X0_earliest oc ob od dn cn sp (-2)) hoc) (cwV 1 hts gX3_nextAisle_X0_boxOf rfl rfl rfl ⟨rfl, by decide +kernel, by decide +kernel, by decide +kernel⟩ ⟨Nat.le_of_ble_eq_true rfl, Nat.le_of_ble_eq_true rfl⟩) ⟨GP.blind, va_recv hE.1 hP (ci := 0) (q0 := 3) rfl rfl, GP.go (wc := [wcO a oc lt, wcI G (a 12) 30 ob]) hE hP hD hS hA [3, 4] rfl (by decide) [.ref (a 11), .int (f_X0_earliest oc ob od dn cn sp (-2))]⟩ rfl rfl hl.1 rfl (lv_room (Nat.le_of_ble_eq_true rfl)) dX3_nextAisle_23 ⟨Nat.le_of_ble_eq_true rfl, Nat.le_of_ble_eq_true rfl⟩) ?_
  refine k_p (va_runV (As := [.int (f_X0_boxOf oc ob (f_X0_earliest oc ob od dn cn sp (-2)))]) (rest := []) ⟨hx, hb, hml, hown, hts⟩ (c_X2_aisleOfBox l G a s.heap.size cn sp (f_X0_boxOf oc ob (f_X0_earliest oc ob od dn cn sp (-2))) hcn) (cwV 1 hts gX3_nextAisle_X2_aisleOfBox rfl rfl rfl ⟨rfl, by decide +kernel, by decide +kernel, by decide +kernel⟩ ⟨Nat.le_of_ble_eq_true rfl, Nat.le_of_ble_eq_true rfl⟩) ⟨GP.blind, va_recv hE.1 hP (ci := 2) (q0 := 1) rfl rfl, GP.go (wc := [wcS a cn, wcI G (a 6) 20 sp]) hE hP hD hS hA [1, 2] rfl (by decide) [.ref (a 1), .int (f_X0_boxOf oc ob (f_X0_earliest oc ob od dn cn sp (-2)))]⟩ rfl rfl hl.1 rfl (lv_room (Nat.le_of_ble_eq_true rfl)) dX3_nextAisle_26 ⟨Nat.le_of_ble_eq_true rfl, Nat.le_of_ble_eq_true rfl⟩) ?_
  have hq : f_X3_nextAisle cn sp oc ob od dn = (f_X2_aisleOfBox cn sp (f_X0_boxOf oc ob (f_X0_earliest oc ob od dn cn sp (-2)))) := (by rw [f_X3_nextAisle])
  exact W.iret (v := f_X2_aisleOfBox cn sp (f_X0_boxOf oc ob (f_X0_earliest oc ob od dn cn sp (-2)))) hx hb hr (fun t ht _ => ⟨by rw [hq], ht⟩) (fun _ h => nomatch h) dX3_nextAisle_29

/-! X3_fetch -/
def f_X3_fetch (ck : Int32) (cn : Int32) (sp : Nat → Int32) (gp : Int32) (tg : Int32) (ins : Nat → Int32) (oc : Int32) (lt : Int32) (ob : Nat → Int32) (od : Nat → Int32) (dn : Nat → Int32) (p0 : Int32) : Int32 × (Nat → Int32) × Int32 × (Nat → Int32) :=
  if k_X3_requirePerson p0 = 0 then (if k_X3_requireInside ins p0 = 0 then (if (f_X0_earliest oc ob od dn cn sp (f_X1_openAisle gp tg)) = (-1) then (0, sp, lt, dn)
        else (f_X0_earliest oc ob od dn cn sp (f_X1_openAisle gp tg), f_X2_put cn sp (f_X0_boxOf oc ob (f_X0_earliest oc ob od dn cn sp (f_X1_openAisle gp tg))) (-1), (f_X0_finish oc lt od dn (f_X0_earliest oc ob od dn cn sp (f_X1_openAisle gp tg)) ck).1, (f_X0_finish oc lt od dn (f_X0_earliest oc ob od dn cn sp (f_X1_openAisle gp tg)) ck).2))
      else (0, sp, lt, dn))
    else (0, sp, lt, dn)
def k_X3_fetch (cn : Int32) (sp : Nat → Int32) (gp : Int32) (tg : Int32) (ins : Nat → Int32) (oc : Int32) (ob : Nat → Int32) (od : Nat → Int32) (dn : Nat → Int32) (p0 : Int32) : Nat :=
  if k_X3_requirePerson p0 = 0 then (if k_X3_requireInside ins p0 = 0 then (if (f_X0_earliest oc ob od dn cn sp (f_X1_openAisle gp tg)) = (-1) then 3
        else 0)
      else 3)
    else 1
theorem kr_X3_fetch (cn : Int32) (sp : Nat → Int32) (gp : Int32) (tg : Int32) (ins : Nat → Int32) (oc : Int32) (ob : Nat → Int32) (od : Nat → Int32) (dn : Nat → Int32) (p0 : Int32) : k_X3_fetch cn sp gp tg ins oc ob od dn p0 = 0 ∨ k_X3_fetch cn sp gp tg ins oc ob od dn p0 = 1 ∨ k_X3_fetch cn sp gp tg ins oc ob od dn p0 = 3 := by
  unfold k_X3_fetch
  (repeat' split) <;> decide
theorem iw_X3_fetch_RX3 : ∀ w ∈ u_ws RX3 TX3 4, w ∈ wsX3_fetch := by decide +kernel
set_option maxHeartbeats 4000000 in
set_option maxRecDepth 100000 in
theorem c_X3_fetch (l : Launch) (hl9 : l.stackTraces = false) (G : GT) (a : Nat → Nat) (sz : Nat) (ck : Int32) (cn : Int32) (sp : Nat → Int32) (gp : Int32) (tg : Int32) (st : Int32) (sm : Int32) (ins : Nat → Int32) (oc : Int32) (lt : Int32) (ob : Nat → Int32) (od : Nat → Int32) (dn : Nat → Int32) (p0 : Int32) (hcn : okN 20 cn) (hoc : okN 30 oc) (h0 : k_X3_fetch cn sp gp tg ins oc ob od dn p0 = 0) : Met l yX3_fetch wsX3_fetch ({ frames := 5, cells := 0, slots := 0, locals := 112 }) (GP G [.ref (a 0), .int p0] [wcA a ck, wcS a cn, wcI G (a 6) 20 sp, wcR a gp tg st sm, wcZ G (a 9) 4 ins, wcO a oc lt, wcI G (a 12) 30 ob, wcI G (a 13) 30 od, wcZ G (a 14) 30 dn] sz) (MQo G (.returned (some (.int ((f_X3_fetch ck cn sp gp tg ins oc lt ob od dn p0).1)))) [wcA a ck, wcS a cn, wcI G (a 6) 20 ((f_X3_fetch ck cn sp gp tg ins oc lt ob od dn p0).2.1), wcR a gp tg st sm, wcZ G (a 9) 4 ins, wcO a oc ((f_X3_fetch ck cn sp gp tg ins oc lt ob od dn p0).2.2.1), wcI G (a 12) 30 ob, wcI G (a 13) 30 od, wcZ G (a 14) 30 ((f_X3_fetch ck cn sp gp tg ins oc lt ob od dn p0).2.2.2)] (va_A [wcA a ck, wcS a cn, wcI G (a 6) 20 sp, wcR a gp tg st sm, wcZ G (a 9) 4 ins, wcO a oc lt, wcI G (a 12) 30 ob, wcI G (a 13) 30 od, wcZ G (a 14) 30 dn] sz)) 0 0 (va_A [wcA a ck, wcS a cn, wcI G (a 6) 20 sp, wcR a gp tg st sm, wcZ G (a 9) 4 ins, wcO a oc lt, wcI G (a 12) 30 ob, wcI G (a 13) 30 od, wcZ G (a 14) 30 dn] sz) := by
  refine bodyM (cc := cX3_fetch) (maxL := 3) (ret := (some .int)) (by decide) rfl (Nat.le_of_ble_eq_true rfl) ?_
  intro p e s m below meth c ls C
  obtain ⟨hx, hb, hr, hts, hown, hlocks, hml, hsz, hP, hE, hD, hA, hS, hl⟩ := C
  subst hsz
  have hl : lv_has ls 3 [(0, .ref (a 0)), (1, .int p0)] := hl
  refine lv_aload_n hx hb dX3_fetch_0 rfl (lv_at hl 0 rfl) ?_
  refine lv_iload_n hx hb dX3_fetch_1 rfl (lv_at hl 1 rfl) ?_
  have c_2 : k_X3_requirePerson p0 = 0 := Decidable.byContradiction (fun c_2 => absurd (h0.symm.trans (by rw [k_X3_fetch, if_neg c_2])) (by decide))
  refine k_p (va_runV (As := [.int p0]) (rest := []) ⟨hx, hb, hml, hown, hts⟩ (c_X3_requirePerson l hl9 G a s.heap.size p0 c_2) (cwV 1 hts gX3_fetch_X3_requirePerson rfl rfl rfl ⟨rfl, by decide +kernel, by decide +kernel, by decide +kernel⟩ ⟨Nat.le_of_ble_eq_true rfl, Nat.le_of_ble_eq_true rfl⟩) ⟨GP.blind, va_recv hE.1 hP (ci := 3) (q0 := 0) rfl rfl, GP.go (wc := []) hE hP hD hS hA [] rfl (by decide) [.ref (a 0), .int p0]⟩ rfl rfl hl.1 rfl (lv_room (Nat.le_of_ble_eq_true rfl)) dX3_fetch_2 ⟨Nat.le_of_ble_eq_true rfl, Nat.le_of_ble_eq_true rfl⟩) ?_
  refine lv_aload_n hx hb dX3_fetch_5 rfl (lv_at hl 0 rfl) ?_
  refine lv_iload_n hx hb dX3_fetch_6 rfl (lv_at hl 1 rfl) ?_
  have c_7 : k_X3_requireInside ins p0 = 0 := Decidable.byContradiction (fun c_7 => absurd (h0.symm.trans (by rw [k_X3_fetch, if_pos c_2, if_neg c_7])) (by decide))
  refine k_p (va_runV (As := [.int p0]) (rest := []) ⟨hx, hb, hml, hown, hts⟩ (c_X3_requireInside l hl9 G a s.heap.size ck gp tg st sm ins p0 c_7) (cwV 1 hts gX3_fetch_X3_requireInside rfl rfl rfl ⟨rfl, by decide +kernel, by decide +kernel, by decide +kernel⟩ ⟨Nat.le_of_ble_eq_true rfl, Nat.le_of_ble_eq_true rfl⟩) ⟨GP.blind, va_recv hE.1 hP (ci := 3) (q0 := 0) rfl rfl, GP.go (wc := [wcA a ck, wcR a gp tg st sm, wcZ G (a 9) 4 ins]) hE hP hD hS hA [0, 3, 4] rfl (by decide) [.ref (a 0), .int p0]⟩ rfl rfl hl.1 rfl (lv_room (Nat.le_of_ble_eq_true rfl)) dX3_fetch_7 ⟨Nat.le_of_ble_eq_true rfl, Nat.le_of_ble_eq_true rfl⟩) ?_
  refine lv_aload_n hx hb dX3_fetch_10 rfl (lv_at hl 0 rfl) ?_
  refine va_get (D := G.1) (ci := 3) (v := .ref (a 11)) (C := RX3) (T := TX3) (N := 4) hx hb hts iw_X3_fetch_RX3 hown hE.1 hP 0 rfl rfl 2 (by decide) (hts (.fieldLink RX3 26 "Rackrail" "orders" "LRackrail$Orders;") (by decide +kernel)) (fun _ h9 => h9) rfl dX3_fetch_11 ?_
  refine lv_aload_n hx hb dX3_fetch_14 rfl (lv_at hl 0 rfl) ?_
  refine va_get (D := G.1) (ci := 3) (v := .ref (a 1)) (C := RX3) (T := TX3) (N := 4) hx hb hts iw_X3_fetch_RX3 hown hE.1 hP 0 rfl rfl 0 (by decide) (hts (.fieldLink RX3 12 "Rackrail" "store" "LRackrail$Store;") (by decide +kernel)) (fun _ h9 => h9) rfl dX3_fetch_15 ?_
  refine lv_aload_n hx hb dX3_fetch_18 rfl (lv_at hl 0 rfl) ?_
  refine va_get (D := G.1) (ci := 3) (v := .ref (a 7)) (C := RX3) (T := TX3) (N := 4) hx hb hts iw_X3_fetch_RX3 hown hE.1 hP 0 rfl rfl 1 (by decide) (hts (.fieldLink RX3 19 "Rackrail" "rail" "LRackrail$Rail;") (by decide +kernel)) (fun _ h9 => h9) rfl dX3_fetch_19 ?_
  refine k_p (va_runV (As := []) (rest := [.ref (a 1), .ref (a 11)]) ⟨hx, hb, hml, hown, hts⟩ (c_X1_openAisle l G a s.heap.size gp tg st sm) (cwV 0 hts gX3_fetch_X1_openAisle rfl rfl rfl ⟨rfl, by decide +kernel, by decide +kernel, by decide +kernel⟩ ⟨Nat.le_of_ble_eq_true rfl, Nat.le_of_ble_eq_true rfl⟩) ⟨GP.blind, va_recv hE.1 hP (ci := 1) (q0 := 3) rfl rfl, GP.go (wc := [wcR a gp tg st sm]) hE hP hD hS hA [3] rfl (by decide) [.ref (a 7)]⟩ rfl rfl hl.1 rfl (lv_room (Nat.le_of_ble_eq_true rfl)) dX3_fetch_22 ⟨Nat.le_of_ble_eq_true rfl, Nat.le_of_ble_eq_true rfl⟩) ?_
  refine k_p (va_runV (As := [.ref (a 1), .int (f_X1_openAisle gp tg)]) (rest := []) ⟨hx, hb, hml, hown, hts⟩ (c_X0_earliest l G a s.heap.size oc lt ob od dn cn sp (f_X1_openAisle gp tg) hcn hoc) (cwV 2 hts gX3_fetch_X0_earliest rfl rfl rfl ⟨rfl, by decide +kernel, by decide +kernel, by decide +kernel⟩ ⟨Nat.le_of_ble_eq_true rfl, Nat.le_of_ble_eq_true rfl⟩) ⟨GP.blind, va_recv hE.1 hP (ci := 0) (q0 := 5) rfl rfl, GP.go (wc := [wcO a oc lt, wcI G (a 12) 30 ob, wcI G (a 13) 30 od, wcZ G (a 14) 30 dn, wcS a cn, wcI G (a 6) 20 sp]) hE hP hD hS hA [5, 6, 7, 8, 1, 2] rfl (by decide) [.ref (a 11), .ref (a 1), .int (f_X1_openAisle gp tg)]⟩ rfl rfl hl.1 rfl (lv_room (Nat.le_of_ble_eq_true rfl)) dX3_fetch_25 ⟨Nat.le_of_ble_eq_true rfl, Nat.le_of_ble_eq_true rfl⟩) ?_
  refine lv_istore_n (lv' := [(2, .int (f_X0_earliest oc ob od dn cn sp (f_X1_openAisle gp tg))), (0, .ref (a 0)), (1, .int p0)]) hx hb dX3_fetch_28 rfl hl (by decide) rfl (fun ls hl => ?_)
  refine lv_iload_n hx hb dX3_fetch_29 rfl (lv_at hl 0 rfl) ?_
  refine lv_iconst (v := (-1)) hx hb dX3_fetch_30 (by decide) ?_
  refine lv_icmp_ne (tgt := 44) hx hb dX3_fetch_31 (by decide) (fun c_31 => ?_) (fun c_31 => ?_)
  · refine lv_aload_n hx hb dX3_fetch_44 rfl (lv_at hl 1 rfl) ?_
    refine va_get (D := G.1) (ci := 3) (v := .ref (a 11)) (C := RX3) (T := TX3) (N := 4) hx hb hts iw_X3_fetch_RX3 hown hE.1 hP 0 rfl rfl 2 (by decide) (hts (.fieldLink RX3 26 "Rackrail" "orders" "LRackrail$Orders;") (by decide +kernel)) (fun _ h9 => h9) rfl dX3_fetch_45 ?_
    refine lv_iload_n hx hb dX3_fetch_48 rfl (lv_at hl 0 rfl) ?_
    refine lv_aload_n hx hb dX3_fetch_49 rfl (lv_at hl 1 rfl) ?_
    refine va_get (D := G.1) (ci := 3) (v := .int ck) (C := RX3) (T := TX3) (N := 4) hx hb hts iw_X3_fetch_RX3 hown hE.1 hP 0 rfl rfl 3 (by decide) (hts (.fieldLink RX3 30 "Rackrail" "clock" "I") (by decide +kernel)) (fun _ h9 => h9) rfl dX3_fetch_50 ?_
    refine k_m (wc := [wcO a oc lt, wcI G (a 13) 30 od, wcZ G (a 14) 30 dn]) (w1 := [wcO a oc ((f_X0_finish oc lt od dn (f_X0_earliest oc ob od dn cn sp (f_X1_openAisle gp tg)) ck).1), wcI G (a 13) 30 od, wcZ G (a 14) 30 ((f_X0_finish oc lt od dn (f_X0_earliest oc ob od dn cn sp (f_X1_openAisle gp tg)) ck).2)]) (wn := [wcA a ck, wcS a cn, wcI G (a 6) 20 sp, wcR a gp tg st sm, wcZ G (a 9) 4 ins, wcO a oc ((f_X0_finish oc lt od dn (f_X0_earliest oc ob od dn cn sp (f_X1_openAisle gp tg)) ck).1), wcI G (a 12) 30 ob, wcI G (a 13) 30 od, wcZ G (a 14) 30 ((f_X0_finish oc lt od dn (f_X0_earliest oc ob od dn cn sp (f_X1_openAisle gp tg)) ck).2)]) (va_runV (As := [.int (f_X0_earliest oc ob od dn cn sp (f_X1_openAisle gp tg)), .int ck]) (rest := []) ⟨hx, hb, hml, hown, hts⟩ (c_X0_finish l G a s.heap.size oc lt od dn (f_X0_earliest oc ob od dn cn sp (f_X1_openAisle gp tg)) ck hoc) (cwV 2 hts gX3_fetch_X0_finish rfl rfl rfl ⟨rfl, by decide +kernel, by decide +kernel, by decide +kernel⟩ ⟨Nat.le_of_ble_eq_true rfl, Nat.le_of_ble_eq_true rfl⟩) ⟨GP.blind, va_recv hE.1 hP (ci := 0) (q0 := 5) rfl rfl, GP.go (wc := [wcO a oc lt, wcI G (a 13) 30 od, wcZ G (a 14) 30 dn]) hE hP hD hS hA [5, 7, 8] rfl (by decide) [.ref (a 11), .int (f_X0_earliest oc ob od dn cn sp (f_X1_openAisle gp tg)), .int ck]⟩ rfl rfl hl.1 rfl (lv_room (Nat.le_of_ble_eq_true rfl)) dX3_fetch_53 ⟨Nat.le_of_ble_eq_true rfl, Nat.le_of_ble_eq_true rfl⟩) hP hD hS hA [5, 7, 8] rfl rfl rfl rfl (fun H locs hP hD hS => ?_)
    refine lv_aload_n hx hb dX3_fetch_56 rfl (lv_at hl 1 rfl) ?_
    refine va_get (D := G.1) (ci := 3) (v := .ref (a 1)) (C := RX3) (T := TX3) (N := 4) hx hb hts iw_X3_fetch_RX3 hown hE.1 hP 0 rfl rfl 0 (by decide) (hts (.fieldLink RX3 12 "Rackrail" "store" "LRackrail$Store;") (by decide +kernel)) (fun _ h9 => h9) rfl dX3_fetch_57 ?_
    refine lv_aload_n hx hb dX3_fetch_60 rfl (lv_at hl 1 rfl) ?_
    refine va_get (D := G.1) (ci := 3) (v := .ref (a 11)) (C := RX3) (T := TX3) (N := 4) hx hb hts iw_X3_fetch_RX3 hown hE.1 hP 0 rfl rfl 2 (by decide) (hts (.fieldLink RX3 26 "Rackrail" "orders" "LRackrail$Orders;") (by decide +kernel)) (fun _ h9 => h9) rfl dX3_fetch_61 ?_
    refine lv_iload_n hx hb dX3_fetch_64 rfl (lv_at hl 0 rfl) ?_
    refine k_p (va_runV (As := [.int (f_X0_earliest oc ob od dn cn sp (f_X1_openAisle gp tg))]) (rest := [.ref (a 1)]) ⟨hx, hb, hml, hown, hts⟩ (c_X0_boxOf l G a H.size oc ((f_X0_finish oc lt od dn (f_X0_earliest oc ob od dn cn sp (f_X1_openAisle gp tg)) ck).1) ob (f_X0_earliest oc ob od dn cn sp (f_X1_openAisle gp tg)) hoc) (cwV 1 hts gX3_fetch_X0_boxOf rfl rfl rfl ⟨rfl, by decide +kernel, by decide +kernel, by decide +kernel⟩ ⟨Nat.le_of_ble_eq_true rfl, Nat.le_of_ble_eq_true rfl⟩) ⟨GP.blind, va_recv hE.1 hP (ci := 0) (q0 := 5) rfl rfl, GP.go (wc := [wcO a oc ((f_X0_finish oc lt od dn (f_X0_earliest oc ob od dn cn sp (f_X1_openAisle gp tg)) ck).1), wcI G (a 12) 30 ob]) hE hP hD hS hA [5, 6] rfl (by decide) [.ref (a 11), .int (f_X0_earliest oc ob od dn cn sp (f_X1_openAisle gp tg))]⟩ rfl rfl hl.1 rfl (lv_room (Nat.le_of_ble_eq_true rfl)) dX3_fetch_65 ⟨Nat.le_of_ble_eq_true rfl, Nat.le_of_ble_eq_true rfl⟩) ?_
    refine lv_iconst (v := (-1)) hx hb dX3_fetch_68 (by decide) ?_
    refine k_m (wc := [wcS a cn, wcI G (a 6) 20 sp]) (w1 := [wcS a cn, wcI G (a 6) 20 (f_X2_put cn sp (f_X0_boxOf oc ob (f_X0_earliest oc ob od dn cn sp (f_X1_openAisle gp tg))) (-1))]) (wn := [wcA a ck, wcS a cn, wcI G (a 6) 20 (f_X2_put cn sp (f_X0_boxOf oc ob (f_X0_earliest oc ob od dn cn sp (f_X1_openAisle gp tg))) (-1)), wcR a gp tg st sm, wcZ G (a 9) 4 ins, wcO a oc ((f_X0_finish oc lt od dn (f_X0_earliest oc ob od dn cn sp (f_X1_openAisle gp tg)) ck).1), wcI G (a 12) 30 ob, wcI G (a 13) 30 od, wcZ G (a 14) 30 ((f_X0_finish oc lt od dn (f_X0_earliest oc ob od dn cn sp (f_X1_openAisle gp tg)) ck).2)]) (va_runV (As := [.int (f_X0_boxOf oc ob (f_X0_earliest oc ob od dn cn sp (f_X1_openAisle gp tg))), .int (-1)]) (rest := []) ⟨hx, hb, hml, hown, hts⟩ (c_X2_put l G a H.size cn sp (f_X0_boxOf oc ob (f_X0_earliest oc ob od dn cn sp (f_X1_openAisle gp tg))) (-1) hcn) (cwV 2 hts gX3_fetch_X2_put rfl rfl rfl ⟨rfl, by decide +kernel, by decide +kernel, by decide +kernel⟩ ⟨Nat.le_of_ble_eq_true rfl, Nat.le_of_ble_eq_true rfl⟩) ⟨GP.blind, va_recv hE.1 hP (ci := 2) (q0 := 1) rfl rfl, GP.go (wc := [wcS a cn, wcI G (a 6) 20 sp]) hE hP hD hS hA [1, 2] rfl (by decide) [.ref (a 1), .int (f_X0_boxOf oc ob (f_X0_earliest oc ob od dn cn sp (f_X1_openAisle gp tg))), .int (-1)]⟩ rfl rfl hl.1 rfl (lv_room (Nat.le_of_ble_eq_true rfl)) dX3_fetch_69 ⟨Nat.le_of_ble_eq_true rfl, Nat.le_of_ble_eq_true rfl⟩) hP hD hS hA [1, 2] rfl rfl rfl rfl (fun H locs hP hD hS => ?_)
    refine lv_iload_n hx hb dX3_fetch_72 rfl (lv_at hl 0 rfl) ?_
    have hq : f_X3_fetch ck cn sp gp tg ins oc lt ob od dn p0 = (f_X0_earliest oc ob od dn cn sp (f_X1_openAisle gp tg), f_X2_put cn sp (f_X0_boxOf oc ob (f_X0_earliest oc ob od dn cn sp (f_X1_openAisle gp tg))) (-1), (f_X0_finish oc lt od dn (f_X0_earliest oc ob od dn cn sp (f_X1_openAisle gp tg)) ck).1, (f_X0_finish oc lt od dn (f_X0_earliest oc ob od dn cn sp (f_X1_openAisle gp tg)) ck).2) := (by rw [f_X3_fetch, if_pos c_2, if_pos c_7, if_neg c_31])
    exact W.iret (v := f_X0_earliest oc ob od dn cn sp (f_X1_openAisle gp tg)) hx hb hr (fun t ht _ => ⟨by rw [hq], by rw [hq, ht]; exact hP, hS.F ht⟩) hS.2.2 dX3_fetch_73
  · exact absurd (h0.symm.trans (by rw [k_X3_fetch, if_pos c_2, if_pos c_7, if_pos c_31])) (by decide)

/-! X3_waiting -/
def f_X3_waiting (oc : Int32) (dn : Nat → Int32) : Int32 :=
  f_X0_countOpen oc dn
theorem iw_X3_waiting_RX3 : ∀ w ∈ u_ws RX3 TX3 4, w ∈ wsX3_waiting := by decide +kernel
set_option maxHeartbeats 4000000 in
set_option maxRecDepth 100000 in
theorem c_X3_waiting (l : Launch) (G : GT) (a : Nat → Nat) (sz : Nat) (ck : Int32) (oc : Int32) (lt : Int32) (dn : Nat → Int32) (hoc : okN 30 oc) : Met l yX3_waiting wsX3_waiting ({ frames := 1, cells := 0, slots := 0, locals := 22 }) (GP G [.ref (a 0)] [wcA a ck, wcO a oc lt, wcZ G (a 14) 30 dn] sz) (PQo (.returned (some (.int (f_X3_waiting oc dn))))) 0 0 (fun _ => False) := by
  refine bodyM (cc := cX3_waiting) (maxL := 1) (ret := (some .int)) (by decide) rfl (Nat.le_of_ble_eq_true rfl) ?_
  intro p e s m below meth c ls C
  obtain ⟨hx, hb, hr, hts, hown, hlocks, hml, hsz, hP, hE, hD, hA, hS, hl⟩ := C
  subst hsz
  have hl : lv_has ls 1 [(0, .ref (a 0))] := hl
  refine lv_aload_n hx hb dX3_waiting_0 rfl (lv_at hl 0 rfl) ?_
  refine va_get (D := G.1) (ci := 3) (v := .ref (a 11)) (C := RX3) (T := TX3) (N := 4) hx hb hts iw_X3_waiting_RX3 hown hE.1 hP 0 rfl rfl 2 (by decide) (hts (.fieldLink RX3 26 "Rackrail" "orders" "LRackrail$Orders;") (by decide +kernel)) (fun _ h9 => h9) rfl dX3_waiting_1 ?_
  refine k_p (va_runV (As := []) (rest := []) ⟨hx, hb, hml, hown, hts⟩ (c_X0_countOpen l G a s.heap.size oc lt dn hoc) (cwV 0 hts gX3_waiting_X0_countOpen rfl rfl rfl ⟨rfl, by decide +kernel, by decide +kernel, by decide +kernel⟩ ⟨Nat.le_of_ble_eq_true rfl, Nat.le_of_ble_eq_true rfl⟩) ⟨GP.blind, va_recv hE.1 hP (ci := 0) (q0 := 1) rfl rfl, GP.go (wc := [wcO a oc lt, wcZ G (a 14) 30 dn]) hE hP hD hS hA [1, 2] rfl (by decide) [.ref (a 11)]⟩ rfl rfl hl.1 rfl (lv_room (Nat.le_of_ble_eq_true rfl)) dX3_waiting_4 ⟨Nat.le_of_ble_eq_true rfl, Nat.le_of_ble_eq_true rfl⟩) ?_
  have hq : f_X3_waiting oc dn = (f_X0_countOpen oc dn) := (by rw [f_X3_waiting])
  exact W.iret (v := f_X0_countOpen oc dn) hx hb hr (fun t ht _ => ⟨by rw [hq], ht⟩) (fun _ h => nomatch h) dX3_waiting_7

/-! X3_late -/
def f_X3_late (lt : Int32) : Int32 :=
  f_X0_countLate lt
theorem iw_X3_late_RX3 : ∀ w ∈ u_ws RX3 TX3 4, w ∈ wsX3_late := by decide +kernel
set_option maxHeartbeats 4000000 in
set_option maxRecDepth 100000 in
theorem c_X3_late (l : Launch) (G : GT) (a : Nat → Nat) (sz : Nat) (ck : Int32) (oc : Int32) (lt : Int32) : Met l yX3_late wsX3_late ({ frames := 1, cells := 0, slots := 0, locals := 20 }) (GP G [.ref (a 0)] [wcA a ck, wcO a oc lt] sz) (PQo (.returned (some (.int (f_X3_late lt))))) 0 0 (fun _ => False) := by
  refine bodyM (cc := cX3_late) (maxL := 1) (ret := (some .int)) (by decide) rfl (Nat.le_of_ble_eq_true rfl) ?_
  intro p e s m below meth c ls C
  obtain ⟨hx, hb, hr, hts, hown, hlocks, hml, hsz, hP, hE, hD, hA, hS, hl⟩ := C
  subst hsz
  have hl : lv_has ls 1 [(0, .ref (a 0))] := hl
  refine lv_aload_n hx hb dX3_late_0 rfl (lv_at hl 0 rfl) ?_
  refine va_get (D := G.1) (ci := 3) (v := .ref (a 11)) (C := RX3) (T := TX3) (N := 4) hx hb hts iw_X3_late_RX3 hown hE.1 hP 0 rfl rfl 2 (by decide) (hts (.fieldLink RX3 26 "Rackrail" "orders" "LRackrail$Orders;") (by decide +kernel)) (fun _ h9 => h9) rfl dX3_late_1 ?_
  refine k_p (va_runV (As := []) (rest := []) ⟨hx, hb, hml, hown, hts⟩ (c_X0_countLate l G a s.heap.size oc lt) (cwV 0 hts gX3_late_X0_countLate rfl rfl rfl ⟨rfl, by decide +kernel, by decide +kernel, by decide +kernel⟩ ⟨Nat.le_of_ble_eq_true rfl, Nat.le_of_ble_eq_true rfl⟩) ⟨GP.blind, va_recv hE.1 hP (ci := 0) (q0 := 1) rfl rfl, GP.go (wc := [wcO a oc lt]) hE hP hD hS hA [1] rfl (by decide) [.ref (a 11)]⟩ rfl rfl hl.1 rfl (lv_room (Nat.le_of_ble_eq_true rfl)) dX3_late_4 ⟨Nat.le_of_ble_eq_true rfl, Nat.le_of_ble_eq_true rfl⟩) ?_
  have hq : f_X3_late lt = (f_X0_countLate lt) := (by rw [f_X3_late])
  exact W.iret (v := f_X0_countLate lt) hx hb hr (fun t ht _ => ⟨by rw [hq], ht⟩) (fun _ h => nomatch h) dX3_late_7

