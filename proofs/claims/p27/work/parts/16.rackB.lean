/-! X3_open -/
def f_X3_open (gp : Int32) (tg : Int32) (st : Int32) (sm : Int32) (db : Nat → Int32) (ins : Nat → Int32) (p0 : Int32) : Int32 × Int32 :=
  if k_X3_requireAisle p0 = 0 then (if (f_X1_mayOpen gp tg st sm db ins) = 0 then (0, tg)
      else (f_X1_movesToCome gp (f_X1_aimAt p0), f_X1_aimAt p0))
    else (0, tg)
def k_X3_open (gp : Int32) (tg : Int32) (st : Int32) (sm : Int32) (db : Nat → Int32) (ins : Nat → Int32) (p0 : Int32) : Nat :=
  if k_X3_requireAisle p0 = 0 then (if (f_X1_mayOpen gp tg st sm db ins) = 0 then 3
      else 0)
    else 1
theorem kr_X3_open (gp : Int32) (tg : Int32) (st : Int32) (sm : Int32) (db : Nat → Int32) (ins : Nat → Int32) (p0 : Int32) : k_X3_open gp tg st sm db ins p0 = 0 ∨ k_X3_open gp tg st sm db ins p0 = 1 ∨ k_X3_open gp tg st sm db ins p0 = 3 := by
  unfold k_X3_open
  (repeat' split) <;> decide
theorem iw_X3_open_RX3 : ∀ w ∈ u_ws RX3 TX3 4, w ∈ wsX3_open := by decide +kernel
set_option maxHeartbeats 4000000 in
set_option maxRecDepth 100000 in
theorem c_X3_open (l : Launch) (hl9 : l.stackTraces = false) (G : GT) (a : Nat → Nat) (sz : Nat) (ck : Int32) (gp : Int32) (tg : Int32) (st : Int32) (sm : Int32) (db : Nat → Int32) (ins : Nat → Int32) (p0 : Int32) (h0 : k_X3_open gp tg st sm db ins p0 = 0) : Met l yX3_open wsX3_open ({ frames := 3, cells := 0, slots := 0, locals := 63 }) (GP G [.ref (a 0), .int p0] [wcA a ck, wcR a gp tg st sm, wcZ G (a 8) 7 db, wcZ G (a 9) 4 ins] sz) (MQo G (.returned (some (.int ((f_X3_open gp tg st sm db ins p0).1)))) [wcA a ck, wcR a gp ((f_X3_open gp tg st sm db ins p0).2) st sm, wcZ G (a 8) 7 db, wcZ G (a 9) 4 ins] (va_A [wcA a ck, wcR a gp tg st sm, wcZ G (a 8) 7 db, wcZ G (a 9) 4 ins] sz)) 0 0 (va_A [wcA a ck, wcR a gp tg st sm, wcZ G (a 8) 7 db, wcZ G (a 9) 4 ins] sz) := by
  refine bodyM (cc := cX3_open) (maxL := 2) (ret := (some .int)) (by decide) rfl (Nat.le_of_ble_eq_true rfl) ?_
  intro p e s m below meth c ls C
  obtain ⟨hx, hb, hr, hts, hown, hlocks, hml, hsz, hP, hE, hD, hA, hS, hl⟩ := C
  subst hsz
  have hl : lv_has ls 2 [(0, .ref (a 0)), (1, .int p0)] := hl
  refine lv_aload_n hx hb dX3_open_0 rfl (lv_at hl 0 rfl) ?_
  refine lv_iload_n hx hb dX3_open_1 rfl (lv_at hl 1 rfl) ?_
  have c_2 : k_X3_requireAisle p0 = 0 := Decidable.byContradiction (fun c_2 => absurd (h0.symm.trans (by rw [k_X3_open, if_neg c_2])) (by decide))
  refine k_p (va_runV (As := [.int p0]) (rest := []) ⟨hx, hb, hml, hown, hts⟩ (c_X3_requireAisle l hl9 G a s.heap.size p0 c_2) (cwV 1 hts gX3_open_X3_requireAisle rfl rfl rfl ⟨rfl, by decide +kernel, by decide +kernel, by decide +kernel⟩ ⟨Nat.le_of_ble_eq_true rfl, Nat.le_of_ble_eq_true rfl⟩) ⟨GP.blind, va_recv hE.1 hP (ci := 3) (q0 := 0) rfl rfl, GP.go (wc := []) hE hP hD hS hA [] rfl (by decide) [.ref (a 0), .int p0]⟩ rfl rfl hl.1 rfl (lv_room (Nat.le_of_ble_eq_true rfl)) dX3_open_2 ⟨Nat.le_of_ble_eq_true rfl, Nat.le_of_ble_eq_true rfl⟩) ?_
  refine lv_aload_n hx hb dX3_open_5 rfl (lv_at hl 0 rfl) ?_
  refine va_get (D := G.1) (ci := 3) (v := .ref (a 7)) (C := RX3) (T := TX3) (N := 4) hx hb hts iw_X3_open_RX3 hown hE.1 hP 0 rfl rfl 1 (by decide) (hts (.fieldLink RX3 19 "Rackrail" "rail" "LRackrail$Rail;") (by decide +kernel)) (fun _ h9 => h9) rfl dX3_open_6 ?_
  refine k_p (va_runV (As := []) (rest := []) ⟨hx, hb, hml, hown, hts⟩ (c_X1_mayOpen l G a s.heap.size gp tg st sm db ins) (cwV 0 hts gX3_open_X1_mayOpen rfl rfl rfl ⟨rfl, by decide +kernel, by decide +kernel, by decide +kernel⟩ ⟨Nat.le_of_ble_eq_true rfl, Nat.le_of_ble_eq_true rfl⟩) ⟨GP.blind, va_recv hE.1 hP (ci := 1) (q0 := 1) rfl rfl, GP.go (wc := [wcR a gp tg st sm, wcZ G (a 8) 7 db, wcZ G (a 9) 4 ins]) hE hP hD hS hA [1, 2, 3] rfl (by decide) [.ref (a 7)]⟩ rfl rfl hl.1 rfl (lv_room (Nat.le_of_ble_eq_true rfl)) dX3_open_9 ⟨Nat.le_of_ble_eq_true rfl, Nat.le_of_ble_eq_true rfl⟩) ?_
  refine lv_if_ne (tgt := 25) hx hb dX3_open_12 (by decide) (fun c_12 => ?_) (fun c_12 => ?_)
  · refine lv_aload_n hx hb dX3_open_25 rfl (lv_at hl 0 rfl) ?_
    refine va_get (D := G.1) (ci := 3) (v := .ref (a 7)) (C := RX3) (T := TX3) (N := 4) hx hb hts iw_X3_open_RX3 hown hE.1 hP 0 rfl rfl 1 (by decide) (hts (.fieldLink RX3 19 "Rackrail" "rail" "LRackrail$Rail;") (by decide +kernel)) (fun _ h9 => h9) rfl dX3_open_26 ?_
    refine lv_iload_n hx hb dX3_open_29 rfl (lv_at hl 1 rfl) ?_
    refine k_m (wc := [wcR a gp tg st sm]) (w1 := [wcR a gp (f_X1_aimAt p0) st sm]) (wn := [wcA a ck, wcR a gp (f_X1_aimAt p0) st sm, wcZ G (a 8) 7 db, wcZ G (a 9) 4 ins]) (va_runV (As := [.int p0]) (rest := []) ⟨hx, hb, hml, hown, hts⟩ (c_X1_aimAt l G a s.heap.size gp tg st sm p0) (cwV 1 hts gX3_open_X1_aimAt rfl rfl rfl ⟨rfl, by decide +kernel, by decide +kernel, by decide +kernel⟩ ⟨Nat.le_of_ble_eq_true rfl, Nat.le_of_ble_eq_true rfl⟩) ⟨GP.blind, va_recv hE.1 hP (ci := 1) (q0 := 1) rfl rfl, GP.go (wc := [wcR a gp tg st sm]) hE hP hD hS hA [1] rfl (by decide) [.ref (a 7), .int p0]⟩ rfl rfl hl.1 rfl (lv_room (Nat.le_of_ble_eq_true rfl)) dX3_open_30 ⟨Nat.le_of_ble_eq_true rfl, Nat.le_of_ble_eq_true rfl⟩) hP hD hS hA [1] rfl rfl rfl rfl (fun H locs hP hD hS => ?_)
    refine lv_aload_n hx hb dX3_open_33 rfl (lv_at hl 0 rfl) ?_
    refine va_get (D := G.1) (ci := 3) (v := .ref (a 7)) (C := RX3) (T := TX3) (N := 4) hx hb hts iw_X3_open_RX3 hown hE.1 hP 0 rfl rfl 1 (by decide) (hts (.fieldLink RX3 19 "Rackrail" "rail" "LRackrail$Rail;") (by decide +kernel)) (fun _ h9 => h9) rfl dX3_open_34 ?_
    refine k_p (va_runV (As := []) (rest := []) ⟨hx, hb, hml, hown, hts⟩ (c_X1_movesToCome l G a H.size gp (f_X1_aimAt p0) st sm) (cwV 0 hts gX3_open_X1_movesToCome rfl rfl rfl ⟨rfl, by decide +kernel, by decide +kernel, by decide +kernel⟩ ⟨Nat.le_of_ble_eq_true rfl, Nat.le_of_ble_eq_true rfl⟩) ⟨GP.blind, va_recv hE.1 hP (ci := 1) (q0 := 1) rfl rfl, GP.go (wc := [wcR a gp (f_X1_aimAt p0) st sm]) hE hP hD hS hA [1] rfl (by decide) [.ref (a 7)]⟩ rfl rfl hl.1 rfl (lv_room (Nat.le_of_ble_eq_true rfl)) dX3_open_37 ⟨Nat.le_of_ble_eq_true rfl, Nat.le_of_ble_eq_true rfl⟩) ?_
    have hq : f_X3_open gp tg st sm db ins p0 = (f_X1_movesToCome gp (f_X1_aimAt p0), f_X1_aimAt p0) := (by rw [f_X3_open, if_pos c_2, if_neg c_12])
    exact W.iret (v := f_X1_movesToCome gp (f_X1_aimAt p0)) hx hb hr (fun t ht _ => ⟨by rw [hq], by rw [hq, ht]; exact hP, hS.F ht⟩) hS.2.2 dX3_open_40
  · exact absurd (h0.symm.trans (by rw [k_X3_open, if_pos c_2, if_pos c_12])) (by decide)

/-! X3_opened -/
def f_X3_opened (gp : Int32) (tg : Int32) : Int32 :=
  f_X1_openAisle gp tg
theorem iw_X3_opened_RX3 : ∀ w ∈ u_ws RX3 TX3 4, w ∈ wsX3_opened := by decide +kernel
set_option maxHeartbeats 4000000 in
set_option maxRecDepth 100000 in
theorem c_X3_opened (l : Launch) (G : GT) (a : Nat → Nat) (sz : Nat) (ck : Int32) (gp : Int32) (tg : Int32) (st : Int32) (sm : Int32) : Met l yX3_opened wsX3_opened ({ frames := 1, cells := 0, slots := 0, locals := 20 }) (GP G [.ref (a 0)] [wcA a ck, wcR a gp tg st sm] sz) (PQo (.returned (some (.int (f_X3_opened gp tg))))) 0 0 (fun _ => False) := by
  refine bodyM (cc := cX3_opened) (maxL := 1) (ret := (some .int)) (by decide) rfl (Nat.le_of_ble_eq_true rfl) ?_
  intro p e s m below meth c ls C
  obtain ⟨hx, hb, hr, hts, hown, hlocks, hml, hsz, hP, hE, hD, hA, hS, hl⟩ := C
  subst hsz
  have hl : lv_has ls 1 [(0, .ref (a 0))] := hl
  refine lv_aload_n hx hb dX3_opened_0 rfl (lv_at hl 0 rfl) ?_
  refine va_get (D := G.1) (ci := 3) (v := .ref (a 7)) (C := RX3) (T := TX3) (N := 4) hx hb hts iw_X3_opened_RX3 hown hE.1 hP 0 rfl rfl 1 (by decide) (hts (.fieldLink RX3 19 "Rackrail" "rail" "LRackrail$Rail;") (by decide +kernel)) (fun _ h9 => h9) rfl dX3_opened_1 ?_
  refine k_p (va_runV (As := []) (rest := []) ⟨hx, hb, hml, hown, hts⟩ (c_X1_openAisle l G a s.heap.size gp tg st sm) (cwV 0 hts gX3_opened_X1_openAisle rfl rfl rfl ⟨rfl, by decide +kernel, by decide +kernel, by decide +kernel⟩ ⟨Nat.le_of_ble_eq_true rfl, Nat.le_of_ble_eq_true rfl⟩) ⟨GP.blind, va_recv hE.1 hP (ci := 1) (q0 := 1) rfl rfl, GP.go (wc := [wcR a gp tg st sm]) hE hP hD hS hA [1] rfl (by decide) [.ref (a 7)]⟩ rfl rfl hl.1 rfl (lv_room (Nat.le_of_ble_eq_true rfl)) dX3_opened_4 ⟨Nat.le_of_ble_eq_true rfl, Nat.le_of_ble_eq_true rfl⟩) ?_
  have hq : f_X3_opened gp tg = (f_X1_openAisle gp tg) := (by rw [f_X3_opened])
  exact W.iret (v := f_X1_openAisle gp tg) hx hb hr (fun t ht _ => ⟨by rw [hq], ht⟩) (fun _ h => nomatch h) dX3_opened_7

/-! X3_openedByMoves -/
def f_X3_openedByMoves (tg : Int32) (mv : Nat → Int32) : Int32 :=
  f_X1_openAisleByMoves tg mv
theorem iw_X3_openedByMoves_RX3 : ∀ w ∈ u_ws RX3 TX3 4, w ∈ wsX3_openedByMoves := by decide +kernel
set_option maxHeartbeats 4000000 in
set_option maxRecDepth 100000 in
theorem c_X3_openedByMoves (l : Launch) (G : GT) (a : Nat → Nat) (sz : Nat) (ck : Int32) (gp : Int32) (tg : Int32) (st : Int32) (sm : Int32) (mv : Nat → Int32) : Met l yX3_openedByMoves wsX3_openedByMoves ({ frames := 1, cells := 0, slots := 0, locals := 22 }) (GP G [.ref (a 0)] [wcA a ck, wcR a gp tg st sm, wcI G (a 10) 6 mv] sz) (PQo (.returned (some (.int (f_X3_openedByMoves tg mv))))) 0 0 (fun _ => False) := by
  refine bodyM (cc := cX3_openedByMoves) (maxL := 1) (ret := (some .int)) (by decide) rfl (Nat.le_of_ble_eq_true rfl) ?_
  intro p e s m below meth c ls C
  obtain ⟨hx, hb, hr, hts, hown, hlocks, hml, hsz, hP, hE, hD, hA, hS, hl⟩ := C
  subst hsz
  have hl : lv_has ls 1 [(0, .ref (a 0))] := hl
  refine lv_aload_n hx hb dX3_openedByMoves_0 rfl (lv_at hl 0 rfl) ?_
  refine va_get (D := G.1) (ci := 3) (v := .ref (a 7)) (C := RX3) (T := TX3) (N := 4) hx hb hts iw_X3_openedByMoves_RX3 hown hE.1 hP 0 rfl rfl 1 (by decide) (hts (.fieldLink RX3 19 "Rackrail" "rail" "LRackrail$Rail;") (by decide +kernel)) (fun _ h9 => h9) rfl dX3_openedByMoves_1 ?_
  refine k_p (va_runV (As := []) (rest := []) ⟨hx, hb, hml, hown, hts⟩ (c_X1_openAisleByMoves l G a s.heap.size gp tg st sm mv) (cwV 0 hts gX3_openedByMoves_X1_openAisleByMoves rfl rfl rfl ⟨rfl, by decide +kernel, by decide +kernel, by decide +kernel⟩ ⟨Nat.le_of_ble_eq_true rfl, Nat.le_of_ble_eq_true rfl⟩) ⟨GP.blind, va_recv hE.1 hP (ci := 1) (q0 := 1) rfl rfl, GP.go (wc := [wcR a gp tg st sm, wcI G (a 10) 6 mv]) hE hP hD hS hA [1, 2] rfl (by decide) [.ref (a 7)]⟩ rfl rfl hl.1 rfl (lv_room (Nat.le_of_ble_eq_true rfl)) dX3_openedByMoves_4 ⟨Nat.le_of_ble_eq_true rfl, Nat.le_of_ble_eq_true rfl⟩) ?_
  have hq : f_X3_openedByMoves tg mv = (f_X1_openAisleByMoves tg mv) := (by rw [f_X3_openedByMoves])
  exact W.iret (v := f_X1_openAisleByMoves tg mv) hx hb hr (fun t ht _ => ⟨by rw [hq], ht⟩) (fun _ h => nomatch h) dX3_openedByMoves_7

/-! X3_goIn -/
def f_X3_goIn (gp : Int32) (tg : Int32) (sm : Int32) (ins : Nat → Int32) (p0 : Int32) : Int32 × (Nat → Int32) :=
  if k_X3_requirePerson p0 = 0 then (if (f_X1_isInside ins p0) = 0 then (if (f_X1_mayGoIn gp tg sm) = 0 then (0, ins)
        else (f_X1_countInside (f_X1_setInside ins p0 1), f_X1_setInside ins p0 1))
      else (0, ins))
    else (0, ins)
def k_X3_goIn (gp : Int32) (tg : Int32) (sm : Int32) (ins : Nat → Int32) (p0 : Int32) : Nat :=
  if k_X3_requirePerson p0 = 0 then (if (f_X1_isInside ins p0) = 0 then (if (f_X1_mayGoIn gp tg sm) = 0 then 3
        else 0)
      else 3)
    else 1
theorem kr_X3_goIn (gp : Int32) (tg : Int32) (sm : Int32) (ins : Nat → Int32) (p0 : Int32) : k_X3_goIn gp tg sm ins p0 = 0 ∨ k_X3_goIn gp tg sm ins p0 = 1 ∨ k_X3_goIn gp tg sm ins p0 = 3 := by
  unfold k_X3_goIn
  (repeat' split) <;> decide
theorem iw_X3_goIn_RX3 : ∀ w ∈ u_ws RX3 TX3 4, w ∈ wsX3_goIn := by decide +kernel
set_option maxHeartbeats 4000000 in
set_option maxRecDepth 100000 in
theorem c_X3_goIn (l : Launch) (hl9 : l.stackTraces = false) (G : GT) (a : Nat → Nat) (sz : Nat) (ck : Int32) (gp : Int32) (tg : Int32) (st : Int32) (sm : Int32) (ins : Nat → Int32) (p0 : Int32) (h0 : k_X3_goIn gp tg sm ins p0 = 0) : Met l yX3_goIn wsX3_goIn ({ frames := 2, cells := 0, slots := 0, locals := 43 }) (GP G [.ref (a 0), .int p0] [wcA a ck, wcR a gp tg st sm, wcZ G (a 9) 4 ins] sz) (MQo G (.returned (some (.int ((f_X3_goIn gp tg sm ins p0).1)))) [wcA a ck, wcR a gp tg st sm, wcZ G (a 9) 4 ((f_X3_goIn gp tg sm ins p0).2)] (va_A [wcA a ck, wcR a gp tg st sm, wcZ G (a 9) 4 ins] sz)) 0 0 (va_A [wcA a ck, wcR a gp tg st sm, wcZ G (a 9) 4 ins] sz) := by
  refine bodyM (cc := cX3_goIn) (maxL := 2) (ret := (some .int)) (by decide) rfl (Nat.le_of_ble_eq_true rfl) ?_
  intro p e s m below meth c ls C
  obtain ⟨hx, hb, hr, hts, hown, hlocks, hml, hsz, hP, hE, hD, hA, hS, hl⟩ := C
  subst hsz
  have hl : lv_has ls 2 [(0, .ref (a 0)), (1, .int p0)] := hl
  refine lv_aload_n hx hb dX3_goIn_0 rfl (lv_at hl 0 rfl) ?_
  refine lv_iload_n hx hb dX3_goIn_1 rfl (lv_at hl 1 rfl) ?_
  have c_2 : k_X3_requirePerson p0 = 0 := Decidable.byContradiction (fun c_2 => absurd (h0.symm.trans (by rw [k_X3_goIn, if_neg c_2])) (by decide))
  refine k_p (va_runV (As := [.int p0]) (rest := []) ⟨hx, hb, hml, hown, hts⟩ (c_X3_requirePerson l hl9 G a s.heap.size p0 c_2) (cwV 1 hts gX3_goIn_X3_requirePerson rfl rfl rfl ⟨rfl, by decide +kernel, by decide +kernel, by decide +kernel⟩ ⟨Nat.le_of_ble_eq_true rfl, Nat.le_of_ble_eq_true rfl⟩) ⟨GP.blind, va_recv hE.1 hP (ci := 3) (q0 := 0) rfl rfl, GP.go (wc := []) hE hP hD hS hA [] rfl (by decide) [.ref (a 0), .int p0]⟩ rfl rfl hl.1 rfl (lv_room (Nat.le_of_ble_eq_true rfl)) dX3_goIn_2 ⟨Nat.le_of_ble_eq_true rfl, Nat.le_of_ble_eq_true rfl⟩) ?_
  refine lv_aload_n hx hb dX3_goIn_5 rfl (lv_at hl 0 rfl) ?_
  refine va_get (D := G.1) (ci := 3) (v := .ref (a 7)) (C := RX3) (T := TX3) (N := 4) hx hb hts iw_X3_goIn_RX3 hown hE.1 hP 0 rfl rfl 1 (by decide) (hts (.fieldLink RX3 19 "Rackrail" "rail" "LRackrail$Rail;") (by decide +kernel)) (fun _ h9 => h9) rfl dX3_goIn_6 ?_
  refine lv_iload_n hx hb dX3_goIn_9 rfl (lv_at hl 1 rfl) ?_
  refine k_p (va_runV (As := [.int p0]) (rest := []) ⟨hx, hb, hml, hown, hts⟩ (c_X1_isInside l G a s.heap.size gp tg st sm ins p0) (cwV 1 hts gX3_goIn_X1_isInside rfl rfl rfl ⟨rfl, by decide +kernel, by decide +kernel, by decide +kernel⟩ ⟨Nat.le_of_ble_eq_true rfl, Nat.le_of_ble_eq_true rfl⟩) ⟨GP.blind, va_recv hE.1 hP (ci := 1) (q0 := 1) rfl rfl, GP.go (wc := [wcR a gp tg st sm, wcZ G (a 9) 4 ins]) hE hP hD hS hA [1, 2] rfl (by decide) [.ref (a 7), .int p0]⟩ rfl rfl hl.1 rfl (lv_room (Nat.le_of_ble_eq_true rfl)) dX3_goIn_10 ⟨Nat.le_of_ble_eq_true rfl, Nat.le_of_ble_eq_true rfl⟩) ?_
  refine lv_if_eq (tgt := 26) hx hb dX3_goIn_13 (by decide) (fun c_13 => ?_) (fun c_13 => ?_)
  · refine lv_aload_n hx hb dX3_goIn_26 rfl (lv_at hl 0 rfl) ?_
    refine va_get (D := G.1) (ci := 3) (v := .ref (a 7)) (C := RX3) (T := TX3) (N := 4) hx hb hts iw_X3_goIn_RX3 hown hE.1 hP 0 rfl rfl 1 (by decide) (hts (.fieldLink RX3 19 "Rackrail" "rail" "LRackrail$Rail;") (by decide +kernel)) (fun _ h9 => h9) rfl dX3_goIn_27 ?_
    refine k_p (va_runV (As := []) (rest := []) ⟨hx, hb, hml, hown, hts⟩ (c_X1_mayGoIn l G a s.heap.size gp tg st sm) (cwV 0 hts gX3_goIn_X1_mayGoIn rfl rfl rfl ⟨rfl, by decide +kernel, by decide +kernel, by decide +kernel⟩ ⟨Nat.le_of_ble_eq_true rfl, Nat.le_of_ble_eq_true rfl⟩) ⟨GP.blind, va_recv hE.1 hP (ci := 1) (q0 := 1) rfl rfl, GP.go (wc := [wcR a gp tg st sm]) hE hP hD hS hA [1] rfl (by decide) [.ref (a 7)]⟩ rfl rfl hl.1 rfl (lv_room (Nat.le_of_ble_eq_true rfl)) dX3_goIn_30 ⟨Nat.le_of_ble_eq_true rfl, Nat.le_of_ble_eq_true rfl⟩) ?_
    refine lv_if_ne (tgt := 46) hx hb dX3_goIn_33 (by decide) (fun c_33 => ?_) (fun c_33 => ?_)
    · refine lv_aload_n hx hb dX3_goIn_46 rfl (lv_at hl 0 rfl) ?_
      refine va_get (D := G.1) (ci := 3) (v := .ref (a 7)) (C := RX3) (T := TX3) (N := 4) hx hb hts iw_X3_goIn_RX3 hown hE.1 hP 0 rfl rfl 1 (by decide) (hts (.fieldLink RX3 19 "Rackrail" "rail" "LRackrail$Rail;") (by decide +kernel)) (fun _ h9 => h9) rfl dX3_goIn_47 ?_
      refine lv_iload_n hx hb dX3_goIn_50 rfl (lv_at hl 1 rfl) ?_
      refine lv_iconst (v := 1) hx hb dX3_goIn_51 (by decide) ?_
      refine k_m (wc := [wcR a gp tg st sm, wcZ G (a 9) 4 ins]) (w1 := [wcR a gp tg st sm, wcZ G (a 9) 4 (f_X1_setInside ins p0 1)]) (wn := [wcA a ck, wcR a gp tg st sm, wcZ G (a 9) 4 (f_X1_setInside ins p0 1)]) (va_runV (As := [.int p0, .int 1]) (rest := []) ⟨hx, hb, hml, hown, hts⟩ (c_X1_setInside l G a s.heap.size gp tg st sm ins p0 1) (cwV 2 hts gX3_goIn_X1_setInside rfl rfl rfl ⟨rfl, by decide +kernel, by decide +kernel, by decide +kernel⟩ ⟨Nat.le_of_ble_eq_true rfl, Nat.le_of_ble_eq_true rfl⟩) ⟨GP.blind, va_recv hE.1 hP (ci := 1) (q0 := 1) rfl rfl, GP.go (wc := [wcR a gp tg st sm, wcZ G (a 9) 4 ins]) hE hP hD hS hA [1, 2] rfl (by decide) [.ref (a 7), .int p0, .int 1]⟩ rfl rfl hl.1 rfl (lv_room (Nat.le_of_ble_eq_true rfl)) dX3_goIn_52 ⟨Nat.le_of_ble_eq_true rfl, Nat.le_of_ble_eq_true rfl⟩) hP hD hS hA [1, 2] rfl rfl rfl rfl (fun H locs hP hD hS => ?_)
      refine lv_aload_n hx hb dX3_goIn_55 rfl (lv_at hl 0 rfl) ?_
      refine va_get (D := G.1) (ci := 3) (v := .ref (a 7)) (C := RX3) (T := TX3) (N := 4) hx hb hts iw_X3_goIn_RX3 hown hE.1 hP 0 rfl rfl 1 (by decide) (hts (.fieldLink RX3 19 "Rackrail" "rail" "LRackrail$Rail;") (by decide +kernel)) (fun _ h9 => h9) rfl dX3_goIn_56 ?_
      refine k_p (va_runV (As := []) (rest := []) ⟨hx, hb, hml, hown, hts⟩ (c_X1_countInside l G a H.size gp tg st sm (f_X1_setInside ins p0 1)) (cwV 0 hts gX3_goIn_X1_countInside rfl rfl rfl ⟨rfl, by decide +kernel, by decide +kernel, by decide +kernel⟩ ⟨Nat.le_of_ble_eq_true rfl, Nat.le_of_ble_eq_true rfl⟩) ⟨GP.blind, va_recv hE.1 hP (ci := 1) (q0 := 1) rfl rfl, GP.go (wc := [wcR a gp tg st sm, wcZ G (a 9) 4 (f_X1_setInside ins p0 1)]) hE hP hD hS hA [1, 2] rfl (by decide) [.ref (a 7)]⟩ rfl rfl hl.1 rfl (lv_room (Nat.le_of_ble_eq_true rfl)) dX3_goIn_59 ⟨Nat.le_of_ble_eq_true rfl, Nat.le_of_ble_eq_true rfl⟩) ?_
      have hq : f_X3_goIn gp tg sm ins p0 = (f_X1_countInside (f_X1_setInside ins p0 1), f_X1_setInside ins p0 1) := (by rw [f_X3_goIn, if_pos c_2, if_pos c_13, if_neg c_33])
      exact W.iret (v := f_X1_countInside (f_X1_setInside ins p0 1)) hx hb hr (fun t ht _ => ⟨by rw [hq], by rw [hq, ht]; exact hP, hS.F ht⟩) hS.2.2 dX3_goIn_62
    · exact absurd (h0.symm.trans (by rw [k_X3_goIn, if_pos c_2, if_pos c_13, if_pos c_33])) (by decide)
  · exact absurd (h0.symm.trans (by rw [k_X3_goIn, if_pos c_2, if_neg c_13])) (by decide)

/-! X3_goOut -/
def f_X3_goOut (ins : Nat → Int32) (p0 : Int32) : Int32 × (Nat → Int32) :=
  if k_X3_requirePerson p0 = 0 then (if k_X3_requireInside ins p0 = 0 then (f_X1_countInside (f_X1_setInside ins p0 0), f_X1_setInside ins p0 0)
      else (0, ins))
    else (0, ins)
def k_X3_goOut (ins : Nat → Int32) (p0 : Int32) : Nat :=
  if k_X3_requirePerson p0 = 0 then (if k_X3_requireInside ins p0 = 0 then 0
      else 3)
    else 1
theorem kr_X3_goOut (ins : Nat → Int32) (p0 : Int32) : k_X3_goOut ins p0 = 0 ∨ k_X3_goOut ins p0 = 1 ∨ k_X3_goOut ins p0 = 3 := by
  unfold k_X3_goOut
  (repeat' split) <;> decide
theorem iw_X3_goOut_RX3 : ∀ w ∈ u_ws RX3 TX3 4, w ∈ wsX3_goOut := by decide +kernel
set_option maxHeartbeats 4000000 in
set_option maxRecDepth 100000 in
theorem c_X3_goOut (l : Launch) (hl9 : l.stackTraces = false) (G : GT) (a : Nat → Nat) (sz : Nat) (ck : Int32) (gp : Int32) (tg : Int32) (st : Int32) (sm : Int32) (ins : Nat → Int32) (p0 : Int32) (h0 : k_X3_goOut ins p0 = 0) : Met l yX3_goOut wsX3_goOut ({ frames := 3, cells := 0, slots := 0, locals := 63 }) (GP G [.ref (a 0), .int p0] [wcA a ck, wcR a gp tg st sm, wcZ G (a 9) 4 ins] sz) (MQo G (.returned (some (.int ((f_X3_goOut ins p0).1)))) [wcA a ck, wcR a gp tg st sm, wcZ G (a 9) 4 ((f_X3_goOut ins p0).2)] (va_A [wcA a ck, wcR a gp tg st sm, wcZ G (a 9) 4 ins] sz)) 0 0 (va_A [wcA a ck, wcR a gp tg st sm, wcZ G (a 9) 4 ins] sz) := by
  refine bodyM (cc := cX3_goOut) (maxL := 2) (ret := (some .int)) (by decide) rfl (Nat.le_of_ble_eq_true rfl) ?_
  intro p e s m below meth c ls C
  obtain ⟨hx, hb, hr, hts, hown, hlocks, hml, hsz, hP, hE, hD, hA, hS, hl⟩ := C
  subst hsz
  have hl : lv_has ls 2 [(0, .ref (a 0)), (1, .int p0)] := hl
  refine lv_aload_n hx hb dX3_goOut_0 rfl (lv_at hl 0 rfl) ?_
  refine lv_iload_n hx hb dX3_goOut_1 rfl (lv_at hl 1 rfl) ?_
  have c_2 : k_X3_requirePerson p0 = 0 := Decidable.byContradiction (fun c_2 => absurd (h0.symm.trans (by rw [k_X3_goOut, if_neg c_2])) (by decide))
  refine k_p (va_runV (As := [.int p0]) (rest := []) ⟨hx, hb, hml, hown, hts⟩ (c_X3_requirePerson l hl9 G a s.heap.size p0 c_2) (cwV 1 hts gX3_goOut_X3_requirePerson rfl rfl rfl ⟨rfl, by decide +kernel, by decide +kernel, by decide +kernel⟩ ⟨Nat.le_of_ble_eq_true rfl, Nat.le_of_ble_eq_true rfl⟩) ⟨GP.blind, va_recv hE.1 hP (ci := 3) (q0 := 0) rfl rfl, GP.go (wc := []) hE hP hD hS hA [] rfl (by decide) [.ref (a 0), .int p0]⟩ rfl rfl hl.1 rfl (lv_room (Nat.le_of_ble_eq_true rfl)) dX3_goOut_2 ⟨Nat.le_of_ble_eq_true rfl, Nat.le_of_ble_eq_true rfl⟩) ?_
  refine lv_aload_n hx hb dX3_goOut_5 rfl (lv_at hl 0 rfl) ?_
  refine lv_iload_n hx hb dX3_goOut_6 rfl (lv_at hl 1 rfl) ?_
  have c_7 : k_X3_requireInside ins p0 = 0 := Decidable.byContradiction (fun c_7 => absurd (h0.symm.trans (by rw [k_X3_goOut, if_pos c_2, if_neg c_7])) (by decide))
  refine k_p (va_runV (As := [.int p0]) (rest := []) ⟨hx, hb, hml, hown, hts⟩ (c_X3_requireInside l hl9 G a s.heap.size ck gp tg st sm ins p0 c_7) (cwV 1 hts gX3_goOut_X3_requireInside rfl rfl rfl ⟨rfl, by decide +kernel, by decide +kernel, by decide +kernel⟩ ⟨Nat.le_of_ble_eq_true rfl, Nat.le_of_ble_eq_true rfl⟩) ⟨GP.blind, va_recv hE.1 hP (ci := 3) (q0 := 0) rfl rfl, GP.go (wc := [wcA a ck, wcR a gp tg st sm, wcZ G (a 9) 4 ins]) hE hP hD hS hA [0, 1, 2] rfl (by decide) [.ref (a 0), .int p0]⟩ rfl rfl hl.1 rfl (lv_room (Nat.le_of_ble_eq_true rfl)) dX3_goOut_7 ⟨Nat.le_of_ble_eq_true rfl, Nat.le_of_ble_eq_true rfl⟩) ?_
  refine lv_aload_n hx hb dX3_goOut_10 rfl (lv_at hl 0 rfl) ?_
  refine va_get (D := G.1) (ci := 3) (v := .ref (a 7)) (C := RX3) (T := TX3) (N := 4) hx hb hts iw_X3_goOut_RX3 hown hE.1 hP 0 rfl rfl 1 (by decide) (hts (.fieldLink RX3 19 "Rackrail" "rail" "LRackrail$Rail;") (by decide +kernel)) (fun _ h9 => h9) rfl dX3_goOut_11 ?_
  refine lv_iload_n hx hb dX3_goOut_14 rfl (lv_at hl 1 rfl) ?_
  refine lv_iconst (v := 0) hx hb dX3_goOut_15 (by decide) ?_
  refine k_m (wc := [wcR a gp tg st sm, wcZ G (a 9) 4 ins]) (w1 := [wcR a gp tg st sm, wcZ G (a 9) 4 (f_X1_setInside ins p0 0)]) (wn := [wcA a ck, wcR a gp tg st sm, wcZ G (a 9) 4 (f_X1_setInside ins p0 0)]) (va_runV (As := [.int p0, .int 0]) (rest := []) ⟨hx, hb, hml, hown, hts⟩ (c_X1_setInside l G a s.heap.size gp tg st sm ins p0 0) (cwV 2 hts gX3_goOut_X1_setInside rfl rfl rfl ⟨rfl, by decide +kernel, by decide +kernel, by decide +kernel⟩ ⟨Nat.le_of_ble_eq_true rfl, Nat.le_of_ble_eq_true rfl⟩) ⟨GP.blind, va_recv hE.1 hP (ci := 1) (q0 := 1) rfl rfl, GP.go (wc := [wcR a gp tg st sm, wcZ G (a 9) 4 ins]) hE hP hD hS hA [1, 2] rfl (by decide) [.ref (a 7), .int p0, .int 0]⟩ rfl rfl hl.1 rfl (lv_room (Nat.le_of_ble_eq_true rfl)) dX3_goOut_16 ⟨Nat.le_of_ble_eq_true rfl, Nat.le_of_ble_eq_true rfl⟩) hP hD hS hA [1, 2] rfl rfl rfl rfl (fun H locs hP hD hS => ?_)
  refine lv_aload_n hx hb dX3_goOut_19 rfl (lv_at hl 0 rfl) ?_
  refine va_get (D := G.1) (ci := 3) (v := .ref (a 7)) (C := RX3) (T := TX3) (N := 4) hx hb hts iw_X3_goOut_RX3 hown hE.1 hP 0 rfl rfl 1 (by decide) (hts (.fieldLink RX3 19 "Rackrail" "rail" "LRackrail$Rail;") (by decide +kernel)) (fun _ h9 => h9) rfl dX3_goOut_20 ?_
  refine k_p (va_runV (As := []) (rest := []) ⟨hx, hb, hml, hown, hts⟩ (c_X1_countInside l G a H.size gp tg st sm (f_X1_setInside ins p0 0)) (cwV 0 hts gX3_goOut_X1_countInside rfl rfl rfl ⟨rfl, by decide +kernel, by decide +kernel, by decide +kernel⟩ ⟨Nat.le_of_ble_eq_true rfl, Nat.le_of_ble_eq_true rfl⟩) ⟨GP.blind, va_recv hE.1 hP (ci := 1) (q0 := 1) rfl rfl, GP.go (wc := [wcR a gp tg st sm, wcZ G (a 9) 4 (f_X1_setInside ins p0 0)]) hE hP hD hS hA [1, 2] rfl (by decide) [.ref (a 7)]⟩ rfl rfl hl.1 rfl (lv_room (Nat.le_of_ble_eq_true rfl)) dX3_goOut_23 ⟨Nat.le_of_ble_eq_true rfl, Nat.le_of_ble_eq_true rfl⟩) ?_
  have hq : f_X3_goOut ins p0 = (f_X1_countInside (f_X1_setInside ins p0 0), f_X1_setInside ins p0 0) := (by rw [f_X3_goOut, if_pos c_2, if_pos c_7])
  exact W.iret (v := f_X1_countInside (f_X1_setInside ins p0 0)) hx hb hr (fun t ht _ => ⟨by rw [hq], by rw [hq, ht]; exact hP, hS.F ht⟩) hS.2.2 dX3_goOut_26

/-! X3_doubt -/
def f_X3_doubt (db : Nat → Int32) (p0 : Int32) : Int32 × (Nat → Int32) :=
  if k_X3_requireAisle p0 = 0 then (if (f_X1_hasDoubt db p0) = 0 then (1, f_X1_setDoubt db p0 1)
      else (0, f_X1_setDoubt db p0 1))
    else (0, db)
def k_X3_doubt (p0 : Int32) : Nat :=
  if k_X3_requireAisle p0 = 0 then 0
    else 1
theorem kr_X3_doubt (p0 : Int32) : k_X3_doubt p0 = 0 ∨ k_X3_doubt p0 = 1 := by
  unfold k_X3_doubt
  (repeat' split) <;> decide
theorem iw_X3_doubt_RX3 : ∀ w ∈ u_ws RX3 TX3 4, w ∈ wsX3_doubt := by decide +kernel
set_option maxHeartbeats 4000000 in
set_option maxRecDepth 100000 in
theorem c_X3_doubt (l : Launch) (hl9 : l.stackTraces = false) (G : GT) (a : Nat → Nat) (sz : Nat) (ck : Int32) (gp : Int32) (tg : Int32) (st : Int32) (sm : Int32) (db : Nat → Int32) (p0 : Int32) (h0 : k_X3_doubt p0 = 0) : Met l yX3_doubt wsX3_doubt ({ frames := 2, cells := 0, slots := 0, locals := 43 }) (GP G [.ref (a 0), .int p0] [wcA a ck, wcR a gp tg st sm, wcZ G (a 8) 7 db] sz) (MQo G (.returned (some (.int ((f_X3_doubt db p0).1)))) [wcA a ck, wcR a gp tg st sm, wcZ G (a 8) 7 ((f_X3_doubt db p0).2)] (va_A [wcA a ck, wcR a gp tg st sm, wcZ G (a 8) 7 db] sz)) 0 0 (va_A [wcA a ck, wcR a gp tg st sm, wcZ G (a 8) 7 db] sz) := by
  refine bodyM (cc := cX3_doubt) (maxL := 3) (ret := (some .boolean)) (by decide) rfl (Nat.le_of_ble_eq_true rfl) ?_
  intro p e s m below meth c ls C
  obtain ⟨hx, hb, hr, hts, hown, hlocks, hml, hsz, hP, hE, hD, hA, hS, hl⟩ := C
  subst hsz
  have hl : lv_has ls 3 [(0, .ref (a 0)), (1, .int p0)] := hl
  refine lv_aload_n hx hb dX3_doubt_0 rfl (lv_at hl 0 rfl) ?_
  refine lv_iload_n hx hb dX3_doubt_1 rfl (lv_at hl 1 rfl) ?_
  have c_2 : k_X3_requireAisle p0 = 0 := Decidable.byContradiction (fun c_2 => absurd (h0.symm.trans (by rw [k_X3_doubt, if_neg c_2])) (by decide))
  refine k_p (va_runV (As := [.int p0]) (rest := []) ⟨hx, hb, hml, hown, hts⟩ (c_X3_requireAisle l hl9 G a s.heap.size p0 c_2) (cwV 1 hts gX3_doubt_X3_requireAisle rfl rfl rfl ⟨rfl, by decide +kernel, by decide +kernel, by decide +kernel⟩ ⟨Nat.le_of_ble_eq_true rfl, Nat.le_of_ble_eq_true rfl⟩) ⟨GP.blind, va_recv hE.1 hP (ci := 3) (q0 := 0) rfl rfl, GP.go (wc := []) hE hP hD hS hA [] rfl (by decide) [.ref (a 0), .int p0]⟩ rfl rfl hl.1 rfl (lv_room (Nat.le_of_ble_eq_true rfl)) dX3_doubt_2 ⟨Nat.le_of_ble_eq_true rfl, Nat.le_of_ble_eq_true rfl⟩) ?_
  refine lv_aload_n hx hb dX3_doubt_5 rfl (lv_at hl 0 rfl) ?_
  refine va_get (D := G.1) (ci := 3) (v := .ref (a 7)) (C := RX3) (T := TX3) (N := 4) hx hb hts iw_X3_doubt_RX3 hown hE.1 hP 0 rfl rfl 1 (by decide) (hts (.fieldLink RX3 19 "Rackrail" "rail" "LRackrail$Rail;") (by decide +kernel)) (fun _ h9 => h9) rfl dX3_doubt_6 ?_
  refine lv_iload_n hx hb dX3_doubt_9 rfl (lv_at hl 1 rfl) ?_
  refine k_p (va_runV (As := [.int p0]) (rest := []) ⟨hx, hb, hml, hown, hts⟩ (c_X1_hasDoubt l G a s.heap.size gp tg st sm db p0) (cwV 1 hts gX3_doubt_X1_hasDoubt rfl rfl rfl ⟨rfl, by decide +kernel, by decide +kernel, by decide +kernel⟩ ⟨Nat.le_of_ble_eq_true rfl, Nat.le_of_ble_eq_true rfl⟩) ⟨GP.blind, va_recv hE.1 hP (ci := 1) (q0 := 1) rfl rfl, GP.go (wc := [wcR a gp tg st sm, wcZ G (a 8) 7 db]) hE hP hD hS hA [1, 2] rfl (by decide) [.ref (a 7), .int p0]⟩ rfl rfl hl.1 rfl (lv_room (Nat.le_of_ble_eq_true rfl)) dX3_doubt_10 ⟨Nat.le_of_ble_eq_true rfl, Nat.le_of_ble_eq_true rfl⟩) ?_
  refine lv_istore_n (lv' := [(2, .int (f_X1_hasDoubt db p0)), (0, .ref (a 0)), (1, .int p0)]) hx hb dX3_doubt_13 rfl hl (by decide) rfl (fun ls hl => ?_)
  refine lv_aload_n hx hb dX3_doubt_14 rfl (lv_at hl 1 rfl) ?_
  refine va_get (D := G.1) (ci := 3) (v := .ref (a 7)) (C := RX3) (T := TX3) (N := 4) hx hb hts iw_X3_doubt_RX3 hown hE.1 hP 0 rfl rfl 1 (by decide) (hts (.fieldLink RX3 19 "Rackrail" "rail" "LRackrail$Rail;") (by decide +kernel)) (fun _ h9 => h9) rfl dX3_doubt_15 ?_
  refine lv_iload_n hx hb dX3_doubt_18 rfl (lv_at hl 2 rfl) ?_
  refine lv_iconst (v := 1) hx hb dX3_doubt_19 (by decide) ?_
  refine k_m (wc := [wcR a gp tg st sm, wcZ G (a 8) 7 db]) (w1 := [wcR a gp tg st sm, wcZ G (a 8) 7 (f_X1_setDoubt db p0 1)]) (wn := [wcA a ck, wcR a gp tg st sm, wcZ G (a 8) 7 (f_X1_setDoubt db p0 1)]) (va_runV (As := [.int p0, .int 1]) (rest := []) ⟨hx, hb, hml, hown, hts⟩ (c_X1_setDoubt l G a s.heap.size gp tg st sm db p0 1) (cwV 2 hts gX3_doubt_X1_setDoubt rfl rfl rfl ⟨rfl, by decide +kernel, by decide +kernel, by decide +kernel⟩ ⟨Nat.le_of_ble_eq_true rfl, Nat.le_of_ble_eq_true rfl⟩) ⟨GP.blind, va_recv hE.1 hP (ci := 1) (q0 := 1) rfl rfl, GP.go (wc := [wcR a gp tg st sm, wcZ G (a 8) 7 db]) hE hP hD hS hA [1, 2] rfl (by decide) [.ref (a 7), .int p0, .int 1]⟩ rfl rfl hl.1 rfl (lv_room (Nat.le_of_ble_eq_true rfl)) dX3_doubt_20 ⟨Nat.le_of_ble_eq_true rfl, Nat.le_of_ble_eq_true rfl⟩) hP hD hS hA [1, 2] rfl rfl rfl rfl (fun H locs hP hD hS => ?_)
  refine lv_iload_n hx hb dX3_doubt_23 rfl (lv_at hl 0 rfl) ?_
  refine lv_if_ne (tgt := 31) hx hb dX3_doubt_24 (by decide) (fun c_24 => ?_) (fun c_24 => ?_)
  · refine lv_iconst (v := 0) hx hb dX3_doubt_31 (by decide) ?_
    have hq : f_X3_doubt db p0 = (0, f_X1_setDoubt db p0 1) := (by rw [f_X3_doubt, if_pos c_2, if_neg c_24])
    exact W.zret (v := 0) hx hb hr rfl (fun t ht _ => ⟨by rw [hq], by rw [hq, ht]; exact hP, hS.F ht⟩) hS.2.2 dX3_doubt_32
  · refine lv_iconst (v := 1) hx hb dX3_doubt_27 (by decide) ?_
    refine lv_goto (tgt := 32) hx hb dX3_doubt_28 (by decide) ?_
    have hq : f_X3_doubt db p0 = (1, f_X1_setDoubt db p0 1) := (by rw [f_X3_doubt, if_pos c_2, if_pos c_24])
    exact W.zret (v := 1) hx hb hr rfl (fun t ht _ => ⟨by rw [hq], by rw [hq, ht]; exact hP, hS.F ht⟩) hS.2.2 dX3_doubt_32

/-! X3_look -/
def f_X3_look (gp : Int32) (tg : Int32) (db : Nat → Int32) : Int32 × (Nat → Int32) :=
  if (f_X1_openAisle gp tg) = (-1) then (0, db)
    else (f_X1_hasDoubt db (f_X1_openAisle gp tg), f_X1_setDoubt db (f_X1_openAisle gp tg) 0)
def k_X3_look (gp : Int32) (tg : Int32) : Nat :=
  if (f_X1_openAisle gp tg) = (-1) then 3
    else 0
theorem kr_X3_look (gp : Int32) (tg : Int32) : k_X3_look gp tg = 0 ∨ k_X3_look gp tg = 3 := by
  unfold k_X3_look
  (repeat' split) <;> decide
theorem iw_X3_look_RX3 : ∀ w ∈ u_ws RX3 TX3 4, w ∈ wsX3_look := by decide +kernel
set_option maxHeartbeats 4000000 in
set_option maxRecDepth 100000 in
theorem c_X3_look (l : Launch) (hl9 : l.stackTraces = false) (G : GT) (a : Nat → Nat) (sz : Nat) (ck : Int32) (gp : Int32) (tg : Int32) (st : Int32) (sm : Int32) (db : Nat → Int32) (h0 : k_X3_look gp tg = 0) : Met l yX3_look wsX3_look ({ frames := 2, cells := 0, slots := 0, locals := 43 }) (GP G [.ref (a 0)] [wcA a ck, wcR a gp tg st sm, wcZ G (a 8) 7 db] sz) (MQo G (.returned (some (.int ((f_X3_look gp tg db).1)))) [wcA a ck, wcR a gp tg st sm, wcZ G (a 8) 7 ((f_X3_look gp tg db).2)] (va_A [wcA a ck, wcR a gp tg st sm, wcZ G (a 8) 7 db] sz)) 0 0 (va_A [wcA a ck, wcR a gp tg st sm, wcZ G (a 8) 7 db] sz) := by
  refine bodyM (cc := cX3_look) (maxL := 3) (ret := (some .boolean)) (by decide) rfl (Nat.le_of_ble_eq_true rfl) ?_
  intro p e s m below meth c ls C
  obtain ⟨hx, hb, hr, hts, hown, hlocks, hml, hsz, hP, hE, hD, hA, hS, hl⟩ := C
  subst hsz
  have hl : lv_has ls 3 [(0, .ref (a 0))] := hl
  refine lv_aload_n hx hb dX3_look_0 rfl (lv_at hl 0 rfl) ?_
  refine va_get (D := G.1) (ci := 3) (v := .ref (a 7)) (C := RX3) (T := TX3) (N := 4) hx hb hts iw_X3_look_RX3 hown hE.1 hP 0 rfl rfl 1 (by decide) (hts (.fieldLink RX3 19 "Rackrail" "rail" "LRackrail$Rail;") (by decide +kernel)) (fun _ h9 => h9) rfl dX3_look_1 ?_
  refine k_p (va_runV (As := []) (rest := []) ⟨hx, hb, hml, hown, hts⟩ (c_X1_openAisle l G a s.heap.size gp tg st sm) (cwV 0 hts gX3_look_X1_openAisle rfl rfl rfl ⟨rfl, by decide +kernel, by decide +kernel, by decide +kernel⟩ ⟨Nat.le_of_ble_eq_true rfl, Nat.le_of_ble_eq_true rfl⟩) ⟨GP.blind, va_recv hE.1 hP (ci := 1) (q0 := 1) rfl rfl, GP.go (wc := [wcR a gp tg st sm]) hE hP hD hS hA [1] rfl (by decide) [.ref (a 7)]⟩ rfl rfl hl.1 rfl (lv_room (Nat.le_of_ble_eq_true rfl)) dX3_look_4 ⟨Nat.le_of_ble_eq_true rfl, Nat.le_of_ble_eq_true rfl⟩) ?_
  refine lv_istore_n (lv' := [(1, .int (f_X1_openAisle gp tg)), (0, .ref (a 0))]) hx hb dX3_look_7 rfl hl (by decide) rfl (fun ls hl => ?_)
  refine lv_iload_n hx hb dX3_look_8 rfl (lv_at hl 0 rfl) ?_
  refine lv_iconst (v := (-1)) hx hb dX3_look_9 (by decide) ?_
  refine lv_icmp_ne (tgt := 23) hx hb dX3_look_10 (by decide) (fun c_10 => ?_) (fun c_10 => ?_)
  · refine lv_aload_n hx hb dX3_look_23 rfl (lv_at hl 1 rfl) ?_
    refine va_get (D := G.1) (ci := 3) (v := .ref (a 7)) (C := RX3) (T := TX3) (N := 4) hx hb hts iw_X3_look_RX3 hown hE.1 hP 0 rfl rfl 1 (by decide) (hts (.fieldLink RX3 19 "Rackrail" "rail" "LRackrail$Rail;") (by decide +kernel)) (fun _ h9 => h9) rfl dX3_look_24 ?_
    refine lv_iload_n hx hb dX3_look_27 rfl (lv_at hl 0 rfl) ?_
    refine k_p (va_runV (As := [.int (f_X1_openAisle gp tg)]) (rest := []) ⟨hx, hb, hml, hown, hts⟩ (c_X1_hasDoubt l G a s.heap.size gp tg st sm db (f_X1_openAisle gp tg)) (cwV 1 hts gX3_look_X1_hasDoubt rfl rfl rfl ⟨rfl, by decide +kernel, by decide +kernel, by decide +kernel⟩ ⟨Nat.le_of_ble_eq_true rfl, Nat.le_of_ble_eq_true rfl⟩) ⟨GP.blind, va_recv hE.1 hP (ci := 1) (q0 := 1) rfl rfl, GP.go (wc := [wcR a gp tg st sm, wcZ G (a 8) 7 db]) hE hP hD hS hA [1, 2] rfl (by decide) [.ref (a 7), .int (f_X1_openAisle gp tg)]⟩ rfl rfl hl.1 rfl (lv_room (Nat.le_of_ble_eq_true rfl)) dX3_look_28 ⟨Nat.le_of_ble_eq_true rfl, Nat.le_of_ble_eq_true rfl⟩) ?_
    refine lv_istore_n (lv' := [(2, .int (f_X1_hasDoubt db (f_X1_openAisle gp tg))), (1, .int (f_X1_openAisle gp tg)), (0, .ref (a 0))]) hx hb dX3_look_31 rfl hl (by decide) rfl (fun ls hl => ?_)
    refine lv_aload_n hx hb dX3_look_32 rfl (lv_at hl 2 rfl) ?_
    refine va_get (D := G.1) (ci := 3) (v := .ref (a 7)) (C := RX3) (T := TX3) (N := 4) hx hb hts iw_X3_look_RX3 hown hE.1 hP 0 rfl rfl 1 (by decide) (hts (.fieldLink RX3 19 "Rackrail" "rail" "LRackrail$Rail;") (by decide +kernel)) (fun _ h9 => h9) rfl dX3_look_33 ?_
    refine lv_iload_n hx hb dX3_look_36 rfl (lv_at hl 1 rfl) ?_
    refine lv_iconst (v := 0) hx hb dX3_look_37 (by decide) ?_
    refine k_m (wc := [wcR a gp tg st sm, wcZ G (a 8) 7 db]) (w1 := [wcR a gp tg st sm, wcZ G (a 8) 7 (f_X1_setDoubt db (f_X1_openAisle gp tg) 0)]) (wn := [wcA a ck, wcR a gp tg st sm, wcZ G (a 8) 7 (f_X1_setDoubt db (f_X1_openAisle gp tg) 0)]) (va_runV (As := [.int (f_X1_openAisle gp tg), .int 0]) (rest := []) ⟨hx, hb, hml, hown, hts⟩ (c_X1_setDoubt l G a s.heap.size gp tg st sm db (f_X1_openAisle gp tg) 0) (cwV 2 hts gX3_look_X1_setDoubt rfl rfl rfl ⟨rfl, by decide +kernel, by decide +kernel, by decide +kernel⟩ ⟨Nat.le_of_ble_eq_true rfl, Nat.le_of_ble_eq_true rfl⟩) ⟨GP.blind, va_recv hE.1 hP (ci := 1) (q0 := 1) rfl rfl, GP.go (wc := [wcR a gp tg st sm, wcZ G (a 8) 7 db]) hE hP hD hS hA [1, 2] rfl (by decide) [.ref (a 7), .int (f_X1_openAisle gp tg), .int 0]⟩ rfl rfl hl.1 rfl (lv_room (Nat.le_of_ble_eq_true rfl)) dX3_look_38 ⟨Nat.le_of_ble_eq_true rfl, Nat.le_of_ble_eq_true rfl⟩) hP hD hS hA [1, 2] rfl rfl rfl rfl (fun H locs hP hD hS => ?_)
    refine lv_iload_n hx hb dX3_look_41 rfl (lv_at hl 0 rfl) ?_
    have hq : f_X3_look gp tg db = (f_X1_hasDoubt db (f_X1_openAisle gp tg), f_X1_setDoubt db (f_X1_openAisle gp tg) 0) := (by rw [f_X3_look, if_neg c_10])
    exact W.zret (v := f_X1_hasDoubt db (f_X1_openAisle gp tg)) hx hb hr (bool_nar (b_X1_hasDoubt _ _)) (fun t ht _ => ⟨by rw [hq], by rw [hq, ht]; exact hP, hS.F ht⟩) hS.2.2 dX3_look_42
  · exact absurd (h0.symm.trans (by rw [k_X3_look, if_pos c_10])) (by decide)

/-! X3_stall -/
def f_X3_stall (st : Int32) (p0 : Int32) : Int32 × Int32 :=
  ((f_X1_changeStall st p0).1, (f_X1_changeStall st p0).2)
theorem iw_X3_stall_RX3 : ∀ w ∈ u_ws RX3 TX3 4, w ∈ wsX3_stall := by decide +kernel
set_option maxHeartbeats 4000000 in
set_option maxRecDepth 100000 in
theorem c_X3_stall (l : Launch) (G : GT) (a : Nat → Nat) (sz : Nat) (ck : Int32) (gp : Int32) (tg : Int32) (st : Int32) (sm : Int32) (p0 : Int32) (hp : p0 = 0 ∨ p0 = 1) : Met l yX3_stall wsX3_stall ({ frames := 1, cells := 0, slots := 0, locals := 22 }) (GP G [.ref (a 0), .int p0] [wcA a ck, wcR a gp tg st sm] sz) (MQo G (.returned (some (.int ((f_X3_stall st p0).1)))) [wcA a ck, wcR a gp tg ((f_X3_stall st p0).2) sm] (va_A [wcA a ck, wcR a gp tg st sm] sz)) 0 0 (va_A [wcA a ck, wcR a gp tg st sm] sz) := by
  refine bodyM (cc := cX3_stall) (maxL := 2) (ret := (some .boolean)) (by decide) rfl (Nat.le_of_ble_eq_true rfl) ?_
  intro p e s m below meth c ls C
  obtain ⟨hx, hb, hr, hts, hown, hlocks, hml, hsz, hP, hE, hD, hA, hS, hl⟩ := C
  subst hsz
  have hl : lv_has ls 2 [(0, .ref (a 0)), (1, .int p0)] := hl
  refine lv_aload_n hx hb dX3_stall_0 rfl (lv_at hl 0 rfl) ?_
  refine va_get (D := G.1) (ci := 3) (v := .ref (a 7)) (C := RX3) (T := TX3) (N := 4) hx hb hts iw_X3_stall_RX3 hown hE.1 hP 0 rfl rfl 1 (by decide) (hts (.fieldLink RX3 19 "Rackrail" "rail" "LRackrail$Rail;") (by decide +kernel)) (fun _ h9 => h9) rfl dX3_stall_1 ?_
  refine lv_iload_n hx hb dX3_stall_4 rfl (lv_at hl 1 rfl) ?_
  refine k_m (wc := [wcR a gp tg st sm]) (w1 := [wcR a gp tg ((f_X1_changeStall st p0).2) sm]) (wn := [wcA a ck, wcR a gp tg ((f_X1_changeStall st p0).2) sm]) (va_runV (As := [.int p0]) (rest := []) ⟨hx, hb, hml, hown, hts⟩ (c_X1_changeStall l G a s.heap.size gp tg st sm p0 (hp)) (cwV 1 hts gX3_stall_X1_changeStall rfl rfl rfl ⟨rfl, by decide +kernel, by decide +kernel, by decide +kernel⟩ ⟨Nat.le_of_ble_eq_true rfl, Nat.le_of_ble_eq_true rfl⟩) ⟨GP.blind, va_recv hE.1 hP (ci := 1) (q0 := 1) rfl rfl, GP.go (wc := [wcR a gp tg st sm]) hE hP hD hS hA [1] rfl (by decide) [.ref (a 7), .int p0]⟩ rfl rfl hl.1 rfl (lv_room (Nat.le_of_ble_eq_true rfl)) dX3_stall_5 ⟨Nat.le_of_ble_eq_true rfl, Nat.le_of_ble_eq_true rfl⟩) hP hD hS hA [1] rfl rfl rfl rfl (fun H locs hP hD hS => ?_)
  have hq : f_X3_stall st p0 = ((f_X1_changeStall st p0).1, (f_X1_changeStall st p0).2) := (by rw [f_X3_stall])
  exact W.zret (v := (f_X1_changeStall st p0).1) hx hb hr (bool_nar (b_changeStall _ _)) (fun t ht _ => ⟨by rw [hq], by rw [hq, ht]; exact hP, hS.F ht⟩) hS.2.2 dX3_stall_8

/-! X3_smoke -/
def f_X3_smoke (ins : Nat → Int32) (p0 : Int32) : Int32 × Int32 × (Nat → Int32) :=
  if p0 = 0 then (0, f_X1_changeSmoke p0, ins)
    else ((f_X1_sendAllOut ins).1, f_X1_changeSmoke p0, (f_X1_sendAllOut ins).2)
theorem iw_X3_smoke_RX3 : ∀ w ∈ u_ws RX3 TX3 4, w ∈ wsX3_smoke := by decide +kernel
set_option maxHeartbeats 4000000 in
set_option maxRecDepth 100000 in
theorem c_X3_smoke (l : Launch) (G : GT) (a : Nat → Nat) (sz : Nat) (ck : Int32) (gp : Int32) (tg : Int32) (st : Int32) (sm : Int32) (ins : Nat → Int32) (p0 : Int32) (hp : p0 = 0 ∨ p0 = 1) : Met l yX3_smoke wsX3_smoke ({ frames := 2, cells := 0, slots := 0, locals := 44 }) (GP G [.ref (a 0), .int p0] [wcA a ck, wcR a gp tg st sm, wcZ G (a 9) 4 ins] sz) (MQo G (.returned (some (.int ((f_X3_smoke ins p0).1)))) [wcA a ck, wcR a gp tg st ((f_X3_smoke ins p0).2.1), wcZ G (a 9) 4 ((f_X3_smoke ins p0).2.2)] (va_A [wcA a ck, wcR a gp tg st sm, wcZ G (a 9) 4 ins] sz)) 0 0 (va_A [wcA a ck, wcR a gp tg st sm, wcZ G (a 9) 4 ins] sz) := by
  refine bodyM (cc := cX3_smoke) (maxL := 2) (ret := (some .int)) (by decide) rfl (Nat.le_of_ble_eq_true rfl) ?_
  intro p e s m below meth c ls C
  obtain ⟨hx, hb, hr, hts, hown, hlocks, hml, hsz, hP, hE, hD, hA, hS, hl⟩ := C
  subst hsz
  have hl : lv_has ls 2 [(0, .ref (a 0)), (1, .int p0)] := hl
  refine lv_aload_n hx hb dX3_smoke_0 rfl (lv_at hl 0 rfl) ?_
  refine va_get (D := G.1) (ci := 3) (v := .ref (a 7)) (C := RX3) (T := TX3) (N := 4) hx hb hts iw_X3_smoke_RX3 hown hE.1 hP 0 rfl rfl 1 (by decide) (hts (.fieldLink RX3 19 "Rackrail" "rail" "LRackrail$Rail;") (by decide +kernel)) (fun _ h9 => h9) rfl dX3_smoke_1 ?_
  refine lv_iload_n hx hb dX3_smoke_4 rfl (lv_at hl 1 rfl) ?_
  refine k_m (wc := [wcR a gp tg st sm]) (w1 := [wcR a gp tg st (f_X1_changeSmoke p0)]) (wn := [wcA a ck, wcR a gp tg st (f_X1_changeSmoke p0), wcZ G (a 9) 4 ins]) (va_runV (As := [.int p0]) (rest := []) ⟨hx, hb, hml, hown, hts⟩ (c_X1_changeSmoke l G a s.heap.size gp tg st sm p0 (hp)) (cwV 1 hts gX3_smoke_X1_changeSmoke rfl rfl rfl ⟨rfl, by decide +kernel, by decide +kernel, by decide +kernel⟩ ⟨Nat.le_of_ble_eq_true rfl, Nat.le_of_ble_eq_true rfl⟩) ⟨GP.blind, va_recv hE.1 hP (ci := 1) (q0 := 1) rfl rfl, GP.go (wc := [wcR a gp tg st sm]) hE hP hD hS hA [1] rfl (by decide) [.ref (a 7), .int p0]⟩ rfl rfl hl.1 rfl (lv_room (Nat.le_of_ble_eq_true rfl)) dX3_smoke_5 ⟨Nat.le_of_ble_eq_true rfl, Nat.le_of_ble_eq_true rfl⟩) hP hD hS hA [1] rfl rfl rfl rfl (fun H locs hP hD hS => ?_)
  refine lv_iload_n hx hb dX3_smoke_8 rfl (lv_at hl 1 rfl) ?_
  refine lv_if_eq (tgt := 22) hx hb dX3_smoke_9 (by decide) (fun c_9 => ?_) (fun c_9 => ?_)
  · refine lv_iconst (v := 0) hx hb dX3_smoke_22 (by decide) ?_
    have hq : f_X3_smoke ins p0 = (0, f_X1_changeSmoke p0, ins) := (by rw [f_X3_smoke, if_pos c_9])
    exact W.iret (v := 0) hx hb hr (fun t ht _ => ⟨by rw [hq], by rw [hq, ht]; exact hP, hS.F ht⟩) hS.2.2 dX3_smoke_23
  · refine lv_aload_n hx hb dX3_smoke_12 rfl (lv_at hl 0 rfl) ?_
    refine va_get (D := G.1) (ci := 3) (v := .ref (a 7)) (C := RX3) (T := TX3) (N := 4) hx hb hts iw_X3_smoke_RX3 hown hE.1 hP 0 rfl rfl 1 (by decide) (hts (.fieldLink RX3 19 "Rackrail" "rail" "LRackrail$Rail;") (by decide +kernel)) (fun _ h9 => h9) rfl dX3_smoke_13 ?_
    refine k_m (wc := [wcR a gp tg st (f_X1_changeSmoke p0), wcZ G (a 9) 4 ins]) (w1 := [wcR a gp tg st (f_X1_changeSmoke p0), wcZ G (a 9) 4 ((f_X1_sendAllOut ins).2)]) (wn := [wcA a ck, wcR a gp tg st (f_X1_changeSmoke p0), wcZ G (a 9) 4 ((f_X1_sendAllOut ins).2)]) (va_runV (As := []) (rest := []) ⟨hx, hb, hml, hown, hts⟩ (c_X1_sendAllOut l G a H.size gp tg st (f_X1_changeSmoke p0) ins) (cwV 0 hts gX3_smoke_X1_sendAllOut rfl rfl rfl ⟨rfl, by decide +kernel, by decide +kernel, by decide +kernel⟩ ⟨Nat.le_of_ble_eq_true rfl, Nat.le_of_ble_eq_true rfl⟩) ⟨GP.blind, va_recv hE.1 hP (ci := 1) (q0 := 1) rfl rfl, GP.go (wc := [wcR a gp tg st (f_X1_changeSmoke p0), wcZ G (a 9) 4 ins]) hE hP hD hS hA [1, 2] rfl (by decide) [.ref (a 7)]⟩ rfl rfl hl.1 rfl (lv_room (Nat.le_of_ble_eq_true rfl)) dX3_smoke_16 ⟨Nat.le_of_ble_eq_true rfl, Nat.le_of_ble_eq_true rfl⟩) hP hD hS hA [1, 2] rfl rfl rfl rfl (fun H locs hP hD hS => ?_)
    refine lv_goto (tgt := 23) hx hb dX3_smoke_19 (by decide) ?_
    have hq : f_X3_smoke ins p0 = ((f_X1_sendAllOut ins).1, f_X1_changeSmoke p0, (f_X1_sendAllOut ins).2) := (by rw [f_X3_smoke, if_neg c_9])
    exact W.iret (v := (f_X1_sendAllOut ins).1) hx hb hr (fun t ht _ => ⟨by rw [hq], by rw [hq, ht]; exact hP, hS.F ht⟩) hS.2.2 dX3_smoke_23

/-! X3_pass -/
def f_X3_pass (ck : Int32) (gp : Int32) (tg : Int32) (st : Int32) (sm : Int32) (mv : Nat → Int32) (p0 : Int32) : Int32 × Int32 × Int32 × (Nat → Int32) :=
  if p0 < 1 then (0, ck, gp, mv)
    else if p0 ≤ 100 then (if (ck + p0) ≤ 10000 then (ck + p0, ck + p0, (f_X1_moveFor gp tg st sm mv p0).1, (f_X1_moveFor gp tg st sm mv p0).2)
      else (0, ck, gp, mv))
    else (0, ck, gp, mv)
def k_X3_pass (ck : Int32) (p0 : Int32) : Nat :=
  if p0 < 1 then 2
    else if p0 ≤ 100 then (if (ck + p0) ≤ 10000 then 0
      else 3)
    else 2
theorem kr_X3_pass (ck : Int32) (p0 : Int32) : k_X3_pass ck p0 = 0 ∨ k_X3_pass ck p0 = 2 ∨ k_X3_pass ck p0 = 3 := by
  unfold k_X3_pass
  (repeat' split) <;> decide
theorem iw_X3_pass_RX3 : ∀ w ∈ u_ws RX3 TX3 4, w ∈ wsX3_pass := by decide +kernel
set_option maxHeartbeats 4000000 in
set_option maxRecDepth 100000 in
theorem c_X3_pass (l : Launch) (hl9 : l.stackTraces = false) (G : GT) (a : Nat → Nat) (sz : Nat) (ck : Int32) (gp : Int32) (tg : Int32) (st : Int32) (sm : Int32) (mv : Nat → Int32) (p0 : Int32) (hmv : okN 6 (f_X1_movesToCome gp tg)) (h0 : k_X3_pass ck p0 = 0) : Met l yX3_pass wsX3_pass ({ frames := 3, cells := 0, slots := 0, locals := 66 }) (GP G [.ref (a 0), .int p0] [wcA a ck, wcR a gp tg st sm, wcI G (a 10) 6 mv] sz) (MQo G (.returned (some (.int ((f_X3_pass ck gp tg st sm mv p0).1)))) [wcA a ((f_X3_pass ck gp tg st sm mv p0).2.1), wcR a ((f_X3_pass ck gp tg st sm mv p0).2.2.1) tg st sm, wcI G (a 10) 6 ((f_X3_pass ck gp tg st sm mv p0).2.2.2)] (va_A [wcA a ck, wcR a gp tg st sm, wcI G (a 10) 6 mv] sz)) 0 0 (va_A [wcA a ck, wcR a gp tg st sm, wcI G (a 10) 6 mv] sz) := by
  refine bodyM (cc := cX3_pass) (maxL := 2) (ret := (some .int)) (by decide) rfl (Nat.le_of_ble_eq_true rfl) ?_
  intro p e s m below meth c ls C
  obtain ⟨hx, hb, hr, hts, hown, hlocks, hml, hsz, hP, hE, hD, hA, hS, hl⟩ := C
  subst hsz
  have hl : lv_has ls 2 [(0, .ref (a 0)), (1, .int p0)] := hl
  refine lv_iload_n hx hb dX3_pass_0 rfl (lv_at hl 1 rfl) ?_
  refine lv_iconst (v := 1) hx hb dX3_pass_1 (by decide) ?_
  refine lv_icmp_lt (tgt := 11) hx hb dX3_pass_2 (by decide) (fun c_2 => ?_) (fun c_2 => ?_)
  · exact absurd (h0.symm.trans (by rw [k_X3_pass, if_pos c_2])) (by decide)
  · refine lv_iload_n hx hb dX3_pass_5 rfl (lv_at hl 1 rfl) ?_
    refine lv_bipush (v := 100) hx hb dX3_pass_6 (by decide) ?_
    refine lv_icmp_le (tgt := 21) hx hb dX3_pass_8 (by decide) (fun c_8 => ?_) (fun c_8 => ?_)
    · refine lv_aload_n hx hb dX3_pass_21 rfl (lv_at hl 0 rfl) ?_
      refine va_get (D := G.1) (ci := 3) (v := .int ck) (C := RX3) (T := TX3) (N := 4) hx hb hts iw_X3_pass_RX3 hown hE.1 hP 0 rfl rfl 3 (by decide) (hts (.fieldLink RX3 30 "Rackrail" "clock" "I") (by decide +kernel)) (fun _ h9 => h9) rfl dX3_pass_22 ?_
      refine lv_iload_n hx hb dX3_pass_25 rfl (lv_at hl 1 rfl) ?_
      refine lv_iadd hx hb dX3_pass_26 ?_
      refine lv_sipush (v := 10000) hx hb dX3_pass_27 (by decide) ?_
      refine lv_icmp_le (tgt := 43) hx hb dX3_pass_30 (by decide) (fun c_30 => ?_) (fun c_30 => ?_)
      · refine lv_aload_n hx hb dX3_pass_43 rfl (lv_at hl 0 rfl) ?_
        refine lv_dup hx hb dX3_pass_44 rfl ?_
        refine va_get (D := G.1) (ci := 3) (v := .int ck) (C := RX3) (T := TX3) (N := 4) hx hb hts iw_X3_pass_RX3 hown hE.1 hP 0 rfl rfl 3 (by decide) (hts (.fieldLink RX3 30 "Rackrail" "clock" "I") (by decide +kernel)) (fun _ h9 => h9) rfl dX3_pass_45 ?_
        refine lv_iload_n hx hb dX3_pass_48 rfl (lv_at hl 1 rfl) ?_
        refine lv_iadd hx hb dX3_pass_49 ?_
        refine va_put (D := G.1) (ci := 3) (v := .int (ck + p0)) (ty := .int) (C := RX3) (T := TX3) (N := 4) hx hb hts iw_X3_pass_RX3 tyX3 tyX3_ok nmX3 hown hE.1 hP hD hS 0 rfl rfl 3 (by decide) (hts (.fieldLink RX3 30 "Rackrail" "clock" "I") (by decide +kernel)) (fun _ h9 => h9) rfl (by decide +kernel) rfl rfl (Nat.le_of_ble_eq_true rfl) dX3_pass_50 (fun H locs hP hD hS => ?_)
        have hP : va_P G.1 vwCl [wcA a (ck + p0), wcR a gp tg st sm, wcI G (a 10) 6 mv] H := hP
        have hD : va_D _ [wcA a (ck + p0), wcR a gp tg st sm, wcI G (a 10) 6 mv] := hD
        refine lv_aload_n hx hb dX3_pass_53 rfl (lv_at hl 0 rfl) ?_
        refine va_get (D := G.1) (ci := 3) (v := .ref (a 7)) (C := RX3) (T := TX3) (N := 4) hx hb hts iw_X3_pass_RX3 hown hE.1 hP 0 rfl rfl 1 (by decide) (hts (.fieldLink RX3 19 "Rackrail" "rail" "LRackrail$Rail;") (by decide +kernel)) (fun _ h9 => h9) rfl dX3_pass_54 ?_
        refine lv_iload_n hx hb dX3_pass_57 rfl (lv_at hl 1 rfl) ?_
        refine k_m (wc := [wcR a gp tg st sm, wcI G (a 10) 6 mv]) (w1 := [wcR a ((f_X1_moveFor gp tg st sm mv p0).1) tg st sm, wcI G (a 10) 6 ((f_X1_moveFor gp tg st sm mv p0).2)]) (wn := [wcA a (ck + p0), wcR a ((f_X1_moveFor gp tg st sm mv p0).1) tg st sm, wcI G (a 10) 6 ((f_X1_moveFor gp tg st sm mv p0).2)]) (va_runV (As := [.int p0]) (rest := []) ⟨hx, hb, hml, hown, hts⟩ (c_X1_moveFor l G a H.size gp tg st sm mv p0 (pass_hst hmv c_2 c_8)) (cwV 1 hts gX3_pass_X1_moveFor rfl rfl rfl ⟨rfl, by decide +kernel, by decide +kernel, by decide +kernel⟩ ⟨Nat.le_of_ble_eq_true rfl, Nat.le_of_ble_eq_true rfl⟩) ⟨GP.blind, va_recv hE.1 hP (ci := 1) (q0 := 1) rfl rfl, GP.go (wc := [wcR a gp tg st sm, wcI G (a 10) 6 mv]) hE hP hD hS hA [1, 2] rfl (by decide) [.ref (a 7), .int p0]⟩ rfl rfl hl.1 rfl (lv_room (Nat.le_of_ble_eq_true rfl)) dX3_pass_58 ⟨Nat.le_of_ble_eq_true rfl, Nat.le_of_ble_eq_true rfl⟩) hP hD hS hA [1, 2] rfl rfl rfl rfl (fun H locs hP hD hS => ?_)
        refine lv_aload_n hx hb dX3_pass_61 rfl (lv_at hl 0 rfl) ?_
        refine va_get (D := G.1) (ci := 3) (v := .int (ck + p0)) (C := RX3) (T := TX3) (N := 4) hx hb hts iw_X3_pass_RX3 hown hE.1 hP 0 rfl rfl 3 (by decide) (hts (.fieldLink RX3 30 "Rackrail" "clock" "I") (by decide +kernel)) (fun _ h9 => h9) rfl dX3_pass_62 ?_
        have hq : f_X3_pass ck gp tg st sm mv p0 = (ck + p0, ck + p0, (f_X1_moveFor gp tg st sm mv p0).1, (f_X1_moveFor gp tg st sm mv p0).2) := (by rw [f_X3_pass, if_neg c_2, if_pos c_8, if_pos c_30])
        exact W.iret (v := ck + p0) hx hb hr (fun t ht _ => ⟨by rw [hq], by rw [hq, ht]; exact hP, hS.F ht⟩) hS.2.2 dX3_pass_65
      · exact absurd (h0.symm.trans (by rw [k_X3_pass, if_neg c_2, if_pos c_8, if_neg c_30])) (by decide)
    · exact absurd (h0.symm.trans (by rw [k_X3_pass, if_neg c_2, if_neg c_8])) (by decide)

