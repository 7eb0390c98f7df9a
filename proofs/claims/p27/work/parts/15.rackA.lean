/-! X3_requireShelf -/
def k_X3_requireShelf (p0 : Int32) : Nat :=
  if (f_X3_isBelow p0 6) = 0 then 1
    else 0
theorem kr_X3_requireShelf (p0 : Int32) : k_X3_requireShelf p0 = 0 ∨ k_X3_requireShelf p0 = 1 := by
  unfold k_X3_requireShelf
  (repeat' split) <;> decide
set_option maxHeartbeats 4000000 in
set_option maxRecDepth 100000 in
theorem c_X3_requireShelf (l : Launch) (hl9 : l.stackTraces = false) (G : GT) (a : Nat → Nat) (sz : Nat) (p0 : Int32) (h0 : k_X3_requireShelf p0 = 0) : Met l yX3_requireShelf wsX3_requireShelf ({ frames := 1, cells := 0, slots := 0, locals := 21 }) (GP G [.ref (a 0), .int p0] [] sz) (PQo (.returned none)) 0 0 (fun _ => False) := by
  refine bodyM (cc := cX3_requireShelf) (maxL := 2) (ret := none) (by decide) rfl (Nat.le_of_ble_eq_true rfl) ?_
  intro p e s m below meth c ls C
  obtain ⟨hx, hb, hr, hts, hown, hlocks, hml, hsz, hP, hE, hD, hA, hS, hl⟩ := C
  subst hsz
  have hl : lv_has ls 2 [(0, .ref (a 0)), (1, .int p0)] := hl
  refine lv_iload_n hx hb dX3_requireShelf_0 rfl (lv_at hl 1 rfl) ?_
  refine lv_bipush (v := 6) hx hb dX3_requireShelf_1 (by decide) ?_
  refine k_p (va_runS (As := [.int p0, .int 6]) (rest := []) ⟨hx, hb, hml, hown, hts⟩ (c_X3_isBelow l G s.heap.size p0 6) (va_cwS 2 hts gX3_requireShelf_X3_isBelow rfl rfl rfl ⟨by decide +kernel, by decide +kernel, by decide +kernel⟩ ⟨Nat.le_of_ble_eq_true rfl, Nat.le_of_ble_eq_true rfl⟩) ⟨GP.blind, GP.go (wc := []) hE hP hD hS hA [] rfl (by decide) [.int p0, .int 6]⟩ rfl rfl hl.1 rfl (lv_room (Nat.le_of_ble_eq_true rfl)) dX3_requireShelf_3 ⟨Nat.le_of_ble_eq_true rfl, Nat.le_of_ble_eq_true rfl⟩) ?_
  refine lv_if_ne (tgt := 19) hx hb dX3_requireShelf_6 (by decide) (fun c_6 => ?_) (fun c_6 => ?_)
  · exact W.vret hx hb hr (fun t ht _ => ⟨rfl, ht⟩) (fun _ h => nomatch h) dX3_requireShelf_19
  · exact absurd (h0.symm.trans (by rw [k_X3_requireShelf, if_pos c_6])) (by decide)

/-! X3_requireAisle -/
def k_X3_requireAisle (p0 : Int32) : Nat :=
  if (f_X3_isBelow p0 7) = 0 then 1
    else 0
theorem kr_X3_requireAisle (p0 : Int32) : k_X3_requireAisle p0 = 0 ∨ k_X3_requireAisle p0 = 1 := by
  unfold k_X3_requireAisle
  (repeat' split) <;> decide
set_option maxHeartbeats 4000000 in
set_option maxRecDepth 100000 in
theorem c_X3_requireAisle (l : Launch) (hl9 : l.stackTraces = false) (G : GT) (a : Nat → Nat) (sz : Nat) (p0 : Int32) (h0 : k_X3_requireAisle p0 = 0) : Met l yX3_requireAisle wsX3_requireAisle ({ frames := 1, cells := 0, slots := 0, locals := 21 }) (GP G [.ref (a 0), .int p0] [] sz) (PQo (.returned none)) 0 0 (fun _ => False) := by
  refine bodyM (cc := cX3_requireAisle) (maxL := 2) (ret := none) (by decide) rfl (Nat.le_of_ble_eq_true rfl) ?_
  intro p e s m below meth c ls C
  obtain ⟨hx, hb, hr, hts, hown, hlocks, hml, hsz, hP, hE, hD, hA, hS, hl⟩ := C
  subst hsz
  have hl : lv_has ls 2 [(0, .ref (a 0)), (1, .int p0)] := hl
  refine lv_iload_n hx hb dX3_requireAisle_0 rfl (lv_at hl 1 rfl) ?_
  refine lv_bipush (v := 7) hx hb dX3_requireAisle_1 (by decide) ?_
  refine k_p (va_runS (As := [.int p0, .int 7]) (rest := []) ⟨hx, hb, hml, hown, hts⟩ (c_X3_isBelow l G s.heap.size p0 7) (va_cwS 2 hts gX3_requireAisle_X3_isBelow rfl rfl rfl ⟨by decide +kernel, by decide +kernel, by decide +kernel⟩ ⟨Nat.le_of_ble_eq_true rfl, Nat.le_of_ble_eq_true rfl⟩) ⟨GP.blind, GP.go (wc := []) hE hP hD hS hA [] rfl (by decide) [.int p0, .int 7]⟩ rfl rfl hl.1 rfl (lv_room (Nat.le_of_ble_eq_true rfl)) dX3_requireAisle_3 ⟨Nat.le_of_ble_eq_true rfl, Nat.le_of_ble_eq_true rfl⟩) ?_
  refine lv_if_ne (tgt := 19) hx hb dX3_requireAisle_6 (by decide) (fun c_6 => ?_) (fun c_6 => ?_)
  · exact W.vret hx hb hr (fun t ht _ => ⟨rfl, ht⟩) (fun _ h => nomatch h) dX3_requireAisle_19
  · exact absurd (h0.symm.trans (by rw [k_X3_requireAisle, if_pos c_6])) (by decide)

/-! X3_requireSpot -/
def k_X3_requireSpot (p0 : Int32) : Nat :=
  if (f_X3_isSpot p0) = 0 then 1
    else 0
theorem kr_X3_requireSpot (p0 : Int32) : k_X3_requireSpot p0 = 0 ∨ k_X3_requireSpot p0 = 1 := by
  unfold k_X3_requireSpot
  (repeat' split) <;> decide
set_option maxHeartbeats 4000000 in
set_option maxRecDepth 100000 in
theorem c_X3_requireSpot (l : Launch) (hl9 : l.stackTraces = false) (G : GT) (a : Nat → Nat) (sz : Nat) (p0 : Int32) (h0 : k_X3_requireSpot p0 = 0) : Met l yX3_requireSpot wsX3_requireSpot ({ frames := 2, cells := 0, slots := 0, locals := 40 }) (GP G [.ref (a 0), .int p0] [] sz) (PQo (.returned none)) 0 0 (fun _ => False) := by
  refine bodyM (cc := cX3_requireSpot) (maxL := 2) (ret := none) (by decide) rfl (Nat.le_of_ble_eq_true rfl) ?_
  intro p e s m below meth c ls C
  obtain ⟨hx, hb, hr, hts, hown, hlocks, hml, hsz, hP, hE, hD, hA, hS, hl⟩ := C
  subst hsz
  have hl : lv_has ls 2 [(0, .ref (a 0)), (1, .int p0)] := hl
  refine lv_iload_n hx hb dX3_requireSpot_0 rfl (lv_at hl 1 rfl) ?_
  refine k_p (va_runS (As := [.int p0]) (rest := []) ⟨hx, hb, hml, hown, hts⟩ (c_X3_isSpot l G s.heap.size p0) (va_cwS 1 hts gX3_requireSpot_X3_isSpot rfl rfl rfl ⟨by decide +kernel, by decide +kernel, by decide +kernel⟩ ⟨Nat.le_of_ble_eq_true rfl, Nat.le_of_ble_eq_true rfl⟩) ⟨GP.blind, GP.go (wc := []) hE hP hD hS hA [] rfl (by decide) [.int p0]⟩ rfl rfl hl.1 rfl (lv_room (Nat.le_of_ble_eq_true rfl)) dX3_requireSpot_1 ⟨Nat.le_of_ble_eq_true rfl, Nat.le_of_ble_eq_true rfl⟩) ?_
  refine lv_if_ne (tgt := 17) hx hb dX3_requireSpot_4 (by decide) (fun c_4 => ?_) (fun c_4 => ?_)
  · exact W.vret hx hb hr (fun t ht _ => ⟨rfl, ht⟩) (fun _ h => nomatch h) dX3_requireSpot_17
  · exact absurd (h0.symm.trans (by rw [k_X3_requireSpot, if_pos c_4])) (by decide)

/-! X3_requirePerson -/
def k_X3_requirePerson (p0 : Int32) : Nat :=
  if (f_X3_isBelow p0 4) = 0 then 1
    else 0
theorem kr_X3_requirePerson (p0 : Int32) : k_X3_requirePerson p0 = 0 ∨ k_X3_requirePerson p0 = 1 := by
  unfold k_X3_requirePerson
  (repeat' split) <;> decide
set_option maxHeartbeats 4000000 in
set_option maxRecDepth 100000 in
theorem c_X3_requirePerson (l : Launch) (hl9 : l.stackTraces = false) (G : GT) (a : Nat → Nat) (sz : Nat) (p0 : Int32) (h0 : k_X3_requirePerson p0 = 0) : Met l yX3_requirePerson wsX3_requirePerson ({ frames := 1, cells := 0, slots := 0, locals := 21 }) (GP G [.ref (a 0), .int p0] [] sz) (PQo (.returned none)) 0 0 (fun _ => False) := by
  refine bodyM (cc := cX3_requirePerson) (maxL := 2) (ret := none) (by decide) rfl (Nat.le_of_ble_eq_true rfl) ?_
  intro p e s m below meth c ls C
  obtain ⟨hx, hb, hr, hts, hown, hlocks, hml, hsz, hP, hE, hD, hA, hS, hl⟩ := C
  subst hsz
  have hl : lv_has ls 2 [(0, .ref (a 0)), (1, .int p0)] := hl
  refine lv_iload_n hx hb dX3_requirePerson_0 rfl (lv_at hl 1 rfl) ?_
  refine lv_iconst (v := 4) hx hb dX3_requirePerson_1 (by decide) ?_
  refine k_p (va_runS (As := [.int p0, .int 4]) (rest := []) ⟨hx, hb, hml, hown, hts⟩ (c_X3_isBelow l G s.heap.size p0 4) (va_cwS 2 hts gX3_requirePerson_X3_isBelow rfl rfl rfl ⟨by decide +kernel, by decide +kernel, by decide +kernel⟩ ⟨Nat.le_of_ble_eq_true rfl, Nat.le_of_ble_eq_true rfl⟩) ⟨GP.blind, GP.go (wc := []) hE hP hD hS hA [] rfl (by decide) [.int p0, .int 4]⟩ rfl rfl hl.1 rfl (lv_room (Nat.le_of_ble_eq_true rfl)) dX3_requirePerson_2 ⟨Nat.le_of_ble_eq_true rfl, Nat.le_of_ble_eq_true rfl⟩) ?_
  refine lv_if_ne (tgt := 18) hx hb dX3_requirePerson_5 (by decide) (fun c_5 => ?_) (fun c_5 => ?_)
  · exact W.vret hx hb hr (fun t ht _ => ⟨rfl, ht⟩) (fun _ h => nomatch h) dX3_requirePerson_18
  · exact absurd (h0.symm.trans (by rw [k_X3_requirePerson, if_pos c_5])) (by decide)

/-! X3_requireBox -/
def k_X3_requireBox (cn : Int32) (p0 : Int32) : Nat :=
  if (f_X2_has cn p0) = 0 then 1
    else 0
theorem kr_X3_requireBox (cn : Int32) (p0 : Int32) : k_X3_requireBox cn p0 = 0 ∨ k_X3_requireBox cn p0 = 1 := by
  unfold k_X3_requireBox
  (repeat' split) <;> decide
theorem iw_X3_requireBox_RX3 : ∀ w ∈ u_ws RX3 TX3 4, w ∈ wsX3_requireBox := by decide +kernel
set_option maxHeartbeats 4000000 in
set_option maxRecDepth 100000 in
theorem c_X3_requireBox (l : Launch) (hl9 : l.stackTraces = false) (G : GT) (a : Nat → Nat) (sz : Nat) (ck : Int32) (cn : Int32) (p0 : Int32) (h0 : k_X3_requireBox cn p0 = 0) : Met l yX3_requireBox wsX3_requireBox ({ frames := 2, cells := 0, slots := 0, locals := 42 }) (GP G [.ref (a 0), .int p0] [wcA a ck, wcS a cn] sz) (PQo (.returned none)) 0 0 (fun _ => False) := by
  refine bodyM (cc := cX3_requireBox) (maxL := 2) (ret := none) (by decide) rfl (Nat.le_of_ble_eq_true rfl) ?_
  intro p e s m below meth c ls C
  obtain ⟨hx, hb, hr, hts, hown, hlocks, hml, hsz, hP, hE, hD, hA, hS, hl⟩ := C
  subst hsz
  have hl : lv_has ls 2 [(0, .ref (a 0)), (1, .int p0)] := hl
  refine lv_aload_n hx hb dX3_requireBox_0 rfl (lv_at hl 0 rfl) ?_
  refine va_get (D := G.1) (ci := 3) (v := .ref (a 1)) (C := RX3) (T := TX3) (N := 4) hx hb hts iw_X3_requireBox_RX3 hown hE.1 hP 0 rfl rfl 0 (by decide) (hts (.fieldLink RX3 12 "Rackrail" "store" "LRackrail$Store;") (by decide +kernel)) (fun _ h9 => h9) rfl dX3_requireBox_1 ?_
  refine lv_iload_n hx hb dX3_requireBox_4 rfl (lv_at hl 1 rfl) ?_
  refine k_p (va_runV (As := [.int p0]) (rest := []) ⟨hx, hb, hml, hown, hts⟩ (c_X2_has l G a s.heap.size cn p0) (cwV 1 hts gX3_requireBox_X2_has rfl rfl rfl ⟨rfl, by decide +kernel, by decide +kernel, by decide +kernel⟩ ⟨Nat.le_of_ble_eq_true rfl, Nat.le_of_ble_eq_true rfl⟩) ⟨GP.blind, va_recv hE.1 hP (ci := 2) (q0 := 1) rfl rfl, GP.go (wc := [wcS a cn]) hE hP hD hS hA [1] rfl (by decide) [.ref (a 1), .int p0]⟩ rfl rfl hl.1 rfl (lv_room (Nat.le_of_ble_eq_true rfl)) dX3_requireBox_5 ⟨Nat.le_of_ble_eq_true rfl, Nat.le_of_ble_eq_true rfl⟩) ?_
  refine lv_if_ne (tgt := 21) hx hb dX3_requireBox_8 (by decide) (fun c_8 => ?_) (fun c_8 => ?_)
  · exact W.vret hx hb hr (fun t ht _ => ⟨rfl, ht⟩) (fun _ h => nomatch h) dX3_requireBox_21
  · exact absurd (h0.symm.trans (by rw [k_X3_requireBox, if_pos c_8])) (by decide)

/-! X3_requireOut -/
def k_X3_requireOut (cn : Int32) (sp : Nat → Int32) (p0 : Int32) : Nat :=
  if (f_X2_whereIs cn sp p0) = (-1) then 0
    else 3
theorem kr_X3_requireOut (cn : Int32) (sp : Nat → Int32) (p0 : Int32) : k_X3_requireOut cn sp p0 = 0 ∨ k_X3_requireOut cn sp p0 = 3 := by
  unfold k_X3_requireOut
  (repeat' split) <;> decide
theorem iw_X3_requireOut_RX3 : ∀ w ∈ u_ws RX3 TX3 4, w ∈ wsX3_requireOut := by decide +kernel
set_option maxHeartbeats 4000000 in
set_option maxRecDepth 100000 in
theorem c_X3_requireOut (l : Launch) (hl9 : l.stackTraces = false) (G : GT) (a : Nat → Nat) (sz : Nat) (ck : Int32) (cn : Int32) (sp : Nat → Int32) (p0 : Int32) (hcn : okN 20 cn) (h0 : k_X3_requireOut cn sp p0 = 0) : Met l yX3_requireOut wsX3_requireOut ({ frames := 3, cells := 0, slots := 0, locals := 63 }) (GP G [.ref (a 0), .int p0] [wcA a ck, wcS a cn, wcI G (a 6) 20 sp] sz) (PQo (.returned none)) 0 0 (fun _ => False) := by
  refine bodyM (cc := cX3_requireOut) (maxL := 2) (ret := none) (by decide) rfl (Nat.le_of_ble_eq_true rfl) ?_
  intro p e s m below meth c ls C
  obtain ⟨hx, hb, hr, hts, hown, hlocks, hml, hsz, hP, hE, hD, hA, hS, hl⟩ := C
  subst hsz
  have hl : lv_has ls 2 [(0, .ref (a 0)), (1, .int p0)] := hl
  refine lv_aload_n hx hb dX3_requireOut_0 rfl (lv_at hl 0 rfl) ?_
  refine va_get (D := G.1) (ci := 3) (v := .ref (a 1)) (C := RX3) (T := TX3) (N := 4) hx hb hts iw_X3_requireOut_RX3 hown hE.1 hP 0 rfl rfl 0 (by decide) (hts (.fieldLink RX3 12 "Rackrail" "store" "LRackrail$Store;") (by decide +kernel)) (fun _ h9 => h9) rfl dX3_requireOut_1 ?_
  refine lv_iload_n hx hb dX3_requireOut_4 rfl (lv_at hl 1 rfl) ?_
  refine k_p (va_runV (As := [.int p0]) (rest := []) ⟨hx, hb, hml, hown, hts⟩ (c_X2_whereIs l G a s.heap.size cn sp p0 hcn) (cwV 1 hts gX3_requireOut_X2_whereIs rfl rfl rfl ⟨rfl, by decide +kernel, by decide +kernel, by decide +kernel⟩ ⟨Nat.le_of_ble_eq_true rfl, Nat.le_of_ble_eq_true rfl⟩) ⟨GP.blind, va_recv hE.1 hP (ci := 2) (q0 := 1) rfl rfl, GP.go (wc := [wcS a cn, wcI G (a 6) 20 sp]) hE hP hD hS hA [1, 2] rfl (by decide) [.ref (a 1), .int p0]⟩ rfl rfl hl.1 rfl (lv_room (Nat.le_of_ble_eq_true rfl)) dX3_requireOut_5 ⟨Nat.le_of_ble_eq_true rfl, Nat.le_of_ble_eq_true rfl⟩) ?_
  refine lv_iconst (v := (-1)) hx hb dX3_requireOut_8 (by decide) ?_
  refine lv_icmp_eq (tgt := 22) hx hb dX3_requireOut_9 (by decide) (fun c_9 => ?_) (fun c_9 => ?_)
  · exact W.vret hx hb hr (fun t ht _ => ⟨rfl, ht⟩) (fun _ h => nomatch h) dX3_requireOut_22
  · exact absurd (h0.symm.trans (by rw [k_X3_requireOut, if_neg c_9])) (by decide)

/-! X3_requireInside -/
def k_X3_requireInside (ins : Nat → Int32) (p0 : Int32) : Nat :=
  if (f_X1_isInside ins p0) = 0 then 3
    else 0
theorem kr_X3_requireInside (ins : Nat → Int32) (p0 : Int32) : k_X3_requireInside ins p0 = 0 ∨ k_X3_requireInside ins p0 = 3 := by
  unfold k_X3_requireInside
  (repeat' split) <;> decide
theorem iw_X3_requireInside_RX3 : ∀ w ∈ u_ws RX3 TX3 4, w ∈ wsX3_requireInside := by decide +kernel
set_option maxHeartbeats 4000000 in
set_option maxRecDepth 100000 in
theorem c_X3_requireInside (l : Launch) (hl9 : l.stackTraces = false) (G : GT) (a : Nat → Nat) (sz : Nat) (ck : Int32) (gp : Int32) (tg : Int32) (st : Int32) (sm : Int32) (ins : Nat → Int32) (p0 : Int32) (h0 : k_X3_requireInside ins p0 = 0) : Met l yX3_requireInside wsX3_requireInside ({ frames := 2, cells := 0, slots := 0, locals := 42 }) (GP G [.ref (a 0), .int p0] [wcA a ck, wcR a gp tg st sm, wcZ G (a 9) 4 ins] sz) (PQo (.returned none)) 0 0 (fun _ => False) := by
  refine bodyM (cc := cX3_requireInside) (maxL := 2) (ret := none) (by decide) rfl (Nat.le_of_ble_eq_true rfl) ?_
  intro p e s m below meth c ls C
  obtain ⟨hx, hb, hr, hts, hown, hlocks, hml, hsz, hP, hE, hD, hA, hS, hl⟩ := C
  subst hsz
  have hl : lv_has ls 2 [(0, .ref (a 0)), (1, .int p0)] := hl
  refine lv_aload_n hx hb dX3_requireInside_0 rfl (lv_at hl 0 rfl) ?_
  refine va_get (D := G.1) (ci := 3) (v := .ref (a 7)) (C := RX3) (T := TX3) (N := 4) hx hb hts iw_X3_requireInside_RX3 hown hE.1 hP 0 rfl rfl 1 (by decide) (hts (.fieldLink RX3 19 "Rackrail" "rail" "LRackrail$Rail;") (by decide +kernel)) (fun _ h9 => h9) rfl dX3_requireInside_1 ?_
  refine lv_iload_n hx hb dX3_requireInside_4 rfl (lv_at hl 1 rfl) ?_
  refine k_p (va_runV (As := [.int p0]) (rest := []) ⟨hx, hb, hml, hown, hts⟩ (c_X1_isInside l G a s.heap.size gp tg st sm ins p0) (cwV 1 hts gX3_requireInside_X1_isInside rfl rfl rfl ⟨rfl, by decide +kernel, by decide +kernel, by decide +kernel⟩ ⟨Nat.le_of_ble_eq_true rfl, Nat.le_of_ble_eq_true rfl⟩) ⟨GP.blind, va_recv hE.1 hP (ci := 1) (q0 := 1) rfl rfl, GP.go (wc := [wcR a gp tg st sm, wcZ G (a 9) 4 ins]) hE hP hD hS hA [1, 2] rfl (by decide) [.ref (a 7), .int p0]⟩ rfl rfl hl.1 rfl (lv_room (Nat.le_of_ble_eq_true rfl)) dX3_requireInside_5 ⟨Nat.le_of_ble_eq_true rfl, Nat.le_of_ble_eq_true rfl⟩) ?_
  refine lv_if_ne (tgt := 21) hx hb dX3_requireInside_8 (by decide) (fun c_8 => ?_) (fun c_8 => ?_)
  · exact W.vret hx hb hr (fun t ht _ => ⟨rfl, ht⟩) (fun _ h => nomatch h) dX3_requireInside_21
  · exact absurd (h0.symm.trans (by rw [k_X3_requireInside, if_pos c_8])) (by decide)

/-! X3_setClimate -/
def f_X3_setClimate (sc : Nat → Int32) (p0 : Int32) (p1 : Int32) : Int32 × (Nat → Int32) :=
  if k_X3_requireShelf p0 = 0 then (if (f_X3_isBelow p1 3) = 0 then (0, sc)
      else (f_X2_climateOf sc p0, f_X2_changeClimate sc p0 p1))
    else (0, sc)
def k_X3_setClimate (p0 : Int32) (p1 : Int32) : Nat :=
  if k_X3_requireShelf p0 = 0 then (if (f_X3_isBelow p1 3) = 0 then 2
      else 0)
    else 1
theorem kr_X3_setClimate (p0 : Int32) (p1 : Int32) : k_X3_setClimate p0 p1 = 0 ∨ k_X3_setClimate p0 p1 = 1 ∨ k_X3_setClimate p0 p1 = 2 := by
  unfold k_X3_setClimate
  (repeat' split) <;> decide
theorem iw_X3_setClimate_RX3 : ∀ w ∈ u_ws RX3 TX3 4, w ∈ wsX3_setClimate := by decide +kernel
set_option maxHeartbeats 4000000 in
set_option maxRecDepth 100000 in
theorem c_X3_setClimate (l : Launch) (hl9 : l.stackTraces = false) (G : GT) (a : Nat → Nat) (sz : Nat) (ck : Int32) (cn : Int32) (sc : Nat → Int32) (p0 : Int32) (p1 : Int32) (h0 : k_X3_setClimate p0 p1 = 0) : Met l yX3_setClimate wsX3_setClimate ({ frames := 2, cells := 0, slots := 0, locals := 43 }) (GP G [.ref (a 0), .int p0, .int p1] [wcA a ck, wcS a cn, wcI G (a 2) 6 sc] sz) (MQo G (.returned (some (.int ((f_X3_setClimate sc p0 p1).1)))) [wcA a ck, wcS a cn, wcI G (a 2) 6 ((f_X3_setClimate sc p0 p1).2)] (va_A [wcA a ck, wcS a cn, wcI G (a 2) 6 sc] sz)) 0 0 (va_A [wcA a ck, wcS a cn, wcI G (a 2) 6 sc] sz) := by
  refine bodyM (cc := cX3_setClimate) (maxL := 4) (ret := (some .int)) (by decide) rfl (Nat.le_of_ble_eq_true rfl) ?_
  intro p e s m below meth c ls C
  obtain ⟨hx, hb, hr, hts, hown, hlocks, hml, hsz, hP, hE, hD, hA, hS, hl⟩ := C
  subst hsz
  have hl : lv_has ls 4 [(0, .ref (a 0)), (1, .int p0), (2, .int p1)] := hl
  refine lv_aload_n hx hb dX3_setClimate_0 rfl (lv_at hl 0 rfl) ?_
  refine lv_iload_n hx hb dX3_setClimate_1 rfl (lv_at hl 1 rfl) ?_
  have c_2 : k_X3_requireShelf p0 = 0 := Decidable.byContradiction (fun c_2 => absurd (h0.symm.trans (by rw [k_X3_setClimate, if_neg c_2])) (by decide))
  refine k_p (va_runV (As := [.int p0]) (rest := []) ⟨hx, hb, hml, hown, hts⟩ (c_X3_requireShelf l hl9 G a s.heap.size p0 c_2) (cwV 1 hts gX3_setClimate_X3_requireShelf rfl rfl rfl ⟨rfl, by decide +kernel, by decide +kernel, by decide +kernel⟩ ⟨Nat.le_of_ble_eq_true rfl, Nat.le_of_ble_eq_true rfl⟩) ⟨GP.blind, va_recv hE.1 hP (ci := 3) (q0 := 0) rfl rfl, GP.go (wc := []) hE hP hD hS hA [] rfl (by decide) [.ref (a 0), .int p0]⟩ rfl rfl hl.1 rfl (lv_room (Nat.le_of_ble_eq_true rfl)) dX3_setClimate_2 ⟨Nat.le_of_ble_eq_true rfl, Nat.le_of_ble_eq_true rfl⟩) ?_
  refine lv_iload_n hx hb dX3_setClimate_5 rfl (lv_at hl 2 rfl) ?_
  refine lv_iconst (v := 3) hx hb dX3_setClimate_6 (by decide) ?_
  refine k_p (va_runS (As := [.int p1, .int 3]) (rest := []) ⟨hx, hb, hml, hown, hts⟩ (c_X3_isBelow l G s.heap.size p1 3) (va_cwS 2 hts gX3_setClimate_X3_isBelow rfl rfl rfl ⟨by decide +kernel, by decide +kernel, by decide +kernel⟩ ⟨Nat.le_of_ble_eq_true rfl, Nat.le_of_ble_eq_true rfl⟩) ⟨GP.blind, GP.go (wc := []) hE hP hD hS hA [] rfl (by decide) [.int p1, .int 3]⟩ rfl rfl hl.1 rfl (lv_room (Nat.le_of_ble_eq_true rfl)) dX3_setClimate_7 ⟨Nat.le_of_ble_eq_true rfl, Nat.le_of_ble_eq_true rfl⟩) ?_
  refine lv_if_ne (tgt := 23) hx hb dX3_setClimate_10 (by decide) (fun c_10 => ?_) (fun c_10 => ?_)
  · refine lv_aload_n hx hb dX3_setClimate_23 rfl (lv_at hl 0 rfl) ?_
    refine va_get (D := G.1) (ci := 3) (v := .ref (a 1)) (C := RX3) (T := TX3) (N := 4) hx hb hts iw_X3_setClimate_RX3 hown hE.1 hP 0 rfl rfl 0 (by decide) (hts (.fieldLink RX3 12 "Rackrail" "store" "LRackrail$Store;") (by decide +kernel)) (fun _ h9 => h9) rfl dX3_setClimate_24 ?_
    refine lv_iload_n hx hb dX3_setClimate_27 rfl (lv_at hl 1 rfl) ?_
    refine k_p (va_runV (As := [.int p0]) (rest := []) ⟨hx, hb, hml, hown, hts⟩ (c_X2_climateOf l G a s.heap.size cn sc p0) (cwV 1 hts gX3_setClimate_X2_climateOf rfl rfl rfl ⟨rfl, by decide +kernel, by decide +kernel, by decide +kernel⟩ ⟨Nat.le_of_ble_eq_true rfl, Nat.le_of_ble_eq_true rfl⟩) ⟨GP.blind, va_recv hE.1 hP (ci := 2) (q0 := 1) rfl rfl, GP.go (wc := [wcS a cn, wcI G (a 2) 6 sc]) hE hP hD hS hA [1, 2] rfl (by decide) [.ref (a 1), .int p0]⟩ rfl rfl hl.1 rfl (lv_room (Nat.le_of_ble_eq_true rfl)) dX3_setClimate_28 ⟨Nat.le_of_ble_eq_true rfl, Nat.le_of_ble_eq_true rfl⟩) ?_
    refine lv_istore_n (lv' := [(3, .int (f_X2_climateOf sc p0)), (0, .ref (a 0)), (1, .int p0), (2, .int p1)]) hx hb dX3_setClimate_31 rfl hl (by decide) rfl (fun ls hl => ?_)
    refine lv_aload_n hx hb dX3_setClimate_32 rfl (lv_at hl 1 rfl) ?_
    refine va_get (D := G.1) (ci := 3) (v := .ref (a 1)) (C := RX3) (T := TX3) (N := 4) hx hb hts iw_X3_setClimate_RX3 hown hE.1 hP 0 rfl rfl 0 (by decide) (hts (.fieldLink RX3 12 "Rackrail" "store" "LRackrail$Store;") (by decide +kernel)) (fun _ h9 => h9) rfl dX3_setClimate_33 ?_
    refine lv_iload_n hx hb dX3_setClimate_36 rfl (lv_at hl 2 rfl) ?_
    refine lv_iload_n hx hb dX3_setClimate_37 rfl (lv_at hl 3 rfl) ?_
    refine k_m (wc := [wcS a cn, wcI G (a 2) 6 sc]) (w1 := [wcS a cn, wcI G (a 2) 6 (f_X2_changeClimate sc p0 p1)]) (wn := [wcA a ck, wcS a cn, wcI G (a 2) 6 (f_X2_changeClimate sc p0 p1)]) (va_runV (As := [.int p0, .int p1]) (rest := []) ⟨hx, hb, hml, hown, hts⟩ (c_X2_changeClimate l G a s.heap.size cn sc p0 p1) (cwV 2 hts gX3_setClimate_X2_changeClimate rfl rfl rfl ⟨rfl, by decide +kernel, by decide +kernel, by decide +kernel⟩ ⟨Nat.le_of_ble_eq_true rfl, Nat.le_of_ble_eq_true rfl⟩) ⟨GP.blind, va_recv hE.1 hP (ci := 2) (q0 := 1) rfl rfl, GP.go (wc := [wcS a cn, wcI G (a 2) 6 sc]) hE hP hD hS hA [1, 2] rfl (by decide) [.ref (a 1), .int p0, .int p1]⟩ rfl rfl hl.1 rfl (lv_room (Nat.le_of_ble_eq_true rfl)) dX3_setClimate_38 ⟨Nat.le_of_ble_eq_true rfl, Nat.le_of_ble_eq_true rfl⟩) hP hD hS hA [1, 2] rfl rfl rfl rfl (fun H locs hP hD hS => ?_)
    refine lv_iload_n hx hb dX3_setClimate_41 rfl (lv_at hl 0 rfl) ?_
    have hq : f_X3_setClimate sc p0 p1 = (f_X2_climateOf sc p0, f_X2_changeClimate sc p0 p1) := (by rw [f_X3_setClimate, if_pos c_2, if_neg c_10])
    exact W.iret (v := f_X2_climateOf sc p0) hx hb hr (fun t ht _ => ⟨by rw [hq], by rw [hq, ht]; exact hP, hS.F ht⟩) hS.2.2 dX3_setClimate_42
  · exact absurd (h0.symm.trans (by rw [k_X3_setClimate, if_pos c_2, if_pos c_10])) (by decide)

/-! X3_addBox -/
def f_X3_addBox (cn : Int32) (cl : Nat → Int32) (wt : Nat → Int32) (kn : Nat → Int32) (sp : Nat → Int32) (p0 : Int32) (p1 : Int32) (p2 : Int32) : Int32 × Int32 × (Nat → Int32) × (Nat → Int32) × (Nat → Int32) × (Nat → Int32) :=
  if (f_X3_isBelow p0 3) = 0 then (0, cn, cl, wt, kn, sp)
    else if p1 < 1 then (0, cn, cl, wt, kn, sp)
    else if p1 ≤ 60 then (if (f_X3_isBelow p2 10) = 0 then (0, cn, cl, wt, kn, sp)
      else if (f_X2_isFull cn) = 0 then ((f_X2_enter cn cl wt kn sp p0 p1 p2).1, (f_X2_enter cn cl wt kn sp p0 p1 p2).2.1, (f_X2_enter cn cl wt kn sp p0 p1 p2).2.2.1, (f_X2_enter cn cl wt kn sp p0 p1 p2).2.2.2.1, (f_X2_enter cn cl wt kn sp p0 p1 p2).2.2.2.2.1, (f_X2_enter cn cl wt kn sp p0 p1 p2).2.2.2.2.2)
      else (0, cn, cl, wt, kn, sp))
    else (0, cn, cl, wt, kn, sp)
def k_X3_addBox (cn : Int32) (p0 : Int32) (p1 : Int32) (p2 : Int32) : Nat :=
  if (f_X3_isBelow p0 3) = 0 then 2
    else if p1 < 1 then 2
    else if p1 ≤ 60 then (if (f_X3_isBelow p2 10) = 0 then 2
      else if (f_X2_isFull cn) = 0 then 0
      else 3)
    else 2
theorem kr_X3_addBox (cn : Int32) (p0 : Int32) (p1 : Int32) (p2 : Int32) : k_X3_addBox cn p0 p1 p2 = 0 ∨ k_X3_addBox cn p0 p1 p2 = 2 ∨ k_X3_addBox cn p0 p1 p2 = 3 := by
  unfold k_X3_addBox
  (repeat' split) <;> decide
theorem iw_X3_addBox_RX3 : ∀ w ∈ u_ws RX3 TX3 4, w ∈ wsX3_addBox := by decide +kernel
set_option maxHeartbeats 4000000 in
set_option maxRecDepth 100000 in
theorem c_X3_addBox (l : Launch) (hl9 : l.stackTraces = false) (G : GT) (a : Nat → Nat) (sz : Nat) (ck : Int32) (cn : Int32) (cl : Nat → Int32) (wt : Nat → Int32) (kn : Nat → Int32) (sp : Nat → Int32) (p0 : Int32) (p1 : Int32) (p2 : Int32) (hcn : okN 20 cn) (h0 : k_X3_addBox cn p0 p1 p2 = 0) : Met l yX3_addBox wsX3_addBox ({ frames := 2, cells := 0, slots := 0, locals := 44 }) (GP G [.ref (a 0), .int p0, .int p1, .int p2] [wcA a ck, wcS a cn, wcI G (a 3) 20 cl, wcI G (a 4) 20 wt, wcI G (a 5) 20 kn, wcI G (a 6) 20 sp] sz) (MQo G (.returned (some (.int ((f_X3_addBox cn cl wt kn sp p0 p1 p2).1)))) [wcA a ck, wcS a ((f_X3_addBox cn cl wt kn sp p0 p1 p2).2.1), wcI G (a 3) 20 ((f_X3_addBox cn cl wt kn sp p0 p1 p2).2.2.1), wcI G (a 4) 20 ((f_X3_addBox cn cl wt kn sp p0 p1 p2).2.2.2.1), wcI G (a 5) 20 ((f_X3_addBox cn cl wt kn sp p0 p1 p2).2.2.2.2.1), wcI G (a 6) 20 ((f_X3_addBox cn cl wt kn sp p0 p1 p2).2.2.2.2.2)] (va_A [wcA a ck, wcS a cn, wcI G (a 3) 20 cl, wcI G (a 4) 20 wt, wcI G (a 5) 20 kn, wcI G (a 6) 20 sp] sz)) 0 0 (va_A [wcA a ck, wcS a cn, wcI G (a 3) 20 cl, wcI G (a 4) 20 wt, wcI G (a 5) 20 kn, wcI G (a 6) 20 sp] sz) := by
  refine bodyM (cc := cX3_addBox) (maxL := 4) (ret := (some .int)) (by decide) rfl (Nat.le_of_ble_eq_true rfl) ?_
  intro p e s m below meth c ls C
  obtain ⟨hx, hb, hr, hts, hown, hlocks, hml, hsz, hP, hE, hD, hA, hS, hl⟩ := C
  subst hsz
  have hl : lv_has ls 4 [(0, .ref (a 0)), (1, .int p0), (2, .int p1), (3, .int p2)] := hl
  refine lv_iload_n hx hb dX3_addBox_0 rfl (lv_at hl 1 rfl) ?_
  refine lv_iconst (v := 3) hx hb dX3_addBox_1 (by decide) ?_
  refine k_p (va_runS (As := [.int p0, .int 3]) (rest := []) ⟨hx, hb, hml, hown, hts⟩ (c_X3_isBelow l G s.heap.size p0 3) (va_cwS 2 hts gX3_addBox_X3_isBelow rfl rfl rfl ⟨by decide +kernel, by decide +kernel, by decide +kernel⟩ ⟨Nat.le_of_ble_eq_true rfl, Nat.le_of_ble_eq_true rfl⟩) ⟨GP.blind, GP.go (wc := []) hE hP hD hS hA [] rfl (by decide) [.int p0, .int 3]⟩ rfl rfl hl.1 rfl (lv_room (Nat.le_of_ble_eq_true rfl)) dX3_addBox_2 ⟨Nat.le_of_ble_eq_true rfl, Nat.le_of_ble_eq_true rfl⟩) ?_
  refine lv_if_ne (tgt := 18) hx hb dX3_addBox_5 (by decide) (fun c_5 => ?_) (fun c_5 => ?_)
  · refine lv_iload_n hx hb dX3_addBox_18 rfl (lv_at hl 2 rfl) ?_
    refine lv_iconst (v := 1) hx hb dX3_addBox_19 (by decide) ?_
    refine lv_icmp_lt (tgt := 29) hx hb dX3_addBox_20 (by decide) (fun c_20 => ?_) (fun c_20 => ?_)
    · exact absurd (h0.symm.trans (by rw [k_X3_addBox, if_neg c_5, if_pos c_20])) (by decide)
    · refine lv_iload_n hx hb dX3_addBox_23 rfl (lv_at hl 2 rfl) ?_
      refine lv_bipush (v := 60) hx hb dX3_addBox_24 (by decide) ?_
      refine lv_icmp_le (tgt := 39) hx hb dX3_addBox_26 (by decide) (fun c_26 => ?_) (fun c_26 => ?_)
      · refine lv_iload_n hx hb dX3_addBox_39 rfl (lv_at hl 3 rfl) ?_
        refine lv_bipush (v := 10) hx hb dX3_addBox_40 (by decide) ?_
        refine k_p (va_runS (As := [.int p2, .int 10]) (rest := []) ⟨hx, hb, hml, hown, hts⟩ (c_X3_isBelow l G s.heap.size p2 10) (va_cwS 2 hts gX3_addBox_X3_isBelow rfl rfl rfl ⟨by decide +kernel, by decide +kernel, by decide +kernel⟩ ⟨Nat.le_of_ble_eq_true rfl, Nat.le_of_ble_eq_true rfl⟩) ⟨GP.blind, GP.go (wc := []) hE hP hD hS hA [] rfl (by decide) [.int p2, .int 10]⟩ rfl rfl hl.1 rfl (lv_room (Nat.le_of_ble_eq_true rfl)) dX3_addBox_42 ⟨Nat.le_of_ble_eq_true rfl, Nat.le_of_ble_eq_true rfl⟩) ?_
        refine lv_if_ne (tgt := 58) hx hb dX3_addBox_45 (by decide) (fun c_45 => ?_) (fun c_45 => ?_)
        · refine lv_aload_n hx hb dX3_addBox_58 rfl (lv_at hl 0 rfl) ?_
          refine va_get (D := G.1) (ci := 3) (v := .ref (a 1)) (C := RX3) (T := TX3) (N := 4) hx hb hts iw_X3_addBox_RX3 hown hE.1 hP 0 rfl rfl 0 (by decide) (hts (.fieldLink RX3 12 "Rackrail" "store" "LRackrail$Store;") (by decide +kernel)) (fun _ h9 => h9) rfl dX3_addBox_59 ?_
          refine k_p (va_runV (As := []) (rest := []) ⟨hx, hb, hml, hown, hts⟩ (c_X2_isFull l G a s.heap.size cn) (cwV 0 hts gX3_addBox_X2_isFull rfl rfl rfl ⟨rfl, by decide +kernel, by decide +kernel, by decide +kernel⟩ ⟨Nat.le_of_ble_eq_true rfl, Nat.le_of_ble_eq_true rfl⟩) ⟨GP.blind, va_recv hE.1 hP (ci := 2) (q0 := 1) rfl rfl, GP.go (wc := [wcS a cn]) hE hP hD hS hA [1] rfl (by decide) [.ref (a 1)]⟩ rfl rfl hl.1 rfl (lv_room (Nat.le_of_ble_eq_true rfl)) dX3_addBox_62 ⟨Nat.le_of_ble_eq_true rfl, Nat.le_of_ble_eq_true rfl⟩) ?_
          refine lv_if_eq (tgt := 78) hx hb dX3_addBox_65 (by decide) (fun c_65 => ?_) (fun c_65 => ?_)
          · refine lv_aload_n hx hb dX3_addBox_78 rfl (lv_at hl 0 rfl) ?_
            refine va_get (D := G.1) (ci := 3) (v := .ref (a 1)) (C := RX3) (T := TX3) (N := 4) hx hb hts iw_X3_addBox_RX3 hown hE.1 hP 0 rfl rfl 0 (by decide) (hts (.fieldLink RX3 12 "Rackrail" "store" "LRackrail$Store;") (by decide +kernel)) (fun _ h9 => h9) rfl dX3_addBox_79 ?_
            refine lv_iload_n hx hb dX3_addBox_82 rfl (lv_at hl 1 rfl) ?_
            refine lv_iload_n hx hb dX3_addBox_83 rfl (lv_at hl 2 rfl) ?_
            refine lv_iload_n hx hb dX3_addBox_84 rfl (lv_at hl 3 rfl) ?_
            refine k_m (wc := [wcS a cn, wcI G (a 3) 20 cl, wcI G (a 4) 20 wt, wcI G (a 5) 20 kn, wcI G (a 6) 20 sp]) (w1 := [wcS a ((f_X2_enter cn cl wt kn sp p0 p1 p2).2.1), wcI G (a 3) 20 ((f_X2_enter cn cl wt kn sp p0 p1 p2).2.2.1), wcI G (a 4) 20 ((f_X2_enter cn cl wt kn sp p0 p1 p2).2.2.2.1), wcI G (a 5) 20 ((f_X2_enter cn cl wt kn sp p0 p1 p2).2.2.2.2.1), wcI G (a 6) 20 ((f_X2_enter cn cl wt kn sp p0 p1 p2).2.2.2.2.2)]) (wn := [wcA a ck, wcS a ((f_X2_enter cn cl wt kn sp p0 p1 p2).2.1), wcI G (a 3) 20 ((f_X2_enter cn cl wt kn sp p0 p1 p2).2.2.1), wcI G (a 4) 20 ((f_X2_enter cn cl wt kn sp p0 p1 p2).2.2.2.1), wcI G (a 5) 20 ((f_X2_enter cn cl wt kn sp p0 p1 p2).2.2.2.2.1), wcI G (a 6) 20 ((f_X2_enter cn cl wt kn sp p0 p1 p2).2.2.2.2.2)]) (va_runV (As := [.int p0, .int p1, .int p2]) (rest := []) ⟨hx, hb, hml, hown, hts⟩ (c_X2_enter l G a s.heap.size cn cl wt kn sp p0 p1 p2 hcn) (cwV 3 hts gX3_addBox_X2_enter rfl rfl rfl ⟨rfl, by decide +kernel, by decide +kernel, by decide +kernel⟩ ⟨Nat.le_of_ble_eq_true rfl, Nat.le_of_ble_eq_true rfl⟩) ⟨GP.blind, va_recv hE.1 hP (ci := 2) (q0 := 1) rfl rfl, GP.go (wc := [wcS a cn, wcI G (a 3) 20 cl, wcI G (a 4) 20 wt, wcI G (a 5) 20 kn, wcI G (a 6) 20 sp]) hE hP hD hS hA [1, 2, 3, 4, 5] rfl (by decide) [.ref (a 1), .int p0, .int p1, .int p2]⟩ rfl rfl hl.1 rfl (lv_room (Nat.le_of_ble_eq_true rfl)) dX3_addBox_85 ⟨Nat.le_of_ble_eq_true rfl, Nat.le_of_ble_eq_true rfl⟩) hP hD hS hA [1, 2, 3, 4, 5] rfl rfl rfl rfl (fun H locs hP hD hS => ?_)
            have hq : f_X3_addBox cn cl wt kn sp p0 p1 p2 = ((f_X2_enter cn cl wt kn sp p0 p1 p2).1, (f_X2_enter cn cl wt kn sp p0 p1 p2).2.1, (f_X2_enter cn cl wt kn sp p0 p1 p2).2.2.1, (f_X2_enter cn cl wt kn sp p0 p1 p2).2.2.2.1, (f_X2_enter cn cl wt kn sp p0 p1 p2).2.2.2.2.1, (f_X2_enter cn cl wt kn sp p0 p1 p2).2.2.2.2.2) := (by rw [f_X3_addBox, if_neg c_5, if_neg c_20, if_pos c_26, if_neg c_45, if_pos c_65])
            exact W.iret (v := (f_X2_enter cn cl wt kn sp p0 p1 p2).1) hx hb hr (fun t ht _ => ⟨by rw [hq], by rw [hq, ht]; exact hP, hS.F ht⟩) hS.2.2 dX3_addBox_88
          · exact absurd (h0.symm.trans (by rw [k_X3_addBox, if_neg c_5, if_neg c_20, if_pos c_26, if_neg c_45, if_neg c_65])) (by decide)
        · exact absurd (h0.symm.trans (by rw [k_X3_addBox, if_neg c_5, if_neg c_20, if_pos c_26, if_pos c_45])) (by decide)
      · exact absurd (h0.symm.trans (by rw [k_X3_addBox, if_neg c_5, if_neg c_20, if_neg c_26])) (by decide)
  · exact absurd (h0.symm.trans (by rw [k_X3_addBox, if_pos c_5])) (by decide)

/-! X3_bestSpot -/
def f_X3_bestSpot (cn : Int32) (sc : Nat → Int32) (cl : Nat → Int32) (wt : Nat → Int32) (kn : Nat → Int32) (sp : Nat → Int32) (p0 : Int32) : Int32 :=
  if k_X3_requireBox cn p0 = 0 then (if k_X3_requireOut cn sp p0 = 0 then f_X2_bestSpotFor cn sc cl wt kn sp p0
      else 0)
    else 0
def k_X3_bestSpot (cn : Int32) (sp : Nat → Int32) (p0 : Int32) : Nat :=
  if k_X3_requireBox cn p0 = 0 then (if k_X3_requireOut cn sp p0 = 0 then 0
      else 3)
    else 1
theorem kr_X3_bestSpot (cn : Int32) (sp : Nat → Int32) (p0 : Int32) : k_X3_bestSpot cn sp p0 = 0 ∨ k_X3_bestSpot cn sp p0 = 1 ∨ k_X3_bestSpot cn sp p0 = 3 := by
  unfold k_X3_bestSpot
  (repeat' split) <;> decide
theorem iw_X3_bestSpot_RX3 : ∀ w ∈ u_ws RX3 TX3 4, w ∈ wsX3_bestSpot := by decide +kernel
set_option maxHeartbeats 4000000 in
set_option maxRecDepth 100000 in
theorem c_X3_bestSpot (l : Launch) (hl9 : l.stackTraces = false) (G : GT) (a : Nat → Nat) (sz : Nat) (ck : Int32) (cn : Int32) (sc : Nat → Int32) (cl : Nat → Int32) (wt : Nat → Int32) (kn : Nat → Int32) (sp : Nat → Int32) (p0 : Int32) (hcn : okN 20 cn) (h0 : k_X3_bestSpot cn sp p0 = 0) : Met l yX3_bestSpot wsX3_bestSpot ({ frames := 6, cells := 0, slots := 0, locals := 137 }) (GP G [.ref (a 0), .int p0] [wcA a ck, wcS a cn, wcI G (a 2) 6 sc, wcI G (a 3) 20 cl, wcI G (a 4) 20 wt, wcI G (a 5) 20 kn, wcI G (a 6) 20 sp] sz) (PQo (.returned (some (.int (f_X3_bestSpot cn sc cl wt kn sp p0))))) 0 0 (fun _ => False) := by
  refine bodyM (cc := cX3_bestSpot) (maxL := 2) (ret := (some .int)) (by decide) rfl (Nat.le_of_ble_eq_true rfl) ?_
  intro p e s m below meth c ls C
  obtain ⟨hx, hb, hr, hts, hown, hlocks, hml, hsz, hP, hE, hD, hA, hS, hl⟩ := C
  subst hsz
  have hl : lv_has ls 2 [(0, .ref (a 0)), (1, .int p0)] := hl
  refine lv_aload_n hx hb dX3_bestSpot_0 rfl (lv_at hl 0 rfl) ?_
  refine lv_iload_n hx hb dX3_bestSpot_1 rfl (lv_at hl 1 rfl) ?_
  have c_2 : k_X3_requireBox cn p0 = 0 := Decidable.byContradiction (fun c_2 => absurd (h0.symm.trans (by rw [k_X3_bestSpot, if_neg c_2])) (by decide))
  refine k_p (va_runV (As := [.int p0]) (rest := []) ⟨hx, hb, hml, hown, hts⟩ (c_X3_requireBox l hl9 G a s.heap.size ck cn p0 c_2) (cwV 1 hts gX3_bestSpot_X3_requireBox rfl rfl rfl ⟨rfl, by decide +kernel, by decide +kernel, by decide +kernel⟩ ⟨Nat.le_of_ble_eq_true rfl, Nat.le_of_ble_eq_true rfl⟩) ⟨GP.blind, va_recv hE.1 hP (ci := 3) (q0 := 0) rfl rfl, GP.go (wc := [wcA a ck, wcS a cn]) hE hP hD hS hA [0, 1] rfl (by decide) [.ref (a 0), .int p0]⟩ rfl rfl hl.1 rfl (lv_room (Nat.le_of_ble_eq_true rfl)) dX3_bestSpot_2 ⟨Nat.le_of_ble_eq_true rfl, Nat.le_of_ble_eq_true rfl⟩) ?_
  refine lv_aload_n hx hb dX3_bestSpot_5 rfl (lv_at hl 0 rfl) ?_
  refine lv_iload_n hx hb dX3_bestSpot_6 rfl (lv_at hl 1 rfl) ?_
  have c_7 : k_X3_requireOut cn sp p0 = 0 := Decidable.byContradiction (fun c_7 => absurd (h0.symm.trans (by rw [k_X3_bestSpot, if_pos c_2, if_neg c_7])) (by decide))
  refine k_p (va_runV (As := [.int p0]) (rest := []) ⟨hx, hb, hml, hown, hts⟩ (c_X3_requireOut l hl9 G a s.heap.size ck cn sp p0 hcn c_7) (cwV 1 hts gX3_bestSpot_X3_requireOut rfl rfl rfl ⟨rfl, by decide +kernel, by decide +kernel, by decide +kernel⟩ ⟨Nat.le_of_ble_eq_true rfl, Nat.le_of_ble_eq_true rfl⟩) ⟨GP.blind, va_recv hE.1 hP (ci := 3) (q0 := 0) rfl rfl, GP.go (wc := [wcA a ck, wcS a cn, wcI G (a 6) 20 sp]) hE hP hD hS hA [0, 1, 6] rfl (by decide) [.ref (a 0), .int p0]⟩ rfl rfl hl.1 rfl (lv_room (Nat.le_of_ble_eq_true rfl)) dX3_bestSpot_7 ⟨Nat.le_of_ble_eq_true rfl, Nat.le_of_ble_eq_true rfl⟩) ?_
  refine lv_aload_n hx hb dX3_bestSpot_10 rfl (lv_at hl 0 rfl) ?_
  refine va_get (D := G.1) (ci := 3) (v := .ref (a 1)) (C := RX3) (T := TX3) (N := 4) hx hb hts iw_X3_bestSpot_RX3 hown hE.1 hP 0 rfl rfl 0 (by decide) (hts (.fieldLink RX3 12 "Rackrail" "store" "LRackrail$Store;") (by decide +kernel)) (fun _ h9 => h9) rfl dX3_bestSpot_11 ?_
  refine lv_iload_n hx hb dX3_bestSpot_14 rfl (lv_at hl 1 rfl) ?_
  refine k_p (va_runV (As := [.int p0]) (rest := []) ⟨hx, hb, hml, hown, hts⟩ (c_X2_bestSpotFor l G a s.heap.size cn sc cl wt kn sp p0 hcn) (cwV 1 hts gX3_bestSpot_X2_bestSpotFor rfl rfl rfl ⟨rfl, by decide +kernel, by decide +kernel, by decide +kernel⟩ ⟨Nat.le_of_ble_eq_true rfl, Nat.le_of_ble_eq_true rfl⟩) ⟨GP.blind, va_recv hE.1 hP (ci := 2) (q0 := 1) rfl rfl, GP.go (wc := [wcS a cn, wcI G (a 2) 6 sc, wcI G (a 3) 20 cl, wcI G (a 4) 20 wt, wcI G (a 5) 20 kn, wcI G (a 6) 20 sp]) hE hP hD hS hA [1, 2, 3, 4, 5, 6] rfl (by decide) [.ref (a 1), .int p0]⟩ rfl rfl hl.1 rfl (lv_room (Nat.le_of_ble_eq_true rfl)) dX3_bestSpot_15 ⟨Nat.le_of_ble_eq_true rfl, Nat.le_of_ble_eq_true rfl⟩) ?_
  have hq : f_X3_bestSpot cn sc cl wt kn sp p0 = (f_X2_bestSpotFor cn sc cl wt kn sp p0) := (by rw [f_X3_bestSpot, if_pos c_2, if_pos c_7])
  exact W.iret (v := f_X2_bestSpotFor cn sc cl wt kn sp p0) hx hb hr (fun t ht _ => ⟨by rw [hq], ht⟩) (fun _ h => nomatch h) dX3_bestSpot_18

/-! X3_lay -/
def f_X3_lay (cn : Int32) (sc : Nat → Int32) (cl : Nat → Int32) (wt : Nat → Int32) (kn : Nat → Int32) (sp : Nat → Int32) (p0 : Int32) : Int32 × (Nat → Int32) :=
  if k_X3_requireBox cn p0 = 0 then (if k_X3_requireOut cn sp p0 = 0 then (if (f_X2_bestSpotFor cn sc cl wt kn sp p0) = (-1) then (0, sp)
        else (f_X2_bestSpotFor cn sc cl wt kn sp p0, f_X2_put cn sp p0 (f_X2_bestSpotFor cn sc cl wt kn sp p0)))
      else (0, sp))
    else (0, sp)
def k_X3_lay (cn : Int32) (sc : Nat → Int32) (cl : Nat → Int32) (wt : Nat → Int32) (kn : Nat → Int32) (sp : Nat → Int32) (p0 : Int32) : Nat :=
  if k_X3_requireBox cn p0 = 0 then (if k_X3_requireOut cn sp p0 = 0 then (if (f_X2_bestSpotFor cn sc cl wt kn sp p0) = (-1) then 3
        else 0)
      else 3)
    else 1
theorem kr_X3_lay (cn : Int32) (sc : Nat → Int32) (cl : Nat → Int32) (wt : Nat → Int32) (kn : Nat → Int32) (sp : Nat → Int32) (p0 : Int32) : k_X3_lay cn sc cl wt kn sp p0 = 0 ∨ k_X3_lay cn sc cl wt kn sp p0 = 1 ∨ k_X3_lay cn sc cl wt kn sp p0 = 3 := by
  unfold k_X3_lay
  (repeat' split) <;> decide
theorem iw_X3_lay_RX3 : ∀ w ∈ u_ws RX3 TX3 4, w ∈ wsX3_lay := by decide +kernel
set_option maxHeartbeats 4000000 in
set_option maxRecDepth 100000 in
theorem c_X3_lay (l : Launch) (hl9 : l.stackTraces = false) (G : GT) (a : Nat → Nat) (sz : Nat) (ck : Int32) (cn : Int32) (sc : Nat → Int32) (cl : Nat → Int32) (wt : Nat → Int32) (kn : Nat → Int32) (sp : Nat → Int32) (p0 : Int32) (hcn : okN 20 cn) (h0 : k_X3_lay cn sc cl wt kn sp p0 = 0) : Met l yX3_lay wsX3_lay ({ frames := 6, cells := 0, slots := 0, locals := 137 }) (GP G [.ref (a 0), .int p0] [wcA a ck, wcS a cn, wcI G (a 2) 6 sc, wcI G (a 3) 20 cl, wcI G (a 4) 20 wt, wcI G (a 5) 20 kn, wcI G (a 6) 20 sp] sz) (MQo G (.returned (some (.int ((f_X3_lay cn sc cl wt kn sp p0).1)))) [wcA a ck, wcS a cn, wcI G (a 2) 6 sc, wcI G (a 3) 20 cl, wcI G (a 4) 20 wt, wcI G (a 5) 20 kn, wcI G (a 6) 20 ((f_X3_lay cn sc cl wt kn sp p0).2)] (va_A [wcA a ck, wcS a cn, wcI G (a 2) 6 sc, wcI G (a 3) 20 cl, wcI G (a 4) 20 wt, wcI G (a 5) 20 kn, wcI G (a 6) 20 sp] sz)) 0 0 (va_A [wcA a ck, wcS a cn, wcI G (a 2) 6 sc, wcI G (a 3) 20 cl, wcI G (a 4) 20 wt, wcI G (a 5) 20 kn, wcI G (a 6) 20 sp] sz) := by
  refine bodyM (cc := cX3_lay) (maxL := 3) (ret := (some .int)) (by decide) rfl (Nat.le_of_ble_eq_true rfl) ?_
  intro p e s m below meth c ls C
  obtain ⟨hx, hb, hr, hts, hown, hlocks, hml, hsz, hP, hE, hD, hA, hS, hl⟩ := C
  subst hsz
  have hl : lv_has ls 3 [(0, .ref (a 0)), (1, .int p0)] := hl
  refine lv_aload_n hx hb dX3_lay_0 rfl (lv_at hl 0 rfl) ?_
  refine lv_iload_n hx hb dX3_lay_1 rfl (lv_at hl 1 rfl) ?_
  have c_2 : k_X3_requireBox cn p0 = 0 := Decidable.byContradiction (fun c_2 => absurd (h0.symm.trans (by rw [k_X3_lay, if_neg c_2])) (by decide))
  refine k_p (va_runV (As := [.int p0]) (rest := []) ⟨hx, hb, hml, hown, hts⟩ (c_X3_requireBox l hl9 G a s.heap.size ck cn p0 c_2) (cwV 1 hts gX3_lay_X3_requireBox rfl rfl rfl ⟨rfl, by decide +kernel, by decide +kernel, by decide +kernel⟩ ⟨Nat.le_of_ble_eq_true rfl, Nat.le_of_ble_eq_true rfl⟩) ⟨GP.blind, va_recv hE.1 hP (ci := 3) (q0 := 0) rfl rfl, GP.go (wc := [wcA a ck, wcS a cn]) hE hP hD hS hA [0, 1] rfl (by decide) [.ref (a 0), .int p0]⟩ rfl rfl hl.1 rfl (lv_room (Nat.le_of_ble_eq_true rfl)) dX3_lay_2 ⟨Nat.le_of_ble_eq_true rfl, Nat.le_of_ble_eq_true rfl⟩) ?_
  refine lv_aload_n hx hb dX3_lay_5 rfl (lv_at hl 0 rfl) ?_
  refine lv_iload_n hx hb dX3_lay_6 rfl (lv_at hl 1 rfl) ?_
  have c_7 : k_X3_requireOut cn sp p0 = 0 := Decidable.byContradiction (fun c_7 => absurd (h0.symm.trans (by rw [k_X3_lay, if_pos c_2, if_neg c_7])) (by decide))
  refine k_p (va_runV (As := [.int p0]) (rest := []) ⟨hx, hb, hml, hown, hts⟩ (c_X3_requireOut l hl9 G a s.heap.size ck cn sp p0 hcn c_7) (cwV 1 hts gX3_lay_X3_requireOut rfl rfl rfl ⟨rfl, by decide +kernel, by decide +kernel, by decide +kernel⟩ ⟨Nat.le_of_ble_eq_true rfl, Nat.le_of_ble_eq_true rfl⟩) ⟨GP.blind, va_recv hE.1 hP (ci := 3) (q0 := 0) rfl rfl, GP.go (wc := [wcA a ck, wcS a cn, wcI G (a 6) 20 sp]) hE hP hD hS hA [0, 1, 6] rfl (by decide) [.ref (a 0), .int p0]⟩ rfl rfl hl.1 rfl (lv_room (Nat.le_of_ble_eq_true rfl)) dX3_lay_7 ⟨Nat.le_of_ble_eq_true rfl, Nat.le_of_ble_eq_true rfl⟩) ?_
  refine lv_aload_n hx hb dX3_lay_10 rfl (lv_at hl 0 rfl) ?_
  refine va_get (D := G.1) (ci := 3) (v := .ref (a 1)) (C := RX3) (T := TX3) (N := 4) hx hb hts iw_X3_lay_RX3 hown hE.1 hP 0 rfl rfl 0 (by decide) (hts (.fieldLink RX3 12 "Rackrail" "store" "LRackrail$Store;") (by decide +kernel)) (fun _ h9 => h9) rfl dX3_lay_11 ?_
  refine lv_iload_n hx hb dX3_lay_14 rfl (lv_at hl 1 rfl) ?_
  refine k_p (va_runV (As := [.int p0]) (rest := []) ⟨hx, hb, hml, hown, hts⟩ (c_X2_bestSpotFor l G a s.heap.size cn sc cl wt kn sp p0 hcn) (cwV 1 hts gX3_lay_X2_bestSpotFor rfl rfl rfl ⟨rfl, by decide +kernel, by decide +kernel, by decide +kernel⟩ ⟨Nat.le_of_ble_eq_true rfl, Nat.le_of_ble_eq_true rfl⟩) ⟨GP.blind, va_recv hE.1 hP (ci := 2) (q0 := 1) rfl rfl, GP.go (wc := [wcS a cn, wcI G (a 2) 6 sc, wcI G (a 3) 20 cl, wcI G (a 4) 20 wt, wcI G (a 5) 20 kn, wcI G (a 6) 20 sp]) hE hP hD hS hA [1, 2, 3, 4, 5, 6] rfl (by decide) [.ref (a 1), .int p0]⟩ rfl rfl hl.1 rfl (lv_room (Nat.le_of_ble_eq_true rfl)) dX3_lay_15 ⟨Nat.le_of_ble_eq_true rfl, Nat.le_of_ble_eq_true rfl⟩) ?_
  refine lv_istore_n (lv' := [(2, .int (f_X2_bestSpotFor cn sc cl wt kn sp p0)), (0, .ref (a 0)), (1, .int p0)]) hx hb dX3_lay_18 rfl hl (by decide) rfl (fun ls hl => ?_)
  refine lv_iload_n hx hb dX3_lay_19 rfl (lv_at hl 0 rfl) ?_
  refine lv_iconst (v := (-1)) hx hb dX3_lay_20 (by decide) ?_
  refine lv_icmp_ne (tgt := 34) hx hb dX3_lay_21 (by decide) (fun c_21 => ?_) (fun c_21 => ?_)
  · refine lv_aload_n hx hb dX3_lay_34 rfl (lv_at hl 1 rfl) ?_
    refine va_get (D := G.1) (ci := 3) (v := .ref (a 1)) (C := RX3) (T := TX3) (N := 4) hx hb hts iw_X3_lay_RX3 hown hE.1 hP 0 rfl rfl 0 (by decide) (hts (.fieldLink RX3 12 "Rackrail" "store" "LRackrail$Store;") (by decide +kernel)) (fun _ h9 => h9) rfl dX3_lay_35 ?_
    refine lv_iload_n hx hb dX3_lay_38 rfl (lv_at hl 2 rfl) ?_
    refine lv_iload_n hx hb dX3_lay_39 rfl (lv_at hl 0 rfl) ?_
    refine k_m (wc := [wcS a cn, wcI G (a 6) 20 sp]) (w1 := [wcS a cn, wcI G (a 6) 20 (f_X2_put cn sp p0 (f_X2_bestSpotFor cn sc cl wt kn sp p0))]) (wn := [wcA a ck, wcS a cn, wcI G (a 2) 6 sc, wcI G (a 3) 20 cl, wcI G (a 4) 20 wt, wcI G (a 5) 20 kn, wcI G (a 6) 20 (f_X2_put cn sp p0 (f_X2_bestSpotFor cn sc cl wt kn sp p0))]) (va_runV (As := [.int p0, .int (f_X2_bestSpotFor cn sc cl wt kn sp p0)]) (rest := []) ⟨hx, hb, hml, hown, hts⟩ (c_X2_put l G a s.heap.size cn sp p0 (f_X2_bestSpotFor cn sc cl wt kn sp p0) hcn) (cwV 2 hts gX3_lay_X2_put rfl rfl rfl ⟨rfl, by decide +kernel, by decide +kernel, by decide +kernel⟩ ⟨Nat.le_of_ble_eq_true rfl, Nat.le_of_ble_eq_true rfl⟩) ⟨GP.blind, va_recv hE.1 hP (ci := 2) (q0 := 1) rfl rfl, GP.go (wc := [wcS a cn, wcI G (a 6) 20 sp]) hE hP hD hS hA [1, 6] rfl (by decide) [.ref (a 1), .int p0, .int (f_X2_bestSpotFor cn sc cl wt kn sp p0)]⟩ rfl rfl hl.1 rfl (lv_room (Nat.le_of_ble_eq_true rfl)) dX3_lay_40 ⟨Nat.le_of_ble_eq_true rfl, Nat.le_of_ble_eq_true rfl⟩) hP hD hS hA [1, 6] rfl rfl rfl rfl (fun H locs hP hD hS => ?_)
    refine lv_iload_n hx hb dX3_lay_43 rfl (lv_at hl 0 rfl) ?_
    have hq : f_X3_lay cn sc cl wt kn sp p0 = (f_X2_bestSpotFor cn sc cl wt kn sp p0, f_X2_put cn sp p0 (f_X2_bestSpotFor cn sc cl wt kn sp p0)) := (by rw [f_X3_lay, if_pos c_2, if_pos c_7, if_neg c_21])
    exact W.iret (v := f_X2_bestSpotFor cn sc cl wt kn sp p0) hx hb hr (fun t ht _ => ⟨by rw [hq], by rw [hq, ht]; exact hP, hS.F ht⟩) hS.2.2 dX3_lay_44
  · exact absurd (h0.symm.trans (by rw [k_X3_lay, if_pos c_2, if_pos c_7, if_pos c_21])) (by decide)

/-! X3_spotOf -/
def f_X3_spotOf (cn : Int32) (sp : Nat → Int32) (p0 : Int32) : Int32 :=
  if k_X3_requireBox cn p0 = 0 then f_X2_whereIs cn sp p0
    else 0
def k_X3_spotOf (cn : Int32) (p0 : Int32) : Nat :=
  if k_X3_requireBox cn p0 = 0 then 0
    else 1
theorem kr_X3_spotOf (cn : Int32) (p0 : Int32) : k_X3_spotOf cn p0 = 0 ∨ k_X3_spotOf cn p0 = 1 := by
  unfold k_X3_spotOf
  (repeat' split) <;> decide
theorem iw_X3_spotOf_RX3 : ∀ w ∈ u_ws RX3 TX3 4, w ∈ wsX3_spotOf := by decide +kernel
set_option maxHeartbeats 4000000 in
set_option maxRecDepth 100000 in
theorem c_X3_spotOf (l : Launch) (hl9 : l.stackTraces = false) (G : GT) (a : Nat → Nat) (sz : Nat) (ck : Int32) (cn : Int32) (sp : Nat → Int32) (p0 : Int32) (hcn : okN 20 cn) (h0 : k_X3_spotOf cn p0 = 0) : Met l yX3_spotOf wsX3_spotOf ({ frames := 3, cells := 0, slots := 0, locals := 63 }) (GP G [.ref (a 0), .int p0] [wcA a ck, wcS a cn, wcI G (a 6) 20 sp] sz) (PQo (.returned (some (.int (f_X3_spotOf cn sp p0))))) 0 0 (fun _ => False) := by
  refine bodyM (cc := cX3_spotOf) (maxL := 2) (ret := (some .int)) (by decide) rfl (Nat.le_of_ble_eq_true rfl) ?_
  intro p e s m below meth c ls C
  obtain ⟨hx, hb, hr, hts, hown, hlocks, hml, hsz, hP, hE, hD, hA, hS, hl⟩ := C
  subst hsz
  have hl : lv_has ls 2 [(0, .ref (a 0)), (1, .int p0)] := hl
  refine lv_aload_n hx hb dX3_spotOf_0 rfl (lv_at hl 0 rfl) ?_
  refine lv_iload_n hx hb dX3_spotOf_1 rfl (lv_at hl 1 rfl) ?_
  have c_2 : k_X3_requireBox cn p0 = 0 := Decidable.byContradiction (fun c_2 => absurd (h0.symm.trans (by rw [k_X3_spotOf, if_neg c_2])) (by decide))
  refine k_p (va_runV (As := [.int p0]) (rest := []) ⟨hx, hb, hml, hown, hts⟩ (c_X3_requireBox l hl9 G a s.heap.size ck cn p0 c_2) (cwV 1 hts gX3_spotOf_X3_requireBox rfl rfl rfl ⟨rfl, by decide +kernel, by decide +kernel, by decide +kernel⟩ ⟨Nat.le_of_ble_eq_true rfl, Nat.le_of_ble_eq_true rfl⟩) ⟨GP.blind, va_recv hE.1 hP (ci := 3) (q0 := 0) rfl rfl, GP.go (wc := [wcA a ck, wcS a cn]) hE hP hD hS hA [0, 1] rfl (by decide) [.ref (a 0), .int p0]⟩ rfl rfl hl.1 rfl (lv_room (Nat.le_of_ble_eq_true rfl)) dX3_spotOf_2 ⟨Nat.le_of_ble_eq_true rfl, Nat.le_of_ble_eq_true rfl⟩) ?_
  refine lv_aload_n hx hb dX3_spotOf_5 rfl (lv_at hl 0 rfl) ?_
  refine va_get (D := G.1) (ci := 3) (v := .ref (a 1)) (C := RX3) (T := TX3) (N := 4) hx hb hts iw_X3_spotOf_RX3 hown hE.1 hP 0 rfl rfl 0 (by decide) (hts (.fieldLink RX3 12 "Rackrail" "store" "LRackrail$Store;") (by decide +kernel)) (fun _ h9 => h9) rfl dX3_spotOf_6 ?_
  refine lv_iload_n hx hb dX3_spotOf_9 rfl (lv_at hl 1 rfl) ?_
  refine k_p (va_runV (As := [.int p0]) (rest := []) ⟨hx, hb, hml, hown, hts⟩ (c_X2_whereIs l G a s.heap.size cn sp p0 hcn) (cwV 1 hts gX3_spotOf_X2_whereIs rfl rfl rfl ⟨rfl, by decide +kernel, by decide +kernel, by decide +kernel⟩ ⟨Nat.le_of_ble_eq_true rfl, Nat.le_of_ble_eq_true rfl⟩) ⟨GP.blind, va_recv hE.1 hP (ci := 2) (q0 := 1) rfl rfl, GP.go (wc := [wcS a cn, wcI G (a 6) 20 sp]) hE hP hD hS hA [1, 2] rfl (by decide) [.ref (a 1), .int p0]⟩ rfl rfl hl.1 rfl (lv_room (Nat.le_of_ble_eq_true rfl)) dX3_spotOf_10 ⟨Nat.le_of_ble_eq_true rfl, Nat.le_of_ble_eq_true rfl⟩) ?_
  have hq : f_X3_spotOf cn sp p0 = (f_X2_whereIs cn sp p0) := (by rw [f_X3_spotOf, if_pos c_2])
  exact W.iret (v := f_X2_whereIs cn sp p0) hx hb hr (fun t ht _ => ⟨by rw [hq], ht⟩) (fun _ h => nomatch h) dX3_spotOf_13

/-! X3_boxAt -/
def f_X3_boxAt (cn : Int32) (sp : Nat → Int32) (p0 : Int32) : Int32 :=
  if k_X3_requireSpot p0 = 0 then f_X2_boxIn cn sp p0
    else 0
def k_X3_boxAt (p0 : Int32) : Nat :=
  if k_X3_requireSpot p0 = 0 then 0
    else 1
theorem kr_X3_boxAt (p0 : Int32) : k_X3_boxAt p0 = 0 ∨ k_X3_boxAt p0 = 1 := by
  unfold k_X3_boxAt
  (repeat' split) <;> decide
theorem iw_X3_boxAt_RX3 : ∀ w ∈ u_ws RX3 TX3 4, w ∈ wsX3_boxAt := by decide +kernel
set_option maxHeartbeats 4000000 in
set_option maxRecDepth 100000 in
theorem c_X3_boxAt (l : Launch) (hl9 : l.stackTraces = false) (G : GT) (a : Nat → Nat) (sz : Nat) (ck : Int32) (cn : Int32) (sp : Nat → Int32) (p0 : Int32) (hcn : okN 20 cn) (h0 : k_X3_boxAt p0 = 0) : Met l yX3_boxAt wsX3_boxAt ({ frames := 3, cells := 0, slots := 0, locals := 61 }) (GP G [.ref (a 0), .int p0] [wcA a ck, wcS a cn, wcI G (a 6) 20 sp] sz) (PQo (.returned (some (.int (f_X3_boxAt cn sp p0))))) 0 0 (fun _ => False) := by
  refine bodyM (cc := cX3_boxAt) (maxL := 2) (ret := (some .int)) (by decide) rfl (Nat.le_of_ble_eq_true rfl) ?_
  intro p e s m below meth c ls C
  obtain ⟨hx, hb, hr, hts, hown, hlocks, hml, hsz, hP, hE, hD, hA, hS, hl⟩ := C
  subst hsz
  have hl : lv_has ls 2 [(0, .ref (a 0)), (1, .int p0)] := hl
  refine lv_aload_n hx hb dX3_boxAt_0 rfl (lv_at hl 0 rfl) ?_
  refine lv_iload_n hx hb dX3_boxAt_1 rfl (lv_at hl 1 rfl) ?_
  have c_2 : k_X3_requireSpot p0 = 0 := Decidable.byContradiction (fun c_2 => absurd (h0.symm.trans (by rw [k_X3_boxAt, if_neg c_2])) (by decide))
  refine k_p (va_runV (As := [.int p0]) (rest := []) ⟨hx, hb, hml, hown, hts⟩ (c_X3_requireSpot l hl9 G a s.heap.size p0 c_2) (cwV 1 hts gX3_boxAt_X3_requireSpot rfl rfl rfl ⟨rfl, by decide +kernel, by decide +kernel, by decide +kernel⟩ ⟨Nat.le_of_ble_eq_true rfl, Nat.le_of_ble_eq_true rfl⟩) ⟨GP.blind, va_recv hE.1 hP (ci := 3) (q0 := 0) rfl rfl, GP.go (wc := []) hE hP hD hS hA [] rfl (by decide) [.ref (a 0), .int p0]⟩ rfl rfl hl.1 rfl (lv_room (Nat.le_of_ble_eq_true rfl)) dX3_boxAt_2 ⟨Nat.le_of_ble_eq_true rfl, Nat.le_of_ble_eq_true rfl⟩) ?_
  refine lv_aload_n hx hb dX3_boxAt_5 rfl (lv_at hl 0 rfl) ?_
  refine va_get (D := G.1) (ci := 3) (v := .ref (a 1)) (C := RX3) (T := TX3) (N := 4) hx hb hts iw_X3_boxAt_RX3 hown hE.1 hP 0 rfl rfl 0 (by decide) (hts (.fieldLink RX3 12 "Rackrail" "store" "LRackrail$Store;") (by decide +kernel)) (fun _ h9 => h9) rfl dX3_boxAt_6 ?_
  refine lv_iload_n hx hb dX3_boxAt_9 rfl (lv_at hl 1 rfl) ?_
  refine k_p (va_runV (As := [.int p0]) (rest := []) ⟨hx, hb, hml, hown, hts⟩ (c_X2_boxIn l G a s.heap.size cn sp p0 hcn) (cwV 1 hts gX3_boxAt_X2_boxIn rfl rfl rfl ⟨rfl, by decide +kernel, by decide +kernel, by decide +kernel⟩ ⟨Nat.le_of_ble_eq_true rfl, Nat.le_of_ble_eq_true rfl⟩) ⟨GP.blind, va_recv hE.1 hP (ci := 2) (q0 := 1) rfl rfl, GP.go (wc := [wcS a cn, wcI G (a 6) 20 sp]) hE hP hD hS hA [1, 2] rfl (by decide) [.ref (a 1), .int p0]⟩ rfl rfl hl.1 rfl (lv_room (Nat.le_of_ble_eq_true rfl)) dX3_boxAt_10 ⟨Nat.le_of_ble_eq_true rfl, Nat.le_of_ble_eq_true rfl⟩) ?_
  have hq : f_X3_boxAt cn sp p0 = (f_X2_boxIn cn sp p0) := (by rw [f_X3_boxAt, if_pos c_2])
  exact W.iret (v := f_X2_boxIn cn sp p0) hx hb hr (fun t ht _ => ⟨by rw [hq], ht⟩) (fun _ h => nomatch h) dX3_boxAt_13

/-! X3_weight -/
def f_X3_weight (cn : Int32) (wt : Nat → Int32) (sp : Nat → Int32) (p0 : Int32) : Int32 :=
  if k_X3_requireShelf p0 = 0 then f_X2_weightOn cn wt sp p0
    else 0
def k_X3_weight (p0 : Int32) : Nat :=
  if k_X3_requireShelf p0 = 0 then 0
    else 1
theorem kr_X3_weight (p0 : Int32) : k_X3_weight p0 = 0 ∨ k_X3_weight p0 = 1 := by
  unfold k_X3_weight
  (repeat' split) <;> decide
theorem iw_X3_weight_RX3 : ∀ w ∈ u_ws RX3 TX3 4, w ∈ wsX3_weight := by decide +kernel
set_option maxHeartbeats 4000000 in
set_option maxRecDepth 100000 in
theorem c_X3_weight (l : Launch) (hl9 : l.stackTraces = false) (G : GT) (a : Nat → Nat) (sz : Nat) (ck : Int32) (cn : Int32) (wt : Nat → Int32) (sp : Nat → Int32) (p0 : Int32) (hcn : okN 20 cn) (h0 : k_X3_weight p0 = 0) : Met l yX3_weight wsX3_weight ({ frames := 5, cells := 0, slots := 0, locals := 109 }) (GP G [.ref (a 0), .int p0] [wcA a ck, wcS a cn, wcI G (a 4) 20 wt, wcI G (a 6) 20 sp] sz) (PQo (.returned (some (.int (f_X3_weight cn wt sp p0))))) 0 0 (fun _ => False) := by
  refine bodyM (cc := cX3_weight) (maxL := 2) (ret := (some .int)) (by decide) rfl (Nat.le_of_ble_eq_true rfl) ?_
  intro p e s m below meth c ls C
  obtain ⟨hx, hb, hr, hts, hown, hlocks, hml, hsz, hP, hE, hD, hA, hS, hl⟩ := C
  subst hsz
  have hl : lv_has ls 2 [(0, .ref (a 0)), (1, .int p0)] := hl
  refine lv_aload_n hx hb dX3_weight_0 rfl (lv_at hl 0 rfl) ?_
  refine lv_iload_n hx hb dX3_weight_1 rfl (lv_at hl 1 rfl) ?_
  have c_2 : k_X3_requireShelf p0 = 0 := Decidable.byContradiction (fun c_2 => absurd (h0.symm.trans (by rw [k_X3_weight, if_neg c_2])) (by decide))
  refine k_p (va_runV (As := [.int p0]) (rest := []) ⟨hx, hb, hml, hown, hts⟩ (c_X3_requireShelf l hl9 G a s.heap.size p0 c_2) (cwV 1 hts gX3_weight_X3_requireShelf rfl rfl rfl ⟨rfl, by decide +kernel, by decide +kernel, by decide +kernel⟩ ⟨Nat.le_of_ble_eq_true rfl, Nat.le_of_ble_eq_true rfl⟩) ⟨GP.blind, va_recv hE.1 hP (ci := 3) (q0 := 0) rfl rfl, GP.go (wc := []) hE hP hD hS hA [] rfl (by decide) [.ref (a 0), .int p0]⟩ rfl rfl hl.1 rfl (lv_room (Nat.le_of_ble_eq_true rfl)) dX3_weight_2 ⟨Nat.le_of_ble_eq_true rfl, Nat.le_of_ble_eq_true rfl⟩) ?_
  refine lv_aload_n hx hb dX3_weight_5 rfl (lv_at hl 0 rfl) ?_
  refine va_get (D := G.1) (ci := 3) (v := .ref (a 1)) (C := RX3) (T := TX3) (N := 4) hx hb hts iw_X3_weight_RX3 hown hE.1 hP 0 rfl rfl 0 (by decide) (hts (.fieldLink RX3 12 "Rackrail" "store" "LRackrail$Store;") (by decide +kernel)) (fun _ h9 => h9) rfl dX3_weight_6 ?_
  refine lv_iload_n hx hb dX3_weight_9 rfl (lv_at hl 1 rfl) ?_
  refine k_p (va_runV (As := [.int p0]) (rest := []) ⟨hx, hb, hml, hown, hts⟩ (c_X2_weightOn l G a s.heap.size cn wt sp p0 hcn) (cwV 1 hts gX3_weight_X2_weightOn rfl rfl rfl ⟨rfl, by decide +kernel, by decide +kernel, by decide +kernel⟩ ⟨Nat.le_of_ble_eq_true rfl, Nat.le_of_ble_eq_true rfl⟩) ⟨GP.blind, va_recv hE.1 hP (ci := 2) (q0 := 1) rfl rfl, GP.go (wc := [wcS a cn, wcI G (a 4) 20 wt, wcI G (a 6) 20 sp]) hE hP hD hS hA [1, 2, 3] rfl (by decide) [.ref (a 1), .int p0]⟩ rfl rfl hl.1 rfl (lv_room (Nat.le_of_ble_eq_true rfl)) dX3_weight_10 ⟨Nat.le_of_ble_eq_true rfl, Nat.le_of_ble_eq_true rfl⟩) ?_
  have hq : f_X3_weight cn wt sp p0 = (f_X2_weightOn cn wt sp p0) := (by rw [f_X3_weight, if_pos c_2])
  exact W.iret (v := f_X2_weightOn cn wt sp p0) hx hb hr (fun t ht _ => ⟨by rw [hq], ht⟩) (fun _ h => nomatch h) dX3_weight_13

/-! X3_wrong -/
def f_X3_wrong (cn : Int32) (sc : Nat → Int32) (cl : Nat → Int32) (sp : Nat → Int32) : Int32 :=
  f_X2_countWrong cn sc cl sp
theorem iw_X3_wrong_RX3 : ∀ w ∈ u_ws RX3 TX3 4, w ∈ wsX3_wrong := by decide +kernel
set_option maxHeartbeats 4000000 in
set_option maxRecDepth 100000 in
theorem c_X3_wrong (l : Launch) (G : GT) (a : Nat → Nat) (sz : Nat) (ck : Int32) (cn : Int32) (sc : Nat → Int32) (cl : Nat → Int32) (sp : Nat → Int32) (hcn : okN 20 cn) : Met l yX3_wrong wsX3_wrong ({ frames := 5, cells := 0, slots := 0, locals := 107 }) (GP G [.ref (a 0)] [wcA a ck, wcS a cn, wcI G (a 2) 6 sc, wcI G (a 3) 20 cl, wcI G (a 6) 20 sp] sz) (PQo (.returned (some (.int (f_X3_wrong cn sc cl sp))))) 0 0 (fun _ => False) := by
  refine bodyM (cc := cX3_wrong) (maxL := 1) (ret := (some .int)) (by decide) rfl (Nat.le_of_ble_eq_true rfl) ?_
  intro p e s m below meth c ls C
  obtain ⟨hx, hb, hr, hts, hown, hlocks, hml, hsz, hP, hE, hD, hA, hS, hl⟩ := C
  subst hsz
  have hl : lv_has ls 1 [(0, .ref (a 0))] := hl
  refine lv_aload_n hx hb dX3_wrong_0 rfl (lv_at hl 0 rfl) ?_
  refine va_get (D := G.1) (ci := 3) (v := .ref (a 1)) (C := RX3) (T := TX3) (N := 4) hx hb hts iw_X3_wrong_RX3 hown hE.1 hP 0 rfl rfl 0 (by decide) (hts (.fieldLink RX3 12 "Rackrail" "store" "LRackrail$Store;") (by decide +kernel)) (fun _ h9 => h9) rfl dX3_wrong_1 ?_
  refine k_p (va_runV (As := []) (rest := []) ⟨hx, hb, hml, hown, hts⟩ (c_X2_countWrong l G a s.heap.size cn sc cl sp hcn) (cwV 0 hts gX3_wrong_X2_countWrong rfl rfl rfl ⟨rfl, by decide +kernel, by decide +kernel, by decide +kernel⟩ ⟨Nat.le_of_ble_eq_true rfl, Nat.le_of_ble_eq_true rfl⟩) ⟨GP.blind, va_recv hE.1 hP (ci := 2) (q0 := 1) rfl rfl, GP.go (wc := [wcS a cn, wcI G (a 2) 6 sc, wcI G (a 3) 20 cl, wcI G (a 6) 20 sp]) hE hP hD hS hA [1, 2, 3, 4] rfl (by decide) [.ref (a 1)]⟩ rfl rfl hl.1 rfl (lv_room (Nat.le_of_ble_eq_true rfl)) dX3_wrong_4 ⟨Nat.le_of_ble_eq_true rfl, Nat.le_of_ble_eq_true rfl⟩) ?_
  have hq : f_X3_wrong cn sc cl sp = (f_X2_countWrong cn sc cl sp) := (by rw [f_X3_wrong])
  exact W.iret (v := f_X2_countWrong cn sc cl sp) hx hb hr (fun t ht _ => ⟨by rw [hq], ht⟩) (fun _ h => nomatch h) dX3_wrong_7

