/-! X3_requireShelf -/
def k_X3_requireShelf (p0 : Int32) : Nat :=
  if (f_X3_isBelow p0 6) = 0 then 1
    else 0
theorem kr_X3_requireShelf (p0 : Int32) : k_X3_requireShelf p0 = 0 ∨ k_X3_requireShelf p0 = 1 := by
  unfold k_X3_requireShelf
  (repeat' split) <;> decide
set_option maxHeartbeats 4000000 in
set_option maxRecDepth 100000 in
theorem c_X3_requireShelf (l : Launch) (hl9 : l.stackTraces = false) (G : GT) (a : Nat → Nat) (sz : Nat) (p0 : Int32) (h0 : k_X3_requireShelf p0 = 0) : Met l yX3_requireShelf wsX3_requireShelf ({ frames := 6, cells := 0, slots := 0, locals := 90 }) (GP G [.ref (a 0), .int p0] [] sz) (PQo (.returned none)) 0 0 (fun _ => False) := by
  refine bodyM (cc := cX3_requireShelf) (maxL := 2) (ret := none) (by decide) rfl (Nat.le_of_ble_eq_true rfl) ?_
  intro p e s m below meth c ls C
  obtain ⟨hx, hb, hr, hts, hown, hlocks, hml, hsz, hP, hE, hD, hZ, hA, hS, hl⟩ := C
  subst hsz
  have hl : lv_has ls 2 [(0, .ref (a 0)), (1, .int p0)] := hl
  refine lv_iload_n hx hb dX3_requireShelf_0 rfl (lv_at hl 1 rfl) ?_
  refine lv_bipush (v := 6) hx hb dX3_requireShelf_1 (by decide) ?_
  refine k_p (va_runS (As := [.int p0, .int 6]) (rest := []) ⟨hx, hb, hml, hown, hts⟩ (c_X3_isBelow l G s.heap.size p0 6) (va_cwS 2 hts gX3_requireShelf_X3_isBelow rfl rfl rfl ⟨by decide +kernel, by decide +kernel, by decide +kernel⟩ ⟨Nat.le_of_ble_eq_true rfl, Nat.le_of_ble_eq_true rfl⟩) ⟨GP.blind, GP.go (wc := []) hE hZ hP hD hS hA [] rfl (by decide) [.int p0, .int 6]⟩ rfl rfl hl.1 rfl (lv_room (Nat.le_of_ble_eq_true rfl)) dX3_requireShelf_3 ⟨Nat.le_of_ble_eq_true rfl, Nat.le_of_ble_eq_true rfl⟩) ?_
  refine lv_if_ne (tgt := 19) hx hb dX3_requireShelf_6 (by decide) (fun c_6 => ?_) (fun c_6 => ?_)
  · exact W.vret hx hb hr (fun t ht _ => ⟨rfl, ht⟩) (fun _ h => nomatch h) dX3_requireShelf_19
  · exact absurd (h0.symm.trans (by rw [k_X3_requireShelf, if_pos c_6])) (by decide)

theorem gx1_X3_requireShelf : ∀ w ∈ (vx_atS RX3 222 (exn 1) xnames).filter goodWord, w ∈ wsX3_requireShelf := by decide +kernel
set_option maxHeartbeats 4000000 in
set_option maxRecDepth 100000 in
theorem cx_X3_requireShelf (l : Launch) (hl9 : l.stackTraces = false) (G : GT) (a : Nat → Nat) (sz : Nat) (p0 : Int32) (h0 : ¬ k_X3_requireShelf p0 = 0) : vx_Met l yX3_requireShelf wsX3_requireShelf ({ frames := 6, cells := 1, slots := 6, locals := 90 }) (GP G [.ref (a 0), .int p0] [] sz) NQ (XQ 1) 1 6 (fun _ => False) := by
  refine bodyX (cc := cX3_requireShelf) (maxL := 2) (ret := none) (by decide) rfl (Nat.le_of_ble_eq_true rfl) ?_
  intro p e s m below meth c ls C ht
  obtain ⟨hx, hb, hr, hts, hown, hlocks, hml, hsz, hP, hE, hD, hZ, hA, hS, hl⟩ := C
  subst hsz
  have hl : lv_has ls 2 [(0, .ref (a 0)), (1, .int p0)] := hl
  refine lv_iload_n hx hb dX3_requireShelf_0 rfl (lv_at hl 1 rfl) ?_
  refine lv_bipush (v := 6) hx hb dX3_requireShelf_1 (by decide) ?_
  refine k_p (va_runS (As := [.int p0, .int 6]) (rest := []) ⟨hx, hb, hml, hown, hts⟩ (c_X3_isBelow l G s.heap.size p0 6) (va_cwS 2 hts gX3_requireShelf_X3_isBelow rfl rfl rfl ⟨by decide +kernel, by decide +kernel, by decide +kernel⟩ ⟨Nat.le_of_ble_eq_true rfl, Nat.le_of_ble_eq_true rfl⟩) ⟨GP.blind, GP.go (wc := []) hE hZ hP hD hS hA [] rfl (by decide) [.int p0, .int 6]⟩ rfl rfl hl.1 rfl (lv_room (Nat.le_of_ble_eq_true rfl)) dX3_requireShelf_3 ⟨Nat.le_of_ble_eq_true rfl, Nat.le_of_ble_eq_true rfl⟩) ?_
  refine lv_if_ne (tgt := 19) hx hb dX3_requireShelf_6 (by decide) (fun c_6 => ?_) (fun c_6 => ?_)
  · exact absurd (by rw [k_X3_requireShelf, if_neg c_6]) h0
  · exact k_thr (k := 1) (ik := 218) (is := 220) (ic := 222) (by decide) thr_f1 thr_o1 thr_b1 (tx := "no such shelf") (by decide) hx hb hl9 hown (hts (.classLink RX3 218 (exn 1)) (by decide +kernel)) (hts (.initialized (exn 1)) (by decide +kernel)) (fun w h => hts w (gx1_X3_requireShelf w h)) hE hZ hS (hl.1.trans hml.symm) ht hlocks dX3_requireShelf_9 dX3_requireShelf_12 dX3_requireShelf_13 dX3_requireShelf_15 dX3_requireShelf_18 (Nat.le_of_ble_eq_true rfl) (Nat.le_of_ble_eq_true rfl) (Nat.le_of_ble_eq_true rfl) (Nat.le_of_ble_eq_true rfl) rfl

/-! X3_requireAisle -/
def k_X3_requireAisle (p0 : Int32) : Nat :=
  if (f_X3_isBelow p0 7) = 0 then 1
    else 0
theorem kr_X3_requireAisle (p0 : Int32) : k_X3_requireAisle p0 = 0 ∨ k_X3_requireAisle p0 = 1 := by
  unfold k_X3_requireAisle
  (repeat' split) <;> decide
set_option maxHeartbeats 4000000 in
set_option maxRecDepth 100000 in
theorem c_X3_requireAisle (l : Launch) (hl9 : l.stackTraces = false) (G : GT) (a : Nat → Nat) (sz : Nat) (p0 : Int32) (h0 : k_X3_requireAisle p0 = 0) : Met l yX3_requireAisle wsX3_requireAisle ({ frames := 6, cells := 0, slots := 0, locals := 90 }) (GP G [.ref (a 0), .int p0] [] sz) (PQo (.returned none)) 0 0 (fun _ => False) := by
  refine bodyM (cc := cX3_requireAisle) (maxL := 2) (ret := none) (by decide) rfl (Nat.le_of_ble_eq_true rfl) ?_
  intro p e s m below meth c ls C
  obtain ⟨hx, hb, hr, hts, hown, hlocks, hml, hsz, hP, hE, hD, hZ, hA, hS, hl⟩ := C
  subst hsz
  have hl : lv_has ls 2 [(0, .ref (a 0)), (1, .int p0)] := hl
  refine lv_iload_n hx hb dX3_requireAisle_0 rfl (lv_at hl 1 rfl) ?_
  refine lv_bipush (v := 7) hx hb dX3_requireAisle_1 (by decide) ?_
  refine k_p (va_runS (As := [.int p0, .int 7]) (rest := []) ⟨hx, hb, hml, hown, hts⟩ (c_X3_isBelow l G s.heap.size p0 7) (va_cwS 2 hts gX3_requireAisle_X3_isBelow rfl rfl rfl ⟨by decide +kernel, by decide +kernel, by decide +kernel⟩ ⟨Nat.le_of_ble_eq_true rfl, Nat.le_of_ble_eq_true rfl⟩) ⟨GP.blind, GP.go (wc := []) hE hZ hP hD hS hA [] rfl (by decide) [.int p0, .int 7]⟩ rfl rfl hl.1 rfl (lv_room (Nat.le_of_ble_eq_true rfl)) dX3_requireAisle_3 ⟨Nat.le_of_ble_eq_true rfl, Nat.le_of_ble_eq_true rfl⟩) ?_
  refine lv_if_ne (tgt := 19) hx hb dX3_requireAisle_6 (by decide) (fun c_6 => ?_) (fun c_6 => ?_)
  · exact W.vret hx hb hr (fun t ht _ => ⟨rfl, ht⟩) (fun _ h => nomatch h) dX3_requireAisle_19
  · exact absurd (h0.symm.trans (by rw [k_X3_requireAisle, if_pos c_6])) (by decide)

theorem gx1_X3_requireAisle : ∀ w ∈ (vx_atS RX3 222 (exn 1) xnames).filter goodWord, w ∈ wsX3_requireAisle := by decide +kernel
set_option maxHeartbeats 4000000 in
set_option maxRecDepth 100000 in
theorem cx_X3_requireAisle (l : Launch) (hl9 : l.stackTraces = false) (G : GT) (a : Nat → Nat) (sz : Nat) (p0 : Int32) (h0 : ¬ k_X3_requireAisle p0 = 0) : vx_Met l yX3_requireAisle wsX3_requireAisle ({ frames := 6, cells := 1, slots := 6, locals := 90 }) (GP G [.ref (a 0), .int p0] [] sz) NQ (XQ 1) 1 6 (fun _ => False) := by
  refine bodyX (cc := cX3_requireAisle) (maxL := 2) (ret := none) (by decide) rfl (Nat.le_of_ble_eq_true rfl) ?_
  intro p e s m below meth c ls C ht
  obtain ⟨hx, hb, hr, hts, hown, hlocks, hml, hsz, hP, hE, hD, hZ, hA, hS, hl⟩ := C
  subst hsz
  have hl : lv_has ls 2 [(0, .ref (a 0)), (1, .int p0)] := hl
  refine lv_iload_n hx hb dX3_requireAisle_0 rfl (lv_at hl 1 rfl) ?_
  refine lv_bipush (v := 7) hx hb dX3_requireAisle_1 (by decide) ?_
  refine k_p (va_runS (As := [.int p0, .int 7]) (rest := []) ⟨hx, hb, hml, hown, hts⟩ (c_X3_isBelow l G s.heap.size p0 7) (va_cwS 2 hts gX3_requireAisle_X3_isBelow rfl rfl rfl ⟨by decide +kernel, by decide +kernel, by decide +kernel⟩ ⟨Nat.le_of_ble_eq_true rfl, Nat.le_of_ble_eq_true rfl⟩) ⟨GP.blind, GP.go (wc := []) hE hZ hP hD hS hA [] rfl (by decide) [.int p0, .int 7]⟩ rfl rfl hl.1 rfl (lv_room (Nat.le_of_ble_eq_true rfl)) dX3_requireAisle_3 ⟨Nat.le_of_ble_eq_true rfl, Nat.le_of_ble_eq_true rfl⟩) ?_
  refine lv_if_ne (tgt := 19) hx hb dX3_requireAisle_6 (by decide) (fun c_6 => ?_) (fun c_6 => ?_)
  · exact absurd (by rw [k_X3_requireAisle, if_neg c_6]) h0
  · exact k_thr (k := 1) (ik := 218) (is := 223) (ic := 222) (by decide) thr_f1 thr_o1 thr_b1 (tx := "no such aisle") (by decide) hx hb hl9 hown (hts (.classLink RX3 218 (exn 1)) (by decide +kernel)) (hts (.initialized (exn 1)) (by decide +kernel)) (fun w h => hts w (gx1_X3_requireAisle w h)) hE hZ hS (hl.1.trans hml.symm) ht hlocks dX3_requireAisle_9 dX3_requireAisle_12 dX3_requireAisle_13 dX3_requireAisle_15 dX3_requireAisle_18 (Nat.le_of_ble_eq_true rfl) (Nat.le_of_ble_eq_true rfl) (Nat.le_of_ble_eq_true rfl) (Nat.le_of_ble_eq_true rfl) rfl

/-! X3_requireSpot -/
def k_X3_requireSpot (p0 : Int32) : Nat :=
  if (f_X3_isSpot p0) = 0 then 1
    else 0
theorem kr_X3_requireSpot (p0 : Int32) : k_X3_requireSpot p0 = 0 ∨ k_X3_requireSpot p0 = 1 := by
  unfold k_X3_requireSpot
  (repeat' split) <;> decide
set_option maxHeartbeats 4000000 in
set_option maxRecDepth 100000 in
theorem c_X3_requireSpot (l : Launch) (hl9 : l.stackTraces = false) (G : GT) (a : Nat → Nat) (sz : Nat) (p0 : Int32) (h0 : k_X3_requireSpot p0 = 0) : Met l yX3_requireSpot wsX3_requireSpot ({ frames := 6, cells := 0, slots := 0, locals := 90 }) (GP G [.ref (a 0), .int p0] [] sz) (PQo (.returned none)) 0 0 (fun _ => False) := by
  refine bodyM (cc := cX3_requireSpot) (maxL := 2) (ret := none) (by decide) rfl (Nat.le_of_ble_eq_true rfl) ?_
  intro p e s m below meth c ls C
  obtain ⟨hx, hb, hr, hts, hown, hlocks, hml, hsz, hP, hE, hD, hZ, hA, hS, hl⟩ := C
  subst hsz
  have hl : lv_has ls 2 [(0, .ref (a 0)), (1, .int p0)] := hl
  refine lv_iload_n hx hb dX3_requireSpot_0 rfl (lv_at hl 1 rfl) ?_
  refine k_p (va_runS (As := [.int p0]) (rest := []) ⟨hx, hb, hml, hown, hts⟩ (c_X3_isSpot l G s.heap.size p0) (va_cwS 1 hts gX3_requireSpot_X3_isSpot rfl rfl rfl ⟨by decide +kernel, by decide +kernel, by decide +kernel⟩ ⟨Nat.le_of_ble_eq_true rfl, Nat.le_of_ble_eq_true rfl⟩) ⟨GP.blind, GP.go (wc := []) hE hZ hP hD hS hA [] rfl (by decide) [.int p0]⟩ rfl rfl hl.1 rfl (lv_room (Nat.le_of_ble_eq_true rfl)) dX3_requireSpot_1 ⟨Nat.le_of_ble_eq_true rfl, Nat.le_of_ble_eq_true rfl⟩) ?_
  refine lv_if_ne (tgt := 17) hx hb dX3_requireSpot_4 (by decide) (fun c_4 => ?_) (fun c_4 => ?_)
  · exact W.vret hx hb hr (fun t ht _ => ⟨rfl, ht⟩) (fun _ h => nomatch h) dX3_requireSpot_17
  · exact absurd (h0.symm.trans (by rw [k_X3_requireSpot, if_pos c_4])) (by decide)

theorem gx1_X3_requireSpot : ∀ w ∈ (vx_atS RX3 222 (exn 1) xnames).filter goodWord, w ∈ wsX3_requireSpot := by decide +kernel
set_option maxHeartbeats 4000000 in
set_option maxRecDepth 100000 in
theorem cx_X3_requireSpot (l : Launch) (hl9 : l.stackTraces = false) (G : GT) (a : Nat → Nat) (sz : Nat) (p0 : Int32) (h0 : ¬ k_X3_requireSpot p0 = 0) : vx_Met l yX3_requireSpot wsX3_requireSpot ({ frames := 6, cells := 1, slots := 6, locals := 90 }) (GP G [.ref (a 0), .int p0] [] sz) NQ (XQ 1) 1 6 (fun _ => False) := by
  refine bodyX (cc := cX3_requireSpot) (maxL := 2) (ret := none) (by decide) rfl (Nat.le_of_ble_eq_true rfl) ?_
  intro p e s m below meth c ls C ht
  obtain ⟨hx, hb, hr, hts, hown, hlocks, hml, hsz, hP, hE, hD, hZ, hA, hS, hl⟩ := C
  subst hsz
  have hl : lv_has ls 2 [(0, .ref (a 0)), (1, .int p0)] := hl
  refine lv_iload_n hx hb dX3_requireSpot_0 rfl (lv_at hl 1 rfl) ?_
  refine k_p (va_runS (As := [.int p0]) (rest := []) ⟨hx, hb, hml, hown, hts⟩ (c_X3_isSpot l G s.heap.size p0) (va_cwS 1 hts gX3_requireSpot_X3_isSpot rfl rfl rfl ⟨by decide +kernel, by decide +kernel, by decide +kernel⟩ ⟨Nat.le_of_ble_eq_true rfl, Nat.le_of_ble_eq_true rfl⟩) ⟨GP.blind, GP.go (wc := []) hE hZ hP hD hS hA [] rfl (by decide) [.int p0]⟩ rfl rfl hl.1 rfl (lv_room (Nat.le_of_ble_eq_true rfl)) dX3_requireSpot_1 ⟨Nat.le_of_ble_eq_true rfl, Nat.le_of_ble_eq_true rfl⟩) ?_
  refine lv_if_ne (tgt := 17) hx hb dX3_requireSpot_4 (by decide) (fun c_4 => ?_) (fun c_4 => ?_)
  · exact absurd (by rw [k_X3_requireSpot, if_neg c_4]) h0
  · exact k_thr (k := 1) (ik := 218) (is := 228) (ic := 222) (by decide) thr_f1 thr_o1 thr_b1 (tx := "no such spot") (by decide) hx hb hl9 hown (hts (.classLink RX3 218 (exn 1)) (by decide +kernel)) (hts (.initialized (exn 1)) (by decide +kernel)) (fun w h => hts w (gx1_X3_requireSpot w h)) hE hZ hS (hl.1.trans hml.symm) ht hlocks dX3_requireSpot_7 dX3_requireSpot_10 dX3_requireSpot_11 dX3_requireSpot_13 dX3_requireSpot_16 (Nat.le_of_ble_eq_true rfl) (Nat.le_of_ble_eq_true rfl) (Nat.le_of_ble_eq_true rfl) (Nat.le_of_ble_eq_true rfl) rfl

/-! X3_requirePerson -/
def k_X3_requirePerson (p0 : Int32) : Nat :=
  if (f_X3_isBelow p0 4) = 0 then 1
    else 0
theorem kr_X3_requirePerson (p0 : Int32) : k_X3_requirePerson p0 = 0 ∨ k_X3_requirePerson p0 = 1 := by
  unfold k_X3_requirePerson
  (repeat' split) <;> decide
set_option maxHeartbeats 4000000 in
set_option maxRecDepth 100000 in
theorem c_X3_requirePerson (l : Launch) (hl9 : l.stackTraces = false) (G : GT) (a : Nat → Nat) (sz : Nat) (p0 : Int32) (h0 : k_X3_requirePerson p0 = 0) : Met l yX3_requirePerson wsX3_requirePerson ({ frames := 6, cells := 0, slots := 0, locals := 90 }) (GP G [.ref (a 0), .int p0] [] sz) (PQo (.returned none)) 0 0 (fun _ => False) := by
  refine bodyM (cc := cX3_requirePerson) (maxL := 2) (ret := none) (by decide) rfl (Nat.le_of_ble_eq_true rfl) ?_
  intro p e s m below meth c ls C
  obtain ⟨hx, hb, hr, hts, hown, hlocks, hml, hsz, hP, hE, hD, hZ, hA, hS, hl⟩ := C
  subst hsz
  have hl : lv_has ls 2 [(0, .ref (a 0)), (1, .int p0)] := hl
  refine lv_iload_n hx hb dX3_requirePerson_0 rfl (lv_at hl 1 rfl) ?_
  refine lv_iconst (v := 4) hx hb dX3_requirePerson_1 (by decide) ?_
  refine k_p (va_runS (As := [.int p0, .int 4]) (rest := []) ⟨hx, hb, hml, hown, hts⟩ (c_X3_isBelow l G s.heap.size p0 4) (va_cwS 2 hts gX3_requirePerson_X3_isBelow rfl rfl rfl ⟨by decide +kernel, by decide +kernel, by decide +kernel⟩ ⟨Nat.le_of_ble_eq_true rfl, Nat.le_of_ble_eq_true rfl⟩) ⟨GP.blind, GP.go (wc := []) hE hZ hP hD hS hA [] rfl (by decide) [.int p0, .int 4]⟩ rfl rfl hl.1 rfl (lv_room (Nat.le_of_ble_eq_true rfl)) dX3_requirePerson_2 ⟨Nat.le_of_ble_eq_true rfl, Nat.le_of_ble_eq_true rfl⟩) ?_
  refine lv_if_ne (tgt := 18) hx hb dX3_requirePerson_5 (by decide) (fun c_5 => ?_) (fun c_5 => ?_)
  · exact W.vret hx hb hr (fun t ht _ => ⟨rfl, ht⟩) (fun _ h => nomatch h) dX3_requirePerson_18
  · exact absurd (h0.symm.trans (by rw [k_X3_requirePerson, if_pos c_5])) (by decide)

theorem gx1_X3_requirePerson : ∀ w ∈ (vx_atS RX3 222 (exn 1) xnames).filter goodWord, w ∈ wsX3_requirePerson := by decide +kernel
set_option maxHeartbeats 4000000 in
set_option maxRecDepth 100000 in
theorem cx_X3_requirePerson (l : Launch) (hl9 : l.stackTraces = false) (G : GT) (a : Nat → Nat) (sz : Nat) (p0 : Int32) (h0 : ¬ k_X3_requirePerson p0 = 0) : vx_Met l yX3_requirePerson wsX3_requirePerson ({ frames := 6, cells := 1, slots := 6, locals := 90 }) (GP G [.ref (a 0), .int p0] [] sz) NQ (XQ 1) 1 6 (fun _ => False) := by
  refine bodyX (cc := cX3_requirePerson) (maxL := 2) (ret := none) (by decide) rfl (Nat.le_of_ble_eq_true rfl) ?_
  intro p e s m below meth c ls C ht
  obtain ⟨hx, hb, hr, hts, hown, hlocks, hml, hsz, hP, hE, hD, hZ, hA, hS, hl⟩ := C
  subst hsz
  have hl : lv_has ls 2 [(0, .ref (a 0)), (1, .int p0)] := hl
  refine lv_iload_n hx hb dX3_requirePerson_0 rfl (lv_at hl 1 rfl) ?_
  refine lv_iconst (v := 4) hx hb dX3_requirePerson_1 (by decide) ?_
  refine k_p (va_runS (As := [.int p0, .int 4]) (rest := []) ⟨hx, hb, hml, hown, hts⟩ (c_X3_isBelow l G s.heap.size p0 4) (va_cwS 2 hts gX3_requirePerson_X3_isBelow rfl rfl rfl ⟨by decide +kernel, by decide +kernel, by decide +kernel⟩ ⟨Nat.le_of_ble_eq_true rfl, Nat.le_of_ble_eq_true rfl⟩) ⟨GP.blind, GP.go (wc := []) hE hZ hP hD hS hA [] rfl (by decide) [.int p0, .int 4]⟩ rfl rfl hl.1 rfl (lv_room (Nat.le_of_ble_eq_true rfl)) dX3_requirePerson_2 ⟨Nat.le_of_ble_eq_true rfl, Nat.le_of_ble_eq_true rfl⟩) ?_
  refine lv_if_ne (tgt := 18) hx hb dX3_requirePerson_5 (by decide) (fun c_5 => ?_) (fun c_5 => ?_)
  · exact absurd (by rw [k_X3_requirePerson, if_neg c_5]) h0
  · exact k_thr (k := 1) (ik := 218) (is := 230) (ic := 222) (by decide) thr_f1 thr_o1 thr_b1 (tx := "no such person") (by decide) hx hb hl9 hown (hts (.classLink RX3 218 (exn 1)) (by decide +kernel)) (hts (.initialized (exn 1)) (by decide +kernel)) (fun w h => hts w (gx1_X3_requirePerson w h)) hE hZ hS (hl.1.trans hml.symm) ht hlocks dX3_requirePerson_8 dX3_requirePerson_11 dX3_requirePerson_12 dX3_requirePerson_14 dX3_requirePerson_17 (Nat.le_of_ble_eq_true rfl) (Nat.le_of_ble_eq_true rfl) (Nat.le_of_ble_eq_true rfl) (Nat.le_of_ble_eq_true rfl) rfl

/-! X3_requireBox -/
def k_X3_requireBox (cn : Int32) (p0 : Int32) : Nat :=
  if (f_X2_has cn p0) = 0 then 1
    else 0
theorem kr_X3_requireBox (cn : Int32) (p0 : Int32) : k_X3_requireBox cn p0 = 0 ∨ k_X3_requireBox cn p0 = 1 := by
  unfold k_X3_requireBox
  (repeat' split) <;> decide
theorem iw_X3_requireBox_RX3 : ∀ w ∈ u_ws RX3 TX3 4, w ∈ wsX3_requireBox := by decide +kernel
set_option maxHeartbeats 4000000 in
set_option maxRecDepth 100000 in
theorem c_X3_requireBox (l : Launch) (hl9 : l.stackTraces = false) (G : GT) (a : Nat → Nat) (sz : Nat) (ck : Int32) (cn : Int32) (p0 : Int32) (h0 : k_X3_requireBox cn p0 = 0) : Met l yX3_requireBox wsX3_requireBox ({ frames := 6, cells := 0, slots := 0, locals := 90 }) (GP G [.ref (a 0), .int p0] [wcA a ck, wcS a cn] sz) (PQo (.returned none)) 0 0 (fun _ => False) := by
  refine bodyM (cc := cX3_requireBox) (maxL := 2) (ret := none) (by decide) rfl (Nat.le_of_ble_eq_true rfl) ?_
  intro p e s m below meth c ls C
  obtain ⟨hx, hb, hr, hts, hown, hlocks, hml, hsz, hP, hE, hD, hZ, hA, hS, hl⟩ := C
  subst hsz
  have hl : lv_has ls 2 [(0, .ref (a 0)), (1, .int p0)] := hl
  refine lv_aload_n hx hb dX3_requireBox_0 rfl (lv_at hl 0 rfl) ?_
  refine va_get (D := G.1) (ci := 3) (v := .ref (a 1)) (C := RX3) (T := TX3) (N := 4) hx hb hts iw_X3_requireBox_RX3 hown hE.1 hP 0 rfl rfl 0 (by decide) (hts (.fieldLink RX3 12 "Rackrail" "store" "LRackrail$Store;") (by decide +kernel)) (fun _ h9 => h9) rfl dX3_requireBox_1 ?_
  refine lv_iload_n hx hb dX3_requireBox_4 rfl (lv_at hl 1 rfl) ?_
  refine k_p (va_runV (As := [.int p0]) (rest := []) ⟨hx, hb, hml, hown, hts⟩ (c_X2_has l G a s.heap.size cn p0) (cwV 1 hts gX3_requireBox_X2_has rfl rfl rfl ⟨rfl, by decide +kernel, by decide +kernel, by decide +kernel⟩ ⟨Nat.le_of_ble_eq_true rfl, Nat.le_of_ble_eq_true rfl⟩) ⟨GP.blind, va_recv hE.1 hP (ci := 2) (q0 := 1) rfl rfl, GP.go (wc := [wcS a cn]) hE hZ hP hD hS hA [1] rfl (by decide) [.ref (a 1), .int p0]⟩ rfl rfl hl.1 rfl (lv_room (Nat.le_of_ble_eq_true rfl)) dX3_requireBox_5 ⟨Nat.le_of_ble_eq_true rfl, Nat.le_of_ble_eq_true rfl⟩) ?_
  refine lv_if_ne (tgt := 21) hx hb dX3_requireBox_8 (by decide) (fun c_8 => ?_) (fun c_8 => ?_)
  · exact W.vret hx hb hr (fun t ht _ => ⟨rfl, ht⟩) (fun _ h => nomatch h) dX3_requireBox_21
  · exact absurd (h0.symm.trans (by rw [k_X3_requireBox, if_pos c_8])) (by decide)

theorem gx1_X3_requireBox : ∀ w ∈ (vx_atS RX3 222 (exn 1) xnames).filter goodWord, w ∈ wsX3_requireBox := by decide +kernel
set_option maxHeartbeats 4000000 in
set_option maxRecDepth 100000 in
theorem cx_X3_requireBox (l : Launch) (hl9 : l.stackTraces = false) (G : GT) (a : Nat → Nat) (sz : Nat) (ck : Int32) (cn : Int32) (p0 : Int32) (h0 : ¬ k_X3_requireBox cn p0 = 0) : vx_Met l yX3_requireBox wsX3_requireBox ({ frames := 6, cells := 1, slots := 6, locals := 90 }) (GP G [.ref (a 0), .int p0] [wcA a ck, wcS a cn] sz) NQ (XQ 1) 1 6 (fun _ => False) := by
  refine bodyX (cc := cX3_requireBox) (maxL := 2) (ret := none) (by decide) rfl (Nat.le_of_ble_eq_true rfl) ?_
  intro p e s m below meth c ls C ht
  obtain ⟨hx, hb, hr, hts, hown, hlocks, hml, hsz, hP, hE, hD, hZ, hA, hS, hl⟩ := C
  subst hsz
  have hl : lv_has ls 2 [(0, .ref (a 0)), (1, .int p0)] := hl
  refine lv_aload_n hx hb dX3_requireBox_0 rfl (lv_at hl 0 rfl) ?_
  refine va_get (D := G.1) (ci := 3) (v := .ref (a 1)) (C := RX3) (T := TX3) (N := 4) hx hb hts iw_X3_requireBox_RX3 hown hE.1 hP 0 rfl rfl 0 (by decide) (hts (.fieldLink RX3 12 "Rackrail" "store" "LRackrail$Store;") (by decide +kernel)) (fun _ h9 => h9) rfl dX3_requireBox_1 ?_
  refine lv_iload_n hx hb dX3_requireBox_4 rfl (lv_at hl 1 rfl) ?_
  refine k_p (va_runV (As := [.int p0]) (rest := []) ⟨hx, hb, hml, hown, hts⟩ (c_X2_has l G a s.heap.size cn p0) (cwV 1 hts gX3_requireBox_X2_has rfl rfl rfl ⟨rfl, by decide +kernel, by decide +kernel, by decide +kernel⟩ ⟨Nat.le_of_ble_eq_true rfl, Nat.le_of_ble_eq_true rfl⟩) ⟨GP.blind, va_recv hE.1 hP (ci := 2) (q0 := 1) rfl rfl, GP.go (wc := [wcS a cn]) hE hZ hP hD hS hA [1] rfl (by decide) [.ref (a 1), .int p0]⟩ rfl rfl hl.1 rfl (lv_room (Nat.le_of_ble_eq_true rfl)) dX3_requireBox_5 ⟨Nat.le_of_ble_eq_true rfl, Nat.le_of_ble_eq_true rfl⟩) ?_
  refine lv_if_ne (tgt := 21) hx hb dX3_requireBox_8 (by decide) (fun c_8 => ?_) (fun c_8 => ?_)
  · exact absurd (by rw [k_X3_requireBox, if_neg c_8]) h0
  · exact k_thr (k := 1) (ik := 218) (is := 235) (ic := 222) (by decide) thr_f1 thr_o1 thr_b1 (tx := "no such box") (by decide) hx hb hl9 hown (hts (.classLink RX3 218 (exn 1)) (by decide +kernel)) (hts (.initialized (exn 1)) (by decide +kernel)) (fun w h => hts w (gx1_X3_requireBox w h)) hE hZ hS (hl.1.trans hml.symm) ht hlocks dX3_requireBox_11 dX3_requireBox_14 dX3_requireBox_15 dX3_requireBox_17 dX3_requireBox_20 (Nat.le_of_ble_eq_true rfl) (Nat.le_of_ble_eq_true rfl) (Nat.le_of_ble_eq_true rfl) (Nat.le_of_ble_eq_true rfl) rfl

/-! X3_requireOut -/
def k_X3_requireOut (cn : Int32) (sp : Nat → Int32) (p0 : Int32) : Nat :=
  if (f_X2_whereIs cn sp p0) = (-1) then 0
    else 3
theorem kr_X3_requireOut (cn : Int32) (sp : Nat → Int32) (p0 : Int32) : k_X3_requireOut cn sp p0 = 0 ∨ k_X3_requireOut cn sp p0 = 3 := by
  unfold k_X3_requireOut
  (repeat' split) <;> decide
theorem iw_X3_requireOut_RX3 : ∀ w ∈ u_ws RX3 TX3 4, w ∈ wsX3_requireOut := by decide +kernel
set_option maxHeartbeats 4000000 in
set_option maxRecDepth 100000 in
theorem c_X3_requireOut (l : Launch) (hl9 : l.stackTraces = false) (G : GT) (a : Nat → Nat) (sz : Nat) (ck : Int32) (cn : Int32) (sp : Nat → Int32) (p0 : Int32) (hcn : okN 20 cn) (h0 : k_X3_requireOut cn sp p0 = 0) : Met l yX3_requireOut wsX3_requireOut ({ frames := 6, cells := 0, slots := 0, locals := 90 }) (GP G [.ref (a 0), .int p0] [wcA a ck, wcS a cn, wcI G (a 6) 20 sp] sz) (PQo (.returned none)) 0 0 (fun _ => False) := by
  refine bodyM (cc := cX3_requireOut) (maxL := 2) (ret := none) (by decide) rfl (Nat.le_of_ble_eq_true rfl) ?_
  intro p e s m below meth c ls C
  obtain ⟨hx, hb, hr, hts, hown, hlocks, hml, hsz, hP, hE, hD, hZ, hA, hS, hl⟩ := C
  subst hsz
  have hl : lv_has ls 2 [(0, .ref (a 0)), (1, .int p0)] := hl
  refine lv_aload_n hx hb dX3_requireOut_0 rfl (lv_at hl 0 rfl) ?_
  refine va_get (D := G.1) (ci := 3) (v := .ref (a 1)) (C := RX3) (T := TX3) (N := 4) hx hb hts iw_X3_requireOut_RX3 hown hE.1 hP 0 rfl rfl 0 (by decide) (hts (.fieldLink RX3 12 "Rackrail" "store" "LRackrail$Store;") (by decide +kernel)) (fun _ h9 => h9) rfl dX3_requireOut_1 ?_
  refine lv_iload_n hx hb dX3_requireOut_4 rfl (lv_at hl 1 rfl) ?_
  refine k_p (va_runV (As := [.int p0]) (rest := []) ⟨hx, hb, hml, hown, hts⟩ (c_X2_whereIs l G a s.heap.size cn sp p0 hcn) (cwV 1 hts gX3_requireOut_X2_whereIs rfl rfl rfl ⟨rfl, by decide +kernel, by decide +kernel, by decide +kernel⟩ ⟨Nat.le_of_ble_eq_true rfl, Nat.le_of_ble_eq_true rfl⟩) ⟨GP.blind, va_recv hE.1 hP (ci := 2) (q0 := 1) rfl rfl, GP.go (wc := [wcS a cn, wcI G (a 6) 20 sp]) hE hZ hP hD hS hA [1, 2] rfl (by decide) [.ref (a 1), .int p0]⟩ rfl rfl hl.1 rfl (lv_room (Nat.le_of_ble_eq_true rfl)) dX3_requireOut_5 ⟨Nat.le_of_ble_eq_true rfl, Nat.le_of_ble_eq_true rfl⟩) ?_
  refine lv_iconst (v := (-1)) hx hb dX3_requireOut_8 (by decide) ?_
  refine lv_icmp_eq (tgt := 22) hx hb dX3_requireOut_9 (by decide) (fun c_9 => ?_) (fun c_9 => ?_)
  · exact W.vret hx hb hr (fun t ht _ => ⟨rfl, ht⟩) (fun _ h => nomatch h) dX3_requireOut_22
  · exact absurd (h0.symm.trans (by rw [k_X3_requireOut, if_neg c_9])) (by decide)

theorem gx3_X3_requireOut : ∀ w ∈ (vx_atS RX3 69 (exn 3) xnames).filter goodWord, w ∈ wsX3_requireOut := by decide +kernel
set_option maxHeartbeats 4000000 in
set_option maxRecDepth 100000 in
theorem cx_X3_requireOut (l : Launch) (hl9 : l.stackTraces = false) (G : GT) (a : Nat → Nat) (sz : Nat) (ck : Int32) (cn : Int32) (sp : Nat → Int32) (p0 : Int32) (hcn : okN 20 cn) (h0 : ¬ k_X3_requireOut cn sp p0 = 0) : vx_Met l yX3_requireOut wsX3_requireOut ({ frames := 6, cells := 1, slots := 6, locals := 90 }) (GP G [.ref (a 0), .int p0] [wcA a ck, wcS a cn, wcI G (a 6) 20 sp] sz) NQ (XQ 3) 1 6 (fun _ => False) := by
  refine bodyX (cc := cX3_requireOut) (maxL := 2) (ret := none) (by decide) rfl (Nat.le_of_ble_eq_true rfl) ?_
  intro p e s m below meth c ls C ht
  obtain ⟨hx, hb, hr, hts, hown, hlocks, hml, hsz, hP, hE, hD, hZ, hA, hS, hl⟩ := C
  subst hsz
  have hl : lv_has ls 2 [(0, .ref (a 0)), (1, .int p0)] := hl
  refine lv_aload_n hx hb dX3_requireOut_0 rfl (lv_at hl 0 rfl) ?_
  refine va_get (D := G.1) (ci := 3) (v := .ref (a 1)) (C := RX3) (T := TX3) (N := 4) hx hb hts iw_X3_requireOut_RX3 hown hE.1 hP 0 rfl rfl 0 (by decide) (hts (.fieldLink RX3 12 "Rackrail" "store" "LRackrail$Store;") (by decide +kernel)) (fun _ h9 => h9) rfl dX3_requireOut_1 ?_
  refine lv_iload_n hx hb dX3_requireOut_4 rfl (lv_at hl 1 rfl) ?_
  refine k_p (va_runV (As := [.int p0]) (rest := []) ⟨hx, hb, hml, hown, hts⟩ (c_X2_whereIs l G a s.heap.size cn sp p0 hcn) (cwV 1 hts gX3_requireOut_X2_whereIs rfl rfl rfl ⟨rfl, by decide +kernel, by decide +kernel, by decide +kernel⟩ ⟨Nat.le_of_ble_eq_true rfl, Nat.le_of_ble_eq_true rfl⟩) ⟨GP.blind, va_recv hE.1 hP (ci := 2) (q0 := 1) rfl rfl, GP.go (wc := [wcS a cn, wcI G (a 6) 20 sp]) hE hZ hP hD hS hA [1, 2] rfl (by decide) [.ref (a 1), .int p0]⟩ rfl rfl hl.1 rfl (lv_room (Nat.le_of_ble_eq_true rfl)) dX3_requireOut_5 ⟨Nat.le_of_ble_eq_true rfl, Nat.le_of_ble_eq_true rfl⟩) ?_
  refine lv_iconst (v := (-1)) hx hb dX3_requireOut_8 (by decide) ?_
  refine lv_icmp_eq (tgt := 22) hx hb dX3_requireOut_9 (by decide) (fun c_9 => ?_) (fun c_9 => ?_)
  · exact absurd (by rw [k_X3_requireOut, if_pos c_9]) h0
  · exact k_thr (k := 3) (ik := 65) (is := 237) (ic := 69) (by decide) thr_f3 thr_o3 thr_b3 (tx := "the box is not out") (by decide) hx hb hl9 hown (hts (.classLink RX3 65 (exn 3)) (by decide +kernel)) (hts (.initialized (exn 3)) (by decide +kernel)) (fun w h => hts w (gx3_X3_requireOut w h)) hE hZ hS (hl.1.trans hml.symm) ht hlocks dX3_requireOut_12 dX3_requireOut_15 dX3_requireOut_16 dX3_requireOut_18 dX3_requireOut_21 (Nat.le_of_ble_eq_true rfl) (Nat.le_of_ble_eq_true rfl) (Nat.le_of_ble_eq_true rfl) (Nat.le_of_ble_eq_true rfl) rfl

/-! X3_requireInside -/
def k_X3_requireInside (ins : Nat → Int32) (p0 : Int32) : Nat :=
  if (f_X1_isInside ins p0) = 0 then 3
    else 0
theorem kr_X3_requireInside (ins : Nat → Int32) (p0 : Int32) : k_X3_requireInside ins p0 = 0 ∨ k_X3_requireInside ins p0 = 3 := by
  unfold k_X3_requireInside
  (repeat' split) <;> decide
theorem iw_X3_requireInside_RX3 : ∀ w ∈ u_ws RX3 TX3 4, w ∈ wsX3_requireInside := by decide +kernel
set_option maxHeartbeats 4000000 in
set_option maxRecDepth 100000 in
theorem c_X3_requireInside (l : Launch) (hl9 : l.stackTraces = false) (G : GT) (a : Nat → Nat) (sz : Nat) (ck : Int32) (gp : Int32) (tg : Int32) (st : Int32) (sm : Int32) (ins : Nat → Int32) (p0 : Int32) (h0 : k_X3_requireInside ins p0 = 0) : Met l yX3_requireInside wsX3_requireInside ({ frames := 6, cells := 0, slots := 0, locals := 90 }) (GP G [.ref (a 0), .int p0] [wcA a ck, wcR a gp tg st sm, wcZ G (a 9) 4 ins] sz) (PQo (.returned none)) 0 0 (fun _ => False) := by
  refine bodyM (cc := cX3_requireInside) (maxL := 2) (ret := none) (by decide) rfl (Nat.le_of_ble_eq_true rfl) ?_
  intro p e s m below meth c ls C
  obtain ⟨hx, hb, hr, hts, hown, hlocks, hml, hsz, hP, hE, hD, hZ, hA, hS, hl⟩ := C
  subst hsz
  have hl : lv_has ls 2 [(0, .ref (a 0)), (1, .int p0)] := hl
  refine lv_aload_n hx hb dX3_requireInside_0 rfl (lv_at hl 0 rfl) ?_
  refine va_get (D := G.1) (ci := 3) (v := .ref (a 7)) (C := RX3) (T := TX3) (N := 4) hx hb hts iw_X3_requireInside_RX3 hown hE.1 hP 0 rfl rfl 1 (by decide) (hts (.fieldLink RX3 19 "Rackrail" "rail" "LRackrail$Rail;") (by decide +kernel)) (fun _ h9 => h9) rfl dX3_requireInside_1 ?_
  refine lv_iload_n hx hb dX3_requireInside_4 rfl (lv_at hl 1 rfl) ?_
  refine k_p (va_runV (As := [.int p0]) (rest := []) ⟨hx, hb, hml, hown, hts⟩ (c_X1_isInside l G a s.heap.size gp tg st sm ins p0) (cwV 1 hts gX3_requireInside_X1_isInside rfl rfl rfl ⟨rfl, by decide +kernel, by decide +kernel, by decide +kernel⟩ ⟨Nat.le_of_ble_eq_true rfl, Nat.le_of_ble_eq_true rfl⟩) ⟨GP.blind, va_recv hE.1 hP (ci := 1) (q0 := 1) rfl rfl, GP.go (wc := [wcR a gp tg st sm, wcZ G (a 9) 4 ins]) hE hZ hP hD hS hA [1, 2] rfl (by decide) [.ref (a 7), .int p0]⟩ rfl rfl hl.1 rfl (lv_room (Nat.le_of_ble_eq_true rfl)) dX3_requireInside_5 ⟨Nat.le_of_ble_eq_true rfl, Nat.le_of_ble_eq_true rfl⟩) ?_
  refine lv_if_ne (tgt := 21) hx hb dX3_requireInside_8 (by decide) (fun c_8 => ?_) (fun c_8 => ?_)
  · exact W.vret hx hb hr (fun t ht _ => ⟨rfl, ht⟩) (fun _ h => nomatch h) dX3_requireInside_21
  · exact absurd (h0.symm.trans (by rw [k_X3_requireInside, if_pos c_8])) (by decide)

theorem gx3_X3_requireInside : ∀ w ∈ (vx_atS RX3 69 (exn 3) xnames).filter goodWord, w ∈ wsX3_requireInside := by decide +kernel
set_option maxHeartbeats 4000000 in
set_option maxRecDepth 100000 in
theorem cx_X3_requireInside (l : Launch) (hl9 : l.stackTraces = false) (G : GT) (a : Nat → Nat) (sz : Nat) (ck : Int32) (gp : Int32) (tg : Int32) (st : Int32) (sm : Int32) (ins : Nat → Int32) (p0 : Int32) (h0 : ¬ k_X3_requireInside ins p0 = 0) : vx_Met l yX3_requireInside wsX3_requireInside ({ frames := 6, cells := 1, slots := 6, locals := 90 }) (GP G [.ref (a 0), .int p0] [wcA a ck, wcR a gp tg st sm, wcZ G (a 9) 4 ins] sz) NQ (XQ 3) 1 6 (fun _ => False) := by
  refine bodyX (cc := cX3_requireInside) (maxL := 2) (ret := none) (by decide) rfl (Nat.le_of_ble_eq_true rfl) ?_
  intro p e s m below meth c ls C ht
  obtain ⟨hx, hb, hr, hts, hown, hlocks, hml, hsz, hP, hE, hD, hZ, hA, hS, hl⟩ := C
  subst hsz
  have hl : lv_has ls 2 [(0, .ref (a 0)), (1, .int p0)] := hl
  refine lv_aload_n hx hb dX3_requireInside_0 rfl (lv_at hl 0 rfl) ?_
  refine va_get (D := G.1) (ci := 3) (v := .ref (a 7)) (C := RX3) (T := TX3) (N := 4) hx hb hts iw_X3_requireInside_RX3 hown hE.1 hP 0 rfl rfl 1 (by decide) (hts (.fieldLink RX3 19 "Rackrail" "rail" "LRackrail$Rail;") (by decide +kernel)) (fun _ h9 => h9) rfl dX3_requireInside_1 ?_
  refine lv_iload_n hx hb dX3_requireInside_4 rfl (lv_at hl 1 rfl) ?_
  refine k_p (va_runV (As := [.int p0]) (rest := []) ⟨hx, hb, hml, hown, hts⟩ (c_X1_isInside l G a s.heap.size gp tg st sm ins p0) (cwV 1 hts gX3_requireInside_X1_isInside rfl rfl rfl ⟨rfl, by decide +kernel, by decide +kernel, by decide +kernel⟩ ⟨Nat.le_of_ble_eq_true rfl, Nat.le_of_ble_eq_true rfl⟩) ⟨GP.blind, va_recv hE.1 hP (ci := 1) (q0 := 1) rfl rfl, GP.go (wc := [wcR a gp tg st sm, wcZ G (a 9) 4 ins]) hE hZ hP hD hS hA [1, 2] rfl (by decide) [.ref (a 7), .int p0]⟩ rfl rfl hl.1 rfl (lv_room (Nat.le_of_ble_eq_true rfl)) dX3_requireInside_5 ⟨Nat.le_of_ble_eq_true rfl, Nat.le_of_ble_eq_true rfl⟩) ?_
  refine lv_if_ne (tgt := 21) hx hb dX3_requireInside_8 (by decide) (fun c_8 => ?_) (fun c_8 => ?_)
  · exact absurd (by rw [k_X3_requireInside, if_neg c_8]) h0
  · exact k_thr (k := 3) (ik := 65) (is := 239) (ic := 69) (by decide) thr_f3 thr_o3 thr_b3 (tx := "the person is not inside") (by decide) hx hb hl9 hown (hts (.classLink RX3 65 (exn 3)) (by decide +kernel)) (hts (.initialized (exn 3)) (by decide +kernel)) (fun w h => hts w (gx3_X3_requireInside w h)) hE hZ hS (hl.1.trans hml.symm) ht hlocks dX3_requireInside_11 dX3_requireInside_14 dX3_requireInside_15 dX3_requireInside_17 dX3_requireInside_20 (Nat.le_of_ble_eq_true rfl) (Nat.le_of_ble_eq_true rfl) (Nat.le_of_ble_eq_true rfl) (Nat.le_of_ble_eq_true rfl) rfl

/-! X3_setClimate -/
def f_X3_setClimate (sc : Nat → Int32) (p0 : Int32) (p1 : Int32) : Int32 × (Nat → Int32) :=
  if k_X3_requireShelf p0 = 0 then (if (f_X3_isBelow p1 3) = 0 then (0, sc)
      else (f_X2_climateOf sc p0, f_X2_changeClimate sc p0 p1))
    else (0, sc)
def k_X3_setClimate (p0 : Int32) (p1 : Int32) : Nat :=
  if k_X3_requireShelf p0 = 0 then (if (f_X3_isBelow p1 3) = 0 then 2
      else 0)
    else 1
theorem kr_X3_setClimate (p0 : Int32) (p1 : Int32) : k_X3_setClimate p0 p1 = 0 ∨ k_X3_setClimate p0 p1 = 1 ∨ k_X3_setClimate p0 p1 = 2 := by
  unfold k_X3_setClimate
  (repeat' split) <;> decide
theorem iw_X3_setClimate_RX3 : ∀ w ∈ u_ws RX3 TX3 4, w ∈ wsX3_setClimate := by decide +kernel
set_option maxHeartbeats 4000000 in
set_option maxRecDepth 100000 in
theorem c_X3_setClimate (l : Launch) (hl9 : l.stackTraces = false) (G : GT) (a : Nat → Nat) (sz : Nat) (ck : Int32) (cn : Int32) (sc : Nat → Int32) (p0 : Int32) (p1 : Int32) (h0 : k_X3_setClimate p0 p1 = 0) : Met l yX3_setClimate wsX3_setClimate ({ frames := 7, cells := 0, slots := 0, locals := 111 }) (GP G [.ref (a 0), .int p0, .int p1] [wcA a ck, wcS a cn, wcI G (a 2) 6 sc] sz) (MQo G (.returned (some (.int ((f_X3_setClimate sc p0 p1).1)))) [wcA a ck, wcS a cn, wcI G (a 2) 6 ((f_X3_setClimate sc p0 p1).2)] (va_A [wcA a ck, wcS a cn, wcI G (a 2) 6 sc] sz)) 0 0 (va_A [wcA a ck, wcS a cn, wcI G (a 2) 6 sc] sz) := by
  refine bodyM (cc := cX3_setClimate) (maxL := 4) (ret := (some .int)) (by decide) rfl (Nat.le_of_ble_eq_true rfl) ?_
  intro p e s m below meth c ls C
  obtain ⟨hx, hb, hr, hts, hown, hlocks, hml, hsz, hP, hE, hD, hZ, hA, hS, hl⟩ := C
  subst hsz
  have hl : lv_has ls 4 [(0, .ref (a 0)), (1, .int p0), (2, .int p1)] := hl
  refine lv_aload_n hx hb dX3_setClimate_0 rfl (lv_at hl 0 rfl) ?_
  refine lv_iload_n hx hb dX3_setClimate_1 rfl (lv_at hl 1 rfl) ?_
  have c_2 : k_X3_requireShelf p0 = 0 := Decidable.byContradiction (fun c_2 => absurd (h0.symm.trans (by rw [k_X3_setClimate, if_neg c_2])) (by decide))
  refine k_p (va_runV (As := [.int p0]) (rest := []) ⟨hx, hb, hml, hown, hts⟩ (c_X3_requireShelf l hl9 G a s.heap.size p0 c_2) (cwV 1 hts gX3_setClimate_X3_requireShelf rfl rfl rfl ⟨rfl, by decide +kernel, by decide +kernel, by decide +kernel⟩ ⟨Nat.le_of_ble_eq_true rfl, Nat.le_of_ble_eq_true rfl⟩) ⟨GP.blind, va_recv hE.1 hP (ci := 3) (q0 := 0) rfl rfl, GP.go (wc := []) hE hZ hP hD hS hA [] rfl (by decide) [.ref (a 0), .int p0]⟩ rfl rfl hl.1 rfl (lv_room (Nat.le_of_ble_eq_true rfl)) dX3_setClimate_2 ⟨Nat.le_of_ble_eq_true rfl, Nat.le_of_ble_eq_true rfl⟩) ?_
  refine lv_iload_n hx hb dX3_setClimate_5 rfl (lv_at hl 2 rfl) ?_
  refine lv_iconst (v := 3) hx hb dX3_setClimate_6 (by decide) ?_
  refine k_p (va_runS (As := [.int p1, .int 3]) (rest := []) ⟨hx, hb, hml, hown, hts⟩ (c_X3_isBelow l G s.heap.size p1 3) (va_cwS 2 hts gX3_setClimate_X3_isBelow rfl rfl rfl ⟨by decide +kernel, by decide +kernel, by decide +kernel⟩ ⟨Nat.le_of_ble_eq_true rfl, Nat.le_of_ble_eq_true rfl⟩) ⟨GP.blind, GP.go (wc := []) hE hZ hP hD hS hA [] rfl (by decide) [.int p1, .int 3]⟩ rfl rfl hl.1 rfl (lv_room (Nat.le_of_ble_eq_true rfl)) dX3_setClimate_7 ⟨Nat.le_of_ble_eq_true rfl, Nat.le_of_ble_eq_true rfl⟩) ?_
  refine lv_if_ne (tgt := 23) hx hb dX3_setClimate_10 (by decide) (fun c_10 => ?_) (fun c_10 => ?_)
  · refine lv_aload_n hx hb dX3_setClimate_23 rfl (lv_at hl 0 rfl) ?_
    refine va_get (D := G.1) (ci := 3) (v := .ref (a 1)) (C := RX3) (T := TX3) (N := 4) hx hb hts iw_X3_setClimate_RX3 hown hE.1 hP 0 rfl rfl 0 (by decide) (hts (.fieldLink RX3 12 "Rackrail" "store" "LRackrail$Store;") (by decide +kernel)) (fun _ h9 => h9) rfl dX3_setClimate_24 ?_
    refine lv_iload_n hx hb dX3_setClimate_27 rfl (lv_at hl 1 rfl) ?_
    refine k_p (va_runV (As := [.int p0]) (rest := []) ⟨hx, hb, hml, hown, hts⟩ (c_X2_climateOf l G a s.heap.size cn sc p0) (cwV 1 hts gX3_setClimate_X2_climateOf rfl rfl rfl ⟨rfl, by decide +kernel, by decide +kernel, by decide +kernel⟩ ⟨Nat.le_of_ble_eq_true rfl, Nat.le_of_ble_eq_true rfl⟩) ⟨GP.blind, va_recv hE.1 hP (ci := 2) (q0 := 1) rfl rfl, GP.go (wc := [wcS a cn, wcI G (a 2) 6 sc]) hE hZ hP hD hS hA [1, 2] rfl (by decide) [.ref (a 1), .int p0]⟩ rfl rfl hl.1 rfl (lv_room (Nat.le_of_ble_eq_true rfl)) dX3_setClimate_28 ⟨Nat.le_of_ble_eq_true rfl, Nat.le_of_ble_eq_true rfl⟩) ?_
    refine lv_istore_n (lv' := [(3, .int (f_X2_climateOf sc p0)), (0, .ref (a 0)), (1, .int p0), (2, .int p1)]) hx hb dX3_setClimate_31 rfl hl (by decide) rfl (fun ls hl => ?_)
    refine lv_aload_n hx hb dX3_setClimate_32 rfl (lv_at hl 1 rfl) ?_
    refine va_get (D := G.1) (ci := 3) (v := .ref (a 1)) (C := RX3) (T := TX3) (N := 4) hx hb hts iw_X3_setClimate_RX3 hown hE.1 hP 0 rfl rfl 0 (by decide) (hts (.fieldLink RX3 12 "Rackrail" "store" "LRackrail$Store;") (by decide +kernel)) (fun _ h9 => h9) rfl dX3_setClimate_33 ?_
    refine lv_iload_n hx hb dX3_setClimate_36 rfl (lv_at hl 2 rfl) ?_
    refine lv_iload_n hx hb dX3_setClimate_37 rfl (lv_at hl 3 rfl) ?_
    refine k_m (wc := [wcS a cn, wcI G (a 2) 6 sc]) (w1 := [wcS a cn, wcI G (a 2) 6 (f_X2_changeClimate sc p0 p1)]) (wn := [wcA a ck, wcS a cn, wcI G (a 2) 6 (f_X2_changeClimate sc p0 p1)]) (va_runV (As := [.int p0, .int p1]) (rest := []) ⟨hx, hb, hml, hown, hts⟩ (c_X2_changeClimate l G a s.heap.size cn sc p0 p1) (cwV 2 hts gX3_setClimate_X2_changeClimate rfl rfl rfl ⟨rfl, by decide +kernel, by decide +kernel, by decide +kernel⟩ ⟨Nat.le_of_ble_eq_true rfl, Nat.le_of_ble_eq_true rfl⟩) ⟨GP.blind, va_recv hE.1 hP (ci := 2) (q0 := 1) rfl rfl, GP.go (wc := [wcS a cn, wcI G (a 2) 6 sc]) hE hZ hP hD hS hA [1, 2] rfl (by decide) [.ref (a 1), .int p0, .int p1]⟩ rfl rfl hl.1 rfl (lv_room (Nat.le_of_ble_eq_true rfl)) dX3_setClimate_38 ⟨Nat.le_of_ble_eq_true rfl, Nat.le_of_ble_eq_true rfl⟩) hP hD hS hA [1, 2] rfl rfl rfl rfl (fun H locs hP hD hS => ?_)
    refine lv_iload_n hx hb dX3_setClimate_41 rfl (lv_at hl 0 rfl) ?_
    have hq : f_X3_setClimate sc p0 p1 = (f_X2_climateOf sc p0, f_X2_changeClimate sc p0 p1) := (by rw [f_X3_setClimate, if_pos c_2, if_neg c_10])
    exact W.iret (v := f_X2_climateOf sc p0) hx hb hr (fun t ht _ => ⟨by rw [hq], by rw [hq, ht]; exact hP, hS.F ht⟩) hS.2.2 dX3_setClimate_42
  · exact absurd (h0.symm.trans (by rw [k_X3_setClimate, if_pos c_2, if_pos c_10])) (by decide)

theorem gx2_X3_setClimate : ∀ w ∈ (vx_atS RX3 46 (exn 2) xnames).filter goodWord, w ∈ wsX3_setClimate := by decide +kernel
set_option maxHeartbeats 4000000 in
set_option maxRecDepth 100000 in
theorem cx_X3_setClimate (l : Launch) (hl9 : l.stackTraces = false) (G : GT) (a : Nat → Nat) (sz : Nat) (ck : Int32) (cn : Int32) (sc : Nat → Int32) (p0 : Int32) (p1 : Int32) (h0 : ¬ k_X3_setClimate p0 p1 = 0) : vx_Met l yX3_setClimate wsX3_setClimate ({ frames := 7, cells := 1, slots := 6, locals := 111 }) (GP G [.ref (a 0), .int p0, .int p1] [wcA a ck, wcS a cn, wcI G (a 2) 6 sc] sz) NQ (XQ (k_X3_setClimate p0 p1)) 1 6 (fun _ => False) := by
  refine bodyX (cc := cX3_setClimate) (maxL := 4) (ret := (some .int)) (by decide) rfl (Nat.le_of_ble_eq_true rfl) ?_
  intro p e s m below meth c ls C ht
  obtain ⟨hx, hb, hr, hts, hown, hlocks, hml, hsz, hP, hE, hD, hZ, hA, hS, hl⟩ := C
  subst hsz
  have hl : lv_has ls 4 [(0, .ref (a 0)), (1, .int p0), (2, .int p1)] := hl
  refine lv_aload_n hx hb dX3_setClimate_0 rfl (lv_at hl 0 rfl) ?_
  refine lv_iload_n hx hb dX3_setClimate_1 rfl (lv_at hl 1 rfl) ?_
  by_cases c_2 : k_X3_requireShelf p0 = 0
  · refine k_p (va_runV (As := [.int p0]) (rest := []) ⟨hx, hb, hml, hown, hts⟩ (c_X3_requireShelf l hl9 G a s.heap.size p0 c_2) (cwV 1 hts gX3_setClimate_X3_requireShelf rfl rfl rfl ⟨rfl, by decide +kernel, by decide +kernel, by decide +kernel⟩ ⟨Nat.le_of_ble_eq_true rfl, Nat.le_of_ble_eq_true rfl⟩) ⟨GP.blind, va_recv hE.1 hP (ci := 3) (q0 := 0) rfl rfl, GP.go (wc := []) hE hZ hP hD hS hA [] rfl (by decide) [.ref (a 0), .int p0]⟩ rfl rfl hl.1 rfl (lv_room (Nat.le_of_ble_eq_true rfl)) dX3_setClimate_2 ⟨Nat.le_of_ble_eq_true rfl, Nat.le_of_ble_eq_true rfl⟩) ?_
    refine lv_iload_n hx hb dX3_setClimate_5 rfl (lv_at hl 2 rfl) ?_
    refine lv_iconst (v := 3) hx hb dX3_setClimate_6 (by decide) ?_
    refine k_p (va_runS (As := [.int p1, .int 3]) (rest := []) ⟨hx, hb, hml, hown, hts⟩ (c_X3_isBelow l G s.heap.size p1 3) (va_cwS 2 hts gX3_setClimate_X3_isBelow rfl rfl rfl ⟨by decide +kernel, by decide +kernel, by decide +kernel⟩ ⟨Nat.le_of_ble_eq_true rfl, Nat.le_of_ble_eq_true rfl⟩) ⟨GP.blind, GP.go (wc := []) hE hZ hP hD hS hA [] rfl (by decide) [.int p1, .int 3]⟩ rfl rfl hl.1 rfl (lv_room (Nat.le_of_ble_eq_true rfl)) dX3_setClimate_7 ⟨Nat.le_of_ble_eq_true rfl, Nat.le_of_ble_eq_true rfl⟩) ?_
    refine lv_if_ne (tgt := 23) hx hb dX3_setClimate_10 (by decide) (fun c_10 => ?_) (fun c_10 => ?_)
    · refine lv_aload_n hx hb dX3_setClimate_23 rfl (lv_at hl 0 rfl) ?_
      refine va_get (D := G.1) (ci := 3) (v := .ref (a 1)) (C := RX3) (T := TX3) (N := 4) hx hb hts iw_X3_setClimate_RX3 hown hE.1 hP 0 rfl rfl 0 (by decide) (hts (.fieldLink RX3 12 "Rackrail" "store" "LRackrail$Store;") (by decide +kernel)) (fun _ h9 => h9) rfl dX3_setClimate_24 ?_
      refine lv_iload_n hx hb dX3_setClimate_27 rfl (lv_at hl 1 rfl) ?_
      refine k_p (va_runV (As := [.int p0]) (rest := []) ⟨hx, hb, hml, hown, hts⟩ (c_X2_climateOf l G a s.heap.size cn sc p0) (cwV 1 hts gX3_setClimate_X2_climateOf rfl rfl rfl ⟨rfl, by decide +kernel, by decide +kernel, by decide +kernel⟩ ⟨Nat.le_of_ble_eq_true rfl, Nat.le_of_ble_eq_true rfl⟩) ⟨GP.blind, va_recv hE.1 hP (ci := 2) (q0 := 1) rfl rfl, GP.go (wc := [wcS a cn, wcI G (a 2) 6 sc]) hE hZ hP hD hS hA [1, 2] rfl (by decide) [.ref (a 1), .int p0]⟩ rfl rfl hl.1 rfl (lv_room (Nat.le_of_ble_eq_true rfl)) dX3_setClimate_28 ⟨Nat.le_of_ble_eq_true rfl, Nat.le_of_ble_eq_true rfl⟩) ?_
      refine lv_istore_n (lv' := [(3, .int (f_X2_climateOf sc p0)), (0, .ref (a 0)), (1, .int p0), (2, .int p1)]) hx hb dX3_setClimate_31 rfl hl (by decide) rfl (fun ls hl => ?_)
      refine lv_aload_n hx hb dX3_setClimate_32 rfl (lv_at hl 1 rfl) ?_
      refine va_get (D := G.1) (ci := 3) (v := .ref (a 1)) (C := RX3) (T := TX3) (N := 4) hx hb hts iw_X3_setClimate_RX3 hown hE.1 hP 0 rfl rfl 0 (by decide) (hts (.fieldLink RX3 12 "Rackrail" "store" "LRackrail$Store;") (by decide +kernel)) (fun _ h9 => h9) rfl dX3_setClimate_33 ?_
      refine lv_iload_n hx hb dX3_setClimate_36 rfl (lv_at hl 2 rfl) ?_
      refine lv_iload_n hx hb dX3_setClimate_37 rfl (lv_at hl 3 rfl) ?_
      exact absurd (by rw [k_X3_setClimate, if_pos c_2, if_neg c_10]) h0
    · exact k_thr (k := 2) (ik := 42) (is := 44) (ic := 46) (by decide) thr_f2 thr_o2 thr_b2 (tx := "climate out of range") (by decide) hx hb hl9 hown (hts (.classLink RX3 42 (exn 2)) (by decide +kernel)) (hts (.initialized (exn 2)) (by decide +kernel)) (fun w h => hts w (gx2_X3_setClimate w h)) hE hZ hS (hl.1.trans hml.symm) ht hlocks dX3_setClimate_13 dX3_setClimate_16 dX3_setClimate_17 dX3_setClimate_19 dX3_setClimate_22 (Nat.le_of_ble_eq_true rfl) (Nat.le_of_ble_eq_true rfl) (Nat.le_of_ble_eq_true rfl) (Nat.le_of_ble_eq_true rfl) (by rw [k_X3_setClimate, if_pos c_2, if_pos c_10])
  · exact k_xo ht hlocks (by decide) (by decide) rfl rfl (vx_runV (As := [.int p0]) (rest := []) ⟨hx, hb, hml, hown, hts⟩ (cx_X3_requireShelf l hl9 G a s.heap.size p0 c_2) (cwV 1 hts gX3_setClimate_X3_requireShelf rfl rfl rfl ⟨rfl, by decide +kernel, by decide +kernel, by decide +kernel⟩ ⟨Nat.le_of_ble_eq_true rfl, Nat.le_of_ble_eq_true rfl⟩) ⟨GP.blind, va_recv hE.1 hP (ci := 3) (q0 := 0) rfl rfl, GP.go (wc := []) hE hZ hP hD hS hA [] rfl (by decide) [.ref (a 0), .int p0]⟩ rfl rfl hl.1 rfl (lv_room (Nat.le_of_ble_eq_true rfl)) dX3_setClimate_2 ⟨Nat.le_of_ble_eq_true rfl, Nat.le_of_ble_eq_true rfl⟩) (by rw [k_X3_setClimate, if_neg c_2])

/-! X3_addBox -/
def f_X3_addBox (cn : Int32) (cl : Nat → Int32) (wt : Nat → Int32) (kn : Nat → Int32) (sp : Nat → Int32) (p0 : Int32) (p1 : Int32) (p2 : Int32) : Int32 × Int32 × (Nat → Int32) × (Nat → Int32) × (Nat → Int32) × (Nat → Int32) :=
  if (f_X3_isBelow p0 3) = 0 then (0, cn, cl, wt, kn, sp)
    else if p1 < 1 then (0, cn, cl, wt, kn, sp)
    else if p1 ≤ 60 then (if (f_X3_isBelow p2 10) = 0 then (0, cn, cl, wt, kn, sp)
      else if (f_X2_isFull cn) = 0 then ((f_X2_enter cn cl wt kn sp p0 p1 p2).1, (f_X2_enter cn cl wt kn sp p0 p1 p2).2.1, (f_X2_enter cn cl wt kn sp p0 p1 p2).2.2.1, (f_X2_enter cn cl wt kn sp p0 p1 p2).2.2.2.1, (f_X2_enter cn cl wt kn sp p0 p1 p2).2.2.2.2.1, (f_X2_enter cn cl wt kn sp p0 p1 p2).2.2.2.2.2)
      else (0, cn, cl, wt, kn, sp))
    else (0, cn, cl, wt, kn, sp)
def k_X3_addBox (cn : Int32) (p0 : Int32) (p1 : Int32) (p2 : Int32) : Nat :=
  if (f_X3_isBelow p0 3) = 0 then 2
    else if p1 < 1 then 2
    else if p1 ≤ 60 then (if (f_X3_isBelow p2 10) = 0 then 2
      else if (f_X2_isFull cn) = 0 then 0
      else 3)
    else 2
theorem kr_X3_addBox (cn : Int32) (p0 : Int32) (p1 : Int32) (p2 : Int32) : k_X3_addBox cn p0 p1 p2 = 0 ∨ k_X3_addBox cn p0 p1 p2 = 2 ∨ k_X3_addBox cn p0 p1 p2 = 3 := by
  unfold k_X3_addBox
  (repeat' split) <;> decide
theorem iw_X3_addBox_RX3 : ∀ w ∈ u_ws RX3 TX3 4, w ∈ wsX3_addBox := by decide +kernel
set_option maxHeartbeats 4000000 in
set_option maxRecDepth 100000 in
theorem c_X3_addBox (l : Launch) (hl9 : l.stackTraces = false) (G : GT) (a : Nat → Nat) (sz : Nat) (ck : Int32) (cn : Int32) (cl : Nat → Int32) (wt : Nat → Int32) (kn : Nat → Int32) (sp : Nat → Int32) (p0 : Int32) (p1 : Int32) (p2 : Int32) (hcn : okN 20 cn) (h0 : k_X3_addBox cn p0 p1 p2 = 0) : Met l yX3_addBox wsX3_addBox ({ frames := 6, cells := 0, slots := 0, locals := 90 }) (GP G [.ref (a 0), .int p0, .int p1, .int p2] [wcA a ck, wcS a cn, wcI G (a 3) 20 cl, wcI G (a 4) 20 wt, wcI G (a 5) 20 kn, wcI G (a 6) 20 sp] sz) (MQo G (.returned (some (.int ((f_X3_addBox cn cl wt kn sp p0 p1 p2).1)))) [wcA a ck, wcS a ((f_X3_addBox cn cl wt kn sp p0 p1 p2).2.1), wcI G (a 3) 20 ((f_X3_addBox cn cl wt kn sp p0 p1 p2).2.2.1), wcI G (a 4) 20 ((f_X3_addBox cn cl wt kn sp p0 p1 p2).2.2.2.1), wcI G (a 5) 20 ((f_X3_addBox cn cl wt kn sp p0 p1 p2).2.2.2.2.1), wcI G (a 6) 20 ((f_X3_addBox cn cl wt kn sp p0 p1 p2).2.2.2.2.2)] (va_A [wcA a ck, wcS a cn, wcI G (a 3) 20 cl, wcI G (a 4) 20 wt, wcI G (a 5) 20 kn, wcI G (a 6) 20 sp] sz)) 0 0 (va_A [wcA a ck, wcS a cn, wcI G (a 3) 20 cl, wcI G (a 4) 20 wt, wcI G (a 5) 20 kn, wcI G (a 6) 20 sp] sz) := by
  refine bodyM (cc := cX3_addBox) (maxL := 4) (ret := (some .int)) (by decide) rfl (Nat.le_of_ble_eq_true rfl) ?_
  intro p e s m below meth c ls C
  obtain ⟨hx, hb, hr, hts, hown, hlocks, hml, hsz, hP, hE, hD, hZ, hA, hS, hl⟩ := C
  subst hsz
  have hl : lv_has ls 4 [(0, .ref (a 0)), (1, .int p0), (2, .int p1), (3, .int p2)] := hl
  refine lv_iload_n hx hb dX3_addBox_0 rfl (lv_at hl 1 rfl) ?_
  refine lv_iconst (v := 3) hx hb dX3_addBox_1 (by decide) ?_
  refine k_p (va_runS (As := [.int p0, .int 3]) (rest := []) ⟨hx, hb, hml, hown, hts⟩ (c_X3_isBelow l G s.heap.size p0 3) (va_cwS 2 hts gX3_addBox_X3_isBelow rfl rfl rfl ⟨by decide +kernel, by decide +kernel, by decide +kernel⟩ ⟨Nat.le_of_ble_eq_true rfl, Nat.le_of_ble_eq_true rfl⟩) ⟨GP.blind, GP.go (wc := []) hE hZ hP hD hS hA [] rfl (by decide) [.int p0, .int 3]⟩ rfl rfl hl.1 rfl (lv_room (Nat.le_of_ble_eq_true rfl)) dX3_addBox_2 ⟨Nat.le_of_ble_eq_true rfl, Nat.le_of_ble_eq_true rfl⟩) ?_
  refine lv_if_ne (tgt := 18) hx hb dX3_addBox_5 (by decide) (fun c_5 => ?_) (fun c_5 => ?_)
  · refine lv_iload_n hx hb dX3_addBox_18 rfl (lv_at hl 2 rfl) ?_
    refine lv_iconst (v := 1) hx hb dX3_addBox_19 (by decide) ?_
    refine lv_icmp_lt (tgt := 29) hx hb dX3_addBox_20 (by decide) (fun c_20 => ?_) (fun c_20 => ?_)
    · exact absurd (h0.symm.trans (by rw [k_X3_addBox, if_neg c_5, if_pos c_20])) (by decide)
    · refine lv_iload_n hx hb dX3_addBox_23 rfl (lv_at hl 2 rfl) ?_
      refine lv_bipush (v := 60) hx hb dX3_addBox_24 (by decide) ?_
      refine lv_icmp_le (tgt := 39) hx hb dX3_addBox_26 (by decide) (fun c_26 => ?_) (fun c_26 => ?_)
      · refine lv_iload_n hx hb dX3_addBox_39 rfl (lv_at hl 3 rfl) ?_
        refine lv_bipush (v := 10) hx hb dX3_addBox_40 (by decide) ?_
        refine k_p (va_runS (As := [.int p2, .int 10]) (rest := []) ⟨hx, hb, hml, hown, hts⟩ (c_X3_isBelow l G s.heap.size p2 10) (va_cwS 2 hts gX3_addBox_X3_isBelow rfl rfl rfl ⟨by decide +kernel, by decide +kernel, by decide +kernel⟩ ⟨Nat.le_of_ble_eq_true rfl, Nat.le_of_ble_eq_true rfl⟩) ⟨GP.blind, GP.go (wc := []) hE hZ hP hD hS hA [] rfl (by decide) [.int p2, .int 10]⟩ rfl rfl hl.1 rfl (lv_room (Nat.le_of_ble_eq_true rfl)) dX3_addBox_42 ⟨Nat.le_of_ble_eq_true rfl, Nat.le_of_ble_eq_true rfl⟩) ?_
        refine lv_if_ne (tgt := 58) hx hb dX3_addBox_45 (by decide) (fun c_45 => ?_) (fun c_45 => ?_)
        · refine lv_aload_n hx hb dX3_addBox_58 rfl (lv_at hl 0 rfl) ?_
          refine va_get (D := G.1) (ci := 3) (v := .ref (a 1)) (C := RX3) (T := TX3) (N := 4) hx hb hts iw_X3_addBox_RX3 hown hE.1 hP 0 rfl rfl 0 (by decide) (hts (.fieldLink RX3 12 "Rackrail" "store" "LRackrail$Store;") (by decide +kernel)) (fun _ h9 => h9) rfl dX3_addBox_59 ?_
          refine k_p (va_runV (As := []) (rest := []) ⟨hx, hb, hml, hown, hts⟩ (c_X2_isFull l G a s.heap.size cn) (cwV 0 hts gX3_addBox_X2_isFull rfl rfl rfl ⟨rfl, by decide +kernel, by decide +kernel, by decide +kernel⟩ ⟨Nat.le_of_ble_eq_true rfl, Nat.le_of_ble_eq_true rfl⟩) ⟨GP.blind, va_recv hE.1 hP (ci := 2) (q0 := 1) rfl rfl, GP.go (wc := [wcS a cn]) hE hZ hP hD hS hA [1] rfl (by decide) [.ref (a 1)]⟩ rfl rfl hl.1 rfl (lv_room (Nat.le_of_ble_eq_true rfl)) dX3_addBox_62 ⟨Nat.le_of_ble_eq_true rfl, Nat.le_of_ble_eq_true rfl⟩) ?_
          refine lv_if_eq (tgt := 78) hx hb dX3_addBox_65 (by decide) (fun c_65 => ?_) (fun c_65 => ?_)
          · refine lv_aload_n hx hb dX3_addBox_78 rfl (lv_at hl 0 rfl) ?_
            refine va_get (D := G.1) (ci := 3) (v := .ref (a 1)) (C := RX3) (T := TX3) (N := 4) hx hb hts iw_X3_addBox_RX3 hown hE.1 hP 0 rfl rfl 0 (by decide) (hts (.fieldLink RX3 12 "Rackrail" "store" "LRackrail$Store;") (by decide +kernel)) (fun _ h9 => h9) rfl dX3_addBox_79 ?_
            refine lv_iload_n hx hb dX3_addBox_82 rfl (lv_at hl 1 rfl) ?_
            refine lv_iload_n hx hb dX3_addBox_83 rfl (lv_at hl 2 rfl) ?_
            refine lv_iload_n hx hb dX3_addBox_84 rfl (lv_at hl 3 rfl) ?_
            refine k_m (wc := [wcS a cn, wcI G (a 3) 20 cl, wcI G (a 4) 20 wt, wcI G (a 5) 20 kn, wcI G (a 6) 20 sp]) (w1 := [wcS a ((f_X2_enter cn cl wt kn sp p0 p1 p2).2.1), wcI G (a 3) 20 ((f_X2_enter cn cl wt kn sp p0 p1 p2).2.2.1), wcI G (a 4) 20 ((f_X2_enter cn cl wt kn sp p0 p1 p2).2.2.2.1), wcI G (a 5) 20 ((f_X2_enter cn cl wt kn sp p0 p1 p2).2.2.2.2.1), wcI G (a 6) 20 ((f_X2_enter cn cl wt kn sp p0 p1 p2).2.2.2.2.2)]) (wn := [wcA a ck, wcS a ((f_X2_enter cn cl wt kn sp p0 p1 p2).2.1), wcI G (a 3) 20 ((f_X2_enter cn cl wt kn sp p0 p1 p2).2.2.1), wcI G (a 4) 20 ((f_X2_enter cn cl wt kn sp p0 p1 p2).2.2.2.1), wcI G (a 5) 20 ((f_X2_enter cn cl wt kn sp p0 p1 p2).2.2.2.2.1), wcI G (a 6) 20 ((f_X2_enter cn cl wt kn sp p0 p1 p2).2.2.2.2.2)]) (va_runV (As := [.int p0, .int p1, .int p2]) (rest := []) ⟨hx, hb, hml, hown, hts⟩ (c_X2_enter l G a s.heap.size cn cl wt kn sp p0 p1 p2 hcn) (cwV 3 hts gX3_addBox_X2_enter rfl rfl rfl ⟨rfl, by decide +kernel, by decide +kernel, by decide +kernel⟩ ⟨Nat.le_of_ble_eq_true rfl, Nat.le_of_ble_eq_true rfl⟩) ⟨GP.blind, va_recv hE.1 hP (ci := 2) (q0 := 1) rfl rfl, GP.go (wc := [wcS a cn, wcI G (a 3) 20 cl, wcI G (a 4) 20 wt, wcI G (a 5) 20 kn, wcI G (a 6) 20 sp]) hE hZ hP hD hS hA [1, 2, 3, 4, 5] rfl (by decide) [.ref (a 1), .int p0, .int p1, .int p2]⟩ rfl rfl hl.1 rfl (lv_room (Nat.le_of_ble_eq_true rfl)) dX3_addBox_85 ⟨Nat.le_of_ble_eq_true rfl, Nat.le_of_ble_eq_true rfl⟩) hP hD hS hA [1, 2, 3, 4, 5] rfl rfl rfl rfl (fun H locs hP hD hS => ?_)
            have hq : f_X3_addBox cn cl wt kn sp p0 p1 p2 = ((f_X2_enter cn cl wt kn sp p0 p1 p2).1, (f_X2_enter cn cl wt kn sp p0 p1 p2).2.1, (f_X2_enter cn cl wt kn sp p0 p1 p2).2.2.1, (f_X2_enter cn cl wt kn sp p0 p1 p2).2.2.2.1, (f_X2_enter cn cl wt kn sp p0 p1 p2).2.2.2.2.1, (f_X2_enter cn cl wt kn sp p0 p1 p2).2.2.2.2.2) := (by rw [f_X3_addBox, if_neg c_5, if_neg c_20, if_pos c_26, if_neg c_45, if_pos c_65])
            exact W.iret (v := (f_X2_enter cn cl wt kn sp p0 p1 p2).1) hx hb hr (fun t ht _ => ⟨by rw [hq], by rw [hq, ht]; exact hP, hS.F ht⟩) hS.2.2 dX3_addBox_88
          · exact absurd (h0.symm.trans (by rw [k_X3_addBox, if_neg c_5, if_neg c_20, if_pos c_26, if_neg c_45, if_neg c_65])) (by decide)
        · exact absurd (h0.symm.trans (by rw [k_X3_addBox, if_neg c_5, if_neg c_20, if_pos c_26, if_pos c_45])) (by decide)
      · exact absurd (h0.symm.trans (by rw [k_X3_addBox, if_neg c_5, if_neg c_20, if_neg c_26])) (by decide)
  · exact absurd (h0.symm.trans (by rw [k_X3_addBox, if_pos c_5])) (by decide)

theorem gx2_X3_addBox : ∀ w ∈ (vx_atS RX3 46 (exn 2) xnames).filter goodWord, w ∈ wsX3_addBox := by decide +kernel
theorem gx3_X3_addBox : ∀ w ∈ (vx_atS RX3 69 (exn 3) xnames).filter goodWord, w ∈ wsX3_addBox := by decide +kernel
set_option maxHeartbeats 4000000 in
set_option maxRecDepth 100000 in
theorem cx_X3_addBox (l : Launch) (hl9 : l.stackTraces = false) (G : GT) (a : Nat → Nat) (sz : Nat) (ck : Int32) (cn : Int32) (cl : Nat → Int32) (wt : Nat → Int32) (kn : Nat → Int32) (sp : Nat → Int32) (p0 : Int32) (p1 : Int32) (p2 : Int32) (hcn : okN 20 cn) (h0 : ¬ k_X3_addBox cn p0 p1 p2 = 0) : vx_Met l yX3_addBox wsX3_addBox ({ frames := 6, cells := 1, slots := 6, locals := 90 }) (GP G [.ref (a 0), .int p0, .int p1, .int p2] [wcA a ck, wcS a cn, wcI G (a 3) 20 cl, wcI G (a 4) 20 wt, wcI G (a 5) 20 kn, wcI G (a 6) 20 sp] sz) NQ (XQ (k_X3_addBox cn p0 p1 p2)) 1 6 (fun _ => False) := by
  refine bodyX (cc := cX3_addBox) (maxL := 4) (ret := (some .int)) (by decide) rfl (Nat.le_of_ble_eq_true rfl) ?_
  intro p e s m below meth c ls C ht
  obtain ⟨hx, hb, hr, hts, hown, hlocks, hml, hsz, hP, hE, hD, hZ, hA, hS, hl⟩ := C
  subst hsz
  have hl : lv_has ls 4 [(0, .ref (a 0)), (1, .int p0), (2, .int p1), (3, .int p2)] := hl
  refine lv_iload_n hx hb dX3_addBox_0 rfl (lv_at hl 1 rfl) ?_
  refine lv_iconst (v := 3) hx hb dX3_addBox_1 (by decide) ?_
  refine k_p (va_runS (As := [.int p0, .int 3]) (rest := []) ⟨hx, hb, hml, hown, hts⟩ (c_X3_isBelow l G s.heap.size p0 3) (va_cwS 2 hts gX3_addBox_X3_isBelow rfl rfl rfl ⟨by decide +kernel, by decide +kernel, by decide +kernel⟩ ⟨Nat.le_of_ble_eq_true rfl, Nat.le_of_ble_eq_true rfl⟩) ⟨GP.blind, GP.go (wc := []) hE hZ hP hD hS hA [] rfl (by decide) [.int p0, .int 3]⟩ rfl rfl hl.1 rfl (lv_room (Nat.le_of_ble_eq_true rfl)) dX3_addBox_2 ⟨Nat.le_of_ble_eq_true rfl, Nat.le_of_ble_eq_true rfl⟩) ?_
  refine lv_if_ne (tgt := 18) hx hb dX3_addBox_5 (by decide) (fun c_5 => ?_) (fun c_5 => ?_)
  · refine lv_iload_n hx hb dX3_addBox_18 rfl (lv_at hl 2 rfl) ?_
    refine lv_iconst (v := 1) hx hb dX3_addBox_19 (by decide) ?_
    refine lv_icmp_lt (tgt := 29) hx hb dX3_addBox_20 (by decide) (fun c_20 => ?_) (fun c_20 => ?_)
    · exact k_thr (k := 2) (ik := 42) (is := 57) (ic := 46) (by decide) thr_f2 thr_o2 thr_b2 (tx := "weight out of range") (by decide) hx hb hl9 hown (hts (.classLink RX3 42 (exn 2)) (by decide +kernel)) (hts (.initialized (exn 2)) (by decide +kernel)) (fun w h => hts w (gx2_X3_addBox w h)) hE hZ hS (hl.1.trans hml.symm) ht hlocks dX3_addBox_29 dX3_addBox_32 dX3_addBox_33 dX3_addBox_35 dX3_addBox_38 (Nat.le_of_ble_eq_true rfl) (Nat.le_of_ble_eq_true rfl) (Nat.le_of_ble_eq_true rfl) (Nat.le_of_ble_eq_true rfl) (by rw [k_X3_addBox, if_neg c_5, if_pos c_20])
    · refine lv_iload_n hx hb dX3_addBox_23 rfl (lv_at hl 2 rfl) ?_
      refine lv_bipush (v := 60) hx hb dX3_addBox_24 (by decide) ?_
      refine lv_icmp_le (tgt := 39) hx hb dX3_addBox_26 (by decide) (fun c_26 => ?_) (fun c_26 => ?_)
      · refine lv_iload_n hx hb dX3_addBox_39 rfl (lv_at hl 3 rfl) ?_
        refine lv_bipush (v := 10) hx hb dX3_addBox_40 (by decide) ?_
        refine k_p (va_runS (As := [.int p2, .int 10]) (rest := []) ⟨hx, hb, hml, hown, hts⟩ (c_X3_isBelow l G s.heap.size p2 10) (va_cwS 2 hts gX3_addBox_X3_isBelow rfl rfl rfl ⟨by decide +kernel, by decide +kernel, by decide +kernel⟩ ⟨Nat.le_of_ble_eq_true rfl, Nat.le_of_ble_eq_true rfl⟩) ⟨GP.blind, GP.go (wc := []) hE hZ hP hD hS hA [] rfl (by decide) [.int p2, .int 10]⟩ rfl rfl hl.1 rfl (lv_room (Nat.le_of_ble_eq_true rfl)) dX3_addBox_42 ⟨Nat.le_of_ble_eq_true rfl, Nat.le_of_ble_eq_true rfl⟩) ?_
        refine lv_if_ne (tgt := 58) hx hb dX3_addBox_45 (by decide) (fun c_45 => ?_) (fun c_45 => ?_)
        · refine lv_aload_n hx hb dX3_addBox_58 rfl (lv_at hl 0 rfl) ?_
          refine va_get (D := G.1) (ci := 3) (v := .ref (a 1)) (C := RX3) (T := TX3) (N := 4) hx hb hts iw_X3_addBox_RX3 hown hE.1 hP 0 rfl rfl 0 (by decide) (hts (.fieldLink RX3 12 "Rackrail" "store" "LRackrail$Store;") (by decide +kernel)) (fun _ h9 => h9) rfl dX3_addBox_59 ?_
          refine k_p (va_runV (As := []) (rest := []) ⟨hx, hb, hml, hown, hts⟩ (c_X2_isFull l G a s.heap.size cn) (cwV 0 hts gX3_addBox_X2_isFull rfl rfl rfl ⟨rfl, by decide +kernel, by decide +kernel, by decide +kernel⟩ ⟨Nat.le_of_ble_eq_true rfl, Nat.le_of_ble_eq_true rfl⟩) ⟨GP.blind, va_recv hE.1 hP (ci := 2) (q0 := 1) rfl rfl, GP.go (wc := [wcS a cn]) hE hZ hP hD hS hA [1] rfl (by decide) [.ref (a 1)]⟩ rfl rfl hl.1 rfl (lv_room (Nat.le_of_ble_eq_true rfl)) dX3_addBox_62 ⟨Nat.le_of_ble_eq_true rfl, Nat.le_of_ble_eq_true rfl⟩) ?_
          refine lv_if_eq (tgt := 78) hx hb dX3_addBox_65 (by decide) (fun c_65 => ?_) (fun c_65 => ?_)
          · refine lv_aload_n hx hb dX3_addBox_78 rfl (lv_at hl 0 rfl) ?_
            refine va_get (D := G.1) (ci := 3) (v := .ref (a 1)) (C := RX3) (T := TX3) (N := 4) hx hb hts iw_X3_addBox_RX3 hown hE.1 hP 0 rfl rfl 0 (by decide) (hts (.fieldLink RX3 12 "Rackrail" "store" "LRackrail$Store;") (by decide +kernel)) (fun _ h9 => h9) rfl dX3_addBox_79 ?_
            refine lv_iload_n hx hb dX3_addBox_82 rfl (lv_at hl 1 rfl) ?_
            refine lv_iload_n hx hb dX3_addBox_83 rfl (lv_at hl 2 rfl) ?_
            refine lv_iload_n hx hb dX3_addBox_84 rfl (lv_at hl 3 rfl) ?_
            exact absurd (by rw [k_X3_addBox, if_neg c_5, if_neg c_20, if_pos c_26, if_neg c_45, if_pos c_65]) h0
          · exact k_thr (k := 3) (ik := 65) (is := 67) (ic := 69) (by decide) thr_f3 thr_o3 thr_b3 (tx := "no more boxes") (by decide) hx hb hl9 hown (hts (.classLink RX3 65 (exn 3)) (by decide +kernel)) (hts (.initialized (exn 3)) (by decide +kernel)) (fun w h => hts w (gx3_X3_addBox w h)) hE hZ hS (hl.1.trans hml.symm) ht hlocks dX3_addBox_68 dX3_addBox_71 dX3_addBox_72 dX3_addBox_74 dX3_addBox_77 (Nat.le_of_ble_eq_true rfl) (Nat.le_of_ble_eq_true rfl) (Nat.le_of_ble_eq_true rfl) (Nat.le_of_ble_eq_true rfl) (by rw [k_X3_addBox, if_neg c_5, if_neg c_20, if_pos c_26, if_neg c_45, if_neg c_65])
        · exact k_thr (k := 2) (ik := 42) (is := 59) (ic := 46) (by decide) thr_f2 thr_o2 thr_b2 (tx := "kin out of range") (by decide) hx hb hl9 hown (hts (.classLink RX3 42 (exn 2)) (by decide +kernel)) (hts (.initialized (exn 2)) (by decide +kernel)) (fun w h => hts w (gx2_X3_addBox w h)) hE hZ hS (hl.1.trans hml.symm) ht hlocks dX3_addBox_48 dX3_addBox_51 dX3_addBox_52 dX3_addBox_54 dX3_addBox_57 (Nat.le_of_ble_eq_true rfl) (Nat.le_of_ble_eq_true rfl) (Nat.le_of_ble_eq_true rfl) (Nat.le_of_ble_eq_true rfl) (by rw [k_X3_addBox, if_neg c_5, if_neg c_20, if_pos c_26, if_pos c_45])
      · exact k_thr (k := 2) (ik := 42) (is := 57) (ic := 46) (by decide) thr_f2 thr_o2 thr_b2 (tx := "weight out of range") (by decide) hx hb hl9 hown (hts (.classLink RX3 42 (exn 2)) (by decide +kernel)) (hts (.initialized (exn 2)) (by decide +kernel)) (fun w h => hts w (gx2_X3_addBox w h)) hE hZ hS (hl.1.trans hml.symm) ht hlocks dX3_addBox_29 dX3_addBox_32 dX3_addBox_33 dX3_addBox_35 dX3_addBox_38 (Nat.le_of_ble_eq_true rfl) (Nat.le_of_ble_eq_true rfl) (Nat.le_of_ble_eq_true rfl) (Nat.le_of_ble_eq_true rfl) (by rw [k_X3_addBox, if_neg c_5, if_neg c_20, if_neg c_26])
  · exact k_thr (k := 2) (ik := 42) (is := 44) (ic := 46) (by decide) thr_f2 thr_o2 thr_b2 (tx := "climate out of range") (by decide) hx hb hl9 hown (hts (.classLink RX3 42 (exn 2)) (by decide +kernel)) (hts (.initialized (exn 2)) (by decide +kernel)) (fun w h => hts w (gx2_X3_addBox w h)) hE hZ hS (hl.1.trans hml.symm) ht hlocks dX3_addBox_8 dX3_addBox_11 dX3_addBox_12 dX3_addBox_14 dX3_addBox_17 (Nat.le_of_ble_eq_true rfl) (Nat.le_of_ble_eq_true rfl) (Nat.le_of_ble_eq_true rfl) (Nat.le_of_ble_eq_true rfl) (by rw [k_X3_addBox, if_pos c_5])

/-! X3_bestSpot -/
def f_X3_bestSpot (cn : Int32) (sc : Nat → Int32) (cl : Nat → Int32) (wt : Nat → Int32) (kn : Nat → Int32) (sp : Nat → Int32) (p0 : Int32) : Int32 :=
  if k_X3_requireBox cn p0 = 0 then (if k_X3_requireOut cn sp p0 = 0 then f_X2_bestSpotFor cn sc cl wt kn sp p0
      else 0)
    else 0
def k_X3_bestSpot (cn : Int32) (sp : Nat → Int32) (p0 : Int32) : Nat :=
  if k_X3_requireBox cn p0 = 0 then (if k_X3_requireOut cn sp p0 = 0 then 0
      else 3)
    else 1
theorem kr_X3_bestSpot (cn : Int32) (sp : Nat → Int32) (p0 : Int32) : k_X3_bestSpot cn sp p0 = 0 ∨ k_X3_bestSpot cn sp p0 = 1 ∨ k_X3_bestSpot cn sp p0 = 3 := by
  unfold k_X3_bestSpot
  (repeat' split) <;> decide
theorem iw_X3_bestSpot_RX3 : ∀ w ∈ u_ws RX3 TX3 4, w ∈ wsX3_bestSpot := by decide +kernel
set_option maxHeartbeats 4000000 in
set_option maxRecDepth 100000 in
theorem c_X3_bestSpot (l : Launch) (hl9 : l.stackTraces = false) (G : GT) (a : Nat → Nat) (sz : Nat) (ck : Int32) (cn : Int32) (sc : Nat → Int32) (cl : Nat → Int32) (wt : Nat → Int32) (kn : Nat → Int32) (sp : Nat → Int32) (p0 : Int32) (hcn : okN 20 cn) (h0 : k_X3_bestSpot cn sp p0 = 0) : Met l yX3_bestSpot wsX3_bestSpot ({ frames := 7, cells := 0, slots := 0, locals := 137 }) (GP G [.ref (a 0), .int p0] [wcA a ck, wcS a cn, wcI G (a 2) 6 sc, wcI G (a 3) 20 cl, wcI G (a 4) 20 wt, wcI G (a 5) 20 kn, wcI G (a 6) 20 sp] sz) (PQo (.returned (some (.int (f_X3_bestSpot cn sc cl wt kn sp p0))))) 0 0 (fun _ => False) := by
  refine bodyM (cc := cX3_bestSpot) (maxL := 2) (ret := (some .int)) (by decide) rfl (Nat.le_of_ble_eq_true rfl) ?_
  intro p e s m below meth c ls C
  obtain ⟨hx, hb, hr, hts, hown, hlocks, hml, hsz, hP, hE, hD, hZ, hA, hS, hl⟩ := C
  subst hsz
  have hl : lv_has ls 2 [(0, .ref (a 0)), (1, .int p0)] := hl
  refine lv_aload_n hx hb dX3_bestSpot_0 rfl (lv_at hl 0 rfl) ?_
  refine lv_iload_n hx hb dX3_bestSpot_1 rfl (lv_at hl 1 rfl) ?_
  have c_2 : k_X3_requireBox cn p0 = 0 := Decidable.byContradiction (fun c_2 => absurd (h0.symm.trans (by rw [k_X3_bestSpot, if_neg c_2])) (by decide))
  refine k_p (va_runV (As := [.int p0]) (rest := []) ⟨hx, hb, hml, hown, hts⟩ (c_X3_requireBox l hl9 G a s.heap.size ck cn p0 c_2) (cwV 1 hts gX3_bestSpot_X3_requireBox rfl rfl rfl ⟨rfl, by decide +kernel, by decide +kernel, by decide +kernel⟩ ⟨Nat.le_of_ble_eq_true rfl, Nat.le_of_ble_eq_true rfl⟩) ⟨GP.blind, va_recv hE.1 hP (ci := 3) (q0 := 0) rfl rfl, GP.go (wc := [wcA a ck, wcS a cn]) hE hZ hP hD hS hA [0, 1] rfl (by decide) [.ref (a 0), .int p0]⟩ rfl rfl hl.1 rfl (lv_room (Nat.le_of_ble_eq_true rfl)) dX3_bestSpot_2 ⟨Nat.le_of_ble_eq_true rfl, Nat.le_of_ble_eq_true rfl⟩) ?_
  refine lv_aload_n hx hb dX3_bestSpot_5 rfl (lv_at hl 0 rfl) ?_
  refine lv_iload_n hx hb dX3_bestSpot_6 rfl (lv_at hl 1 rfl) ?_
  have c_7 : k_X3_requireOut cn sp p0 = 0 := Decidable.byContradiction (fun c_7 => absurd (h0.symm.trans (by rw [k_X3_bestSpot, if_pos c_2, if_neg c_7])) (by decide))
  refine k_p (va_runV (As := [.int p0]) (rest := []) ⟨hx, hb, hml, hown, hts⟩ (c_X3_requireOut l hl9 G a s.heap.size ck cn sp p0 hcn c_7) (cwV 1 hts gX3_bestSpot_X3_requireOut rfl rfl rfl ⟨rfl, by decide +kernel, by decide +kernel, by decide +kernel⟩ ⟨Nat.le_of_ble_eq_true rfl, Nat.le_of_ble_eq_true rfl⟩) ⟨GP.blind, va_recv hE.1 hP (ci := 3) (q0 := 0) rfl rfl, GP.go (wc := [wcA a ck, wcS a cn, wcI G (a 6) 20 sp]) hE hZ hP hD hS hA [0, 1, 6] rfl (by decide) [.ref (a 0), .int p0]⟩ rfl rfl hl.1 rfl (lv_room (Nat.le_of_ble_eq_true rfl)) dX3_bestSpot_7 ⟨Nat.le_of_ble_eq_true rfl, Nat.le_of_ble_eq_true rfl⟩) ?_
  refine lv_aload_n hx hb dX3_bestSpot_10 rfl (lv_at hl 0 rfl) ?_
  refine va_get (D := G.1) (ci := 3) (v := .ref (a 1)) (C := RX3) (T := TX3) (N := 4) hx hb hts iw_X3_bestSpot_RX3 hown hE.1 hP 0 rfl rfl 0 (by decide) (hts (.fieldLink RX3 12 "Rackrail" "store" "LRackrail$Store;") (by decide +kernel)) (fun _ h9 => h9) rfl dX3_bestSpot_11 ?_
  refine lv_iload_n hx hb dX3_bestSpot_14 rfl (lv_at hl 1 rfl) ?_
  refine k_p (va_runV (As := [.int p0]) (rest := []) ⟨hx, hb, hml, hown, hts⟩ (c_X2_bestSpotFor l G a s.heap.size cn sc cl wt kn sp p0 hcn) (cwV 1 hts gX3_bestSpot_X2_bestSpotFor rfl rfl rfl ⟨rfl, by decide +kernel, by decide +kernel, by decide +kernel⟩ ⟨Nat.le_of_ble_eq_true rfl, Nat.le_of_ble_eq_true rfl⟩) ⟨GP.blind, va_recv hE.1 hP (ci := 2) (q0 := 1) rfl rfl, GP.go (wc := [wcS a cn, wcI G (a 2) 6 sc, wcI G (a 3) 20 cl, wcI G (a 4) 20 wt, wcI G (a 5) 20 kn, wcI G (a 6) 20 sp]) hE hZ hP hD hS hA [1, 2, 3, 4, 5, 6] rfl (by decide) [.ref (a 1), .int p0]⟩ rfl rfl hl.1 rfl (lv_room (Nat.le_of_ble_eq_true rfl)) dX3_bestSpot_15 ⟨Nat.le_of_ble_eq_true rfl, Nat.le_of_ble_eq_true rfl⟩) ?_
  have hq : f_X3_bestSpot cn sc cl wt kn sp p0 = (f_X2_bestSpotFor cn sc cl wt kn sp p0) := (by rw [f_X3_bestSpot, if_pos c_2, if_pos c_7])
  exact W.iret (v := f_X2_bestSpotFor cn sc cl wt kn sp p0) hx hb hr (fun t ht _ => ⟨by rw [hq], ht⟩) (fun _ h => nomatch h) dX3_bestSpot_18

set_option maxHeartbeats 4000000 in
set_option maxRecDepth 100000 in
theorem cx_X3_bestSpot (l : Launch) (hl9 : l.stackTraces = false) (G : GT) (a : Nat → Nat) (sz : Nat) (ck : Int32) (cn : Int32) (sc : Nat → Int32) (cl : Nat → Int32) (wt : Nat → Int32) (kn : Nat → Int32) (sp : Nat → Int32) (p0 : Int32) (hcn : okN 20 cn) (h0 : ¬ k_X3_bestSpot cn sp p0 = 0) : vx_Met l yX3_bestSpot wsX3_bestSpot ({ frames := 7, cells := 1, slots := 6, locals := 137 }) (GP G [.ref (a 0), .int p0] [wcA a ck, wcS a cn, wcI G (a 2) 6 sc, wcI G (a 3) 20 cl, wcI G (a 4) 20 wt, wcI G (a 5) 20 kn, wcI G (a 6) 20 sp] sz) NQ (XQ (k_X3_bestSpot cn sp p0)) 1 6 (fun _ => False) := by
  refine bodyX (cc := cX3_bestSpot) (maxL := 2) (ret := (some .int)) (by decide) rfl (Nat.le_of_ble_eq_true rfl) ?_
  intro p e s m below meth c ls C ht
  obtain ⟨hx, hb, hr, hts, hown, hlocks, hml, hsz, hP, hE, hD, hZ, hA, hS, hl⟩ := C
  subst hsz
  have hl : lv_has ls 2 [(0, .ref (a 0)), (1, .int p0)] := hl
  refine lv_aload_n hx hb dX3_bestSpot_0 rfl (lv_at hl 0 rfl) ?_
  refine lv_iload_n hx hb dX3_bestSpot_1 rfl (lv_at hl 1 rfl) ?_
  by_cases c_2 : k_X3_requireBox cn p0 = 0
  · refine k_p (va_runV (As := [.int p0]) (rest := []) ⟨hx, hb, hml, hown, hts⟩ (c_X3_requireBox l hl9 G a s.heap.size ck cn p0 c_2) (cwV 1 hts gX3_bestSpot_X3_requireBox rfl rfl rfl ⟨rfl, by decide +kernel, by decide +kernel, by decide +kernel⟩ ⟨Nat.le_of_ble_eq_true rfl, Nat.le_of_ble_eq_true rfl⟩) ⟨GP.blind, va_recv hE.1 hP (ci := 3) (q0 := 0) rfl rfl, GP.go (wc := [wcA a ck, wcS a cn]) hE hZ hP hD hS hA [0, 1] rfl (by decide) [.ref (a 0), .int p0]⟩ rfl rfl hl.1 rfl (lv_room (Nat.le_of_ble_eq_true rfl)) dX3_bestSpot_2 ⟨Nat.le_of_ble_eq_true rfl, Nat.le_of_ble_eq_true rfl⟩) ?_
    refine lv_aload_n hx hb dX3_bestSpot_5 rfl (lv_at hl 0 rfl) ?_
    refine lv_iload_n hx hb dX3_bestSpot_6 rfl (lv_at hl 1 rfl) ?_
    by_cases c_7 : k_X3_requireOut cn sp p0 = 0
    · refine k_p (va_runV (As := [.int p0]) (rest := []) ⟨hx, hb, hml, hown, hts⟩ (c_X3_requireOut l hl9 G a s.heap.size ck cn sp p0 hcn c_7) (cwV 1 hts gX3_bestSpot_X3_requireOut rfl rfl rfl ⟨rfl, by decide +kernel, by decide +kernel, by decide +kernel⟩ ⟨Nat.le_of_ble_eq_true rfl, Nat.le_of_ble_eq_true rfl⟩) ⟨GP.blind, va_recv hE.1 hP (ci := 3) (q0 := 0) rfl rfl, GP.go (wc := [wcA a ck, wcS a cn, wcI G (a 6) 20 sp]) hE hZ hP hD hS hA [0, 1, 6] rfl (by decide) [.ref (a 0), .int p0]⟩ rfl rfl hl.1 rfl (lv_room (Nat.le_of_ble_eq_true rfl)) dX3_bestSpot_7 ⟨Nat.le_of_ble_eq_true rfl, Nat.le_of_ble_eq_true rfl⟩) ?_
      refine lv_aload_n hx hb dX3_bestSpot_10 rfl (lv_at hl 0 rfl) ?_
      refine va_get (D := G.1) (ci := 3) (v := .ref (a 1)) (C := RX3) (T := TX3) (N := 4) hx hb hts iw_X3_bestSpot_RX3 hown hE.1 hP 0 rfl rfl 0 (by decide) (hts (.fieldLink RX3 12 "Rackrail" "store" "LRackrail$Store;") (by decide +kernel)) (fun _ h9 => h9) rfl dX3_bestSpot_11 ?_
      refine lv_iload_n hx hb dX3_bestSpot_14 rfl (lv_at hl 1 rfl) ?_
      refine k_p (va_runV (As := [.int p0]) (rest := []) ⟨hx, hb, hml, hown, hts⟩ (c_X2_bestSpotFor l G a s.heap.size cn sc cl wt kn sp p0 hcn) (cwV 1 hts gX3_bestSpot_X2_bestSpotFor rfl rfl rfl ⟨rfl, by decide +kernel, by decide +kernel, by decide +kernel⟩ ⟨Nat.le_of_ble_eq_true rfl, Nat.le_of_ble_eq_true rfl⟩) ⟨GP.blind, va_recv hE.1 hP (ci := 2) (q0 := 1) rfl rfl, GP.go (wc := [wcS a cn, wcI G (a 2) 6 sc, wcI G (a 3) 20 cl, wcI G (a 4) 20 wt, wcI G (a 5) 20 kn, wcI G (a 6) 20 sp]) hE hZ hP hD hS hA [1, 2, 3, 4, 5, 6] rfl (by decide) [.ref (a 1), .int p0]⟩ rfl rfl hl.1 rfl (lv_room (Nat.le_of_ble_eq_true rfl)) dX3_bestSpot_15 ⟨Nat.le_of_ble_eq_true rfl, Nat.le_of_ble_eq_true rfl⟩) ?_
      exact absurd (by rw [k_X3_bestSpot, if_pos c_2, if_pos c_7]) h0
    · exact k_xo ht hlocks (by decide) (by decide) rfl rfl (vx_runV (As := [.int p0]) (rest := []) ⟨hx, hb, hml, hown, hts⟩ (cx_X3_requireOut l hl9 G a s.heap.size ck cn sp p0 hcn c_7) (cwV 1 hts gX3_bestSpot_X3_requireOut rfl rfl rfl ⟨rfl, by decide +kernel, by decide +kernel, by decide +kernel⟩ ⟨Nat.le_of_ble_eq_true rfl, Nat.le_of_ble_eq_true rfl⟩) ⟨GP.blind, va_recv hE.1 hP (ci := 3) (q0 := 0) rfl rfl, GP.go (wc := [wcA a ck, wcS a cn, wcI G (a 6) 20 sp]) hE hZ hP hD hS hA [0, 1, 6] rfl (by decide) [.ref (a 0), .int p0]⟩ rfl rfl hl.1 rfl (lv_room (Nat.le_of_ble_eq_true rfl)) dX3_bestSpot_7 ⟨Nat.le_of_ble_eq_true rfl, Nat.le_of_ble_eq_true rfl⟩) (by rw [k_X3_bestSpot, if_pos c_2, if_neg c_7])
  · exact k_xo ht hlocks (by decide) (by decide) rfl rfl (vx_runV (As := [.int p0]) (rest := []) ⟨hx, hb, hml, hown, hts⟩ (cx_X3_requireBox l hl9 G a s.heap.size ck cn p0 c_2) (cwV 1 hts gX3_bestSpot_X3_requireBox rfl rfl rfl ⟨rfl, by decide +kernel, by decide +kernel, by decide +kernel⟩ ⟨Nat.le_of_ble_eq_true rfl, Nat.le_of_ble_eq_true rfl⟩) ⟨GP.blind, va_recv hE.1 hP (ci := 3) (q0 := 0) rfl rfl, GP.go (wc := [wcA a ck, wcS a cn]) hE hZ hP hD hS hA [0, 1] rfl (by decide) [.ref (a 0), .int p0]⟩ rfl rfl hl.1 rfl (lv_room (Nat.le_of_ble_eq_true rfl)) dX3_bestSpot_2 ⟨Nat.le_of_ble_eq_true rfl, Nat.le_of_ble_eq_true rfl⟩) (by rw [k_X3_bestSpot, if_neg c_2])

/-! X3_lay -/
def f_X3_lay (cn : Int32) (sc : Nat → Int32) (cl : Nat → Int32) (wt : Nat → Int32) (kn : Nat → Int32) (sp : Nat → Int32) (p0 : Int32) : Int32 × (Nat → Int32) :=
  if k_X3_requireBox cn p0 = 0 then (if k_X3_requireOut cn sp p0 = 0 then (if (f_X2_bestSpotFor cn sc cl wt kn sp p0) = (-1) then (0, sp)
        else (f_X2_bestSpotFor cn sc cl wt kn sp p0, f_X2_put cn sp p0 (f_X2_bestSpotFor cn sc cl wt kn sp p0)))
      else (0, sp))
    else (0, sp)
def k_X3_lay (cn : Int32) (sc : Nat → Int32) (cl : Nat → Int32) (wt : Nat → Int32) (kn : Nat → Int32) (sp : Nat → Int32) (p0 : Int32) : Nat :=
  if k_X3_requireBox cn p0 = 0 then (if k_X3_requireOut cn sp p0 = 0 then (if (f_X2_bestSpotFor cn sc cl wt kn sp p0) = (-1) then 3
        else 0)
      else 3)
    else 1
theorem kr_X3_lay (cn : Int32) (sc : Nat → Int32) (cl : Nat → Int32) (wt : Nat → Int32) (kn : Nat → Int32) (sp : Nat → Int32) (p0 : Int32) : k_X3_lay cn sc cl wt kn sp p0 = 0 ∨ k_X3_lay cn sc cl wt kn sp p0 = 1 ∨ k_X3_lay cn sc cl wt kn sp p0 = 3 := by
  unfold k_X3_lay
  (repeat' split) <;> decide
theorem iw_X3_lay_RX3 : ∀ w ∈ u_ws RX3 TX3 4, w ∈ wsX3_lay := by decide +kernel
set_option maxHeartbeats 4000000 in
set_option maxRecDepth 100000 in
theorem c_X3_lay (l : Launch) (hl9 : l.stackTraces = false) (G : GT) (a : Nat → Nat) (sz : Nat) (ck : Int32) (cn : Int32) (sc : Nat → Int32) (cl : Nat → Int32) (wt : Nat → Int32) (kn : Nat → Int32) (sp : Nat → Int32) (p0 : Int32) (hcn : okN 20 cn) (h0 : k_X3_lay cn sc cl wt kn sp p0 = 0) : Met l yX3_lay wsX3_lay ({ frames := 7, cells := 0, slots := 0, locals := 137 }) (GP G [.ref (a 0), .int p0] [wcA a ck, wcS a cn, wcI G (a 2) 6 sc, wcI G (a 3) 20 cl, wcI G (a 4) 20 wt, wcI G (a 5) 20 kn, wcI G (a 6) 20 sp] sz) (MQo G (.returned (some (.int ((f_X3_lay cn sc cl wt kn sp p0).1)))) [wcA a ck, wcS a cn, wcI G (a 2) 6 sc, wcI G (a 3) 20 cl, wcI G (a 4) 20 wt, wcI G (a 5) 20 kn, wcI G (a 6) 20 ((f_X3_lay cn sc cl wt kn sp p0).2)] (va_A [wcA a ck, wcS a cn, wcI G (a 2) 6 sc, wcI G (a 3) 20 cl, wcI G (a 4) 20 wt, wcI G (a 5) 20 kn, wcI G (a 6) 20 sp] sz)) 0 0 (va_A [wcA a ck, wcS a cn, wcI G (a 2) 6 sc, wcI G (a 3) 20 cl, wcI G (a 4) 20 wt, wcI G (a 5) 20 kn, wcI G (a 6) 20 sp] sz) := by
  refine bodyM (cc := cX3_lay) (maxL := 3) (ret := (some .int)) (by decide) rfl (Nat.le_of_ble_eq_true rfl) ?_
  intro p e s m below meth c ls C
  obtain ⟨hx, hb, hr, hts, hown, hlocks, hml, hsz, hP, hE, hD, hZ, hA, hS, hl⟩ := C
  subst hsz
  have hl : lv_has ls 3 [(0, .ref (a 0)), (1, .int p0)] := hl
  refine lv_aload_n hx hb dX3_lay_0 rfl (lv_at hl 0 rfl) ?_
  refine lv_iload_n hx hb dX3_lay_1 rfl (lv_at hl 1 rfl) ?_
  have c_2 : k_X3_requireBox cn p0 = 0 := Decidable.byContradiction (fun c_2 => absurd (h0.symm.trans (by rw [k_X3_lay, if_neg c_2])) (by decide))
  refine k_p (va_runV (As := [.int p0]) (rest := []) ⟨hx, hb, hml, hown, hts⟩ (c_X3_requireBox l hl9 G a s.heap.size ck cn p0 c_2) (cwV 1 hts gX3_lay_X3_requireBox rfl rfl rfl ⟨rfl, by decide +kernel, by decide +kernel, by decide +kernel⟩ ⟨Nat.le_of_ble_eq_true rfl, Nat.le_of_ble_eq_true rfl⟩) ⟨GP.blind, va_recv hE.1 hP (ci := 3) (q0 := 0) rfl rfl, GP.go (wc := [wcA a ck, wcS a cn]) hE hZ hP hD hS hA [0, 1] rfl (by decide) [.ref (a 0), .int p0]⟩ rfl rfl hl.1 rfl (lv_room (Nat.le_of_ble_eq_true rfl)) dX3_lay_2 ⟨Nat.le_of_ble_eq_true rfl, Nat.le_of_ble_eq_true rfl⟩) ?_
  refine lv_aload_n hx hb dX3_lay_5 rfl (lv_at hl 0 rfl) ?_
  refine lv_iload_n hx hb dX3_lay_6 rfl (lv_at hl 1 rfl) ?_
  have c_7 : k_X3_requireOut cn sp p0 = 0 := Decidable.byContradiction (fun c_7 => absurd (h0.symm.trans (by rw [k_X3_lay, if_pos c_2, if_neg c_7])) (by decide))
  refine k_p (va_runV (As := [.int p0]) (rest := []) ⟨hx, hb, hml, hown, hts⟩ (c_X3_requireOut l hl9 G a s.heap.size ck cn sp p0 hcn c_7) (cwV 1 hts gX3_lay_X3_requireOut rfl rfl rfl ⟨rfl, by decide +kernel, by decide +kernel, by decide +kernel⟩ ⟨Nat.le_of_ble_eq_true rfl, Nat.le_of_ble_eq_true rfl⟩) ⟨GP.blind, va_recv hE.1 hP (ci := 3) (q0 := 0) rfl rfl, GP.go (wc := [wcA a ck, wcS a cn, wcI G (a 6) 20 sp]) hE hZ hP hD hS hA [0, 1, 6] rfl (by decide) [.ref (a 0), .int p0]⟩ rfl rfl hl.1 rfl (lv_room (Nat.le_of_ble_eq_true rfl)) dX3_lay_7 ⟨Nat.le_of_ble_eq_true rfl, Nat.le_of_ble_eq_true rfl⟩) ?_
  refine lv_aload_n hx hb dX3_lay_10 rfl (lv_at hl 0 rfl) ?_
  refine va_get (D := G.1) (ci := 3) (v := .ref (a 1)) (C := RX3) (T := TX3) (N := 4) hx hb hts iw_X3_lay_RX3 hown hE.1 hP 0 rfl rfl 0 (by decide) (hts (.fieldLink RX3 12 "Rackrail" "store" "LRackrail$Store;") (by decide +kernel)) (fun _ h9 => h9) rfl dX3_lay_11 ?_
  refine lv_iload_n hx hb dX3_lay_14 rfl (lv_at hl 1 rfl) ?_
  refine k_p (va_runV (As := [.int p0]) (rest := []) ⟨hx, hb, hml, hown, hts⟩ (c_X2_bestSpotFor l G a s.heap.size cn sc cl wt kn sp p0 hcn) (cwV 1 hts gX3_lay_X2_bestSpotFor rfl rfl rfl ⟨rfl, by decide +kernel, by decide +kernel, by decide +kernel⟩ ⟨Nat.le_of_ble_eq_true rfl, Nat.le_of_ble_eq_true rfl⟩) ⟨GP.blind, va_recv hE.1 hP (ci := 2) (q0 := 1) rfl rfl, GP.go (wc := [wcS a cn, wcI G (a 2) 6 sc, wcI G (a 3) 20 cl, wcI G (a 4) 20 wt, wcI G (a 5) 20 kn, wcI G (a 6) 20 sp]) hE hZ hP hD hS hA [1, 2, 3, 4, 5, 6] rfl (by decide) [.ref (a 1), .int p0]⟩ rfl rfl hl.1 rfl (lv_room (Nat.le_of_ble_eq_true rfl)) dX3_lay_15 ⟨Nat.le_of_ble_eq_true rfl, Nat.le_of_ble_eq_true rfl⟩) ?_
  refine lv_istore_n (lv' := [(2, .int (f_X2_bestSpotFor cn sc cl wt kn sp p0)), (0, .ref (a 0)), (1, .int p0)]) hx hb dX3_lay_18 rfl hl (by decide) rfl (fun ls hl => ?_)
  refine lv_iload_n hx hb dX3_lay_19 rfl (lv_at hl 0 rfl) ?_
  refine lv_iconst (v := (-1)) hx hb dX3_lay_20 (by decide) ?_
  refine lv_icmp_ne (tgt := 34) hx hb dX3_lay_21 (by decide) (fun c_21 => ?_) (fun c_21 => ?_)
  · refine lv_aload_n hx hb dX3_lay_34 rfl (lv_at hl 1 rfl) ?_
    refine va_get (D := G.1) (ci := 3) (v := .ref (a 1)) (C := RX3) (T := TX3) (N := 4) hx hb hts iw_X3_lay_RX3 hown hE.1 hP 0 rfl rfl 0 (by decide) (hts (.fieldLink RX3 12 "Rackrail" "store" "LRackrail$Store;") (by decide +kernel)) (fun _ h9 => h9) rfl dX3_lay_35 ?_
    refine lv_iload_n hx hb dX3_lay_38 rfl (lv_at hl 2 rfl) ?_
    refine lv_iload_n hx hb dX3_lay_39 rfl (lv_at hl 0 rfl) ?_
    refine k_m (wc := [wcS a cn, wcI G (a 6) 20 sp]) (w1 := [wcS a cn, wcI G (a 6) 20 (f_X2_put cn sp p0 (f_X2_bestSpotFor cn sc cl wt kn sp p0))]) (wn := [wcA a ck, wcS a cn, wcI G (a 2) 6 sc, wcI G (a 3) 20 cl, wcI G (a 4) 20 wt, wcI G (a 5) 20 kn, wcI G (a 6) 20 (f_X2_put cn sp p0 (f_X2_bestSpotFor cn sc cl wt kn sp p0))]) (va_runV (As := [.int p0, .int (f_X2_bestSpotFor cn sc cl wt kn sp p0)]) (rest := []) ⟨hx, hb, hml, hown, hts⟩ (c_X2_put l G a s.heap.size cn sp p0 (f_X2_bestSpotFor cn sc cl wt kn sp p0) hcn) (cwV 2 hts gX3_lay_X2_put rfl rfl rfl ⟨rfl, by decide +kernel, by decide +kernel, by decide +kernel⟩ ⟨Nat.le_of_ble_eq_true rfl, Nat.le_of_ble_eq_true rfl⟩) ⟨GP.blind, va_recv hE.1 hP (ci := 2) (q0 := 1) rfl rfl, GP.go (wc := [wcS a cn, wcI G (a 6) 20 sp]) hE hZ hP hD hS hA [1, 6] rfl (by decide) [.ref (a 1), .int p0, .int (f_X2_bestSpotFor cn sc cl wt kn sp p0)]⟩ rfl rfl hl.1 rfl (lv_room (Nat.le_of_ble_eq_true rfl)) dX3_lay_40 ⟨Nat.le_of_ble_eq_true rfl, Nat.le_of_ble_eq_true rfl⟩) hP hD hS hA [1, 6] rfl rfl rfl rfl (fun H locs hP hD hS => ?_)
    refine lv_iload_n hx hb dX3_lay_43 rfl (lv_at hl 0 rfl) ?_
    have hq : f_X3_lay cn sc cl wt kn sp p0 = (f_X2_bestSpotFor cn sc cl wt kn sp p0, f_X2_put cn sp p0 (f_X2_bestSpotFor cn sc cl wt kn sp p0)) := (by rw [f_X3_lay, if_pos c_2, if_pos c_7, if_neg c_21])
    exact W.iret (v := f_X2_bestSpotFor cn sc cl wt kn sp p0) hx hb hr (fun t ht _ => ⟨by rw [hq], by rw [hq, ht]; exact hP, hS.F ht⟩) hS.2.2 dX3_lay_44
  · exact absurd (h0.symm.trans (by rw [k_X3_lay, if_pos c_2, if_pos c_7, if_pos c_21])) (by decide)

theorem gx3_X3_lay : ∀ w ∈ (vx_atS RX3 69 (exn 3) xnames).filter goodWord, w ∈ wsX3_lay := by decide +kernel
set_option maxHeartbeats 4000000 in
set_option maxRecDepth 100000 in
theorem cx_X3_lay (l : Launch) (hl9 : l.stackTraces = false) (G : GT) (a : Nat → Nat) (sz : Nat) (ck : Int32) (cn : Int32) (sc : Nat → Int32) (cl : Nat → Int32) (wt : Nat → Int32) (kn : Nat → Int32) (sp : Nat → Int32) (p0 : Int32) (hcn : okN 20 cn) (h0 : ¬ k_X3_lay cn sc cl wt kn sp p0 = 0) : vx_Met l yX3_lay wsX3_lay ({ frames := 7, cells := 1, slots := 6, locals := 137 }) (GP G [.ref (a 0), .int p0] [wcA a ck, wcS a cn, wcI G (a 2) 6 sc, wcI G (a 3) 20 cl, wcI G (a 4) 20 wt, wcI G (a 5) 20 kn, wcI G (a 6) 20 sp] sz) NQ (XQ (k_X3_lay cn sc cl wt kn sp p0)) 1 6 (fun _ => False) := by
  refine bodyX (cc := cX3_lay) (maxL := 3) (ret := (some .int)) (by decide) rfl (Nat.le_of_ble_eq_true rfl) ?_
  intro p e s m below meth c ls C ht
  obtain ⟨hx, hb, hr, hts, hown, hlocks, hml, hsz, hP, hE, hD, hZ, hA, hS, hl⟩ := C
  subst hsz
  have hl : lv_has ls 3 [(0, .ref (a 0)), (1, .int p0)] := hl
  refine lv_aload_n hx hb dX3_lay_0 rfl (lv_at hl 0 rfl) ?_
  refine lv_iload_n hx hb dX3_lay_1 rfl (lv_at hl 1 rfl) ?_
  by_cases c_2 : k_X3_requireBox cn p0 = 0
  · refine k_p (va_runV (As := [.int p0]) (rest := []) ⟨hx, hb, hml, hown, hts⟩ (c_X3_requireBox l hl9 G a s.heap.size ck cn p0 c_2) (cwV 1 hts gX3_lay_X3_requireBox rfl rfl rfl ⟨rfl, by decide +kernel, by decide +kernel, by decide +kernel⟩ ⟨Nat.le_of_ble_eq_true rfl, Nat.le_of_ble_eq_true rfl⟩) ⟨GP.blind, va_recv hE.1 hP (ci := 3) (q0 := 0) rfl rfl, GP.go (wc := [wcA a ck, wcS a cn]) hE hZ hP hD hS hA [0, 1] rfl (by decide) [.ref (a 0), .int p0]⟩ rfl rfl hl.1 rfl (lv_room (Nat.le_of_ble_eq_true rfl)) dX3_lay_2 ⟨Nat.le_of_ble_eq_true rfl, Nat.le_of_ble_eq_true rfl⟩) ?_
    refine lv_aload_n hx hb dX3_lay_5 rfl (lv_at hl 0 rfl) ?_
    refine lv_iload_n hx hb dX3_lay_6 rfl (lv_at hl 1 rfl) ?_
    by_cases c_7 : k_X3_requireOut cn sp p0 = 0
    · refine k_p (va_runV (As := [.int p0]) (rest := []) ⟨hx, hb, hml, hown, hts⟩ (c_X3_requireOut l hl9 G a s.heap.size ck cn sp p0 hcn c_7) (cwV 1 hts gX3_lay_X3_requireOut rfl rfl rfl ⟨rfl, by decide +kernel, by decide +kernel, by decide +kernel⟩ ⟨Nat.le_of_ble_eq_true rfl, Nat.le_of_ble_eq_true rfl⟩) ⟨GP.blind, va_recv hE.1 hP (ci := 3) (q0 := 0) rfl rfl, GP.go (wc := [wcA a ck, wcS a cn, wcI G (a 6) 20 sp]) hE hZ hP hD hS hA [0, 1, 6] rfl (by decide) [.ref (a 0), .int p0]⟩ rfl rfl hl.1 rfl (lv_room (Nat.le_of_ble_eq_true rfl)) dX3_lay_7 ⟨Nat.le_of_ble_eq_true rfl, Nat.le_of_ble_eq_true rfl⟩) ?_
      refine lv_aload_n hx hb dX3_lay_10 rfl (lv_at hl 0 rfl) ?_
      refine va_get (D := G.1) (ci := 3) (v := .ref (a 1)) (C := RX3) (T := TX3) (N := 4) hx hb hts iw_X3_lay_RX3 hown hE.1 hP 0 rfl rfl 0 (by decide) (hts (.fieldLink RX3 12 "Rackrail" "store" "LRackrail$Store;") (by decide +kernel)) (fun _ h9 => h9) rfl dX3_lay_11 ?_
      refine lv_iload_n hx hb dX3_lay_14 rfl (lv_at hl 1 rfl) ?_
      refine k_p (va_runV (As := [.int p0]) (rest := []) ⟨hx, hb, hml, hown, hts⟩ (c_X2_bestSpotFor l G a s.heap.size cn sc cl wt kn sp p0 hcn) (cwV 1 hts gX3_lay_X2_bestSpotFor rfl rfl rfl ⟨rfl, by decide +kernel, by decide +kernel, by decide +kernel⟩ ⟨Nat.le_of_ble_eq_true rfl, Nat.le_of_ble_eq_true rfl⟩) ⟨GP.blind, va_recv hE.1 hP (ci := 2) (q0 := 1) rfl rfl, GP.go (wc := [wcS a cn, wcI G (a 2) 6 sc, wcI G (a 3) 20 cl, wcI G (a 4) 20 wt, wcI G (a 5) 20 kn, wcI G (a 6) 20 sp]) hE hZ hP hD hS hA [1, 2, 3, 4, 5, 6] rfl (by decide) [.ref (a 1), .int p0]⟩ rfl rfl hl.1 rfl (lv_room (Nat.le_of_ble_eq_true rfl)) dX3_lay_15 ⟨Nat.le_of_ble_eq_true rfl, Nat.le_of_ble_eq_true rfl⟩) ?_
      refine lv_istore_n (lv' := [(2, .int (f_X2_bestSpotFor cn sc cl wt kn sp p0)), (0, .ref (a 0)), (1, .int p0)]) hx hb dX3_lay_18 rfl hl (by decide) rfl (fun ls hl => ?_)
      refine lv_iload_n hx hb dX3_lay_19 rfl (lv_at hl 0 rfl) ?_
      refine lv_iconst (v := (-1)) hx hb dX3_lay_20 (by decide) ?_
      refine lv_icmp_ne (tgt := 34) hx hb dX3_lay_21 (by decide) (fun c_21 => ?_) (fun c_21 => ?_)
      · refine lv_aload_n hx hb dX3_lay_34 rfl (lv_at hl 1 rfl) ?_
        refine va_get (D := G.1) (ci := 3) (v := .ref (a 1)) (C := RX3) (T := TX3) (N := 4) hx hb hts iw_X3_lay_RX3 hown hE.1 hP 0 rfl rfl 0 (by decide) (hts (.fieldLink RX3 12 "Rackrail" "store" "LRackrail$Store;") (by decide +kernel)) (fun _ h9 => h9) rfl dX3_lay_35 ?_
        refine lv_iload_n hx hb dX3_lay_38 rfl (lv_at hl 2 rfl) ?_
        refine lv_iload_n hx hb dX3_lay_39 rfl (lv_at hl 0 rfl) ?_
        exact absurd (by rw [k_X3_lay, if_pos c_2, if_pos c_7, if_neg c_21]) h0
      · exact k_thr (k := 3) (ik := 65) (is := 83) (ic := 69) (by decide) thr_f3 thr_o3 thr_b3 (tx := "no spot for the box") (by decide) hx hb hl9 hown (hts (.classLink RX3 65 (exn 3)) (by decide +kernel)) (hts (.initialized (exn 3)) (by decide +kernel)) (fun w h => hts w (gx3_X3_lay w h)) hE hZ hS (hl.1.trans hml.symm) ht hlocks dX3_lay_24 dX3_lay_27 dX3_lay_28 dX3_lay_30 dX3_lay_33 (Nat.le_of_ble_eq_true rfl) (Nat.le_of_ble_eq_true rfl) (Nat.le_of_ble_eq_true rfl) (Nat.le_of_ble_eq_true rfl) (by rw [k_X3_lay, if_pos c_2, if_pos c_7, if_pos c_21])
    · exact k_xo ht hlocks (by decide) (by decide) rfl rfl (vx_runV (As := [.int p0]) (rest := []) ⟨hx, hb, hml, hown, hts⟩ (cx_X3_requireOut l hl9 G a s.heap.size ck cn sp p0 hcn c_7) (cwV 1 hts gX3_lay_X3_requireOut rfl rfl rfl ⟨rfl, by decide +kernel, by decide +kernel, by decide +kernel⟩ ⟨Nat.le_of_ble_eq_true rfl, Nat.le_of_ble_eq_true rfl⟩) ⟨GP.blind, va_recv hE.1 hP (ci := 3) (q0 := 0) rfl rfl, GP.go (wc := [wcA a ck, wcS a cn, wcI G (a 6) 20 sp]) hE hZ hP hD hS hA [0, 1, 6] rfl (by decide) [.ref (a 0), .int p0]⟩ rfl rfl hl.1 rfl (lv_room (Nat.le_of_ble_eq_true rfl)) dX3_lay_7 ⟨Nat.le_of_ble_eq_true rfl, Nat.le_of_ble_eq_true rfl⟩) (by rw [k_X3_lay, if_pos c_2, if_neg c_7])
  · exact k_xo ht hlocks (by decide) (by decide) rfl rfl (vx_runV (As := [.int p0]) (rest := []) ⟨hx, hb, hml, hown, hts⟩ (cx_X3_requireBox l hl9 G a s.heap.size ck cn p0 c_2) (cwV 1 hts gX3_lay_X3_requireBox rfl rfl rfl ⟨rfl, by decide +kernel, by decide +kernel, by decide +kernel⟩ ⟨Nat.le_of_ble_eq_true rfl, Nat.le_of_ble_eq_true rfl⟩) ⟨GP.blind, va_recv hE.1 hP (ci := 3) (q0 := 0) rfl rfl, GP.go (wc := [wcA a ck, wcS a cn]) hE hZ hP hD hS hA [0, 1] rfl (by decide) [.ref (a 0), .int p0]⟩ rfl rfl hl.1 rfl (lv_room (Nat.le_of_ble_eq_true rfl)) dX3_lay_2 ⟨Nat.le_of_ble_eq_true rfl, Nat.le_of_ble_eq_true rfl⟩) (by rw [k_X3_lay, if_neg c_2])

/-! X3_spotOf -/
def f_X3_spotOf (cn : Int32) (sp : Nat → Int32) (p0 : Int32) : Int32 :=
  if k_X3_requireBox cn p0 = 0 then f_X2_whereIs cn sp p0
    else 0
def k_X3_spotOf (cn : Int32) (p0 : Int32) : Nat :=
  if k_X3_requireBox cn p0 = 0 then 0
    else 1
theorem kr_X3_spotOf (cn : Int32) (p0 : Int32) : k_X3_spotOf cn p0 = 0 ∨ k_X3_spotOf cn p0 = 1 := by
  unfold k_X3_spotOf
  (repeat' split) <;> decide
theorem iw_X3_spotOf_RX3 : ∀ w ∈ u_ws RX3 TX3 4, w ∈ wsX3_spotOf := by decide +kernel
set_option maxHeartbeats 4000000 in
set_option maxRecDepth 100000 in
theorem c_X3_spotOf (l : Launch) (hl9 : l.stackTraces = false) (G : GT) (a : Nat → Nat) (sz : Nat) (ck : Int32) (cn : Int32) (sp : Nat → Int32) (p0 : Int32) (hcn : okN 20 cn) (h0 : k_X3_spotOf cn p0 = 0) : Met l yX3_spotOf wsX3_spotOf ({ frames := 7, cells := 0, slots := 0, locals := 111 }) (GP G [.ref (a 0), .int p0] [wcA a ck, wcS a cn, wcI G (a 6) 20 sp] sz) (PQo (.returned (some (.int (f_X3_spotOf cn sp p0))))) 0 0 (fun _ => False) := by
  refine bodyM (cc := cX3_spotOf) (maxL := 2) (ret := (some .int)) (by decide) rfl (Nat.le_of_ble_eq_true rfl) ?_
  intro p e s m below meth c ls C
  obtain ⟨hx, hb, hr, hts, hown, hlocks, hml, hsz, hP, hE, hD, hZ, hA, hS, hl⟩ := C
  subst hsz
  have hl : lv_has ls 2 [(0, .ref (a 0)), (1, .int p0)] := hl
  refine lv_aload_n hx hb dX3_spotOf_0 rfl (lv_at hl 0 rfl) ?_
  refine lv_iload_n hx hb dX3_spotOf_1 rfl (lv_at hl 1 rfl) ?_
  have c_2 : k_X3_requireBox cn p0 = 0 := Decidable.byContradiction (fun c_2 => absurd (h0.symm.trans (by rw [k_X3_spotOf, if_neg c_2])) (by decide))
  refine k_p (va_runV (As := [.int p0]) (rest := []) ⟨hx, hb, hml, hown, hts⟩ (c_X3_requireBox l hl9 G a s.heap.size ck cn p0 c_2) (cwV 1 hts gX3_spotOf_X3_requireBox rfl rfl rfl ⟨rfl, by decide +kernel, by decide +kernel, by decide +kernel⟩ ⟨Nat.le_of_ble_eq_true rfl, Nat.le_of_ble_eq_true rfl⟩) ⟨GP.blind, va_recv hE.1 hP (ci := 3) (q0 := 0) rfl rfl, GP.go (wc := [wcA a ck, wcS a cn]) hE hZ hP hD hS hA [0, 1] rfl (by decide) [.ref (a 0), .int p0]⟩ rfl rfl hl.1 rfl (lv_room (Nat.le_of_ble_eq_true rfl)) dX3_spotOf_2 ⟨Nat.le_of_ble_eq_true rfl, Nat.le_of_ble_eq_true rfl⟩) ?_
  refine lv_aload_n hx hb dX3_spotOf_5 rfl (lv_at hl 0 rfl) ?_
  refine va_get (D := G.1) (ci := 3) (v := .ref (a 1)) (C := RX3) (T := TX3) (N := 4) hx hb hts iw_X3_spotOf_RX3 hown hE.1 hP 0 rfl rfl 0 (by decide) (hts (.fieldLink RX3 12 "Rackrail" "store" "LRackrail$Store;") (by decide +kernel)) (fun _ h9 => h9) rfl dX3_spotOf_6 ?_
  refine lv_iload_n hx hb dX3_spotOf_9 rfl (lv_at hl 1 rfl) ?_
  refine k_p (va_runV (As := [.int p0]) (rest := []) ⟨hx, hb, hml, hown, hts⟩ (c_X2_whereIs l G a s.heap.size cn sp p0 hcn) (cwV 1 hts gX3_spotOf_X2_whereIs rfl rfl rfl ⟨rfl, by decide +kernel, by decide +kernel, by decide +kernel⟩ ⟨Nat.le_of_ble_eq_true rfl, Nat.le_of_ble_eq_true rfl⟩) ⟨GP.blind, va_recv hE.1 hP (ci := 2) (q0 := 1) rfl rfl, GP.go (wc := [wcS a cn, wcI G (a 6) 20 sp]) hE hZ hP hD hS hA [1, 2] rfl (by decide) [.ref (a 1), .int p0]⟩ rfl rfl hl.1 rfl (lv_room (Nat.le_of_ble_eq_true rfl)) dX3_spotOf_10 ⟨Nat.le_of_ble_eq_true rfl, Nat.le_of_ble_eq_true rfl⟩) ?_
  have hq : f_X3_spotOf cn sp p0 = (f_X2_whereIs cn sp p0) := (by rw [f_X3_spotOf, if_pos c_2])
  exact W.iret (v := f_X2_whereIs cn sp p0) hx hb hr (fun t ht _ => ⟨by rw [hq], ht⟩) (fun _ h => nomatch h) dX3_spotOf_13

set_option maxHeartbeats 4000000 in
set_option maxRecDepth 100000 in
theorem cx_X3_spotOf (l : Launch) (hl9 : l.stackTraces = false) (G : GT) (a : Nat → Nat) (sz : Nat) (ck : Int32) (cn : Int32) (sp : Nat → Int32) (p0 : Int32) (hcn : okN 20 cn) (h0 : ¬ k_X3_spotOf cn p0 = 0) : vx_Met l yX3_spotOf wsX3_spotOf ({ frames := 7, cells := 1, slots := 6, locals := 111 }) (GP G [.ref (a 0), .int p0] [wcA a ck, wcS a cn, wcI G (a 6) 20 sp] sz) NQ (XQ 1) 1 6 (fun _ => False) := by
  refine bodyX (cc := cX3_spotOf) (maxL := 2) (ret := (some .int)) (by decide) rfl (Nat.le_of_ble_eq_true rfl) ?_
  intro p e s m below meth c ls C ht
  obtain ⟨hx, hb, hr, hts, hown, hlocks, hml, hsz, hP, hE, hD, hZ, hA, hS, hl⟩ := C
  subst hsz
  have hl : lv_has ls 2 [(0, .ref (a 0)), (1, .int p0)] := hl
  refine lv_aload_n hx hb dX3_spotOf_0 rfl (lv_at hl 0 rfl) ?_
  refine lv_iload_n hx hb dX3_spotOf_1 rfl (lv_at hl 1 rfl) ?_
  by_cases c_2 : k_X3_requireBox cn p0 = 0
  · refine k_p (va_runV (As := [.int p0]) (rest := []) ⟨hx, hb, hml, hown, hts⟩ (c_X3_requireBox l hl9 G a s.heap.size ck cn p0 c_2) (cwV 1 hts gX3_spotOf_X3_requireBox rfl rfl rfl ⟨rfl, by decide +kernel, by decide +kernel, by decide +kernel⟩ ⟨Nat.le_of_ble_eq_true rfl, Nat.le_of_ble_eq_true rfl⟩) ⟨GP.blind, va_recv hE.1 hP (ci := 3) (q0 := 0) rfl rfl, GP.go (wc := [wcA a ck, wcS a cn]) hE hZ hP hD hS hA [0, 1] rfl (by decide) [.ref (a 0), .int p0]⟩ rfl rfl hl.1 rfl (lv_room (Nat.le_of_ble_eq_true rfl)) dX3_spotOf_2 ⟨Nat.le_of_ble_eq_true rfl, Nat.le_of_ble_eq_true rfl⟩) ?_
    refine lv_aload_n hx hb dX3_spotOf_5 rfl (lv_at hl 0 rfl) ?_
    refine va_get (D := G.1) (ci := 3) (v := .ref (a 1)) (C := RX3) (T := TX3) (N := 4) hx hb hts iw_X3_spotOf_RX3 hown hE.1 hP 0 rfl rfl 0 (by decide) (hts (.fieldLink RX3 12 "Rackrail" "store" "LRackrail$Store;") (by decide +kernel)) (fun _ h9 => h9) rfl dX3_spotOf_6 ?_
    refine lv_iload_n hx hb dX3_spotOf_9 rfl (lv_at hl 1 rfl) ?_
    refine k_p (va_runV (As := [.int p0]) (rest := []) ⟨hx, hb, hml, hown, hts⟩ (c_X2_whereIs l G a s.heap.size cn sp p0 hcn) (cwV 1 hts gX3_spotOf_X2_whereIs rfl rfl rfl ⟨rfl, by decide +kernel, by decide +kernel, by decide +kernel⟩ ⟨Nat.le_of_ble_eq_true rfl, Nat.le_of_ble_eq_true rfl⟩) ⟨GP.blind, va_recv hE.1 hP (ci := 2) (q0 := 1) rfl rfl, GP.go (wc := [wcS a cn, wcI G (a 6) 20 sp]) hE hZ hP hD hS hA [1, 2] rfl (by decide) [.ref (a 1), .int p0]⟩ rfl rfl hl.1 rfl (lv_room (Nat.le_of_ble_eq_true rfl)) dX3_spotOf_10 ⟨Nat.le_of_ble_eq_true rfl, Nat.le_of_ble_eq_true rfl⟩) ?_
    exact absurd (by rw [k_X3_spotOf, if_pos c_2]) h0
  · exact k_xo ht hlocks (by decide) (by decide) rfl rfl (vx_runV (As := [.int p0]) (rest := []) ⟨hx, hb, hml, hown, hts⟩ (cx_X3_requireBox l hl9 G a s.heap.size ck cn p0 c_2) (cwV 1 hts gX3_spotOf_X3_requireBox rfl rfl rfl ⟨rfl, by decide +kernel, by decide +kernel, by decide +kernel⟩ ⟨Nat.le_of_ble_eq_true rfl, Nat.le_of_ble_eq_true rfl⟩) ⟨GP.blind, va_recv hE.1 hP (ci := 3) (q0 := 0) rfl rfl, GP.go (wc := [wcA a ck, wcS a cn]) hE hZ hP hD hS hA [0, 1] rfl (by decide) [.ref (a 0), .int p0]⟩ rfl rfl hl.1 rfl (lv_room (Nat.le_of_ble_eq_true rfl)) dX3_spotOf_2 ⟨Nat.le_of_ble_eq_true rfl, Nat.le_of_ble_eq_true rfl⟩) rfl

/-! X3_boxAt -/
def f_X3_boxAt (cn : Int32) (sp : Nat → Int32) (p0 : Int32) : Int32 :=
  if k_X3_requireSpot p0 = 0 then f_X2_boxIn cn sp p0
    else 0
def k_X3_boxAt (p0 : Int32) : Nat :=
  if k_X3_requireSpot p0 = 0 then 0
    else 1
theorem kr_X3_boxAt (p0 : Int32) : k_X3_boxAt p0 = 0 ∨ k_X3_boxAt p0 = 1 := by
  unfold k_X3_boxAt
  (repeat' split) <;> decide
theorem iw_X3_boxAt_RX3 : ∀ w ∈ u_ws RX3 TX3 4, w ∈ wsX3_boxAt := by decide +kernel
set_option maxHeartbeats 4000000 in
set_option maxRecDepth 100000 in
theorem c_X3_boxAt (l : Launch) (hl9 : l.stackTraces = false) (G : GT) (a : Nat → Nat) (sz : Nat) (ck : Int32) (cn : Int32) (sp : Nat → Int32) (p0 : Int32) (hcn : okN 20 cn) (h0 : k_X3_boxAt p0 = 0) : Met l yX3_boxAt wsX3_boxAt ({ frames := 7, cells := 0, slots := 0, locals := 111 }) (GP G [.ref (a 0), .int p0] [wcA a ck, wcS a cn, wcI G (a 6) 20 sp] sz) (PQo (.returned (some (.int (f_X3_boxAt cn sp p0))))) 0 0 (fun _ => False) := by
  refine bodyM (cc := cX3_boxAt) (maxL := 2) (ret := (some .int)) (by decide) rfl (Nat.le_of_ble_eq_true rfl) ?_
  intro p e s m below meth c ls C
  obtain ⟨hx, hb, hr, hts, hown, hlocks, hml, hsz, hP, hE, hD, hZ, hA, hS, hl⟩ := C
  subst hsz
  have hl : lv_has ls 2 [(0, .ref (a 0)), (1, .int p0)] := hl
  refine lv_aload_n hx hb dX3_boxAt_0 rfl (lv_at hl 0 rfl) ?_
  refine lv_iload_n hx hb dX3_boxAt_1 rfl (lv_at hl 1 rfl) ?_
  have c_2 : k_X3_requireSpot p0 = 0 := Decidable.byContradiction (fun c_2 => absurd (h0.symm.trans (by rw [k_X3_boxAt, if_neg c_2])) (by decide))
  refine k_p (va_runV (As := [.int p0]) (rest := []) ⟨hx, hb, hml, hown, hts⟩ (c_X3_requireSpot l hl9 G a s.heap.size p0 c_2) (cwV 1 hts gX3_boxAt_X3_requireSpot rfl rfl rfl ⟨rfl, by decide +kernel, by decide +kernel, by decide +kernel⟩ ⟨Nat.le_of_ble_eq_true rfl, Nat.le_of_ble_eq_true rfl⟩) ⟨GP.blind, va_recv hE.1 hP (ci := 3) (q0 := 0) rfl rfl, GP.go (wc := []) hE hZ hP hD hS hA [] rfl (by decide) [.ref (a 0), .int p0]⟩ rfl rfl hl.1 rfl (lv_room (Nat.le_of_ble_eq_true rfl)) dX3_boxAt_2 ⟨Nat.le_of_ble_eq_true rfl, Nat.le_of_ble_eq_true rfl⟩) ?_
  refine lv_aload_n hx hb dX3_boxAt_5 rfl (lv_at hl 0 rfl) ?_
  refine va_get (D := G.1) (ci := 3) (v := .ref (a 1)) (C := RX3) (T := TX3) (N := 4) hx hb hts iw_X3_boxAt_RX3 hown hE.1 hP 0 rfl rfl 0 (by decide) (hts (.fieldLink RX3 12 "Rackrail" "store" "LRackrail$Store;") (by decide +kernel)) (fun _ h9 => h9) rfl dX3_boxAt_6 ?_
  refine lv_iload_n hx hb dX3_boxAt_9 rfl (lv_at hl 1 rfl) ?_
  refine k_p (va_runV (As := [.int p0]) (rest := []) ⟨hx, hb, hml, hown, hts⟩ (c_X2_boxIn l G a s.heap.size cn sp p0 hcn) (cwV 1 hts gX3_boxAt_X2_boxIn rfl rfl rfl ⟨rfl, by decide +kernel, by decide +kernel, by decide +kernel⟩ ⟨Nat.le_of_ble_eq_true rfl, Nat.le_of_ble_eq_true rfl⟩) ⟨GP.blind, va_recv hE.1 hP (ci := 2) (q0 := 1) rfl rfl, GP.go (wc := [wcS a cn, wcI G (a 6) 20 sp]) hE hZ hP hD hS hA [1, 2] rfl (by decide) [.ref (a 1), .int p0]⟩ rfl rfl hl.1 rfl (lv_room (Nat.le_of_ble_eq_true rfl)) dX3_boxAt_10 ⟨Nat.le_of_ble_eq_true rfl, Nat.le_of_ble_eq_true rfl⟩) ?_
  have hq : f_X3_boxAt cn sp p0 = (f_X2_boxIn cn sp p0) := (by rw [f_X3_boxAt, if_pos c_2])
  exact W.iret (v := f_X2_boxIn cn sp p0) hx hb hr (fun t ht _ => ⟨by rw [hq], ht⟩) (fun _ h => nomatch h) dX3_boxAt_13

set_option maxHeartbeats 4000000 in
set_option maxRecDepth 100000 in
theorem cx_X3_boxAt (l : Launch) (hl9 : l.stackTraces = false) (G : GT) (a : Nat → Nat) (sz : Nat) (ck : Int32) (cn : Int32) (sp : Nat → Int32) (p0 : Int32) (hcn : okN 20 cn) (h0 : ¬ k_X3_boxAt p0 = 0) : vx_Met l yX3_boxAt wsX3_boxAt ({ frames := 7, cells := 1, slots := 6, locals := 111 }) (GP G [.ref (a 0), .int p0] [wcA a ck, wcS a cn, wcI G (a 6) 20 sp] sz) NQ (XQ 1) 1 6 (fun _ => False) := by
  refine bodyX (cc := cX3_boxAt) (maxL := 2) (ret := (some .int)) (by decide) rfl (Nat.le_of_ble_eq_true rfl) ?_
  intro p e s m below meth c ls C ht
  obtain ⟨hx, hb, hr, hts, hown, hlocks, hml, hsz, hP, hE, hD, hZ, hA, hS, hl⟩ := C
  subst hsz
  have hl : lv_has ls 2 [(0, .ref (a 0)), (1, .int p0)] := hl
  refine lv_aload_n hx hb dX3_boxAt_0 rfl (lv_at hl 0 rfl) ?_
  refine lv_iload_n hx hb dX3_boxAt_1 rfl (lv_at hl 1 rfl) ?_
  by_cases c_2 : k_X3_requireSpot p0 = 0
  · refine k_p (va_runV (As := [.int p0]) (rest := []) ⟨hx, hb, hml, hown, hts⟩ (c_X3_requireSpot l hl9 G a s.heap.size p0 c_2) (cwV 1 hts gX3_boxAt_X3_requireSpot rfl rfl rfl ⟨rfl, by decide +kernel, by decide +kernel, by decide +kernel⟩ ⟨Nat.le_of_ble_eq_true rfl, Nat.le_of_ble_eq_true rfl⟩) ⟨GP.blind, va_recv hE.1 hP (ci := 3) (q0 := 0) rfl rfl, GP.go (wc := []) hE hZ hP hD hS hA [] rfl (by decide) [.ref (a 0), .int p0]⟩ rfl rfl hl.1 rfl (lv_room (Nat.le_of_ble_eq_true rfl)) dX3_boxAt_2 ⟨Nat.le_of_ble_eq_true rfl, Nat.le_of_ble_eq_true rfl⟩) ?_
    refine lv_aload_n hx hb dX3_boxAt_5 rfl (lv_at hl 0 rfl) ?_
    refine va_get (D := G.1) (ci := 3) (v := .ref (a 1)) (C := RX3) (T := TX3) (N := 4) hx hb hts iw_X3_boxAt_RX3 hown hE.1 hP 0 rfl rfl 0 (by decide) (hts (.fieldLink RX3 12 "Rackrail" "store" "LRackrail$Store;") (by decide +kernel)) (fun _ h9 => h9) rfl dX3_boxAt_6 ?_
    refine lv_iload_n hx hb dX3_boxAt_9 rfl (lv_at hl 1 rfl) ?_
    refine k_p (va_runV (As := [.int p0]) (rest := []) ⟨hx, hb, hml, hown, hts⟩ (c_X2_boxIn l G a s.heap.size cn sp p0 hcn) (cwV 1 hts gX3_boxAt_X2_boxIn rfl rfl rfl ⟨rfl, by decide +kernel, by decide +kernel, by decide +kernel⟩ ⟨Nat.le_of_ble_eq_true rfl, Nat.le_of_ble_eq_true rfl⟩) ⟨GP.blind, va_recv hE.1 hP (ci := 2) (q0 := 1) rfl rfl, GP.go (wc := [wcS a cn, wcI G (a 6) 20 sp]) hE hZ hP hD hS hA [1, 2] rfl (by decide) [.ref (a 1), .int p0]⟩ rfl rfl hl.1 rfl (lv_room (Nat.le_of_ble_eq_true rfl)) dX3_boxAt_10 ⟨Nat.le_of_ble_eq_true rfl, Nat.le_of_ble_eq_true rfl⟩) ?_
    exact absurd (by rw [k_X3_boxAt, if_pos c_2]) h0
  · exact k_xo ht hlocks (by decide) (by decide) rfl rfl (vx_runV (As := [.int p0]) (rest := []) ⟨hx, hb, hml, hown, hts⟩ (cx_X3_requireSpot l hl9 G a s.heap.size p0 c_2) (cwV 1 hts gX3_boxAt_X3_requireSpot rfl rfl rfl ⟨rfl, by decide +kernel, by decide +kernel, by decide +kernel⟩ ⟨Nat.le_of_ble_eq_true rfl, Nat.le_of_ble_eq_true rfl⟩) ⟨GP.blind, va_recv hE.1 hP (ci := 3) (q0 := 0) rfl rfl, GP.go (wc := []) hE hZ hP hD hS hA [] rfl (by decide) [.ref (a 0), .int p0]⟩ rfl rfl hl.1 rfl (lv_room (Nat.le_of_ble_eq_true rfl)) dX3_boxAt_2 ⟨Nat.le_of_ble_eq_true rfl, Nat.le_of_ble_eq_true rfl⟩) rfl

/-! X3_weight -/
def f_X3_weight (cn : Int32) (wt : Nat → Int32) (sp : Nat → Int32) (p0 : Int32) : Int32 :=
  if k_X3_requireShelf p0 = 0 then f_X2_weightOn cn wt sp p0
    else 0
def k_X3_weight (p0 : Int32) : Nat :=
  if k_X3_requireShelf p0 = 0 then 0
    else 1
theorem kr_X3_weight (p0 : Int32) : k_X3_weight p0 = 0 ∨ k_X3_weight p0 = 1 := by
  unfold k_X3_weight
  (repeat' split) <;> decide
theorem iw_X3_weight_RX3 : ∀ w ∈ u_ws RX3 TX3 4, w ∈ wsX3_weight := by decide +kernel
set_option maxHeartbeats 4000000 in
set_option maxRecDepth 100000 in
theorem c_X3_weight (l : Launch) (hl9 : l.stackTraces = false) (G : GT) (a : Nat → Nat) (sz : Nat) (ck : Int32) (cn : Int32) (wt : Nat → Int32) (sp : Nat → Int32) (p0 : Int32) (hcn : okN 20 cn) (h0 : k_X3_weight p0 = 0) : Met l yX3_weight wsX3_weight ({ frames := 7, cells := 0, slots := 0, locals := 111 }) (GP G [.ref (a 0), .int p0] [wcA a ck, wcS a cn, wcI G (a 4) 20 wt, wcI G (a 6) 20 sp] sz) (PQo (.returned (some (.int (f_X3_weight cn wt sp p0))))) 0 0 (fun _ => False) := by
  refine bodyM (cc := cX3_weight) (maxL := 2) (ret := (some .int)) (by decide) rfl (Nat.le_of_ble_eq_true rfl) ?_
  intro p e s m below meth c ls C
  obtain ⟨hx, hb, hr, hts, hown, hlocks, hml, hsz, hP, hE, hD, hZ, hA, hS, hl⟩ := C
  subst hsz
  have hl : lv_has ls 2 [(0, .ref (a 0)), (1, .int p0)] := hl
  refine lv_aload_n hx hb dX3_weight_0 rfl (lv_at hl 0 rfl) ?_
  refine lv_iload_n hx hb dX3_weight_1 rfl (lv_at hl 1 rfl) ?_
  have c_2 : k_X3_requireShelf p0 = 0 := Decidable.byContradiction (fun c_2 => absurd (h0.symm.trans (by rw [k_X3_weight, if_neg c_2])) (by decide))
  refine k_p (va_runV (As := [.int p0]) (rest := []) ⟨hx, hb, hml, hown, hts⟩ (c_X3_requireShelf l hl9 G a s.heap.size p0 c_2) (cwV 1 hts gX3_weight_X3_requireShelf rfl rfl rfl ⟨rfl, by decide +kernel, by decide +kernel, by decide +kernel⟩ ⟨Nat.le_of_ble_eq_true rfl, Nat.le_of_ble_eq_true rfl⟩) ⟨GP.blind, va_recv hE.1 hP (ci := 3) (q0 := 0) rfl rfl, GP.go (wc := []) hE hZ hP hD hS hA [] rfl (by decide) [.ref (a 0), .int p0]⟩ rfl rfl hl.1 rfl (lv_room (Nat.le_of_ble_eq_true rfl)) dX3_weight_2 ⟨Nat.le_of_ble_eq_true rfl, Nat.le_of_ble_eq_true rfl⟩) ?_
  refine lv_aload_n hx hb dX3_weight_5 rfl (lv_at hl 0 rfl) ?_
  refine va_get (D := G.1) (ci := 3) (v := .ref (a 1)) (C := RX3) (T := TX3) (N := 4) hx hb hts iw_X3_weight_RX3 hown hE.1 hP 0 rfl rfl 0 (by decide) (hts (.fieldLink RX3 12 "Rackrail" "store" "LRackrail$Store;") (by decide +kernel)) (fun _ h9 => h9) rfl dX3_weight_6 ?_
  refine lv_iload_n hx hb dX3_weight_9 rfl (lv_at hl 1 rfl) ?_
  refine k_p (va_runV (As := [.int p0]) (rest := []) ⟨hx, hb, hml, hown, hts⟩ (c_X2_weightOn l G a s.heap.size cn wt sp p0 hcn) (cwV 1 hts gX3_weight_X2_weightOn rfl rfl rfl ⟨rfl, by decide +kernel, by decide +kernel, by decide +kernel⟩ ⟨Nat.le_of_ble_eq_true rfl, Nat.le_of_ble_eq_true rfl⟩) ⟨GP.blind, va_recv hE.1 hP (ci := 2) (q0 := 1) rfl rfl, GP.go (wc := [wcS a cn, wcI G (a 4) 20 wt, wcI G (a 6) 20 sp]) hE hZ hP hD hS hA [1, 2, 3] rfl (by decide) [.ref (a 1), .int p0]⟩ rfl rfl hl.1 rfl (lv_room (Nat.le_of_ble_eq_true rfl)) dX3_weight_10 ⟨Nat.le_of_ble_eq_true rfl, Nat.le_of_ble_eq_true rfl⟩) ?_
  have hq : f_X3_weight cn wt sp p0 = (f_X2_weightOn cn wt sp p0) := (by rw [f_X3_weight, if_pos c_2])
  exact W.iret (v := f_X2_weightOn cn wt sp p0) hx hb hr (fun t ht _ => ⟨by rw [hq], ht⟩) (fun _ h => nomatch h) dX3_weight_13

set_option maxHeartbeats 4000000 in
set_option maxRecDepth 100000 in
theorem cx_X3_weight (l : Launch) (hl9 : l.stackTraces = false) (G : GT) (a : Nat → Nat) (sz : Nat) (ck : Int32) (cn : Int32) (wt : Nat → Int32) (sp : Nat → Int32) (p0 : Int32) (hcn : okN 20 cn) (h0 : ¬ k_X3_weight p0 = 0) : vx_Met l yX3_weight wsX3_weight ({ frames := 7, cells := 1, slots := 6, locals := 111 }) (GP G [.ref (a 0), .int p0] [wcA a ck, wcS a cn, wcI G (a 4) 20 wt, wcI G (a 6) 20 sp] sz) NQ (XQ 1) 1 6 (fun _ => False) := by
  refine bodyX (cc := cX3_weight) (maxL := 2) (ret := (some .int)) (by decide) rfl (Nat.le_of_ble_eq_true rfl) ?_
  intro p e s m below meth c ls C ht
  obtain ⟨hx, hb, hr, hts, hown, hlocks, hml, hsz, hP, hE, hD, hZ, hA, hS, hl⟩ := C
  subst hsz
  have hl : lv_has ls 2 [(0, .ref (a 0)), (1, .int p0)] := hl
  refine lv_aload_n hx hb dX3_weight_0 rfl (lv_at hl 0 rfl) ?_
  refine lv_iload_n hx hb dX3_weight_1 rfl (lv_at hl 1 rfl) ?_
  by_cases c_2 : k_X3_requireShelf p0 = 0
  · refine k_p (va_runV (As := [.int p0]) (rest := []) ⟨hx, hb, hml, hown, hts⟩ (c_X3_requireShelf l hl9 G a s.heap.size p0 c_2) (cwV 1 hts gX3_weight_X3_requireShelf rfl rfl rfl ⟨rfl, by decide +kernel, by decide +kernel, by decide +kernel⟩ ⟨Nat.le_of_ble_eq_true rfl, Nat.le_of_ble_eq_true rfl⟩) ⟨GP.blind, va_recv hE.1 hP (ci := 3) (q0 := 0) rfl rfl, GP.go (wc := []) hE hZ hP hD hS hA [] rfl (by decide) [.ref (a 0), .int p0]⟩ rfl rfl hl.1 rfl (lv_room (Nat.le_of_ble_eq_true rfl)) dX3_weight_2 ⟨Nat.le_of_ble_eq_true rfl, Nat.le_of_ble_eq_true rfl⟩) ?_
    refine lv_aload_n hx hb dX3_weight_5 rfl (lv_at hl 0 rfl) ?_
    refine va_get (D := G.1) (ci := 3) (v := .ref (a 1)) (C := RX3) (T := TX3) (N := 4) hx hb hts iw_X3_weight_RX3 hown hE.1 hP 0 rfl rfl 0 (by decide) (hts (.fieldLink RX3 12 "Rackrail" "store" "LRackrail$Store;") (by decide +kernel)) (fun _ h9 => h9) rfl dX3_weight_6 ?_
    refine lv_iload_n hx hb dX3_weight_9 rfl (lv_at hl 1 rfl) ?_
    refine k_p (va_runV (As := [.int p0]) (rest := []) ⟨hx, hb, hml, hown, hts⟩ (c_X2_weightOn l G a s.heap.size cn wt sp p0 hcn) (cwV 1 hts gX3_weight_X2_weightOn rfl rfl rfl ⟨rfl, by decide +kernel, by decide +kernel, by decide +kernel⟩ ⟨Nat.le_of_ble_eq_true rfl, Nat.le_of_ble_eq_true rfl⟩) ⟨GP.blind, va_recv hE.1 hP (ci := 2) (q0 := 1) rfl rfl, GP.go (wc := [wcS a cn, wcI G (a 4) 20 wt, wcI G (a 6) 20 sp]) hE hZ hP hD hS hA [1, 2, 3] rfl (by decide) [.ref (a 1), .int p0]⟩ rfl rfl hl.1 rfl (lv_room (Nat.le_of_ble_eq_true rfl)) dX3_weight_10 ⟨Nat.le_of_ble_eq_true rfl, Nat.le_of_ble_eq_true rfl⟩) ?_
    exact absurd (by rw [k_X3_weight, if_pos c_2]) h0
  · exact k_xo ht hlocks (by decide) (by decide) rfl rfl (vx_runV (As := [.int p0]) (rest := []) ⟨hx, hb, hml, hown, hts⟩ (cx_X3_requireShelf l hl9 G a s.heap.size p0 c_2) (cwV 1 hts gX3_weight_X3_requireShelf rfl rfl rfl ⟨rfl, by decide +kernel, by decide +kernel, by decide +kernel⟩ ⟨Nat.le_of_ble_eq_true rfl, Nat.le_of_ble_eq_true rfl⟩) ⟨GP.blind, va_recv hE.1 hP (ci := 3) (q0 := 0) rfl rfl, GP.go (wc := []) hE hZ hP hD hS hA [] rfl (by decide) [.ref (a 0), .int p0]⟩ rfl rfl hl.1 rfl (lv_room (Nat.le_of_ble_eq_true rfl)) dX3_weight_2 ⟨Nat.le_of_ble_eq_true rfl, Nat.le_of_ble_eq_true rfl⟩) rfl

/-! X3_wrong -/
def f_X3_wrong (cn : Int32) (sc : Nat → Int32) (cl : Nat → Int32) (sp : Nat → Int32) : Int32 :=
  f_X2_countWrong cn sc cl sp
theorem iw_X3_wrong_RX3 : ∀ w ∈ u_ws RX3 TX3 4, w ∈ wsX3_wrong := by decide +kernel
set_option maxHeartbeats 4000000 in
set_option maxRecDepth 100000 in
theorem c_X3_wrong (l : Launch) (G : GT) (a : Nat → Nat) (sz : Nat) (ck : Int32) (cn : Int32) (sc : Nat → Int32) (cl : Nat → Int32) (sp : Nat → Int32) (hcn : okN 20 cn) : Met l yX3_wrong wsX3_wrong ({ frames := 5, cells := 0, slots := 0, locals := 107 }) (GP G [.ref (a 0)] [wcA a ck, wcS a cn, wcI G (a 2) 6 sc, wcI G (a 3) 20 cl, wcI G (a 6) 20 sp] sz) (PQo (.returned (some (.int (f_X3_wrong cn sc cl sp))))) 0 0 (fun _ => False) := by
  refine bodyM (cc := cX3_wrong) (maxL := 1) (ret := (some .int)) (by decide) rfl (Nat.le_of_ble_eq_true rfl) ?_
  intro p e s m below meth c ls C
  obtain ⟨hx, hb, hr, hts, hown, hlocks, hml, hsz, hP, hE, hD, hZ, hA, hS, hl⟩ := C
  subst hsz
  have hl : lv_has ls 1 [(0, .ref (a 0))] := hl
  refine lv_aload_n hx hb dX3_wrong_0 rfl (lv_at hl 0 rfl) ?_
  refine va_get (D := G.1) (ci := 3) (v := .ref (a 1)) (C := RX3) (T := TX3) (N := 4) hx hb hts iw_X3_wrong_RX3 hown hE.1 hP 0 rfl rfl 0 (by decide) (hts (.fieldLink RX3 12 "Rackrail" "store" "LRackrail$Store;") (by decide +kernel)) (fun _ h9 => h9) rfl dX3_wrong_1 ?_
  refine k_p (va_runV (As := []) (rest := []) ⟨hx, hb, hml, hown, hts⟩ (c_X2_countWrong l G a s.heap.size cn sc cl sp hcn) (cwV 0 hts gX3_wrong_X2_countWrong rfl rfl rfl ⟨rfl, by decide +kernel, by decide +kernel, by decide +kernel⟩ ⟨Nat.le_of_ble_eq_true rfl, Nat.le_of_ble_eq_true rfl⟩) ⟨GP.blind, va_recv hE.1 hP (ci := 2) (q0 := 1) rfl rfl, GP.go (wc := [wcS a cn, wcI G (a 2) 6 sc, wcI G (a 3) 20 cl, wcI G (a 6) 20 sp]) hE hZ hP hD hS hA [1, 2, 3, 4] rfl (by decide) [.ref (a 1)]⟩ rfl rfl hl.1 rfl (lv_room (Nat.le_of_ble_eq_true rfl)) dX3_wrong_4 ⟨Nat.le_of_ble_eq_true rfl, Nat.le_of_ble_eq_true rfl⟩) ?_
  have hq : f_X3_wrong cn sc cl sp = (f_X2_countWrong cn sc cl sp) := (by rw [f_X3_wrong])
  exact W.iret (v := f_X2_countWrong cn sc cl sp) hx hb hr (fun t ht _ => ⟨by rw [hq], ht⟩) (fun _ h => nomatch h) dX3_wrong_7

/-! X3_open -/
def f_X3_open (gp : Int32) (tg : Int32) (st : Int32) (sm : Int32) (db : Nat → Int32) (ins : Nat → Int32) (p0 : Int32) : Int32 × Int32 :=
  if k_X3_requireAisle p0 = 0 then (if (f_X1_mayOpen gp tg st sm db ins) = 0 then (0, tg)
      else (f_X1_movesToCome gp (f_X1_aimAt p0), f_X1_aimAt p0))
    else (0, tg)
def k_X3_open (gp : Int32) (tg : Int32) (st : Int32) (sm : Int32) (db : Nat → Int32) (ins : Nat → Int32) (p0 : Int32) : Nat :=
  if k_X3_requireAisle p0 = 0 then (if (f_X1_mayOpen gp tg st sm db ins) = 0 then 3
      else 0)
    else 1
theorem kr_X3_open (gp : Int32) (tg : Int32) (st : Int32) (sm : Int32) (db : Nat → Int32) (ins : Nat → Int32) (p0 : Int32) : k_X3_open gp tg st sm db ins p0 = 0 ∨ k_X3_open gp tg st sm db ins p0 = 1 ∨ k_X3_open gp tg st sm db ins p0 = 3 := by
  unfold k_X3_open
  (repeat' split) <;> decide
theorem iw_X3_open_RX3 : ∀ w ∈ u_ws RX3 TX3 4, w ∈ wsX3_open := by decide +kernel
set_option maxHeartbeats 4000000 in
set_option maxRecDepth 100000 in
theorem c_X3_open (l : Launch) (hl9 : l.stackTraces = false) (G : GT) (a : Nat → Nat) (sz : Nat) (ck : Int32) (gp : Int32) (tg : Int32) (st : Int32) (sm : Int32) (db : Nat → Int32) (ins : Nat → Int32) (p0 : Int32) (h0 : k_X3_open gp tg st sm db ins p0 = 0) : Met l yX3_open wsX3_open ({ frames := 7, cells := 0, slots := 0, locals := 111 }) (GP G [.ref (a 0), .int p0] [wcA a ck, wcR a gp tg st sm, wcZ G (a 8) 7 db, wcZ G (a 9) 4 ins] sz) (MQo G (.returned (some (.int ((f_X3_open gp tg st sm db ins p0).1)))) [wcA a ck, wcR a gp ((f_X3_open gp tg st sm db ins p0).2) st sm, wcZ G (a 8) 7 db, wcZ G (a 9) 4 ins] (va_A [wcA a ck, wcR a gp tg st sm, wcZ G (a 8) 7 db, wcZ G (a 9) 4 ins] sz)) 0 0 (va_A [wcA a ck, wcR a gp tg st sm, wcZ G (a 8) 7 db, wcZ G (a 9) 4 ins] sz) := by
  refine bodyM (cc := cX3_open) (maxL := 2) (ret := (some .int)) (by decide) rfl (Nat.le_of_ble_eq_true rfl) ?_
  intro p e s m below meth c ls C
  obtain ⟨hx, hb, hr, hts, hown, hlocks, hml, hsz, hP, hE, hD, hZ, hA, hS, hl⟩ := C
  subst hsz
  have hl : lv_has ls 2 [(0, .ref (a 0)), (1, .int p0)] := hl
  refine lv_aload_n hx hb dX3_open_0 rfl (lv_at hl 0 rfl) ?_
  refine lv_iload_n hx hb dX3_open_1 rfl (lv_at hl 1 rfl) ?_
  have c_2 : k_X3_requireAisle p0 = 0 := Decidable.byContradiction (fun c_2 => absurd (h0.symm.trans (by rw [k_X3_open, if_neg c_2])) (by decide))
  refine k_p (va_runV (As := [.int p0]) (rest := []) ⟨hx, hb, hml, hown, hts⟩ (c_X3_requireAisle l hl9 G a s.heap.size p0 c_2) (cwV 1 hts gX3_open_X3_requireAisle rfl rfl rfl ⟨rfl, by decide +kernel, by decide +kernel, by decide +kernel⟩ ⟨Nat.le_of_ble_eq_true rfl, Nat.le_of_ble_eq_true rfl⟩) ⟨GP.blind, va_recv hE.1 hP (ci := 3) (q0 := 0) rfl rfl, GP.go (wc := []) hE hZ hP hD hS hA [] rfl (by decide) [.ref (a 0), .int p0]⟩ rfl rfl hl.1 rfl (lv_room (Nat.le_of_ble_eq_true rfl)) dX3_open_2 ⟨Nat.le_of_ble_eq_true rfl, Nat.le_of_ble_eq_true rfl⟩) ?_
  refine lv_aload_n hx hb dX3_open_5 rfl (lv_at hl 0 rfl) ?_
  refine va_get (D := G.1) (ci := 3) (v := .ref (a 7)) (C := RX3) (T := TX3) (N := 4) hx hb hts iw_X3_open_RX3 hown hE.1 hP 0 rfl rfl 1 (by decide) (hts (.fieldLink RX3 19 "Rackrail" "rail" "LRackrail$Rail;") (by decide +kernel)) (fun _ h9 => h9) rfl dX3_open_6 ?_
  refine k_p (va_runV (As := []) (rest := []) ⟨hx, hb, hml, hown, hts⟩ (c_X1_mayOpen l G a s.heap.size gp tg st sm db ins) (cwV 0 hts gX3_open_X1_mayOpen rfl rfl rfl ⟨rfl, by decide +kernel, by decide +kernel, by decide +kernel⟩ ⟨Nat.le_of_ble_eq_true rfl, Nat.le_of_ble_eq_true rfl⟩) ⟨GP.blind, va_recv hE.1 hP (ci := 1) (q0 := 1) rfl rfl, GP.go (wc := [wcR a gp tg st sm, wcZ G (a 8) 7 db, wcZ G (a 9) 4 ins]) hE hZ hP hD hS hA [1, 2, 3] rfl (by decide) [.ref (a 7)]⟩ rfl rfl hl.1 rfl (lv_room (Nat.le_of_ble_eq_true rfl)) dX3_open_9 ⟨Nat.le_of_ble_eq_true rfl, Nat.le_of_ble_eq_true rfl⟩) ?_
  refine lv_if_ne (tgt := 25) hx hb dX3_open_12 (by decide) (fun c_12 => ?_) (fun c_12 => ?_)
  · refine lv_aload_n hx hb dX3_open_25 rfl (lv_at hl 0 rfl) ?_
    refine va_get (D := G.1) (ci := 3) (v := .ref (a 7)) (C := RX3) (T := TX3) (N := 4) hx hb hts iw_X3_open_RX3 hown hE.1 hP 0 rfl rfl 1 (by decide) (hts (.fieldLink RX3 19 "Rackrail" "rail" "LRackrail$Rail;") (by decide +kernel)) (fun _ h9 => h9) rfl dX3_open_26 ?_
    refine lv_iload_n hx hb dX3_open_29 rfl (lv_at hl 1 rfl) ?_
    refine k_m (wc := [wcR a gp tg st sm]) (w1 := [wcR a gp (f_X1_aimAt p0) st sm]) (wn := [wcA a ck, wcR a gp (f_X1_aimAt p0) st sm, wcZ G (a 8) 7 db, wcZ G (a 9) 4 ins]) (va_runV (As := [.int p0]) (rest := []) ⟨hx, hb, hml, hown, hts⟩ (c_X1_aimAt l G a s.heap.size gp tg st sm p0) (cwV 1 hts gX3_open_X1_aimAt rfl rfl rfl ⟨rfl, by decide +kernel, by decide +kernel, by decide +kernel⟩ ⟨Nat.le_of_ble_eq_true rfl, Nat.le_of_ble_eq_true rfl⟩) ⟨GP.blind, va_recv hE.1 hP (ci := 1) (q0 := 1) rfl rfl, GP.go (wc := [wcR a gp tg st sm]) hE hZ hP hD hS hA [1] rfl (by decide) [.ref (a 7), .int p0]⟩ rfl rfl hl.1 rfl (lv_room (Nat.le_of_ble_eq_true rfl)) dX3_open_30 ⟨Nat.le_of_ble_eq_true rfl, Nat.le_of_ble_eq_true rfl⟩) hP hD hS hA [1] rfl rfl rfl rfl (fun H locs hP hD hS => ?_)
    refine lv_aload_n hx hb dX3_open_33 rfl (lv_at hl 0 rfl) ?_
    refine va_get (D := G.1) (ci := 3) (v := .ref (a 7)) (C := RX3) (T := TX3) (N := 4) hx hb hts iw_X3_open_RX3 hown hE.1 hP 0 rfl rfl 1 (by decide) (hts (.fieldLink RX3 19 "Rackrail" "rail" "LRackrail$Rail;") (by decide +kernel)) (fun _ h9 => h9) rfl dX3_open_34 ?_
    refine k_p (va_runV (As := []) (rest := []) ⟨hx, hb, hml, hown, hts⟩ (c_X1_movesToCome l G a H.size gp (f_X1_aimAt p0) st sm) (cwV 0 hts gX3_open_X1_movesToCome rfl rfl rfl ⟨rfl, by decide +kernel, by decide +kernel, by decide +kernel⟩ ⟨Nat.le_of_ble_eq_true rfl, Nat.le_of_ble_eq_true rfl⟩) ⟨GP.blind, va_recv hE.1 hP (ci := 1) (q0 := 1) rfl rfl, GP.go (wc := [wcR a gp (f_X1_aimAt p0) st sm]) hE hZ hP hD hS hA [1] rfl (by decide) [.ref (a 7)]⟩ rfl rfl hl.1 rfl (lv_room (Nat.le_of_ble_eq_true rfl)) dX3_open_37 ⟨Nat.le_of_ble_eq_true rfl, Nat.le_of_ble_eq_true rfl⟩) ?_
    have hq : f_X3_open gp tg st sm db ins p0 = (f_X1_movesToCome gp (f_X1_aimAt p0), f_X1_aimAt p0) := (by rw [f_X3_open, if_pos c_2, if_neg c_12])
    exact W.iret (v := f_X1_movesToCome gp (f_X1_aimAt p0)) hx hb hr (fun t ht _ => ⟨by rw [hq], by rw [hq, ht]; exact hP, hS.F ht⟩) hS.2.2 dX3_open_40
  · exact absurd (h0.symm.trans (by rw [k_X3_open, if_pos c_2, if_pos c_12])) (by decide)

theorem gx3_X3_open : ∀ w ∈ (vx_atS RX3 69 (exn 3) xnames).filter goodWord, w ∈ wsX3_open := by decide +kernel
set_option maxHeartbeats 4000000 in
set_option maxRecDepth 100000 in
theorem cx_X3_open (l : Launch) (hl9 : l.stackTraces = false) (G : GT) (a : Nat → Nat) (sz : Nat) (ck : Int32) (gp : Int32) (tg : Int32) (st : Int32) (sm : Int32) (db : Nat → Int32) (ins : Nat → Int32) (p0 : Int32) (h0 : ¬ k_X3_open gp tg st sm db ins p0 = 0) : vx_Met l yX3_open wsX3_open ({ frames := 7, cells := 1, slots := 6, locals := 111 }) (GP G [.ref (a 0), .int p0] [wcA a ck, wcR a gp tg st sm, wcZ G (a 8) 7 db, wcZ G (a 9) 4 ins] sz) NQ (XQ (k_X3_open gp tg st sm db ins p0)) 1 6 (fun _ => False) := by
  refine bodyX (cc := cX3_open) (maxL := 2) (ret := (some .int)) (by decide) rfl (Nat.le_of_ble_eq_true rfl) ?_
  intro p e s m below meth c ls C ht
  obtain ⟨hx, hb, hr, hts, hown, hlocks, hml, hsz, hP, hE, hD, hZ, hA, hS, hl⟩ := C
  subst hsz
  have hl : lv_has ls 2 [(0, .ref (a 0)), (1, .int p0)] := hl
  refine lv_aload_n hx hb dX3_open_0 rfl (lv_at hl 0 rfl) ?_
  refine lv_iload_n hx hb dX3_open_1 rfl (lv_at hl 1 rfl) ?_
  by_cases c_2 : k_X3_requireAisle p0 = 0
  · refine k_p (va_runV (As := [.int p0]) (rest := []) ⟨hx, hb, hml, hown, hts⟩ (c_X3_requireAisle l hl9 G a s.heap.size p0 c_2) (cwV 1 hts gX3_open_X3_requireAisle rfl rfl rfl ⟨rfl, by decide +kernel, by decide +kernel, by decide +kernel⟩ ⟨Nat.le_of_ble_eq_true rfl, Nat.le_of_ble_eq_true rfl⟩) ⟨GP.blind, va_recv hE.1 hP (ci := 3) (q0 := 0) rfl rfl, GP.go (wc := []) hE hZ hP hD hS hA [] rfl (by decide) [.ref (a 0), .int p0]⟩ rfl rfl hl.1 rfl (lv_room (Nat.le_of_ble_eq_true rfl)) dX3_open_2 ⟨Nat.le_of_ble_eq_true rfl, Nat.le_of_ble_eq_true rfl⟩) ?_
    refine lv_aload_n hx hb dX3_open_5 rfl (lv_at hl 0 rfl) ?_
    refine va_get (D := G.1) (ci := 3) (v := .ref (a 7)) (C := RX3) (T := TX3) (N := 4) hx hb hts iw_X3_open_RX3 hown hE.1 hP 0 rfl rfl 1 (by decide) (hts (.fieldLink RX3 19 "Rackrail" "rail" "LRackrail$Rail;") (by decide +kernel)) (fun _ h9 => h9) rfl dX3_open_6 ?_
    refine k_p (va_runV (As := []) (rest := []) ⟨hx, hb, hml, hown, hts⟩ (c_X1_mayOpen l G a s.heap.size gp tg st sm db ins) (cwV 0 hts gX3_open_X1_mayOpen rfl rfl rfl ⟨rfl, by decide +kernel, by decide +kernel, by decide +kernel⟩ ⟨Nat.le_of_ble_eq_true rfl, Nat.le_of_ble_eq_true rfl⟩) ⟨GP.blind, va_recv hE.1 hP (ci := 1) (q0 := 1) rfl rfl, GP.go (wc := [wcR a gp tg st sm, wcZ G (a 8) 7 db, wcZ G (a 9) 4 ins]) hE hZ hP hD hS hA [1, 2, 3] rfl (by decide) [.ref (a 7)]⟩ rfl rfl hl.1 rfl (lv_room (Nat.le_of_ble_eq_true rfl)) dX3_open_9 ⟨Nat.le_of_ble_eq_true rfl, Nat.le_of_ble_eq_true rfl⟩) ?_
    refine lv_if_ne (tgt := 25) hx hb dX3_open_12 (by decide) (fun c_12 => ?_) (fun c_12 => ?_)
    · refine lv_aload_n hx hb dX3_open_25 rfl (lv_at hl 0 rfl) ?_
      refine va_get (D := G.1) (ci := 3) (v := .ref (a 7)) (C := RX3) (T := TX3) (N := 4) hx hb hts iw_X3_open_RX3 hown hE.1 hP 0 rfl rfl 1 (by decide) (hts (.fieldLink RX3 19 "Rackrail" "rail" "LRackrail$Rail;") (by decide +kernel)) (fun _ h9 => h9) rfl dX3_open_26 ?_
      refine lv_iload_n hx hb dX3_open_29 rfl (lv_at hl 1 rfl) ?_
      exact absurd (by rw [k_X3_open, if_pos c_2, if_neg c_12]) h0
    · exact k_thr (k := 3) (ik := 65) (is := 110) (ic := 69) (by decide) thr_f3 thr_o3 thr_b3 (tx := "no aisle may be opened now") (by decide) hx hb hl9 hown (hts (.classLink RX3 65 (exn 3)) (by decide +kernel)) (hts (.initialized (exn 3)) (by decide +kernel)) (fun w h => hts w (gx3_X3_open w h)) hE hZ hS (hl.1.trans hml.symm) ht hlocks dX3_open_15 dX3_open_18 dX3_open_19 dX3_open_21 dX3_open_24 (Nat.le_of_ble_eq_true rfl) (Nat.le_of_ble_eq_true rfl) (Nat.le_of_ble_eq_true rfl) (Nat.le_of_ble_eq_true rfl) (by rw [k_X3_open, if_pos c_2, if_pos c_12])
  · exact k_xo ht hlocks (by decide) (by decide) rfl rfl (vx_runV (As := [.int p0]) (rest := []) ⟨hx, hb, hml, hown, hts⟩ (cx_X3_requireAisle l hl9 G a s.heap.size p0 c_2) (cwV 1 hts gX3_open_X3_requireAisle rfl rfl rfl ⟨rfl, by decide +kernel, by decide +kernel, by decide +kernel⟩ ⟨Nat.le_of_ble_eq_true rfl, Nat.le_of_ble_eq_true rfl⟩) ⟨GP.blind, va_recv hE.1 hP (ci := 3) (q0 := 0) rfl rfl, GP.go (wc := []) hE hZ hP hD hS hA [] rfl (by decide) [.ref (a 0), .int p0]⟩ rfl rfl hl.1 rfl (lv_room (Nat.le_of_ble_eq_true rfl)) dX3_open_2 ⟨Nat.le_of_ble_eq_true rfl, Nat.le_of_ble_eq_true rfl⟩) (by rw [k_X3_open, if_neg c_2])

/-! X3_opened -/
def f_X3_opened (gp : Int32) (tg : Int32) : Int32 :=
  f_X1_openAisle gp tg
theorem iw_X3_opened_RX3 : ∀ w ∈ u_ws RX3 TX3 4, w ∈ wsX3_opened := by decide +kernel
set_option maxHeartbeats 4000000 in
set_option maxRecDepth 100000 in
theorem c_X3_opened (l : Launch) (G : GT) (a : Nat → Nat) (sz : Nat) (ck : Int32) (gp : Int32) (tg : Int32) (st : Int32) (sm : Int32) : Met l yX3_opened wsX3_opened ({ frames := 1, cells := 0, slots := 0, locals := 20 }) (GP G [.ref (a 0)] [wcA a ck, wcR a gp tg st sm] sz) (PQo (.returned (some (.int (f_X3_opened gp tg))))) 0 0 (fun _ => False) := by
  refine bodyM (cc := cX3_opened) (maxL := 1) (ret := (some .int)) (by decide) rfl (Nat.le_of_ble_eq_true rfl) ?_
  intro p e s m below meth c ls C
  obtain ⟨hx, hb, hr, hts, hown, hlocks, hml, hsz, hP, hE, hD, hZ, hA, hS, hl⟩ := C
  subst hsz
  have hl : lv_has ls 1 [(0, .ref (a 0))] := hl
  refine lv_aload_n hx hb dX3_opened_0 rfl (lv_at hl 0 rfl) ?_
  refine va_get (D := G.1) (ci := 3) (v := .ref (a 7)) (C := RX3) (T := TX3) (N := 4) hx hb hts iw_X3_opened_RX3 hown hE.1 hP 0 rfl rfl 1 (by decide) (hts (.fieldLink RX3 19 "Rackrail" "rail" "LRackrail$Rail;") (by decide +kernel)) (fun _ h9 => h9) rfl dX3_opened_1 ?_
  refine k_p (va_runV (As := []) (rest := []) ⟨hx, hb, hml, hown, hts⟩ (c_X1_openAisle l G a s.heap.size gp tg st sm) (cwV 0 hts gX3_opened_X1_openAisle rfl rfl rfl ⟨rfl, by decide +kernel, by decide +kernel, by decide +kernel⟩ ⟨Nat.le_of_ble_eq_true rfl, Nat.le_of_ble_eq_true rfl⟩) ⟨GP.blind, va_recv hE.1 hP (ci := 1) (q0 := 1) rfl rfl, GP.go (wc := [wcR a gp tg st sm]) hE hZ hP hD hS hA [1] rfl (by decide) [.ref (a 7)]⟩ rfl rfl hl.1 rfl (lv_room (Nat.le_of_ble_eq_true rfl)) dX3_opened_4 ⟨Nat.le_of_ble_eq_true rfl, Nat.le_of_ble_eq_true rfl⟩) ?_
  have hq : f_X3_opened gp tg = (f_X1_openAisle gp tg) := (by rw [f_X3_opened])
  exact W.iret (v := f_X1_openAisle gp tg) hx hb hr (fun t ht _ => ⟨by rw [hq], ht⟩) (fun _ h => nomatch h) dX3_opened_7

/-! X3_openedByMoves -/
def f_X3_openedByMoves (tg : Int32) (mv : Nat → Int32) : Int32 :=
  f_X1_openAisleByMoves tg mv
theorem iw_X3_openedByMoves_RX3 : ∀ w ∈ u_ws RX3 TX3 4, w ∈ wsX3_openedByMoves := by decide +kernel
set_option maxHeartbeats 4000000 in
set_option maxRecDepth 100000 in
theorem c_X3_openedByMoves (l : Launch) (G : GT) (a : Nat → Nat) (sz : Nat) (ck : Int32) (gp : Int32) (tg : Int32) (st : Int32) (sm : Int32) (mv : Nat → Int32) : Met l yX3_openedByMoves wsX3_openedByMoves ({ frames := 1, cells := 0, slots := 0, locals := 22 }) (GP G [.ref (a 0)] [wcA a ck, wcR a gp tg st sm, wcI G (a 10) 6 mv] sz) (PQo (.returned (some (.int (f_X3_openedByMoves tg mv))))) 0 0 (fun _ => False) := by
  refine bodyM (cc := cX3_openedByMoves) (maxL := 1) (ret := (some .int)) (by decide) rfl (Nat.le_of_ble_eq_true rfl) ?_
  intro p e s m below meth c ls C
  obtain ⟨hx, hb, hr, hts, hown, hlocks, hml, hsz, hP, hE, hD, hZ, hA, hS, hl⟩ := C
  subst hsz
  have hl : lv_has ls 1 [(0, .ref (a 0))] := hl
  refine lv_aload_n hx hb dX3_openedByMoves_0 rfl (lv_at hl 0 rfl) ?_
  refine va_get (D := G.1) (ci := 3) (v := .ref (a 7)) (C := RX3) (T := TX3) (N := 4) hx hb hts iw_X3_openedByMoves_RX3 hown hE.1 hP 0 rfl rfl 1 (by decide) (hts (.fieldLink RX3 19 "Rackrail" "rail" "LRackrail$Rail;") (by decide +kernel)) (fun _ h9 => h9) rfl dX3_openedByMoves_1 ?_
  refine k_p (va_runV (As := []) (rest := []) ⟨hx, hb, hml, hown, hts⟩ (c_X1_openAisleByMoves l G a s.heap.size gp tg st sm mv) (cwV 0 hts gX3_openedByMoves_X1_openAisleByMoves rfl rfl rfl ⟨rfl, by decide +kernel, by decide +kernel, by decide +kernel⟩ ⟨Nat.le_of_ble_eq_true rfl, Nat.le_of_ble_eq_true rfl⟩) ⟨GP.blind, va_recv hE.1 hP (ci := 1) (q0 := 1) rfl rfl, GP.go (wc := [wcR a gp tg st sm, wcI G (a 10) 6 mv]) hE hZ hP hD hS hA [1, 2] rfl (by decide) [.ref (a 7)]⟩ rfl rfl hl.1 rfl (lv_room (Nat.le_of_ble_eq_true rfl)) dX3_openedByMoves_4 ⟨Nat.le_of_ble_eq_true rfl, Nat.le_of_ble_eq_true rfl⟩) ?_
  have hq : f_X3_openedByMoves tg mv = (f_X1_openAisleByMoves tg mv) := (by rw [f_X3_openedByMoves])
  exact W.iret (v := f_X1_openAisleByMoves tg mv) hx hb hr (fun t ht _ => ⟨by rw [hq], ht⟩) (fun _ h => nomatch h) dX3_openedByMoves_7

/-! X3_goIn -/
def f_X3_goIn (gp : Int32) (tg : Int32) (sm : Int32) (ins : Nat → Int32) (p0 : Int32) : Int32 × (Nat → Int32) :=
  if k_X3_requirePerson p0 = 0 then (if (f_X1_isInside ins p0) = 0 then (if (f_X1_mayGoIn gp tg sm) = 0 then (0, ins)
        else (f_X1_countInside (f_X1_setInside ins p0 1), f_X1_setInside ins p0 1))
      else (0, ins))
    else (0, ins)
def k_X3_goIn (gp : Int32) (tg : Int32) (sm : Int32) (ins : Nat → Int32) (p0 : Int32) : Nat :=
  if k_X3_requirePerson p0 = 0 then (if (f_X1_isInside ins p0) = 0 then (if (f_X1_mayGoIn gp tg sm) = 0 then 3
        else 0)
      else 3)
    else 1
theorem kr_X3_goIn (gp : Int32) (tg : Int32) (sm : Int32) (ins : Nat → Int32) (p0 : Int32) : k_X3_goIn gp tg sm ins p0 = 0 ∨ k_X3_goIn gp tg sm ins p0 = 1 ∨ k_X3_goIn gp tg sm ins p0 = 3 := by
  unfold k_X3_goIn
  (repeat' split) <;> decide
theorem iw_X3_goIn_RX3 : ∀ w ∈ u_ws RX3 TX3 4, w ∈ wsX3_goIn := by decide +kernel
set_option maxHeartbeats 4000000 in
set_option maxRecDepth 100000 in
theorem c_X3_goIn (l : Launch) (hl9 : l.stackTraces = false) (G : GT) (a : Nat → Nat) (sz : Nat) (ck : Int32) (gp : Int32) (tg : Int32) (st : Int32) (sm : Int32) (ins : Nat → Int32) (p0 : Int32) (h0 : k_X3_goIn gp tg sm ins p0 = 0) : Met l yX3_goIn wsX3_goIn ({ frames := 7, cells := 0, slots := 0, locals := 111 }) (GP G [.ref (a 0), .int p0] [wcA a ck, wcR a gp tg st sm, wcZ G (a 9) 4 ins] sz) (MQo G (.returned (some (.int ((f_X3_goIn gp tg sm ins p0).1)))) [wcA a ck, wcR a gp tg st sm, wcZ G (a 9) 4 ((f_X3_goIn gp tg sm ins p0).2)] (va_A [wcA a ck, wcR a gp tg st sm, wcZ G (a 9) 4 ins] sz)) 0 0 (va_A [wcA a ck, wcR a gp tg st sm, wcZ G (a 9) 4 ins] sz) := by
  refine bodyM (cc := cX3_goIn) (maxL := 2) (ret := (some .int)) (by decide) rfl (Nat.le_of_ble_eq_true rfl) ?_
  intro p e s m below meth c ls C
  obtain ⟨hx, hb, hr, hts, hown, hlocks, hml, hsz, hP, hE, hD, hZ, hA, hS, hl⟩ := C
  subst hsz
  have hl : lv_has ls 2 [(0, .ref (a 0)), (1, .int p0)] := hl
  refine lv_aload_n hx hb dX3_goIn_0 rfl (lv_at hl 0 rfl) ?_
  refine lv_iload_n hx hb dX3_goIn_1 rfl (lv_at hl 1 rfl) ?_
  have c_2 : k_X3_requirePerson p0 = 0 := Decidable.byContradiction (fun c_2 => absurd (h0.symm.trans (by rw [k_X3_goIn, if_neg c_2])) (by decide))
  refine k_p (va_runV (As := [.int p0]) (rest := []) ⟨hx, hb, hml, hown, hts⟩ (c_X3_requirePerson l hl9 G a s.heap.size p0 c_2) (cwV 1 hts gX3_goIn_X3_requirePerson rfl rfl rfl ⟨rfl, by decide +kernel, by decide +kernel, by decide +kernel⟩ ⟨Nat.le_of_ble_eq_true rfl, Nat.le_of_ble_eq_true rfl⟩) ⟨GP.blind, va_recv hE.1 hP (ci := 3) (q0 := 0) rfl rfl, GP.go (wc := []) hE hZ hP hD hS hA [] rfl (by decide) [.ref (a 0), .int p0]⟩ rfl rfl hl.1 rfl (lv_room (Nat.le_of_ble_eq_true rfl)) dX3_goIn_2 ⟨Nat.le_of_ble_eq_true rfl, Nat.le_of_ble_eq_true rfl⟩) ?_
  refine lv_aload_n hx hb dX3_goIn_5 rfl (lv_at hl 0 rfl) ?_
  refine va_get (D := G.1) (ci := 3) (v := .ref (a 7)) (C := RX3) (T := TX3) (N := 4) hx hb hts iw_X3_goIn_RX3 hown hE.1 hP 0 rfl rfl 1 (by decide) (hts (.fieldLink RX3 19 "Rackrail" "rail" "LRackrail$Rail;") (by decide +kernel)) (fun _ h9 => h9) rfl dX3_goIn_6 ?_
  refine lv_iload_n hx hb dX3_goIn_9 rfl (lv_at hl 1 rfl) ?_
  refine k_p (va_runV (As := [.int p0]) (rest := []) ⟨hx, hb, hml, hown, hts⟩ (c_X1_isInside l G a s.heap.size gp tg st sm ins p0) (cwV 1 hts gX3_goIn_X1_isInside rfl rfl rfl ⟨rfl, by decide +kernel, by decide +kernel, by decide +kernel⟩ ⟨Nat.le_of_ble_eq_true rfl, Nat.le_of_ble_eq_true rfl⟩) ⟨GP.blind, va_recv hE.1 hP (ci := 1) (q0 := 1) rfl rfl, GP.go (wc := [wcR a gp tg st sm, wcZ G (a 9) 4 ins]) hE hZ hP hD hS hA [1, 2] rfl (by decide) [.ref (a 7), .int p0]⟩ rfl rfl hl.1 rfl (lv_room (Nat.le_of_ble_eq_true rfl)) dX3_goIn_10 ⟨Nat.le_of_ble_eq_true rfl, Nat.le_of_ble_eq_true rfl⟩) ?_
  refine lv_if_eq (tgt := 26) hx hb dX3_goIn_13 (by decide) (fun c_13 => ?_) (fun c_13 => ?_)
  · refine lv_aload_n hx hb dX3_goIn_26 rfl (lv_at hl 0 rfl) ?_
    refine va_get (D := G.1) (ci := 3) (v := .ref (a 7)) (C := RX3) (T := TX3) (N := 4) hx hb hts iw_X3_goIn_RX3 hown hE.1 hP 0 rfl rfl 1 (by decide) (hts (.fieldLink RX3 19 "Rackrail" "rail" "LRackrail$Rail;") (by decide +kernel)) (fun _ h9 => h9) rfl dX3_goIn_27 ?_
    refine k_p (va_runV (As := []) (rest := []) ⟨hx, hb, hml, hown, hts⟩ (c_X1_mayGoIn l G a s.heap.size gp tg st sm) (cwV 0 hts gX3_goIn_X1_mayGoIn rfl rfl rfl ⟨rfl, by decide +kernel, by decide +kernel, by decide +kernel⟩ ⟨Nat.le_of_ble_eq_true rfl, Nat.le_of_ble_eq_true rfl⟩) ⟨GP.blind, va_recv hE.1 hP (ci := 1) (q0 := 1) rfl rfl, GP.go (wc := [wcR a gp tg st sm]) hE hZ hP hD hS hA [1] rfl (by decide) [.ref (a 7)]⟩ rfl rfl hl.1 rfl (lv_room (Nat.le_of_ble_eq_true rfl)) dX3_goIn_30 ⟨Nat.le_of_ble_eq_true rfl, Nat.le_of_ble_eq_true rfl⟩) ?_
    refine lv_if_ne (tgt := 46) hx hb dX3_goIn_33 (by decide) (fun c_33 => ?_) (fun c_33 => ?_)
    · refine lv_aload_n hx hb dX3_goIn_46 rfl (lv_at hl 0 rfl) ?_
      refine va_get (D := G.1) (ci := 3) (v := .ref (a 7)) (C := RX3) (T := TX3) (N := 4) hx hb hts iw_X3_goIn_RX3 hown hE.1 hP 0 rfl rfl 1 (by decide) (hts (.fieldLink RX3 19 "Rackrail" "rail" "LRackrail$Rail;") (by decide +kernel)) (fun _ h9 => h9) rfl dX3_goIn_47 ?_
      refine lv_iload_n hx hb dX3_goIn_50 rfl (lv_at hl 1 rfl) ?_
      refine lv_iconst (v := 1) hx hb dX3_goIn_51 (by decide) ?_
      refine k_m (wc := [wcR a gp tg st sm, wcZ G (a 9) 4 ins]) (w1 := [wcR a gp tg st sm, wcZ G (a 9) 4 (f_X1_setInside ins p0 1)]) (wn := [wcA a ck, wcR a gp tg st sm, wcZ G (a 9) 4 (f_X1_setInside ins p0 1)]) (va_runV (As := [.int p0, .int 1]) (rest := []) ⟨hx, hb, hml, hown, hts⟩ (c_X1_setInside l G a s.heap.size gp tg st sm ins p0 1) (cwV 2 hts gX3_goIn_X1_setInside rfl rfl rfl ⟨rfl, by decide +kernel, by decide +kernel, by decide +kernel⟩ ⟨Nat.le_of_ble_eq_true rfl, Nat.le_of_ble_eq_true rfl⟩) ⟨GP.blind, va_recv hE.1 hP (ci := 1) (q0 := 1) rfl rfl, GP.go (wc := [wcR a gp tg st sm, wcZ G (a 9) 4 ins]) hE hZ hP hD hS hA [1, 2] rfl (by decide) [.ref (a 7), .int p0, .int 1]⟩ rfl rfl hl.1 rfl (lv_room (Nat.le_of_ble_eq_true rfl)) dX3_goIn_52 ⟨Nat.le_of_ble_eq_true rfl, Nat.le_of_ble_eq_true rfl⟩) hP hD hS hA [1, 2] rfl rfl rfl rfl (fun H locs hP hD hS => ?_)
      refine lv_aload_n hx hb dX3_goIn_55 rfl (lv_at hl 0 rfl) ?_
      refine va_get (D := G.1) (ci := 3) (v := .ref (a 7)) (C := RX3) (T := TX3) (N := 4) hx hb hts iw_X3_goIn_RX3 hown hE.1 hP 0 rfl rfl 1 (by decide) (hts (.fieldLink RX3 19 "Rackrail" "rail" "LRackrail$Rail;") (by decide +kernel)) (fun _ h9 => h9) rfl dX3_goIn_56 ?_
      refine k_p (va_runV (As := []) (rest := []) ⟨hx, hb, hml, hown, hts⟩ (c_X1_countInside l G a H.size gp tg st sm (f_X1_setInside ins p0 1)) (cwV 0 hts gX3_goIn_X1_countInside rfl rfl rfl ⟨rfl, by decide +kernel, by decide +kernel, by decide +kernel⟩ ⟨Nat.le_of_ble_eq_true rfl, Nat.le_of_ble_eq_true rfl⟩) ⟨GP.blind, va_recv hE.1 hP (ci := 1) (q0 := 1) rfl rfl, GP.go (wc := [wcR a gp tg st sm, wcZ G (a 9) 4 (f_X1_setInside ins p0 1)]) hE hZ hP hD hS hA [1, 2] rfl (by decide) [.ref (a 7)]⟩ rfl rfl hl.1 rfl (lv_room (Nat.le_of_ble_eq_true rfl)) dX3_goIn_59 ⟨Nat.le_of_ble_eq_true rfl, Nat.le_of_ble_eq_true rfl⟩) ?_
      have hq : f_X3_goIn gp tg sm ins p0 = (f_X1_countInside (f_X1_setInside ins p0 1), f_X1_setInside ins p0 1) := (by rw [f_X3_goIn, if_pos c_2, if_pos c_13, if_neg c_33])
      exact W.iret (v := f_X1_countInside (f_X1_setInside ins p0 1)) hx hb hr (fun t ht _ => ⟨by rw [hq], by rw [hq, ht]; exact hP, hS.F ht⟩) hS.2.2 dX3_goIn_62
    · exact absurd (h0.symm.trans (by rw [k_X3_goIn, if_pos c_2, if_pos c_13, if_pos c_33])) (by decide)
  · exact absurd (h0.symm.trans (by rw [k_X3_goIn, if_pos c_2, if_neg c_13])) (by decide)

theorem gx3_X3_goIn : ∀ w ∈ (vx_atS RX3 69 (exn 3) xnames).filter goodWord, w ∈ wsX3_goIn := by decide +kernel
set_option maxHeartbeats 4000000 in
set_option maxRecDepth 100000 in
theorem cx_X3_goIn (l : Launch) (hl9 : l.stackTraces = false) (G : GT) (a : Nat → Nat) (sz : Nat) (ck : Int32) (gp : Int32) (tg : Int32) (st : Int32) (sm : Int32) (ins : Nat → Int32) (p0 : Int32) (h0 : ¬ k_X3_goIn gp tg sm ins p0 = 0) : vx_Met l yX3_goIn wsX3_goIn ({ frames := 7, cells := 1, slots := 6, locals := 111 }) (GP G [.ref (a 0), .int p0] [wcA a ck, wcR a gp tg st sm, wcZ G (a 9) 4 ins] sz) NQ (XQ (k_X3_goIn gp tg sm ins p0)) 1 6 (fun _ => False) := by
  refine bodyX (cc := cX3_goIn) (maxL := 2) (ret := (some .int)) (by decide) rfl (Nat.le_of_ble_eq_true rfl) ?_
  intro p e s m below meth c ls C ht
  obtain ⟨hx, hb, hr, hts, hown, hlocks, hml, hsz, hP, hE, hD, hZ, hA, hS, hl⟩ := C
  subst hsz
  have hl : lv_has ls 2 [(0, .ref (a 0)), (1, .int p0)] := hl
  refine lv_aload_n hx hb dX3_goIn_0 rfl (lv_at hl 0 rfl) ?_
  refine lv_iload_n hx hb dX3_goIn_1 rfl (lv_at hl 1 rfl) ?_
  by_cases c_2 : k_X3_requirePerson p0 = 0
  · refine k_p (va_runV (As := [.int p0]) (rest := []) ⟨hx, hb, hml, hown, hts⟩ (c_X3_requirePerson l hl9 G a s.heap.size p0 c_2) (cwV 1 hts gX3_goIn_X3_requirePerson rfl rfl rfl ⟨rfl, by decide +kernel, by decide +kernel, by decide +kernel⟩ ⟨Nat.le_of_ble_eq_true rfl, Nat.le_of_ble_eq_true rfl⟩) ⟨GP.blind, va_recv hE.1 hP (ci := 3) (q0 := 0) rfl rfl, GP.go (wc := []) hE hZ hP hD hS hA [] rfl (by decide) [.ref (a 0), .int p0]⟩ rfl rfl hl.1 rfl (lv_room (Nat.le_of_ble_eq_true rfl)) dX3_goIn_2 ⟨Nat.le_of_ble_eq_true rfl, Nat.le_of_ble_eq_true rfl⟩) ?_
    refine lv_aload_n hx hb dX3_goIn_5 rfl (lv_at hl 0 rfl) ?_
    refine va_get (D := G.1) (ci := 3) (v := .ref (a 7)) (C := RX3) (T := TX3) (N := 4) hx hb hts iw_X3_goIn_RX3 hown hE.1 hP 0 rfl rfl 1 (by decide) (hts (.fieldLink RX3 19 "Rackrail" "rail" "LRackrail$Rail;") (by decide +kernel)) (fun _ h9 => h9) rfl dX3_goIn_6 ?_
    refine lv_iload_n hx hb dX3_goIn_9 rfl (lv_at hl 1 rfl) ?_
    refine k_p (va_runV (As := [.int p0]) (rest := []) ⟨hx, hb, hml, hown, hts⟩ (c_X1_isInside l G a s.heap.size gp tg st sm ins p0) (cwV 1 hts gX3_goIn_X1_isInside rfl rfl rfl ⟨rfl, by decide +kernel, by decide +kernel, by decide +kernel⟩ ⟨Nat.le_of_ble_eq_true rfl, Nat.le_of_ble_eq_true rfl⟩) ⟨GP.blind, va_recv hE.1 hP (ci := 1) (q0 := 1) rfl rfl, GP.go (wc := [wcR a gp tg st sm, wcZ G (a 9) 4 ins]) hE hZ hP hD hS hA [1, 2] rfl (by decide) [.ref (a 7), .int p0]⟩ rfl rfl hl.1 rfl (lv_room (Nat.le_of_ble_eq_true rfl)) dX3_goIn_10 ⟨Nat.le_of_ble_eq_true rfl, Nat.le_of_ble_eq_true rfl⟩) ?_
    refine lv_if_eq (tgt := 26) hx hb dX3_goIn_13 (by decide) (fun c_13 => ?_) (fun c_13 => ?_)
    · refine lv_aload_n hx hb dX3_goIn_26 rfl (lv_at hl 0 rfl) ?_
      refine va_get (D := G.1) (ci := 3) (v := .ref (a 7)) (C := RX3) (T := TX3) (N := 4) hx hb hts iw_X3_goIn_RX3 hown hE.1 hP 0 rfl rfl 1 (by decide) (hts (.fieldLink RX3 19 "Rackrail" "rail" "LRackrail$Rail;") (by decide +kernel)) (fun _ h9 => h9) rfl dX3_goIn_27 ?_
      refine k_p (va_runV (As := []) (rest := []) ⟨hx, hb, hml, hown, hts⟩ (c_X1_mayGoIn l G a s.heap.size gp tg st sm) (cwV 0 hts gX3_goIn_X1_mayGoIn rfl rfl rfl ⟨rfl, by decide +kernel, by decide +kernel, by decide +kernel⟩ ⟨Nat.le_of_ble_eq_true rfl, Nat.le_of_ble_eq_true rfl⟩) ⟨GP.blind, va_recv hE.1 hP (ci := 1) (q0 := 1) rfl rfl, GP.go (wc := [wcR a gp tg st sm]) hE hZ hP hD hS hA [1] rfl (by decide) [.ref (a 7)]⟩ rfl rfl hl.1 rfl (lv_room (Nat.le_of_ble_eq_true rfl)) dX3_goIn_30 ⟨Nat.le_of_ble_eq_true rfl, Nat.le_of_ble_eq_true rfl⟩) ?_
      refine lv_if_ne (tgt := 46) hx hb dX3_goIn_33 (by decide) (fun c_33 => ?_) (fun c_33 => ?_)
      · refine lv_aload_n hx hb dX3_goIn_46 rfl (lv_at hl 0 rfl) ?_
        refine va_get (D := G.1) (ci := 3) (v := .ref (a 7)) (C := RX3) (T := TX3) (N := 4) hx hb hts iw_X3_goIn_RX3 hown hE.1 hP 0 rfl rfl 1 (by decide) (hts (.fieldLink RX3 19 "Rackrail" "rail" "LRackrail$Rail;") (by decide +kernel)) (fun _ h9 => h9) rfl dX3_goIn_47 ?_
        refine lv_iload_n hx hb dX3_goIn_50 rfl (lv_at hl 1 rfl) ?_
        refine lv_iconst (v := 1) hx hb dX3_goIn_51 (by decide) ?_
        exact absurd (by rw [k_X3_goIn, if_pos c_2, if_pos c_13, if_neg c_33]) h0
      · exact k_thr (k := 3) (ik := 65) (is := 136) (ic := 69) (by decide) thr_f3 thr_o3 thr_b3 (tx := "nobody may go in now") (by decide) hx hb hl9 hown (hts (.classLink RX3 65 (exn 3)) (by decide +kernel)) (hts (.initialized (exn 3)) (by decide +kernel)) (fun w h => hts w (gx3_X3_goIn w h)) hE hZ hS (hl.1.trans hml.symm) ht hlocks dX3_goIn_36 dX3_goIn_39 dX3_goIn_40 dX3_goIn_42 dX3_goIn_45 (Nat.le_of_ble_eq_true rfl) (Nat.le_of_ble_eq_true rfl) (Nat.le_of_ble_eq_true rfl) (Nat.le_of_ble_eq_true rfl) (by rw [k_X3_goIn, if_pos c_2, if_pos c_13, if_pos c_33])
    · exact k_thr (k := 3) (ik := 65) (is := 131) (ic := 69) (by decide) thr_f3 thr_o3 thr_b3 (tx := "the person is inside") (by decide) hx hb hl9 hown (hts (.classLink RX3 65 (exn 3)) (by decide +kernel)) (hts (.initialized (exn 3)) (by decide +kernel)) (fun w h => hts w (gx3_X3_goIn w h)) hE hZ hS (hl.1.trans hml.symm) ht hlocks dX3_goIn_16 dX3_goIn_19 dX3_goIn_20 dX3_goIn_22 dX3_goIn_25 (Nat.le_of_ble_eq_true rfl) (Nat.le_of_ble_eq_true rfl) (Nat.le_of_ble_eq_true rfl) (Nat.le_of_ble_eq_true rfl) (by rw [k_X3_goIn, if_pos c_2, if_neg c_13])
  · exact k_xo ht hlocks (by decide) (by decide) rfl rfl (vx_runV (As := [.int p0]) (rest := []) ⟨hx, hb, hml, hown, hts⟩ (cx_X3_requirePerson l hl9 G a s.heap.size p0 c_2) (cwV 1 hts gX3_goIn_X3_requirePerson rfl rfl rfl ⟨rfl, by decide +kernel, by decide +kernel, by decide +kernel⟩ ⟨Nat.le_of_ble_eq_true rfl, Nat.le_of_ble_eq_true rfl⟩) ⟨GP.blind, va_recv hE.1 hP (ci := 3) (q0 := 0) rfl rfl, GP.go (wc := []) hE hZ hP hD hS hA [] rfl (by decide) [.ref (a 0), .int p0]⟩ rfl rfl hl.1 rfl (lv_room (Nat.le_of_ble_eq_true rfl)) dX3_goIn_2 ⟨Nat.le_of_ble_eq_true rfl, Nat.le_of_ble_eq_true rfl⟩) (by rw [k_X3_goIn, if_neg c_2])

/-! X3_goOut -/
def f_X3_goOut (ins : Nat → Int32) (p0 : Int32) : Int32 × (Nat → Int32) :=
  if k_X3_requirePerson p0 = 0 then (if k_X3_requireInside ins p0 = 0 then (f_X1_countInside (f_X1_setInside ins p0 0), f_X1_setInside ins p0 0)
      else (0, ins))
    else (0, ins)
def k_X3_goOut (ins : Nat → Int32) (p0 : Int32) : Nat :=
  if k_X3_requirePerson p0 = 0 then (if k_X3_requireInside ins p0 = 0 then 0
      else 3)
    else 1
theorem kr_X3_goOut (ins : Nat → Int32) (p0 : Int32) : k_X3_goOut ins p0 = 0 ∨ k_X3_goOut ins p0 = 1 ∨ k_X3_goOut ins p0 = 3 := by
  unfold k_X3_goOut
  (repeat' split) <;> decide
theorem iw_X3_goOut_RX3 : ∀ w ∈ u_ws RX3 TX3 4, w ∈ wsX3_goOut := by decide +kernel
set_option maxHeartbeats 4000000 in
set_option maxRecDepth 100000 in
theorem c_X3_goOut (l : Launch) (hl9 : l.stackTraces = false) (G : GT) (a : Nat → Nat) (sz : Nat) (ck : Int32) (gp : Int32) (tg : Int32) (st : Int32) (sm : Int32) (ins : Nat → Int32) (p0 : Int32) (h0 : k_X3_goOut ins p0 = 0) : Met l yX3_goOut wsX3_goOut ({ frames := 7, cells := 0, slots := 0, locals := 111 }) (GP G [.ref (a 0), .int p0] [wcA a ck, wcR a gp tg st sm, wcZ G (a 9) 4 ins] sz) (MQo G (.returned (some (.int ((f_X3_goOut ins p0).1)))) [wcA a ck, wcR a gp tg st sm, wcZ G (a 9) 4 ((f_X3_goOut ins p0).2)] (va_A [wcA a ck, wcR a gp tg st sm, wcZ G (a 9) 4 ins] sz)) 0 0 (va_A [wcA a ck, wcR a gp tg st sm, wcZ G (a 9) 4 ins] sz) := by
  refine bodyM (cc := cX3_goOut) (maxL := 2) (ret := (some .int)) (by decide) rfl (Nat.le_of_ble_eq_true rfl) ?_
  intro p e s m below meth c ls C
  obtain ⟨hx, hb, hr, hts, hown, hlocks, hml, hsz, hP, hE, hD, hZ, hA, hS, hl⟩ := C
  subst hsz
  have hl : lv_has ls 2 [(0, .ref (a 0)), (1, .int p0)] := hl
  refine lv_aload_n hx hb dX3_goOut_0 rfl (lv_at hl 0 rfl) ?_
  refine lv_iload_n hx hb dX3_goOut_1 rfl (lv_at hl 1 rfl) ?_
  have c_2 : k_X3_requirePerson p0 = 0 := Decidable.byContradiction (fun c_2 => absurd (h0.symm.trans (by rw [k_X3_goOut, if_neg c_2])) (by decide))
  refine k_p (va_runV (As := [.int p0]) (rest := []) ⟨hx, hb, hml, hown, hts⟩ (c_X3_requirePerson l hl9 G a s.heap.size p0 c_2) (cwV 1 hts gX3_goOut_X3_requirePerson rfl rfl rfl ⟨rfl, by decide +kernel, by decide +kernel, by decide +kernel⟩ ⟨Nat.le_of_ble_eq_true rfl, Nat.le_of_ble_eq_true rfl⟩) ⟨GP.blind, va_recv hE.1 hP (ci := 3) (q0 := 0) rfl rfl, GP.go (wc := []) hE hZ hP hD hS hA [] rfl (by decide) [.ref (a 0), .int p0]⟩ rfl rfl hl.1 rfl (lv_room (Nat.le_of_ble_eq_true rfl)) dX3_goOut_2 ⟨Nat.le_of_ble_eq_true rfl, Nat.le_of_ble_eq_true rfl⟩) ?_
  refine lv_aload_n hx hb dX3_goOut_5 rfl (lv_at hl 0 rfl) ?_
  refine lv_iload_n hx hb dX3_goOut_6 rfl (lv_at hl 1 rfl) ?_
  have c_7 : k_X3_requireInside ins p0 = 0 := Decidable.byContradiction (fun c_7 => absurd (h0.symm.trans (by rw [k_X3_goOut, if_pos c_2, if_neg c_7])) (by decide))
  refine k_p (va_runV (As := [.int p0]) (rest := []) ⟨hx, hb, hml, hown, hts⟩ (c_X3_requireInside l hl9 G a s.heap.size ck gp tg st sm ins p0 c_7) (cwV 1 hts gX3_goOut_X3_requireInside rfl rfl rfl ⟨rfl, by decide +kernel, by decide +kernel, by decide +kernel⟩ ⟨Nat.le_of_ble_eq_true rfl, Nat.le_of_ble_eq_true rfl⟩) ⟨GP.blind, va_recv hE.1 hP (ci := 3) (q0 := 0) rfl rfl, GP.go (wc := [wcA a ck, wcR a gp tg st sm, wcZ G (a 9) 4 ins]) hE hZ hP hD hS hA [0, 1, 2] rfl (by decide) [.ref (a 0), .int p0]⟩ rfl rfl hl.1 rfl (lv_room (Nat.le_of_ble_eq_true rfl)) dX3_goOut_7 ⟨Nat.le_of_ble_eq_true rfl, Nat.le_of_ble_eq_true rfl⟩) ?_
  refine lv_aload_n hx hb dX3_goOut_10 rfl (lv_at hl 0 rfl) ?_
  refine va_get (D := G.1) (ci := 3) (v := .ref (a 7)) (C := RX3) (T := TX3) (N := 4) hx hb hts iw_X3_goOut_RX3 hown hE.1 hP 0 rfl rfl 1 (by decide) (hts (.fieldLink RX3 19 "Rackrail" "rail" "LRackrail$Rail;") (by decide +kernel)) (fun _ h9 => h9) rfl dX3_goOut_11 ?_
  refine lv_iload_n hx hb dX3_goOut_14 rfl (lv_at hl 1 rfl) ?_
  refine lv_iconst (v := 0) hx hb dX3_goOut_15 (by decide) ?_
  refine k_m (wc := [wcR a gp tg st sm, wcZ G (a 9) 4 ins]) (w1 := [wcR a gp tg st sm, wcZ G (a 9) 4 (f_X1_setInside ins p0 0)]) (wn := [wcA a ck, wcR a gp tg st sm, wcZ G (a 9) 4 (f_X1_setInside ins p0 0)]) (va_runV (As := [.int p0, .int 0]) (rest := []) ⟨hx, hb, hml, hown, hts⟩ (c_X1_setInside l G a s.heap.size gp tg st sm ins p0 0) (cwV 2 hts gX3_goOut_X1_setInside rfl rfl rfl ⟨rfl, by decide +kernel, by decide +kernel, by decide +kernel⟩ ⟨Nat.le_of_ble_eq_true rfl, Nat.le_of_ble_eq_true rfl⟩) ⟨GP.blind, va_recv hE.1 hP (ci := 1) (q0 := 1) rfl rfl, GP.go (wc := [wcR a gp tg st sm, wcZ G (a 9) 4 ins]) hE hZ hP hD hS hA [1, 2] rfl (by decide) [.ref (a 7), .int p0, .int 0]⟩ rfl rfl hl.1 rfl (lv_room (Nat.le_of_ble_eq_true rfl)) dX3_goOut_16 ⟨Nat.le_of_ble_eq_true rfl, Nat.le_of_ble_eq_true rfl⟩) hP hD hS hA [1, 2] rfl rfl rfl rfl (fun H locs hP hD hS => ?_)
  refine lv_aload_n hx hb dX3_goOut_19 rfl (lv_at hl 0 rfl) ?_
  refine va_get (D := G.1) (ci := 3) (v := .ref (a 7)) (C := RX3) (T := TX3) (N := 4) hx hb hts iw_X3_goOut_RX3 hown hE.1 hP 0 rfl rfl 1 (by decide) (hts (.fieldLink RX3 19 "Rackrail" "rail" "LRackrail$Rail;") (by decide +kernel)) (fun _ h9 => h9) rfl dX3_goOut_20 ?_
  refine k_p (va_runV (As := []) (rest := []) ⟨hx, hb, hml, hown, hts⟩ (c_X1_countInside l G a H.size gp tg st sm (f_X1_setInside ins p0 0)) (cwV 0 hts gX3_goOut_X1_countInside rfl rfl rfl ⟨rfl, by decide +kernel, by decide +kernel, by decide +kernel⟩ ⟨Nat.le_of_ble_eq_true rfl, Nat.le_of_ble_eq_true rfl⟩) ⟨GP.blind, va_recv hE.1 hP (ci := 1) (q0 := 1) rfl rfl, GP.go (wc := [wcR a gp tg st sm, wcZ G (a 9) 4 (f_X1_setInside ins p0 0)]) hE hZ hP hD hS hA [1, 2] rfl (by decide) [.ref (a 7)]⟩ rfl rfl hl.1 rfl (lv_room (Nat.le_of_ble_eq_true rfl)) dX3_goOut_23 ⟨Nat.le_of_ble_eq_true rfl, Nat.le_of_ble_eq_true rfl⟩) ?_
  have hq : f_X3_goOut ins p0 = (f_X1_countInside (f_X1_setInside ins p0 0), f_X1_setInside ins p0 0) := (by rw [f_X3_goOut, if_pos c_2, if_pos c_7])
  exact W.iret (v := f_X1_countInside (f_X1_setInside ins p0 0)) hx hb hr (fun t ht _ => ⟨by rw [hq], by rw [hq, ht]; exact hP, hS.F ht⟩) hS.2.2 dX3_goOut_26

set_option maxHeartbeats 4000000 in
set_option maxRecDepth 100000 in
theorem cx_X3_goOut (l : Launch) (hl9 : l.stackTraces = false) (G : GT) (a : Nat → Nat) (sz : Nat) (ck : Int32) (gp : Int32) (tg : Int32) (st : Int32) (sm : Int32) (ins : Nat → Int32) (p0 : Int32) (h0 : ¬ k_X3_goOut ins p0 = 0) : vx_Met l yX3_goOut wsX3_goOut ({ frames := 7, cells := 1, slots := 6, locals := 111 }) (GP G [.ref (a 0), .int p0] [wcA a ck, wcR a gp tg st sm, wcZ G (a 9) 4 ins] sz) NQ (XQ (k_X3_goOut ins p0)) 1 6 (fun _ => False) := by
  refine bodyX (cc := cX3_goOut) (maxL := 2) (ret := (some .int)) (by decide) rfl (Nat.le_of_ble_eq_true rfl) ?_
  intro p e s m below meth c ls C ht
  obtain ⟨hx, hb, hr, hts, hown, hlocks, hml, hsz, hP, hE, hD, hZ, hA, hS, hl⟩ := C
  subst hsz
  have hl : lv_has ls 2 [(0, .ref (a 0)), (1, .int p0)] := hl
  refine lv_aload_n hx hb dX3_goOut_0 rfl (lv_at hl 0 rfl) ?_
  refine lv_iload_n hx hb dX3_goOut_1 rfl (lv_at hl 1 rfl) ?_
  by_cases c_2 : k_X3_requirePerson p0 = 0
  · refine k_p (va_runV (As := [.int p0]) (rest := []) ⟨hx, hb, hml, hown, hts⟩ (c_X3_requirePerson l hl9 G a s.heap.size p0 c_2) (cwV 1 hts gX3_goOut_X3_requirePerson rfl rfl rfl ⟨rfl, by decide +kernel, by decide +kernel, by decide +kernel⟩ ⟨Nat.le_of_ble_eq_true rfl, Nat.le_of_ble_eq_true rfl⟩) ⟨GP.blind, va_recv hE.1 hP (ci := 3) (q0 := 0) rfl rfl, GP.go (wc := []) hE hZ hP hD hS hA [] rfl (by decide) [.ref (a 0), .int p0]⟩ rfl rfl hl.1 rfl (lv_room (Nat.le_of_ble_eq_true rfl)) dX3_goOut_2 ⟨Nat.le_of_ble_eq_true rfl, Nat.le_of_ble_eq_true rfl⟩) ?_
    refine lv_aload_n hx hb dX3_goOut_5 rfl (lv_at hl 0 rfl) ?_
    refine lv_iload_n hx hb dX3_goOut_6 rfl (lv_at hl 1 rfl) ?_
    by_cases c_7 : k_X3_requireInside ins p0 = 0
    · refine k_p (va_runV (As := [.int p0]) (rest := []) ⟨hx, hb, hml, hown, hts⟩ (c_X3_requireInside l hl9 G a s.heap.size ck gp tg st sm ins p0 c_7) (cwV 1 hts gX3_goOut_X3_requireInside rfl rfl rfl ⟨rfl, by decide +kernel, by decide +kernel, by decide +kernel⟩ ⟨Nat.le_of_ble_eq_true rfl, Nat.le_of_ble_eq_true rfl⟩) ⟨GP.blind, va_recv hE.1 hP (ci := 3) (q0 := 0) rfl rfl, GP.go (wc := [wcA a ck, wcR a gp tg st sm, wcZ G (a 9) 4 ins]) hE hZ hP hD hS hA [0, 1, 2] rfl (by decide) [.ref (a 0), .int p0]⟩ rfl rfl hl.1 rfl (lv_room (Nat.le_of_ble_eq_true rfl)) dX3_goOut_7 ⟨Nat.le_of_ble_eq_true rfl, Nat.le_of_ble_eq_true rfl⟩) ?_
      refine lv_aload_n hx hb dX3_goOut_10 rfl (lv_at hl 0 rfl) ?_
      refine va_get (D := G.1) (ci := 3) (v := .ref (a 7)) (C := RX3) (T := TX3) (N := 4) hx hb hts iw_X3_goOut_RX3 hown hE.1 hP 0 rfl rfl 1 (by decide) (hts (.fieldLink RX3 19 "Rackrail" "rail" "LRackrail$Rail;") (by decide +kernel)) (fun _ h9 => h9) rfl dX3_goOut_11 ?_
      refine lv_iload_n hx hb dX3_goOut_14 rfl (lv_at hl 1 rfl) ?_
      refine lv_iconst (v := 0) hx hb dX3_goOut_15 (by decide) ?_
      exact absurd (by rw [k_X3_goOut, if_pos c_2, if_pos c_7]) h0
    · exact k_xo ht hlocks (by decide) (by decide) rfl rfl (vx_runV (As := [.int p0]) (rest := []) ⟨hx, hb, hml, hown, hts⟩ (cx_X3_requireInside l hl9 G a s.heap.size ck gp tg st sm ins p0 c_7) (cwV 1 hts gX3_goOut_X3_requireInside rfl rfl rfl ⟨rfl, by decide +kernel, by decide +kernel, by decide +kernel⟩ ⟨Nat.le_of_ble_eq_true rfl, Nat.le_of_ble_eq_true rfl⟩) ⟨GP.blind, va_recv hE.1 hP (ci := 3) (q0 := 0) rfl rfl, GP.go (wc := [wcA a ck, wcR a gp tg st sm, wcZ G (a 9) 4 ins]) hE hZ hP hD hS hA [0, 1, 2] rfl (by decide) [.ref (a 0), .int p0]⟩ rfl rfl hl.1 rfl (lv_room (Nat.le_of_ble_eq_true rfl)) dX3_goOut_7 ⟨Nat.le_of_ble_eq_true rfl, Nat.le_of_ble_eq_true rfl⟩) (by rw [k_X3_goOut, if_pos c_2, if_neg c_7])
  · exact k_xo ht hlocks (by decide) (by decide) rfl rfl (vx_runV (As := [.int p0]) (rest := []) ⟨hx, hb, hml, hown, hts⟩ (cx_X3_requirePerson l hl9 G a s.heap.size p0 c_2) (cwV 1 hts gX3_goOut_X3_requirePerson rfl rfl rfl ⟨rfl, by decide +kernel, by decide +kernel, by decide +kernel⟩ ⟨Nat.le_of_ble_eq_true rfl, Nat.le_of_ble_eq_true rfl⟩) ⟨GP.blind, va_recv hE.1 hP (ci := 3) (q0 := 0) rfl rfl, GP.go (wc := []) hE hZ hP hD hS hA [] rfl (by decide) [.ref (a 0), .int p0]⟩ rfl rfl hl.1 rfl (lv_room (Nat.le_of_ble_eq_true rfl)) dX3_goOut_2 ⟨Nat.le_of_ble_eq_true rfl, Nat.le_of_ble_eq_true rfl⟩) (by rw [k_X3_goOut, if_neg c_2])

/-! X3_doubt -/
def f_X3_doubt (db : Nat → Int32) (p0 : Int32) : Int32 × (Nat → Int32) :=
  if k_X3_requireAisle p0 = 0 then (if (f_X1_hasDoubt db p0) = 0 then (1, f_X1_setDoubt db p0 1)
      else (0, f_X1_setDoubt db p0 1))
    else (0, db)
def k_X3_doubt (p0 : Int32) : Nat :=
  if k_X3_requireAisle p0 = 0 then 0
    else 1
theorem kr_X3_doubt (p0 : Int32) : k_X3_doubt p0 = 0 ∨ k_X3_doubt p0 = 1 := by
  unfold k_X3_doubt
  (repeat' split) <;> decide
theorem iw_X3_doubt_RX3 : ∀ w ∈ u_ws RX3 TX3 4, w ∈ wsX3_doubt := by decide +kernel
set_option maxHeartbeats 4000000 in
set_option maxRecDepth 100000 in
theorem c_X3_doubt (l : Launch) (hl9 : l.stackTraces = false) (G : GT) (a : Nat → Nat) (sz : Nat) (ck : Int32) (gp : Int32) (tg : Int32) (st : Int32) (sm : Int32) (db : Nat → Int32) (p0 : Int32) (h0 : k_X3_doubt p0 = 0) : Met l yX3_doubt wsX3_doubt ({ frames := 7, cells := 0, slots := 0, locals := 111 }) (GP G [.ref (a 0), .int p0] [wcA a ck, wcR a gp tg st sm, wcZ G (a 8) 7 db] sz) (MQo G (.returned (some (.int ((f_X3_doubt db p0).1)))) [wcA a ck, wcR a gp tg st sm, wcZ G (a 8) 7 ((f_X3_doubt db p0).2)] (va_A [wcA a ck, wcR a gp tg st sm, wcZ G (a 8) 7 db] sz)) 0 0 (va_A [wcA a ck, wcR a gp tg st sm, wcZ G (a 8) 7 db] sz) := by
  refine bodyM (cc := cX3_doubt) (maxL := 3) (ret := (some .boolean)) (by decide) rfl (Nat.le_of_ble_eq_true rfl) ?_
  intro p e s m below meth c ls C
  obtain ⟨hx, hb, hr, hts, hown, hlocks, hml, hsz, hP, hE, hD, hZ, hA, hS, hl⟩ := C
  subst hsz
  have hl : lv_has ls 3 [(0, .ref (a 0)), (1, .int p0)] := hl
  refine lv_aload_n hx hb dX3_doubt_0 rfl (lv_at hl 0 rfl) ?_
  refine lv_iload_n hx hb dX3_doubt_1 rfl (lv_at hl 1 rfl) ?_
  have c_2 : k_X3_requireAisle p0 = 0 := Decidable.byContradiction (fun c_2 => absurd (h0.symm.trans (by rw [k_X3_doubt, if_neg c_2])) (by decide))
  refine k_p (va_runV (As := [.int p0]) (rest := []) ⟨hx, hb, hml, hown, hts⟩ (c_X3_requireAisle l hl9 G a s.heap.size p0 c_2) (cwV 1 hts gX3_doubt_X3_requireAisle rfl rfl rfl ⟨rfl, by decide +kernel, by decide +kernel, by decide +kernel⟩ ⟨Nat.le_of_ble_eq_true rfl, Nat.le_of_ble_eq_true rfl⟩) ⟨GP.blind, va_recv hE.1 hP (ci := 3) (q0 := 0) rfl rfl, GP.go (wc := []) hE hZ hP hD hS hA [] rfl (by decide) [.ref (a 0), .int p0]⟩ rfl rfl hl.1 rfl (lv_room (Nat.le_of_ble_eq_true rfl)) dX3_doubt_2 ⟨Nat.le_of_ble_eq_true rfl, Nat.le_of_ble_eq_true rfl⟩) ?_
  refine lv_aload_n hx hb dX3_doubt_5 rfl (lv_at hl 0 rfl) ?_
  refine va_get (D := G.1) (ci := 3) (v := .ref (a 7)) (C := RX3) (T := TX3) (N := 4) hx hb hts iw_X3_doubt_RX3 hown hE.1 hP 0 rfl rfl 1 (by decide) (hts (.fieldLink RX3 19 "Rackrail" "rail" "LRackrail$Rail;") (by decide +kernel)) (fun _ h9 => h9) rfl dX3_doubt_6 ?_
  refine lv_iload_n hx hb dX3_doubt_9 rfl (lv_at hl 1 rfl) ?_
  refine k_p (va_runV (As := [.int p0]) (rest := []) ⟨hx, hb, hml, hown, hts⟩ (c_X1_hasDoubt l G a s.heap.size gp tg st sm db p0) (cwV 1 hts gX3_doubt_X1_hasDoubt rfl rfl rfl ⟨rfl, by decide +kernel, by decide +kernel, by decide +kernel⟩ ⟨Nat.le_of_ble_eq_true rfl, Nat.le_of_ble_eq_true rfl⟩) ⟨GP.blind, va_recv hE.1 hP (ci := 1) (q0 := 1) rfl rfl, GP.go (wc := [wcR a gp tg st sm, wcZ G (a 8) 7 db]) hE hZ hP hD hS hA [1, 2] rfl (by decide) [.ref (a 7), .int p0]⟩ rfl rfl hl.1 rfl (lv_room (Nat.le_of_ble_eq_true rfl)) dX3_doubt_10 ⟨Nat.le_of_ble_eq_true rfl, Nat.le_of_ble_eq_true rfl⟩) ?_
  refine lv_istore_n (lv' := [(2, .int (f_X1_hasDoubt db p0)), (0, .ref (a 0)), (1, .int p0)]) hx hb dX3_doubt_13 rfl hl (by decide) rfl (fun ls hl => ?_)
  refine lv_aload_n hx hb dX3_doubt_14 rfl (lv_at hl 1 rfl) ?_
  refine va_get (D := G.1) (ci := 3) (v := .ref (a 7)) (C := RX3) (T := TX3) (N := 4) hx hb hts iw_X3_doubt_RX3 hown hE.1 hP 0 rfl rfl 1 (by decide) (hts (.fieldLink RX3 19 "Rackrail" "rail" "LRackrail$Rail;") (by decide +kernel)) (fun _ h9 => h9) rfl dX3_doubt_15 ?_
  refine lv_iload_n hx hb dX3_doubt_18 rfl (lv_at hl 2 rfl) ?_
  refine lv_iconst (v := 1) hx hb dX3_doubt_19 (by decide) ?_
  refine k_m (wc := [wcR a gp tg st sm, wcZ G (a 8) 7 db]) (w1 := [wcR a gp tg st sm, wcZ G (a 8) 7 (f_X1_setDoubt db p0 1)]) (wn := [wcA a ck, wcR a gp tg st sm, wcZ G (a 8) 7 (f_X1_setDoubt db p0 1)]) (va_runV (As := [.int p0, .int 1]) (rest := []) ⟨hx, hb, hml, hown, hts⟩ (c_X1_setDoubt l G a s.heap.size gp tg st sm db p0 1) (cwV 2 hts gX3_doubt_X1_setDoubt rfl rfl rfl ⟨rfl, by decide +kernel, by decide +kernel, by decide +kernel⟩ ⟨Nat.le_of_ble_eq_true rfl, Nat.le_of_ble_eq_true rfl⟩) ⟨GP.blind, va_recv hE.1 hP (ci := 1) (q0 := 1) rfl rfl, GP.go (wc := [wcR a gp tg st sm, wcZ G (a 8) 7 db]) hE hZ hP hD hS hA [1, 2] rfl (by decide) [.ref (a 7), .int p0, .int 1]⟩ rfl rfl hl.1 rfl (lv_room (Nat.le_of_ble_eq_true rfl)) dX3_doubt_20 ⟨Nat.le_of_ble_eq_true rfl, Nat.le_of_ble_eq_true rfl⟩) hP hD hS hA [1, 2] rfl rfl rfl rfl (fun H locs hP hD hS => ?_)
  refine lv_iload_n hx hb dX3_doubt_23 rfl (lv_at hl 0 rfl) ?_
  refine lv_if_ne (tgt := 31) hx hb dX3_doubt_24 (by decide) (fun c_24 => ?_) (fun c_24 => ?_)
  · refine lv_iconst (v := 0) hx hb dX3_doubt_31 (by decide) ?_
    have hq : f_X3_doubt db p0 = (0, f_X1_setDoubt db p0 1) := (by rw [f_X3_doubt, if_pos c_2, if_neg c_24])
    exact W.zret (v := 0) hx hb hr rfl (fun t ht _ => ⟨by rw [hq], by rw [hq, ht]; exact hP, hS.F ht⟩) hS.2.2 dX3_doubt_32
  · refine lv_iconst (v := 1) hx hb dX3_doubt_27 (by decide) ?_
    refine lv_goto (tgt := 32) hx hb dX3_doubt_28 (by decide) ?_
    have hq : f_X3_doubt db p0 = (1, f_X1_setDoubt db p0 1) := (by rw [f_X3_doubt, if_pos c_2, if_pos c_24])
    exact W.zret (v := 1) hx hb hr rfl (fun t ht _ => ⟨by rw [hq], by rw [hq, ht]; exact hP, hS.F ht⟩) hS.2.2 dX3_doubt_32

set_option maxHeartbeats 4000000 in
set_option maxRecDepth 100000 in
theorem cx_X3_doubt (l : Launch) (hl9 : l.stackTraces = false) (G : GT) (a : Nat → Nat) (sz : Nat) (ck : Int32) (gp : Int32) (tg : Int32) (st : Int32) (sm : Int32) (db : Nat → Int32) (p0 : Int32) (h0 : ¬ k_X3_doubt p0 = 0) : vx_Met l yX3_doubt wsX3_doubt ({ frames := 7, cells := 1, slots := 6, locals := 111 }) (GP G [.ref (a 0), .int p0] [wcA a ck, wcR a gp tg st sm, wcZ G (a 8) 7 db] sz) NQ (XQ 1) 1 6 (fun _ => False) := by
  refine bodyX (cc := cX3_doubt) (maxL := 3) (ret := (some .boolean)) (by decide) rfl (Nat.le_of_ble_eq_true rfl) ?_
  intro p e s m below meth c ls C ht
  obtain ⟨hx, hb, hr, hts, hown, hlocks, hml, hsz, hP, hE, hD, hZ, hA, hS, hl⟩ := C
  subst hsz
  have hl : lv_has ls 3 [(0, .ref (a 0)), (1, .int p0)] := hl
  refine lv_aload_n hx hb dX3_doubt_0 rfl (lv_at hl 0 rfl) ?_
  refine lv_iload_n hx hb dX3_doubt_1 rfl (lv_at hl 1 rfl) ?_
  by_cases c_2 : k_X3_requireAisle p0 = 0
  · refine k_p (va_runV (As := [.int p0]) (rest := []) ⟨hx, hb, hml, hown, hts⟩ (c_X3_requireAisle l hl9 G a s.heap.size p0 c_2) (cwV 1 hts gX3_doubt_X3_requireAisle rfl rfl rfl ⟨rfl, by decide +kernel, by decide +kernel, by decide +kernel⟩ ⟨Nat.le_of_ble_eq_true rfl, Nat.le_of_ble_eq_true rfl⟩) ⟨GP.blind, va_recv hE.1 hP (ci := 3) (q0 := 0) rfl rfl, GP.go (wc := []) hE hZ hP hD hS hA [] rfl (by decide) [.ref (a 0), .int p0]⟩ rfl rfl hl.1 rfl (lv_room (Nat.le_of_ble_eq_true rfl)) dX3_doubt_2 ⟨Nat.le_of_ble_eq_true rfl, Nat.le_of_ble_eq_true rfl⟩) ?_
    refine lv_aload_n hx hb dX3_doubt_5 rfl (lv_at hl 0 rfl) ?_
    refine va_get (D := G.1) (ci := 3) (v := .ref (a 7)) (C := RX3) (T := TX3) (N := 4) hx hb hts iw_X3_doubt_RX3 hown hE.1 hP 0 rfl rfl 1 (by decide) (hts (.fieldLink RX3 19 "Rackrail" "rail" "LRackrail$Rail;") (by decide +kernel)) (fun _ h9 => h9) rfl dX3_doubt_6 ?_
    refine lv_iload_n hx hb dX3_doubt_9 rfl (lv_at hl 1 rfl) ?_
    refine k_p (va_runV (As := [.int p0]) (rest := []) ⟨hx, hb, hml, hown, hts⟩ (c_X1_hasDoubt l G a s.heap.size gp tg st sm db p0) (cwV 1 hts gX3_doubt_X1_hasDoubt rfl rfl rfl ⟨rfl, by decide +kernel, by decide +kernel, by decide +kernel⟩ ⟨Nat.le_of_ble_eq_true rfl, Nat.le_of_ble_eq_true rfl⟩) ⟨GP.blind, va_recv hE.1 hP (ci := 1) (q0 := 1) rfl rfl, GP.go (wc := [wcR a gp tg st sm, wcZ G (a 8) 7 db]) hE hZ hP hD hS hA [1, 2] rfl (by decide) [.ref (a 7), .int p0]⟩ rfl rfl hl.1 rfl (lv_room (Nat.le_of_ble_eq_true rfl)) dX3_doubt_10 ⟨Nat.le_of_ble_eq_true rfl, Nat.le_of_ble_eq_true rfl⟩) ?_
    refine lv_istore_n (lv' := [(2, .int (f_X1_hasDoubt db p0)), (0, .ref (a 0)), (1, .int p0)]) hx hb dX3_doubt_13 rfl hl (by decide) rfl (fun ls hl => ?_)
    refine lv_aload_n hx hb dX3_doubt_14 rfl (lv_at hl 1 rfl) ?_
    refine va_get (D := G.1) (ci := 3) (v := .ref (a 7)) (C := RX3) (T := TX3) (N := 4) hx hb hts iw_X3_doubt_RX3 hown hE.1 hP 0 rfl rfl 1 (by decide) (hts (.fieldLink RX3 19 "Rackrail" "rail" "LRackrail$Rail;") (by decide +kernel)) (fun _ h9 => h9) rfl dX3_doubt_15 ?_
    refine lv_iload_n hx hb dX3_doubt_18 rfl (lv_at hl 2 rfl) ?_
    refine lv_iconst (v := 1) hx hb dX3_doubt_19 (by decide) ?_
    exact absurd (by rw [k_X3_doubt, if_pos c_2]) h0
  · exact k_xo ht hlocks (by decide) (by decide) rfl rfl (vx_runV (As := [.int p0]) (rest := []) ⟨hx, hb, hml, hown, hts⟩ (cx_X3_requireAisle l hl9 G a s.heap.size p0 c_2) (cwV 1 hts gX3_doubt_X3_requireAisle rfl rfl rfl ⟨rfl, by decide +kernel, by decide +kernel, by decide +kernel⟩ ⟨Nat.le_of_ble_eq_true rfl, Nat.le_of_ble_eq_true rfl⟩) ⟨GP.blind, va_recv hE.1 hP (ci := 3) (q0 := 0) rfl rfl, GP.go (wc := []) hE hZ hP hD hS hA [] rfl (by decide) [.ref (a 0), .int p0]⟩ rfl rfl hl.1 rfl (lv_room (Nat.le_of_ble_eq_true rfl)) dX3_doubt_2 ⟨Nat.le_of_ble_eq_true rfl, Nat.le_of_ble_eq_true rfl⟩) rfl

/-! X3_look -/
def f_X3_look (gp : Int32) (tg : Int32) (db : Nat → Int32) : Int32 × (Nat → Int32) :=
  if (f_X1_openAisle gp tg) = (-1) then (0, db)
    else (f_X1_hasDoubt db (f_X1_openAisle gp tg), f_X1_setDoubt db (f_X1_openAisle gp tg) 0)
def k_X3_look (gp : Int32) (tg : Int32) : Nat :=
  if (f_X1_openAisle gp tg) = (-1) then 3
    else 0
theorem kr_X3_look (gp : Int32) (tg : Int32) : k_X3_look gp tg = 0 ∨ k_X3_look gp tg = 3 := by
  unfold k_X3_look
  (repeat' split) <;> decide
theorem iw_X3_look_RX3 : ∀ w ∈ u_ws RX3 TX3 4, w ∈ wsX3_look := by decide +kernel
set_option maxHeartbeats 4000000 in
set_option maxRecDepth 100000 in
theorem c_X3_look (l : Launch) (hl9 : l.stackTraces = false) (G : GT) (a : Nat → Nat) (sz : Nat) (ck : Int32) (gp : Int32) (tg : Int32) (st : Int32) (sm : Int32) (db : Nat → Int32) (h0 : k_X3_look gp tg = 0) : Met l yX3_look wsX3_look ({ frames := 6, cells := 0, slots := 0, locals := 90 }) (GP G [.ref (a 0)] [wcA a ck, wcR a gp tg st sm, wcZ G (a 8) 7 db] sz) (MQo G (.returned (some (.int ((f_X3_look gp tg db).1)))) [wcA a ck, wcR a gp tg st sm, wcZ G (a 8) 7 ((f_X3_look gp tg db).2)] (va_A [wcA a ck, wcR a gp tg st sm, wcZ G (a 8) 7 db] sz)) 0 0 (va_A [wcA a ck, wcR a gp tg st sm, wcZ G (a 8) 7 db] sz) := by
  refine bodyM (cc := cX3_look) (maxL := 3) (ret := (some .boolean)) (by decide) rfl (Nat.le_of_ble_eq_true rfl) ?_
  intro p e s m below meth c ls C
  obtain ⟨hx, hb, hr, hts, hown, hlocks, hml, hsz, hP, hE, hD, hZ, hA, hS, hl⟩ := C
  subst hsz
  have hl : lv_has ls 3 [(0, .ref (a 0))] := hl
  refine lv_aload_n hx hb dX3_look_0 rfl (lv_at hl 0 rfl) ?_
  refine va_get (D := G.1) (ci := 3) (v := .ref (a 7)) (C := RX3) (T := TX3) (N := 4) hx hb hts iw_X3_look_RX3 hown hE.1 hP 0 rfl rfl 1 (by decide) (hts (.fieldLink RX3 19 "Rackrail" "rail" "LRackrail$Rail;") (by decide +kernel)) (fun _ h9 => h9) rfl dX3_look_1 ?_
  refine k_p (va_runV (As := []) (rest := []) ⟨hx, hb, hml, hown, hts⟩ (c_X1_openAisle l G a s.heap.size gp tg st sm) (cwV 0 hts gX3_look_X1_openAisle rfl rfl rfl ⟨rfl, by decide +kernel, by decide +kernel, by decide +kernel⟩ ⟨Nat.le_of_ble_eq_true rfl, Nat.le_of_ble_eq_true rfl⟩) ⟨GP.blind, va_recv hE.1 hP (ci := 1) (q0 := 1) rfl rfl, GP.go (wc := [wcR a gp tg st sm]) hE hZ hP hD hS hA [1] rfl (by decide) [.ref (a 7)]⟩ rfl rfl hl.1 rfl (lv_room (Nat.le_of_ble_eq_true rfl)) dX3_look_4 ⟨Nat.le_of_ble_eq_true rfl, Nat.le_of_ble_eq_true rfl⟩) ?_
  refine lv_istore_n (lv' := [(1, .int (f_X1_openAisle gp tg)), (0, .ref (a 0))]) hx hb dX3_look_7 rfl hl (by decide) rfl (fun ls hl => ?_)
  refine lv_iload_n hx hb dX3_look_8 rfl (lv_at hl 0 rfl) ?_
  refine lv_iconst (v := (-1)) hx hb dX3_look_9 (by decide) ?_
  refine lv_icmp_ne (tgt := 23) hx hb dX3_look_10 (by decide) (fun c_10 => ?_) (fun c_10 => ?_)
  · refine lv_aload_n hx hb dX3_look_23 rfl (lv_at hl 1 rfl) ?_
    refine va_get (D := G.1) (ci := 3) (v := .ref (a 7)) (C := RX3) (T := TX3) (N := 4) hx hb hts iw_X3_look_RX3 hown hE.1 hP 0 rfl rfl 1 (by decide) (hts (.fieldLink RX3 19 "Rackrail" "rail" "LRackrail$Rail;") (by decide +kernel)) (fun _ h9 => h9) rfl dX3_look_24 ?_
    refine lv_iload_n hx hb dX3_look_27 rfl (lv_at hl 0 rfl) ?_
    refine k_p (va_runV (As := [.int (f_X1_openAisle gp tg)]) (rest := []) ⟨hx, hb, hml, hown, hts⟩ (c_X1_hasDoubt l G a s.heap.size gp tg st sm db (f_X1_openAisle gp tg)) (cwV 1 hts gX3_look_X1_hasDoubt rfl rfl rfl ⟨rfl, by decide +kernel, by decide +kernel, by decide +kernel⟩ ⟨Nat.le_of_ble_eq_true rfl, Nat.le_of_ble_eq_true rfl⟩) ⟨GP.blind, va_recv hE.1 hP (ci := 1) (q0 := 1) rfl rfl, GP.go (wc := [wcR a gp tg st sm, wcZ G (a 8) 7 db]) hE hZ hP hD hS hA [1, 2] rfl (by decide) [.ref (a 7), .int (f_X1_openAisle gp tg)]⟩ rfl rfl hl.1 rfl (lv_room (Nat.le_of_ble_eq_true rfl)) dX3_look_28 ⟨Nat.le_of_ble_eq_true rfl, Nat.le_of_ble_eq_true rfl⟩) ?_
    refine lv_istore_n (lv' := [(2, .int (f_X1_hasDoubt db (f_X1_openAisle gp tg))), (1, .int (f_X1_openAisle gp tg)), (0, .ref (a 0))]) hx hb dX3_look_31 rfl hl (by decide) rfl (fun ls hl => ?_)
    refine lv_aload_n hx hb dX3_look_32 rfl (lv_at hl 2 rfl) ?_
    refine va_get (D := G.1) (ci := 3) (v := .ref (a 7)) (C := RX3) (T := TX3) (N := 4) hx hb hts iw_X3_look_RX3 hown hE.1 hP 0 rfl rfl 1 (by decide) (hts (.fieldLink RX3 19 "Rackrail" "rail" "LRackrail$Rail;") (by decide +kernel)) (fun _ h9 => h9) rfl dX3_look_33 ?_
    refine lv_iload_n hx hb dX3_look_36 rfl (lv_at hl 1 rfl) ?_
    refine lv_iconst (v := 0) hx hb dX3_look_37 (by decide) ?_
    refine k_m (wc := [wcR a gp tg st sm, wcZ G (a 8) 7 db]) (w1 := [wcR a gp tg st sm, wcZ G (a 8) 7 (f_X1_setDoubt db (f_X1_openAisle gp tg) 0)]) (wn := [wcA a ck, wcR a gp tg st sm, wcZ G (a 8) 7 (f_X1_setDoubt db (f_X1_openAisle gp tg) 0)]) (va_runV (As := [.int (f_X1_openAisle gp tg), .int 0]) (rest := []) ⟨hx, hb, hml, hown, hts⟩ (c_X1_setDoubt l G a s.heap.size gp tg st sm db (f_X1_openAisle gp tg) 0) (cwV 2 hts gX3_look_X1_setDoubt rfl rfl rfl ⟨rfl, by decide +kernel, by decide +kernel, by decide +kernel⟩ ⟨Nat.le_of_ble_eq_true rfl, Nat.le_of_ble_eq_true rfl⟩) ⟨GP.blind, va_recv hE.1 hP (ci := 1) (q0 := 1) rfl rfl, GP.go (wc := [wcR a gp tg st sm, wcZ G (a 8) 7 db]) hE hZ hP hD hS hA [1, 2] rfl (by decide) [.ref (a 7), .int (f_X1_openAisle gp tg), .int 0]⟩ rfl rfl hl.1 rfl (lv_room (Nat.le_of_ble_eq_true rfl)) dX3_look_38 ⟨Nat.le_of_ble_eq_true rfl, Nat.le_of_ble_eq_true rfl⟩) hP hD hS hA [1, 2] rfl rfl rfl rfl (fun H locs hP hD hS => ?_)
    refine lv_iload_n hx hb dX3_look_41 rfl (lv_at hl 0 rfl) ?_
    have hq : f_X3_look gp tg db = (f_X1_hasDoubt db (f_X1_openAisle gp tg), f_X1_setDoubt db (f_X1_openAisle gp tg) 0) := (by rw [f_X3_look, if_neg c_10])
    exact W.zret (v := f_X1_hasDoubt db (f_X1_openAisle gp tg)) hx hb hr (bool_nar (b_X1_hasDoubt _ _)) (fun t ht _ => ⟨by rw [hq], by rw [hq, ht]; exact hP, hS.F ht⟩) hS.2.2 dX3_look_42
  · exact absurd (h0.symm.trans (by rw [k_X3_look, if_pos c_10])) (by decide)

theorem gx3_X3_look : ∀ w ∈ (vx_atS RX3 69 (exn 3) xnames).filter goodWord, w ∈ wsX3_look := by decide +kernel
set_option maxHeartbeats 4000000 in
set_option maxRecDepth 100000 in
theorem cx_X3_look (l : Launch) (hl9 : l.stackTraces = false) (G : GT) (a : Nat → Nat) (sz : Nat) (ck : Int32) (gp : Int32) (tg : Int32) (st : Int32) (sm : Int32) (db : Nat → Int32) (h0 : ¬ k_X3_look gp tg = 0) : vx_Met l yX3_look wsX3_look ({ frames := 6, cells := 1, slots := 6, locals := 90 }) (GP G [.ref (a 0)] [wcA a ck, wcR a gp tg st sm, wcZ G (a 8) 7 db] sz) NQ (XQ 3) 1 6 (fun _ => False) := by
  refine bodyX (cc := cX3_look) (maxL := 3) (ret := (some .boolean)) (by decide) rfl (Nat.le_of_ble_eq_true rfl) ?_
  intro p e s m below meth c ls C ht
  obtain ⟨hx, hb, hr, hts, hown, hlocks, hml, hsz, hP, hE, hD, hZ, hA, hS, hl⟩ := C
  subst hsz
  have hl : lv_has ls 3 [(0, .ref (a 0))] := hl
  refine lv_aload_n hx hb dX3_look_0 rfl (lv_at hl 0 rfl) ?_
  refine va_get (D := G.1) (ci := 3) (v := .ref (a 7)) (C := RX3) (T := TX3) (N := 4) hx hb hts iw_X3_look_RX3 hown hE.1 hP 0 rfl rfl 1 (by decide) (hts (.fieldLink RX3 19 "Rackrail" "rail" "LRackrail$Rail;") (by decide +kernel)) (fun _ h9 => h9) rfl dX3_look_1 ?_
  refine k_p (va_runV (As := []) (rest := []) ⟨hx, hb, hml, hown, hts⟩ (c_X1_openAisle l G a s.heap.size gp tg st sm) (cwV 0 hts gX3_look_X1_openAisle rfl rfl rfl ⟨rfl, by decide +kernel, by decide +kernel, by decide +kernel⟩ ⟨Nat.le_of_ble_eq_true rfl, Nat.le_of_ble_eq_true rfl⟩) ⟨GP.blind, va_recv hE.1 hP (ci := 1) (q0 := 1) rfl rfl, GP.go (wc := [wcR a gp tg st sm]) hE hZ hP hD hS hA [1] rfl (by decide) [.ref (a 7)]⟩ rfl rfl hl.1 rfl (lv_room (Nat.le_of_ble_eq_true rfl)) dX3_look_4 ⟨Nat.le_of_ble_eq_true rfl, Nat.le_of_ble_eq_true rfl⟩) ?_
  refine lv_istore_n (lv' := [(1, .int (f_X1_openAisle gp tg)), (0, .ref (a 0))]) hx hb dX3_look_7 rfl hl (by decide) rfl (fun ls hl => ?_)
  refine lv_iload_n hx hb dX3_look_8 rfl (lv_at hl 0 rfl) ?_
  refine lv_iconst (v := (-1)) hx hb dX3_look_9 (by decide) ?_
  refine lv_icmp_ne (tgt := 23) hx hb dX3_look_10 (by decide) (fun c_10 => ?_) (fun c_10 => ?_)
  · refine lv_aload_n hx hb dX3_look_23 rfl (lv_at hl 1 rfl) ?_
    refine va_get (D := G.1) (ci := 3) (v := .ref (a 7)) (C := RX3) (T := TX3) (N := 4) hx hb hts iw_X3_look_RX3 hown hE.1 hP 0 rfl rfl 1 (by decide) (hts (.fieldLink RX3 19 "Rackrail" "rail" "LRackrail$Rail;") (by decide +kernel)) (fun _ h9 => h9) rfl dX3_look_24 ?_
    refine lv_iload_n hx hb dX3_look_27 rfl (lv_at hl 0 rfl) ?_
    refine k_p (va_runV (As := [.int (f_X1_openAisle gp tg)]) (rest := []) ⟨hx, hb, hml, hown, hts⟩ (c_X1_hasDoubt l G a s.heap.size gp tg st sm db (f_X1_openAisle gp tg)) (cwV 1 hts gX3_look_X1_hasDoubt rfl rfl rfl ⟨rfl, by decide +kernel, by decide +kernel, by decide +kernel⟩ ⟨Nat.le_of_ble_eq_true rfl, Nat.le_of_ble_eq_true rfl⟩) ⟨GP.blind, va_recv hE.1 hP (ci := 1) (q0 := 1) rfl rfl, GP.go (wc := [wcR a gp tg st sm, wcZ G (a 8) 7 db]) hE hZ hP hD hS hA [1, 2] rfl (by decide) [.ref (a 7), .int (f_X1_openAisle gp tg)]⟩ rfl rfl hl.1 rfl (lv_room (Nat.le_of_ble_eq_true rfl)) dX3_look_28 ⟨Nat.le_of_ble_eq_true rfl, Nat.le_of_ble_eq_true rfl⟩) ?_
    refine lv_istore_n (lv' := [(2, .int (f_X1_hasDoubt db (f_X1_openAisle gp tg))), (1, .int (f_X1_openAisle gp tg)), (0, .ref (a 0))]) hx hb dX3_look_31 rfl hl (by decide) rfl (fun ls hl => ?_)
    refine lv_aload_n hx hb dX3_look_32 rfl (lv_at hl 2 rfl) ?_
    refine va_get (D := G.1) (ci := 3) (v := .ref (a 7)) (C := RX3) (T := TX3) (N := 4) hx hb hts iw_X3_look_RX3 hown hE.1 hP 0 rfl rfl 1 (by decide) (hts (.fieldLink RX3 19 "Rackrail" "rail" "LRackrail$Rail;") (by decide +kernel)) (fun _ h9 => h9) rfl dX3_look_33 ?_
    refine lv_iload_n hx hb dX3_look_36 rfl (lv_at hl 1 rfl) ?_
    refine lv_iconst (v := 0) hx hb dX3_look_37 (by decide) ?_
    exact absurd (by rw [k_X3_look, if_neg c_10]) h0
  · exact k_thr (k := 3) (ik := 65) (is := 154) (ic := 69) (by decide) thr_f3 thr_o3 thr_b3 (tx := "no aisle is open") (by decide) hx hb hl9 hown (hts (.classLink RX3 65 (exn 3)) (by decide +kernel)) (hts (.initialized (exn 3)) (by decide +kernel)) (fun w h => hts w (gx3_X3_look w h)) hE hZ hS (hl.1.trans hml.symm) ht hlocks dX3_look_13 dX3_look_16 dX3_look_17 dX3_look_19 dX3_look_22 (Nat.le_of_ble_eq_true rfl) (Nat.le_of_ble_eq_true rfl) (Nat.le_of_ble_eq_true rfl) (Nat.le_of_ble_eq_true rfl) rfl

/-! X3_stall -/
def f_X3_stall (st : Int32) (p0 : Int32) : Int32 × Int32 :=
  ((f_X1_changeStall st p0).1, (f_X1_changeStall st p0).2)
theorem iw_X3_stall_RX3 : ∀ w ∈ u_ws RX3 TX3 4, w ∈ wsX3_stall := by decide +kernel
set_option maxHeartbeats 4000000 in
set_option maxRecDepth 100000 in
theorem c_X3_stall (l : Launch) (G : GT) (a : Nat → Nat) (sz : Nat) (ck : Int32) (gp : Int32) (tg : Int32) (st : Int32) (sm : Int32) (p0 : Int32) (hp : p0 = 0 ∨ p0 = 1) : Met l yX3_stall wsX3_stall ({ frames := 1, cells := 0, slots := 0, locals := 22 }) (GP G [.ref (a 0), .int p0] [wcA a ck, wcR a gp tg st sm] sz) (MQo G (.returned (some (.int ((f_X3_stall st p0).1)))) [wcA a ck, wcR a gp tg ((f_X3_stall st p0).2) sm] (va_A [wcA a ck, wcR a gp tg st sm] sz)) 0 0 (va_A [wcA a ck, wcR a gp tg st sm] sz) := by
  refine bodyM (cc := cX3_stall) (maxL := 2) (ret := (some .boolean)) (by decide) rfl (Nat.le_of_ble_eq_true rfl) ?_
  intro p e s m below meth c ls C
  obtain ⟨hx, hb, hr, hts, hown, hlocks, hml, hsz, hP, hE, hD, hZ, hA, hS, hl⟩ := C
  subst hsz
  have hl : lv_has ls 2 [(0, .ref (a 0)), (1, .int p0)] := hl
  refine lv_aload_n hx hb dX3_stall_0 rfl (lv_at hl 0 rfl) ?_
  refine va_get (D := G.1) (ci := 3) (v := .ref (a 7)) (C := RX3) (T := TX3) (N := 4) hx hb hts iw_X3_stall_RX3 hown hE.1 hP 0 rfl rfl 1 (by decide) (hts (.fieldLink RX3 19 "Rackrail" "rail" "LRackrail$Rail;") (by decide +kernel)) (fun _ h9 => h9) rfl dX3_stall_1 ?_
  refine lv_iload_n hx hb dX3_stall_4 rfl (lv_at hl 1 rfl) ?_
  refine k_m (wc := [wcR a gp tg st sm]) (w1 := [wcR a gp tg ((f_X1_changeStall st p0).2) sm]) (wn := [wcA a ck, wcR a gp tg ((f_X1_changeStall st p0).2) sm]) (va_runV (As := [.int p0]) (rest := []) ⟨hx, hb, hml, hown, hts⟩ (c_X1_changeStall l G a s.heap.size gp tg st sm p0 (hp)) (cwV 1 hts gX3_stall_X1_changeStall rfl rfl rfl ⟨rfl, by decide +kernel, by decide +kernel, by decide +kernel⟩ ⟨Nat.le_of_ble_eq_true rfl, Nat.le_of_ble_eq_true rfl⟩) ⟨GP.blind, va_recv hE.1 hP (ci := 1) (q0 := 1) rfl rfl, GP.go (wc := [wcR a gp tg st sm]) hE hZ hP hD hS hA [1] rfl (by decide) [.ref (a 7), .int p0]⟩ rfl rfl hl.1 rfl (lv_room (Nat.le_of_ble_eq_true rfl)) dX3_stall_5 ⟨Nat.le_of_ble_eq_true rfl, Nat.le_of_ble_eq_true rfl⟩) hP hD hS hA [1] rfl rfl rfl rfl (fun H locs hP hD hS => ?_)
  have hq : f_X3_stall st p0 = ((f_X1_changeStall st p0).1, (f_X1_changeStall st p0).2) := (by rw [f_X3_stall])
  exact W.zret (v := (f_X1_changeStall st p0).1) hx hb hr (bool_nar sorry) (fun t ht _ => ⟨by rw [hq], by rw [hq, ht]; exact hP, hS.F ht⟩) hS.2.2 dX3_stall_8

/-! X3_smoke -/
def f_X3_smoke (ins : Nat → Int32) (p0 : Int32) : Int32 × Int32 × (Nat → Int32) :=
  if p0 = 0 then (0, f_X1_changeSmoke p0, ins)
    else ((f_X1_sendAllOut ins).1, f_X1_changeSmoke p0, (f_X1_sendAllOut ins).2)
theorem iw_X3_smoke_RX3 : ∀ w ∈ u_ws RX3 TX3 4, w ∈ wsX3_smoke := by decide +kernel
set_option maxHeartbeats 4000000 in
set_option maxRecDepth 100000 in
theorem c_X3_smoke (l : Launch) (G : GT) (a : Nat → Nat) (sz : Nat) (ck : Int32) (gp : Int32) (tg : Int32) (st : Int32) (sm : Int32) (ins : Nat → Int32) (p0 : Int32) (hp : p0 = 0 ∨ p0 = 1) : Met l yX3_smoke wsX3_smoke ({ frames := 2, cells := 0, slots := 0, locals := 44 }) (GP G [.ref (a 0), .int p0] [wcA a ck, wcR a gp tg st sm, wcZ G (a 9) 4 ins] sz) (MQo G (.returned (some (.int ((f_X3_smoke ins p0).1)))) [wcA a ck, wcR a gp tg st ((f_X3_smoke ins p0).2.1), wcZ G (a 9) 4 ((f_X3_smoke ins p0).2.2)] (va_A [wcA a ck, wcR a gp tg st sm, wcZ G (a 9) 4 ins] sz)) 0 0 (va_A [wcA a ck, wcR a gp tg st sm, wcZ G (a 9) 4 ins] sz) := by
  refine bodyM (cc := cX3_smoke) (maxL := 2) (ret := (some .int)) (by decide) rfl (Nat.le_of_ble_eq_true rfl) ?_
  intro p e s m below meth c ls C
  obtain ⟨hx, hb, hr, hts, hown, hlocks, hml, hsz, hP, hE, hD, hZ, hA, hS, hl⟩ := C
  subst hsz
  have hl : lv_has ls 2 [(0, .ref (a 0)), (1, .int p0)] := hl
  refine lv_aload_n hx hb dX3_smoke_0 rfl (lv_at hl 0 rfl) ?_
  refine va_get (D := G.1) (ci := 3) (v := .ref (a 7)) (C := RX3) (T := TX3) (N := 4) hx hb hts iw_X3_smoke_RX3 hown hE.1 hP 0 rfl rfl 1 (by decide) (hts (.fieldLink RX3 19 "Rackrail" "rail" "LRackrail$Rail;") (by decide +kernel)) (fun _ h9 => h9) rfl dX3_smoke_1 ?_
  refine lv_iload_n hx hb dX3_smoke_4 rfl (lv_at hl 1 rfl) ?_
  refine k_m (wc := [wcR a gp tg st sm]) (w1 := [wcR a gp tg st (f_X1_changeSmoke p0)]) (wn := [wcA a ck, wcR a gp tg st (f_X1_changeSmoke p0), wcZ G (a 9) 4 ins]) (va_runV (As := [.int p0]) (rest := []) ⟨hx, hb, hml, hown, hts⟩ (c_X1_changeSmoke l G a s.heap.size gp tg st sm p0 (hp)) (cwV 1 hts gX3_smoke_X1_changeSmoke rfl rfl rfl ⟨rfl, by decide +kernel, by decide +kernel, by decide +kernel⟩ ⟨Nat.le_of_ble_eq_true rfl, Nat.le_of_ble_eq_true rfl⟩) ⟨GP.blind, va_recv hE.1 hP (ci := 1) (q0 := 1) rfl rfl, GP.go (wc := [wcR a gp tg st sm]) hE hZ hP hD hS hA [1] rfl (by decide) [.ref (a 7), .int p0]⟩ rfl rfl hl.1 rfl (lv_room (Nat.le_of_ble_eq_true rfl)) dX3_smoke_5 ⟨Nat.le_of_ble_eq_true rfl, Nat.le_of_ble_eq_true rfl⟩) hP hD hS hA [1] rfl rfl rfl rfl (fun H locs hP hD hS => ?_)
  refine lv_iload_n hx hb dX3_smoke_8 rfl (lv_at hl 1 rfl) ?_
  refine lv_if_eq (tgt := 22) hx hb dX3_smoke_9 (by decide) (fun c_9 => ?_) (fun c_9 => ?_)
  · refine lv_iconst (v := 0) hx hb dX3_smoke_22 (by decide) ?_
    have hq : f_X3_smoke ins p0 = (0, f_X1_changeSmoke p0, ins) := (by rw [f_X3_smoke, if_pos c_9])
    exact W.iret (v := 0) hx hb hr (fun t ht _ => ⟨by rw [hq], by rw [hq, ht]; exact hP, hS.F ht⟩) hS.2.2 dX3_smoke_23
  · refine lv_aload_n hx hb dX3_smoke_12 rfl (lv_at hl 0 rfl) ?_
    refine va_get (D := G.1) (ci := 3) (v := .ref (a 7)) (C := RX3) (T := TX3) (N := 4) hx hb hts iw_X3_smoke_RX3 hown hE.1 hP 0 rfl rfl 1 (by decide) (hts (.fieldLink RX3 19 "Rackrail" "rail" "LRackrail$Rail;") (by decide +kernel)) (fun _ h9 => h9) rfl dX3_smoke_13 ?_
    refine k_m (wc := [wcR a gp tg st (f_X1_changeSmoke p0), wcZ G (a 9) 4 ins]) (w1 := [wcR a gp tg st (f_X1_changeSmoke p0), wcZ G (a 9) 4 ((f_X1_sendAllOut ins).2)]) (wn := [wcA a ck, wcR a gp tg st (f_X1_changeSmoke p0), wcZ G (a 9) 4 ((f_X1_sendAllOut ins).2)]) (va_runV (As := []) (rest := []) ⟨hx, hb, hml, hown, hts⟩ (c_X1_sendAllOut l G a H.size gp tg st (f_X1_changeSmoke p0) ins) (cwV 0 hts gX3_smoke_X1_sendAllOut rfl rfl rfl ⟨rfl, by decide +kernel, by decide +kernel, by decide +kernel⟩ ⟨Nat.le_of_ble_eq_true rfl, Nat.le_of_ble_eq_true rfl⟩) ⟨GP.blind, va_recv hE.1 hP (ci := 1) (q0 := 1) rfl rfl, GP.go (wc := [wcR a gp tg st (f_X1_changeSmoke p0), wcZ G (a 9) 4 ins]) hE hZ hP hD hS hA [1, 2] rfl (by decide) [.ref (a 7)]⟩ rfl rfl hl.1 rfl (lv_room (Nat.le_of_ble_eq_true rfl)) dX3_smoke_16 ⟨Nat.le_of_ble_eq_true rfl, Nat.le_of_ble_eq_true rfl⟩) hP hD hS hA [1, 2] rfl rfl rfl rfl (fun H locs hP hD hS => ?_)
    refine lv_goto (tgt := 23) hx hb dX3_smoke_19 (by decide) ?_
    have hq : f_X3_smoke ins p0 = ((f_X1_sendAllOut ins).1, f_X1_changeSmoke p0, (f_X1_sendAllOut ins).2) := (by rw [f_X3_smoke, if_neg c_9])
    exact W.iret (v := (f_X1_sendAllOut ins).1) hx hb hr (fun t ht _ => ⟨by rw [hq], by rw [hq, ht]; exact hP, hS.F ht⟩) hS.2.2 dX3_smoke_23

/-! X3_pass -/
def f_X3_pass (ck : Int32) (gp : Int32) (tg : Int32) (st : Int32) (sm : Int32) (mv : Nat → Int32) (p0 : Int32) : Int32 × Int32 × Int32 × (Nat → Int32) :=
  if p0 < 1 then (0, ck, gp, mv)
    else if p0 ≤ 100 then (if (ck + p0) ≤ 10000 then (ck + p0, ck + p0, (f_X1_moveFor gp tg st sm mv p0).1, (f_X1_moveFor gp tg st sm mv p0).2)
      else (0, ck, gp, mv))
    else (0, ck, gp, mv)
def k_X3_pass (ck : Int32) (p0 : Int32) : Nat :=
  if p0 < 1 then 2
    else if p0 ≤ 100 then (if (ck + p0) ≤ 10000 then 0
      else 3)
    else 2
theorem kr_X3_pass (ck : Int32) (p0 : Int32) : k_X3_pass ck p0 = 0 ∨ k_X3_pass ck p0 = 2 ∨ k_X3_pass ck p0 = 3 := by
  unfold k_X3_pass
  (repeat' split) <;> decide
theorem iw_X3_pass_RX3 : ∀ w ∈ u_ws RX3 TX3 4, w ∈ wsX3_pass := by decide +kernel
set_option maxHeartbeats 4000000 in
set_option maxRecDepth 100000 in
theorem c_X3_pass (l : Launch) (hl9 : l.stackTraces = false) (G : GT) (a : Nat → Nat) (sz : Nat) (ck : Int32) (gp : Int32) (tg : Int32) (st : Int32) (sm : Int32) (mv : Nat → Int32) (p0 : Int32) (hmv : okN 6 (f_X1_movesToCome gp tg)) (h0 : k_X3_pass ck p0 = 0) : Met l yX3_pass wsX3_pass ({ frames := 6, cells := 0, slots := 0, locals := 90 }) (GP G [.ref (a 0), .int p0] [wcA a ck, wcR a gp tg st sm, wcI G (a 10) 6 mv] sz) (MQo G (.returned (some (.int ((f_X3_pass ck gp tg st sm mv p0).1)))) [wcA a ((f_X3_pass ck gp tg st sm mv p0).2.1), wcR a ((f_X3_pass ck gp tg st sm mv p0).2.2.1) tg st sm, wcI G (a 10) 6 ((f_X3_pass ck gp tg st sm mv p0).2.2.2)] (va_A [wcA a ck, wcR a gp tg st sm, wcI G (a 10) 6 mv] sz)) 0 0 (va_A [wcA a ck, wcR a gp tg st sm, wcI G (a 10) 6 mv] sz) := by
  refine bodyM (cc := cX3_pass) (maxL := 2) (ret := (some .int)) (by decide) rfl (Nat.le_of_ble_eq_true rfl) ?_
  intro p e s m below meth c ls C
  obtain ⟨hx, hb, hr, hts, hown, hlocks, hml, hsz, hP, hE, hD, hZ, hA, hS, hl⟩ := C
  subst hsz
  have hl : lv_has ls 2 [(0, .ref (a 0)), (1, .int p0)] := hl
  refine lv_iload_n hx hb dX3_pass_0 rfl (lv_at hl 1 rfl) ?_
  refine lv_iconst (v := 1) hx hb dX3_pass_1 (by decide) ?_
  refine lv_icmp_lt (tgt := 11) hx hb dX3_pass_2 (by decide) (fun c_2 => ?_) (fun c_2 => ?_)
  · exact absurd (h0.symm.trans (by rw [k_X3_pass, if_pos c_2])) (by decide)
  · refine lv_iload_n hx hb dX3_pass_5 rfl (lv_at hl 1 rfl) ?_
    refine lv_bipush (v := 100) hx hb dX3_pass_6 (by decide) ?_
    refine lv_icmp_le (tgt := 21) hx hb dX3_pass_8 (by decide) (fun c_8 => ?_) (fun c_8 => ?_)
    · refine lv_aload_n hx hb dX3_pass_21 rfl (lv_at hl 0 rfl) ?_
      refine va_get (D := G.1) (ci := 3) (v := .int ck) (C := RX3) (T := TX3) (N := 4) hx hb hts iw_X3_pass_RX3 hown hE.1 hP 0 rfl rfl 3 (by decide) (hts (.fieldLink RX3 30 "Rackrail" "clock" "I") (by decide +kernel)) (fun _ h9 => h9) rfl dX3_pass_22 ?_
      refine lv_iload_n hx hb dX3_pass_25 rfl (lv_at hl 1 rfl) ?_
      refine lv_iadd hx hb dX3_pass_26 ?_
      refine lv_sipush (v := 10000) hx hb dX3_pass_27 (by decide) ?_
      refine lv_icmp_le (tgt := 43) hx hb dX3_pass_30 (by decide) (fun c_30 => ?_) (fun c_30 => ?_)
      · refine lv_aload_n hx hb dX3_pass_43 rfl (lv_at hl 0 rfl) ?_
        refine lv_dup hx hb dX3_pass_44 rfl ?_
        refine va_get (D := G.1) (ci := 3) (v := .int ck) (C := RX3) (T := TX3) (N := 4) hx hb hts iw_X3_pass_RX3 hown hE.1 hP 0 rfl rfl 3 (by decide) (hts (.fieldLink RX3 30 "Rackrail" "clock" "I") (by decide +kernel)) (fun _ h9 => h9) rfl dX3_pass_45 ?_
        refine lv_iload_n hx hb dX3_pass_48 rfl (lv_at hl 1 rfl) ?_
        refine lv_iadd hx hb dX3_pass_49 ?_
        refine va_put (D := G.1) (ci := 3) (v := .int (ck + p0)) (ty := .int) (C := RX3) (T := TX3) (N := 4) hx hb hts iw_X3_pass_RX3 tyX3 tyX3_ok nmX3 hown hE.1 hP hD hS 0 rfl rfl 3 (by decide) (hts (.fieldLink RX3 30 "Rackrail" "clock" "I") (by decide +kernel)) (fun _ h9 => h9) rfl (by decide +kernel) rfl rfl (Nat.le_of_ble_eq_true rfl) dX3_pass_50 (fun H locs hP hD hS => ?_)
        have hP : va_P G.1 vwCl [wcA a (ck + p0), wcR a gp tg st sm, wcI G (a 10) 6 mv] H := hP
        have hD : va_D _ [wcA a (ck + p0), wcR a gp tg st sm, wcI G (a 10) 6 mv] := hD
        refine lv_aload_n hx hb dX3_pass_53 rfl (lv_at hl 0 rfl) ?_
        refine va_get (D := G.1) (ci := 3) (v := .ref (a 7)) (C := RX3) (T := TX3) (N := 4) hx hb hts iw_X3_pass_RX3 hown hE.1 hP 0 rfl rfl 1 (by decide) (hts (.fieldLink RX3 19 "Rackrail" "rail" "LRackrail$Rail;") (by decide +kernel)) (fun _ h9 => h9) rfl dX3_pass_54 ?_
        refine lv_iload_n hx hb dX3_pass_57 rfl (lv_at hl 1 rfl) ?_
        refine k_m (wc := [wcR a gp tg st sm, wcI G (a 10) 6 mv]) (w1 := [wcR a ((f_X1_moveFor gp tg st sm mv p0).1) tg st sm, wcI G (a 10) 6 ((f_X1_moveFor gp tg st sm mv p0).2)]) (wn := [wcA a (ck + p0), wcR a ((f_X1_moveFor gp tg st sm mv p0).1) tg st sm, wcI G (a 10) 6 ((f_X1_moveFor gp tg st sm mv p0).2)]) (va_runV (As := [.int p0]) (rest := []) ⟨hx, hb, hml, hown, hts⟩ (c_X1_moveFor l G a H.size gp tg st sm mv p0 (pass_hst hmv c_2 c_8)) (cwV 1 hts gX3_pass_X1_moveFor rfl rfl rfl ⟨rfl, by decide +kernel, by decide +kernel, by decide +kernel⟩ ⟨Nat.le_of_ble_eq_true rfl, Nat.le_of_ble_eq_true rfl⟩) ⟨GP.blind, va_recv hE.1 hP (ci := 1) (q0 := 1) rfl rfl, GP.go (wc := [wcR a gp tg st sm, wcI G (a 10) 6 mv]) hE hZ hP hD hS hA [1, 2] rfl (by decide) [.ref (a 7), .int p0]⟩ rfl rfl hl.1 rfl (lv_room (Nat.le_of_ble_eq_true rfl)) dX3_pass_58 ⟨Nat.le_of_ble_eq_true rfl, Nat.le_of_ble_eq_true rfl⟩) hP hD hS hA [1, 2] rfl rfl rfl rfl (fun H locs hP hD hS => ?_)
        refine lv_aload_n hx hb dX3_pass_61 rfl (lv_at hl 0 rfl) ?_
        refine va_get (D := G.1) (ci := 3) (v := .int (ck + p0)) (C := RX3) (T := TX3) (N := 4) hx hb hts iw_X3_pass_RX3 hown hE.1 hP 0 rfl rfl 3 (by decide) (hts (.fieldLink RX3 30 "Rackrail" "clock" "I") (by decide +kernel)) (fun _ h9 => h9) rfl dX3_pass_62 ?_
        have hq : f_X3_pass ck gp tg st sm mv p0 = (ck + p0, ck + p0, (f_X1_moveFor gp tg st sm mv p0).1, (f_X1_moveFor gp tg st sm mv p0).2) := (by rw [f_X3_pass, if_neg c_2, if_pos c_8, if_pos c_30])
        exact W.iret (v := ck + p0) hx hb hr (fun t ht _ => ⟨by rw [hq], by rw [hq, ht]; exact hP, hS.F ht⟩) hS.2.2 dX3_pass_65
      · exact absurd (h0.symm.trans (by rw [k_X3_pass, if_neg c_2, if_pos c_8, if_neg c_30])) (by decide)
    · exact absurd (h0.symm.trans (by rw [k_X3_pass, if_neg c_2, if_neg c_8])) (by decide)

theorem gx2_X3_pass : ∀ w ∈ (vx_atS RX3 46 (exn 2) xnames).filter goodWord, w ∈ wsX3_pass := by decide +kernel
theorem gx3_X3_pass : ∀ w ∈ (vx_atS RX3 69 (exn 3) xnames).filter goodWord, w ∈ wsX3_pass := by decide +kernel
set_option maxHeartbeats 4000000 in
set_option maxRecDepth 100000 in
theorem cx_X3_pass (l : Launch) (hl9 : l.stackTraces = false) (G : GT) (a : Nat → Nat) (sz : Nat) (ck : Int32) (gp : Int32) (tg : Int32) (st : Int32) (sm : Int32) (mv : Nat → Int32) (p0 : Int32) (hmv : okN 6 (f_X1_movesToCome gp tg)) (h0 : ¬ k_X3_pass ck p0 = 0) : vx_Met l yX3_pass wsX3_pass ({ frames := 6, cells := 1, slots := 6, locals := 90 }) (GP G [.ref (a 0), .int p0] [wcA a ck, wcR a gp tg st sm, wcI G (a 10) 6 mv] sz) NQ (XQ (k_X3_pass ck p0)) 1 6 (fun _ => False) := by
  refine bodyX (cc := cX3_pass) (maxL := 2) (ret := (some .int)) (by decide) rfl (Nat.le_of_ble_eq_true rfl) ?_
  intro p e s m below meth c ls C ht
  obtain ⟨hx, hb, hr, hts, hown, hlocks, hml, hsz, hP, hE, hD, hZ, hA, hS, hl⟩ := C
  subst hsz
  have hl : lv_has ls 2 [(0, .ref (a 0)), (1, .int p0)] := hl
  refine lv_iload_n hx hb dX3_pass_0 rfl (lv_at hl 1 rfl) ?_
  refine lv_iconst (v := 1) hx hb dX3_pass_1 (by decide) ?_
  refine lv_icmp_lt (tgt := 11) hx hb dX3_pass_2 (by decide) (fun c_2 => ?_) (fun c_2 => ?_)
  · exact k_thr (k := 2) (ik := 42) (is := 167) (ic := 46) (by decide) thr_f2 thr_o2 thr_b2 (tx := "minutes out of range") (by decide) hx hb hl9 hown (hts (.classLink RX3 42 (exn 2)) (by decide +kernel)) (hts (.initialized (exn 2)) (by decide +kernel)) (fun w h => hts w (gx2_X3_pass w h)) hE hZ hS (hl.1.trans hml.symm) ht hlocks dX3_pass_11 dX3_pass_14 dX3_pass_15 dX3_pass_17 dX3_pass_20 (Nat.le_of_ble_eq_true rfl) (Nat.le_of_ble_eq_true rfl) (Nat.le_of_ble_eq_true rfl) (Nat.le_of_ble_eq_true rfl) (by rw [k_X3_pass, if_pos c_2])
  · refine lv_iload_n hx hb dX3_pass_5 rfl (lv_at hl 1 rfl) ?_
    refine lv_bipush (v := 100) hx hb dX3_pass_6 (by decide) ?_
    refine lv_icmp_le (tgt := 21) hx hb dX3_pass_8 (by decide) (fun c_8 => ?_) (fun c_8 => ?_)
    · refine lv_aload_n hx hb dX3_pass_21 rfl (lv_at hl 0 rfl) ?_
      refine va_get (D := G.1) (ci := 3) (v := .int ck) (C := RX3) (T := TX3) (N := 4) hx hb hts iw_X3_pass_RX3 hown hE.1 hP 0 rfl rfl 3 (by decide) (hts (.fieldLink RX3 30 "Rackrail" "clock" "I") (by decide +kernel)) (fun _ h9 => h9) rfl dX3_pass_22 ?_
      refine lv_iload_n hx hb dX3_pass_25 rfl (lv_at hl 1 rfl) ?_
      refine lv_iadd hx hb dX3_pass_26 ?_
      refine lv_sipush (v := 10000) hx hb dX3_pass_27 (by decide) ?_
      refine lv_icmp_le (tgt := 43) hx hb dX3_pass_30 (by decide) (fun c_30 => ?_) (fun c_30 => ?_)
      · refine lv_aload_n hx hb dX3_pass_43 rfl (lv_at hl 0 rfl) ?_
        refine lv_dup hx hb dX3_pass_44 rfl ?_
        refine va_get (D := G.1) (ci := 3) (v := .int ck) (C := RX3) (T := TX3) (N := 4) hx hb hts iw_X3_pass_RX3 hown hE.1 hP 0 rfl rfl 3 (by decide) (hts (.fieldLink RX3 30 "Rackrail" "clock" "I") (by decide +kernel)) (fun _ h9 => h9) rfl dX3_pass_45 ?_
        refine lv_iload_n hx hb dX3_pass_48 rfl (lv_at hl 1 rfl) ?_
        refine lv_iadd hx hb dX3_pass_49 ?_
        exact absurd (by rw [k_X3_pass, if_neg c_2, if_pos c_8, if_pos c_30]) h0
      · exact k_thr (k := 3) (ik := 65) (is := 169) (ic := 69) (by decide) thr_f3 thr_o3 thr_b3 (tx := "the clock would pass its end") (by decide) hx hb hl9 hown (hts (.classLink RX3 65 (exn 3)) (by decide +kernel)) (hts (.initialized (exn 3)) (by decide +kernel)) (fun w h => hts w (gx3_X3_pass w h)) hE hZ hS (hl.1.trans hml.symm) ht hlocks dX3_pass_33 dX3_pass_36 dX3_pass_37 dX3_pass_39 dX3_pass_42 (Nat.le_of_ble_eq_true rfl) (Nat.le_of_ble_eq_true rfl) (Nat.le_of_ble_eq_true rfl) (Nat.le_of_ble_eq_true rfl) (by rw [k_X3_pass, if_neg c_2, if_pos c_8, if_neg c_30])
    · exact k_thr (k := 2) (ik := 42) (is := 167) (ic := 46) (by decide) thr_f2 thr_o2 thr_b2 (tx := "minutes out of range") (by decide) hx hb hl9 hown (hts (.classLink RX3 42 (exn 2)) (by decide +kernel)) (hts (.initialized (exn 2)) (by decide +kernel)) (fun w h => hts w (gx2_X3_pass w h)) hE hZ hS (hl.1.trans hml.symm) ht hlocks dX3_pass_11 dX3_pass_14 dX3_pass_15 dX3_pass_17 dX3_pass_20 (Nat.le_of_ble_eq_true rfl) (Nat.le_of_ble_eq_true rfl) (Nat.le_of_ble_eq_true rfl) (Nat.le_of_ble_eq_true rfl) (by rw [k_X3_pass, if_neg c_2, if_neg c_8])

/-! X3_order -/
def f_X3_order (cn : Int32) (oc : Int32) (ob : Nat → Int32) (od : Nat → Int32) (dn : Nat → Int32) (p0 : Int32) (p1 : Int32) : Int32 × Int32 × (Nat → Int32) × (Nat → Int32) :=
  if k_X3_requireBox cn p0 = 0 then (if p1 < 0 then (0, oc, ob, od)
      else if p1 ≤ 10000 then (if (f_X0_isOpenFor oc ob dn p0) = 0 then (if (f_X0_isFull oc) = 0 then ((f_X0_enter oc ob od p0 p1).1, (f_X0_enter oc ob od p0 p1).2.1, (f_X0_enter oc ob od p0 p1).2.2.1, (f_X0_enter oc ob od p0 p1).2.2.2)
          else (0, oc, ob, od))
        else (0, oc, ob, od))
      else (0, oc, ob, od))
    else (0, oc, ob, od)
def k_X3_order (cn : Int32) (oc : Int32) (ob : Nat → Int32) (dn : Nat → Int32) (p0 : Int32) (p1 : Int32) : Nat :=
  if k_X3_requireBox cn p0 = 0 then (if p1 < 0 then 2
      else if p1 ≤ 10000 then (if (f_X0_isOpenFor oc ob dn p0) = 0 then (if (f_X0_isFull oc) = 0 then 0
          else 3)
        else 3)
      else 2)
    else 1
theorem kr_X3_order (cn : Int32) (oc : Int32) (ob : Nat → Int32) (dn : Nat → Int32) (p0 : Int32) (p1 : Int32) : k_X3_order cn oc ob dn p0 p1 = 0 ∨ k_X3_order cn oc ob dn p0 p1 = 1 ∨ k_X3_order cn oc ob dn p0 p1 = 2 ∨ k_X3_order cn oc ob dn p0 p1 = 3 := by
  unfold k_X3_order
  (repeat' split) <;> decide
theorem iw_X3_order_RX3 : ∀ w ∈ u_ws RX3 TX3 4, w ∈ wsX3_order := by decide +kernel
set_option maxHeartbeats 4000000 in
set_option maxRecDepth 100000 in
theorem c_X3_order (l : Launch) (hl9 : l.stackTraces = false) (G : GT) (a : Nat → Nat) (sz : Nat) (ck : Int32) (cn : Int32) (oc : Int32) (lt : Int32) (ob : Nat → Int32) (od : Nat → Int32) (dn : Nat → Int32) (p0 : Int32) (p1 : Int32) (hoc : okN 30 oc) (h0 : k_X3_order cn oc ob dn p0 p1 = 0) : Met l yX3_order wsX3_order ({ frames := 7, cells := 0, slots := 0, locals := 111 }) (GP G [.ref (a 0), .int p0, .int p1] [wcA a ck, wcS a cn, wcO a oc lt, wcI G (a 12) 30 ob, wcI G (a 13) 30 od, wcZ G (a 14) 30 dn] sz) (MQo G (.returned (some (.int ((f_X3_order cn oc ob od dn p0 p1).1)))) [wcA a ck, wcS a cn, wcO a ((f_X3_order cn oc ob od dn p0 p1).2.1) lt, wcI G (a 12) 30 ((f_X3_order cn oc ob od dn p0 p1).2.2.1), wcI G (a 13) 30 ((f_X3_order cn oc ob od dn p0 p1).2.2.2), wcZ G (a 14) 30 dn] (va_A [wcA a ck, wcS a cn, wcO a oc lt, wcI G (a 12) 30 ob, wcI G (a 13) 30 od, wcZ G (a 14) 30 dn] sz)) 0 0 (va_A [wcA a ck, wcS a cn, wcO a oc lt, wcI G (a 12) 30 ob, wcI G (a 13) 30 od, wcZ G (a 14) 30 dn] sz) := by
  refine bodyM (cc := cX3_order) (maxL := 3) (ret := (some .int)) (by decide) rfl (Nat.le_of_ble_eq_true rfl) ?_
  intro p e s m below meth c ls C
  obtain ⟨hx, hb, hr, hts, hown, hlocks, hml, hsz, hP, hE, hD, hZ, hA, hS, hl⟩ := C
  subst hsz
  have hl : lv_has ls 3 [(0, .ref (a 0)), (1, .int p0), (2, .int p1)] := hl
  refine lv_aload_n hx hb dX3_order_0 rfl (lv_at hl 0 rfl) ?_
  refine lv_iload_n hx hb dX3_order_1 rfl (lv_at hl 1 rfl) ?_
  have c_2 : k_X3_requireBox cn p0 = 0 := Decidable.byContradiction (fun c_2 => absurd (h0.symm.trans (by rw [k_X3_order, if_neg c_2])) (by decide))
  refine k_p (va_runV (As := [.int p0]) (rest := []) ⟨hx, hb, hml, hown, hts⟩ (c_X3_requireBox l hl9 G a s.heap.size ck cn p0 c_2) (cwV 1 hts gX3_order_X3_requireBox rfl rfl rfl ⟨rfl, by decide +kernel, by decide +kernel, by decide +kernel⟩ ⟨Nat.le_of_ble_eq_true rfl, Nat.le_of_ble_eq_true rfl⟩) ⟨GP.blind, va_recv hE.1 hP (ci := 3) (q0 := 0) rfl rfl, GP.go (wc := [wcA a ck, wcS a cn]) hE hZ hP hD hS hA [0, 1] rfl (by decide) [.ref (a 0), .int p0]⟩ rfl rfl hl.1 rfl (lv_room (Nat.le_of_ble_eq_true rfl)) dX3_order_2 ⟨Nat.le_of_ble_eq_true rfl, Nat.le_of_ble_eq_true rfl⟩) ?_
  refine lv_iload_n hx hb dX3_order_5 rfl (lv_at hl 2 rfl) ?_
  refine lv_if_lt (tgt := 16) hx hb dX3_order_6 (by decide) (fun c_6 => ?_) (fun c_6 => ?_)
  · exact absurd (h0.symm.trans (by rw [k_X3_order, if_pos c_2, if_pos c_6])) (by decide)
  · refine lv_iload_n hx hb dX3_order_9 rfl (lv_at hl 2 rfl) ?_
    refine lv_sipush (v := 10000) hx hb dX3_order_10 (by decide) ?_
    refine lv_icmp_le (tgt := 26) hx hb dX3_order_13 (by decide) (fun c_13 => ?_) (fun c_13 => ?_)
    · refine lv_aload_n hx hb dX3_order_26 rfl (lv_at hl 0 rfl) ?_
      refine va_get (D := G.1) (ci := 3) (v := .ref (a 11)) (C := RX3) (T := TX3) (N := 4) hx hb hts iw_X3_order_RX3 hown hE.1 hP 0 rfl rfl 2 (by decide) (hts (.fieldLink RX3 26 "Rackrail" "orders" "LRackrail$Orders;") (by decide +kernel)) (fun _ h9 => h9) rfl dX3_order_27 ?_
      refine lv_iload_n hx hb dX3_order_30 rfl (lv_at hl 1 rfl) ?_
      refine k_p (va_runV (As := [.int p0]) (rest := []) ⟨hx, hb, hml, hown, hts⟩ (c_X0_isOpenFor l G a s.heap.size oc lt ob dn p0 hoc) (cwV 1 hts gX3_order_X0_isOpenFor rfl rfl rfl ⟨rfl, by decide +kernel, by decide +kernel, by decide +kernel⟩ ⟨Nat.le_of_ble_eq_true rfl, Nat.le_of_ble_eq_true rfl⟩) ⟨GP.blind, va_recv hE.1 hP (ci := 0) (q0 := 2) rfl rfl, GP.go (wc := [wcO a oc lt, wcI G (a 12) 30 ob, wcZ G (a 14) 30 dn]) hE hZ hP hD hS hA [2, 3, 5] rfl (by decide) [.ref (a 11), .int p0]⟩ rfl rfl hl.1 rfl (lv_room (Nat.le_of_ble_eq_true rfl)) dX3_order_31 ⟨Nat.le_of_ble_eq_true rfl, Nat.le_of_ble_eq_true rfl⟩) ?_
      refine lv_if_eq (tgt := 47) hx hb dX3_order_34 (by decide) (fun c_34 => ?_) (fun c_34 => ?_)
      · refine lv_aload_n hx hb dX3_order_47 rfl (lv_at hl 0 rfl) ?_
        refine va_get (D := G.1) (ci := 3) (v := .ref (a 11)) (C := RX3) (T := TX3) (N := 4) hx hb hts iw_X3_order_RX3 hown hE.1 hP 0 rfl rfl 2 (by decide) (hts (.fieldLink RX3 26 "Rackrail" "orders" "LRackrail$Orders;") (by decide +kernel)) (fun _ h9 => h9) rfl dX3_order_48 ?_
        refine k_p (va_runV (As := []) (rest := []) ⟨hx, hb, hml, hown, hts⟩ (c_X0_isFull l G a s.heap.size oc lt) (cwV 0 hts gX3_order_X0_isFull rfl rfl rfl ⟨rfl, by decide +kernel, by decide +kernel, by decide +kernel⟩ ⟨Nat.le_of_ble_eq_true rfl, Nat.le_of_ble_eq_true rfl⟩) ⟨GP.blind, va_recv hE.1 hP (ci := 0) (q0 := 2) rfl rfl, GP.go (wc := [wcO a oc lt]) hE hZ hP hD hS hA [2] rfl (by decide) [.ref (a 11)]⟩ rfl rfl hl.1 rfl (lv_room (Nat.le_of_ble_eq_true rfl)) dX3_order_51 ⟨Nat.le_of_ble_eq_true rfl, Nat.le_of_ble_eq_true rfl⟩) ?_
        refine lv_if_eq (tgt := 67) hx hb dX3_order_54 (by decide) (fun c_54 => ?_) (fun c_54 => ?_)
        · refine lv_aload_n hx hb dX3_order_67 rfl (lv_at hl 0 rfl) ?_
          refine va_get (D := G.1) (ci := 3) (v := .ref (a 11)) (C := RX3) (T := TX3) (N := 4) hx hb hts iw_X3_order_RX3 hown hE.1 hP 0 rfl rfl 2 (by decide) (hts (.fieldLink RX3 26 "Rackrail" "orders" "LRackrail$Orders;") (by decide +kernel)) (fun _ h9 => h9) rfl dX3_order_68 ?_
          refine lv_iload_n hx hb dX3_order_71 rfl (lv_at hl 1 rfl) ?_
          refine lv_iload_n hx hb dX3_order_72 rfl (lv_at hl 2 rfl) ?_
          refine k_m (wc := [wcO a oc lt, wcI G (a 12) 30 ob, wcI G (a 13) 30 od]) (w1 := [wcO a ((f_X0_enter oc ob od p0 p1).2.1) lt, wcI G (a 12) 30 ((f_X0_enter oc ob od p0 p1).2.2.1), wcI G (a 13) 30 ((f_X0_enter oc ob od p0 p1).2.2.2)]) (wn := [wcA a ck, wcS a cn, wcO a ((f_X0_enter oc ob od p0 p1).2.1) lt, wcI G (a 12) 30 ((f_X0_enter oc ob od p0 p1).2.2.1), wcI G (a 13) 30 ((f_X0_enter oc ob od p0 p1).2.2.2), wcZ G (a 14) 30 dn]) (va_runV (As := [.int p0, .int p1]) (rest := []) ⟨hx, hb, hml, hown, hts⟩ (c_X0_enter l G a s.heap.size oc lt ob od p0 p1 hoc) (cwV 2 hts gX3_order_X0_enter rfl rfl rfl ⟨rfl, by decide +kernel, by decide +kernel, by decide +kernel⟩ ⟨Nat.le_of_ble_eq_true rfl, Nat.le_of_ble_eq_true rfl⟩) ⟨GP.blind, va_recv hE.1 hP (ci := 0) (q0 := 2) rfl rfl, GP.go (wc := [wcO a oc lt, wcI G (a 12) 30 ob, wcI G (a 13) 30 od]) hE hZ hP hD hS hA [2, 3, 4] rfl (by decide) [.ref (a 11), .int p0, .int p1]⟩ rfl rfl hl.1 rfl (lv_room (Nat.le_of_ble_eq_true rfl)) dX3_order_73 ⟨Nat.le_of_ble_eq_true rfl, Nat.le_of_ble_eq_true rfl⟩) hP hD hS hA [2, 3, 4] rfl rfl rfl rfl (fun H locs hP hD hS => ?_)
          have hq : f_X3_order cn oc ob od dn p0 p1 = ((f_X0_enter oc ob od p0 p1).1, (f_X0_enter oc ob od p0 p1).2.1, (f_X0_enter oc ob od p0 p1).2.2.1, (f_X0_enter oc ob od p0 p1).2.2.2) := (by rw [f_X3_order, if_pos c_2, if_neg c_6, if_pos c_13, if_pos c_34, if_pos c_54])
          exact W.iret (v := (f_X0_enter oc ob od p0 p1).1) hx hb hr (fun t ht _ => ⟨by rw [hq], by rw [hq, ht]; exact hP, hS.F ht⟩) hS.2.2 dX3_order_76
        · exact absurd (h0.symm.trans (by rw [k_X3_order, if_pos c_2, if_neg c_6, if_pos c_13, if_pos c_34, if_neg c_54])) (by decide)
      · exact absurd (h0.symm.trans (by rw [k_X3_order, if_pos c_2, if_neg c_6, if_pos c_13, if_neg c_34])) (by decide)
    · exact absurd (h0.symm.trans (by rw [k_X3_order, if_pos c_2, if_neg c_6, if_neg c_13])) (by decide)

theorem gx2_X3_order : ∀ w ∈ (vx_atS RX3 46 (exn 2) xnames).filter goodWord, w ∈ wsX3_order := by decide +kernel
theorem gx3_X3_order : ∀ w ∈ (vx_atS RX3 69 (exn 3) xnames).filter goodWord, w ∈ wsX3_order := by decide +kernel
set_option maxHeartbeats 4000000 in
set_option maxRecDepth 100000 in
theorem cx_X3_order (l : Launch) (hl9 : l.stackTraces = false) (G : GT) (a : Nat → Nat) (sz : Nat) (ck : Int32) (cn : Int32) (oc : Int32) (lt : Int32) (ob : Nat → Int32) (od : Nat → Int32) (dn : Nat → Int32) (p0 : Int32) (p1 : Int32) (hoc : okN 30 oc) (h0 : ¬ k_X3_order cn oc ob dn p0 p1 = 0) : vx_Met l yX3_order wsX3_order ({ frames := 7, cells := 1, slots := 6, locals := 111 }) (GP G [.ref (a 0), .int p0, .int p1] [wcA a ck, wcS a cn, wcO a oc lt, wcI G (a 12) 30 ob, wcI G (a 13) 30 od, wcZ G (a 14) 30 dn] sz) NQ (XQ (k_X3_order cn oc ob dn p0 p1)) 1 6 (fun _ => False) := by
  refine bodyX (cc := cX3_order) (maxL := 3) (ret := (some .int)) (by decide) rfl (Nat.le_of_ble_eq_true rfl) ?_
  intro p e s m below meth c ls C ht
  obtain ⟨hx, hb, hr, hts, hown, hlocks, hml, hsz, hP, hE, hD, hZ, hA, hS, hl⟩ := C
  subst hsz
  have hl : lv_has ls 3 [(0, .ref (a 0)), (1, .int p0), (2, .int p1)] := hl
  refine lv_aload_n hx hb dX3_order_0 rfl (lv_at hl 0 rfl) ?_
  refine lv_iload_n hx hb dX3_order_1 rfl (lv_at hl 1 rfl) ?_
  by_cases c_2 : k_X3_requireBox cn p0 = 0
  · refine k_p (va_runV (As := [.int p0]) (rest := []) ⟨hx, hb, hml, hown, hts⟩ (c_X3_requireBox l hl9 G a s.heap.size ck cn p0 c_2) (cwV 1 hts gX3_order_X3_requireBox rfl rfl rfl ⟨rfl, by decide +kernel, by decide +kernel, by decide +kernel⟩ ⟨Nat.le_of_ble_eq_true rfl, Nat.le_of_ble_eq_true rfl⟩) ⟨GP.blind, va_recv hE.1 hP (ci := 3) (q0 := 0) rfl rfl, GP.go (wc := [wcA a ck, wcS a cn]) hE hZ hP hD hS hA [0, 1] rfl (by decide) [.ref (a 0), .int p0]⟩ rfl rfl hl.1 rfl (lv_room (Nat.le_of_ble_eq_true rfl)) dX3_order_2 ⟨Nat.le_of_ble_eq_true rfl, Nat.le_of_ble_eq_true rfl⟩) ?_
    refine lv_iload_n hx hb dX3_order_5 rfl (lv_at hl 2 rfl) ?_
    refine lv_if_lt (tgt := 16) hx hb dX3_order_6 (by decide) (fun c_6 => ?_) (fun c_6 => ?_)
    · exact k_thr (k := 2) (ik := 42) (is := 174) (ic := 46) (by decide) thr_f2 thr_o2 thr_b2 (tx := "deadline out of range") (by decide) hx hb hl9 hown (hts (.classLink RX3 42 (exn 2)) (by decide +kernel)) (hts (.initialized (exn 2)) (by decide +kernel)) (fun w h => hts w (gx2_X3_order w h)) hE hZ hS (hl.1.trans hml.symm) ht hlocks dX3_order_16 dX3_order_19 dX3_order_20 dX3_order_22 dX3_order_25 (Nat.le_of_ble_eq_true rfl) (Nat.le_of_ble_eq_true rfl) (Nat.le_of_ble_eq_true rfl) (Nat.le_of_ble_eq_true rfl) (by rw [k_X3_order, if_pos c_2, if_pos c_6])
    · refine lv_iload_n hx hb dX3_order_9 rfl (lv_at hl 2 rfl) ?_
      refine lv_sipush (v := 10000) hx hb dX3_order_10 (by decide) ?_
      refine lv_icmp_le (tgt := 26) hx hb dX3_order_13 (by decide) (fun c_13 => ?_) (fun c_13 => ?_)
      · refine lv_aload_n hx hb dX3_order_26 rfl (lv_at hl 0 rfl) ?_
        refine va_get (D := G.1) (ci := 3) (v := .ref (a 11)) (C := RX3) (T := TX3) (N := 4) hx hb hts iw_X3_order_RX3 hown hE.1 hP 0 rfl rfl 2 (by decide) (hts (.fieldLink RX3 26 "Rackrail" "orders" "LRackrail$Orders;") (by decide +kernel)) (fun _ h9 => h9) rfl dX3_order_27 ?_
        refine lv_iload_n hx hb dX3_order_30 rfl (lv_at hl 1 rfl) ?_
        refine k_p (va_runV (As := [.int p0]) (rest := []) ⟨hx, hb, hml, hown, hts⟩ (c_X0_isOpenFor l G a s.heap.size oc lt ob dn p0 hoc) (cwV 1 hts gX3_order_X0_isOpenFor rfl rfl rfl ⟨rfl, by decide +kernel, by decide +kernel, by decide +kernel⟩ ⟨Nat.le_of_ble_eq_true rfl, Nat.le_of_ble_eq_true rfl⟩) ⟨GP.blind, va_recv hE.1 hP (ci := 0) (q0 := 2) rfl rfl, GP.go (wc := [wcO a oc lt, wcI G (a 12) 30 ob, wcZ G (a 14) 30 dn]) hE hZ hP hD hS hA [2, 3, 5] rfl (by decide) [.ref (a 11), .int p0]⟩ rfl rfl hl.1 rfl (lv_room (Nat.le_of_ble_eq_true rfl)) dX3_order_31 ⟨Nat.le_of_ble_eq_true rfl, Nat.le_of_ble_eq_true rfl⟩) ?_
        refine lv_if_eq (tgt := 47) hx hb dX3_order_34 (by decide) (fun c_34 => ?_) (fun c_34 => ?_)
        · refine lv_aload_n hx hb dX3_order_47 rfl (lv_at hl 0 rfl) ?_
          refine va_get (D := G.1) (ci := 3) (v := .ref (a 11)) (C := RX3) (T := TX3) (N := 4) hx hb hts iw_X3_order_RX3 hown hE.1 hP 0 rfl rfl 2 (by decide) (hts (.fieldLink RX3 26 "Rackrail" "orders" "LRackrail$Orders;") (by decide +kernel)) (fun _ h9 => h9) rfl dX3_order_48 ?_
          refine k_p (va_runV (As := []) (rest := []) ⟨hx, hb, hml, hown, hts⟩ (c_X0_isFull l G a s.heap.size oc lt) (cwV 0 hts gX3_order_X0_isFull rfl rfl rfl ⟨rfl, by decide +kernel, by decide +kernel, by decide +kernel⟩ ⟨Nat.le_of_ble_eq_true rfl, Nat.le_of_ble_eq_true rfl⟩) ⟨GP.blind, va_recv hE.1 hP (ci := 0) (q0 := 2) rfl rfl, GP.go (wc := [wcO a oc lt]) hE hZ hP hD hS hA [2] rfl (by decide) [.ref (a 11)]⟩ rfl rfl hl.1 rfl (lv_room (Nat.le_of_ble_eq_true rfl)) dX3_order_51 ⟨Nat.le_of_ble_eq_true rfl, Nat.le_of_ble_eq_true rfl⟩) ?_
          refine lv_if_eq (tgt := 67) hx hb dX3_order_54 (by decide) (fun c_54 => ?_) (fun c_54 => ?_)
          · refine lv_aload_n hx hb dX3_order_67 rfl (lv_at hl 0 rfl) ?_
            refine va_get (D := G.1) (ci := 3) (v := .ref (a 11)) (C := RX3) (T := TX3) (N := 4) hx hb hts iw_X3_order_RX3 hown hE.1 hP 0 rfl rfl 2 (by decide) (hts (.fieldLink RX3 26 "Rackrail" "orders" "LRackrail$Orders;") (by decide +kernel)) (fun _ h9 => h9) rfl dX3_order_68 ?_
            refine lv_iload_n hx hb dX3_order_71 rfl (lv_at hl 1 rfl) ?_
            refine lv_iload_n hx hb dX3_order_72 rfl (lv_at hl 2 rfl) ?_
            exact absurd (by rw [k_X3_order, if_pos c_2, if_neg c_6, if_pos c_13, if_pos c_34, if_pos c_54]) h0
          · exact k_thr (k := 3) (ik := 65) (is := 182) (ic := 69) (by decide) thr_f3 thr_o3 thr_b3 (tx := "no more orders") (by decide) hx hb hl9 hown (hts (.classLink RX3 65 (exn 3)) (by decide +kernel)) (hts (.initialized (exn 3)) (by decide +kernel)) (fun w h => hts w (gx3_X3_order w h)) hE hZ hS (hl.1.trans hml.symm) ht hlocks dX3_order_57 dX3_order_60 dX3_order_61 dX3_order_63 dX3_order_66 (Nat.le_of_ble_eq_true rfl) (Nat.le_of_ble_eq_true rfl) (Nat.le_of_ble_eq_true rfl) (Nat.le_of_ble_eq_true rfl) (by rw [k_X3_order, if_pos c_2, if_neg c_6, if_pos c_13, if_pos c_34, if_neg c_54])
        · exact k_thr (k := 3) (ik := 65) (is := 179) (ic := 69) (by decide) thr_f3 thr_o3 thr_b3 (tx := "the box has an open order") (by decide) hx hb hl9 hown (hts (.classLink RX3 65 (exn 3)) (by decide +kernel)) (hts (.initialized (exn 3)) (by decide +kernel)) (fun w h => hts w (gx3_X3_order w h)) hE hZ hS (hl.1.trans hml.symm) ht hlocks dX3_order_37 dX3_order_40 dX3_order_41 dX3_order_43 dX3_order_46 (Nat.le_of_ble_eq_true rfl) (Nat.le_of_ble_eq_true rfl) (Nat.le_of_ble_eq_true rfl) (Nat.le_of_ble_eq_true rfl) (by rw [k_X3_order, if_pos c_2, if_neg c_6, if_pos c_13, if_neg c_34])
      · exact k_thr (k := 2) (ik := 42) (is := 174) (ic := 46) (by decide) thr_f2 thr_o2 thr_b2 (tx := "deadline out of range") (by decide) hx hb hl9 hown (hts (.classLink RX3 42 (exn 2)) (by decide +kernel)) (hts (.initialized (exn 2)) (by decide +kernel)) (fun w h => hts w (gx2_X3_order w h)) hE hZ hS (hl.1.trans hml.symm) ht hlocks dX3_order_16 dX3_order_19 dX3_order_20 dX3_order_22 dX3_order_25 (Nat.le_of_ble_eq_true rfl) (Nat.le_of_ble_eq_true rfl) (Nat.le_of_ble_eq_true rfl) (Nat.le_of_ble_eq_true rfl) (by rw [k_X3_order, if_pos c_2, if_neg c_6, if_neg c_13])
  · exact k_xo ht hlocks (by decide) (by decide) rfl rfl (vx_runV (As := [.int p0]) (rest := []) ⟨hx, hb, hml, hown, hts⟩ (cx_X3_requireBox l hl9 G a s.heap.size ck cn p0 c_2) (cwV 1 hts gX3_order_X3_requireBox rfl rfl rfl ⟨rfl, by decide +kernel, by decide +kernel, by decide +kernel⟩ ⟨Nat.le_of_ble_eq_true rfl, Nat.le_of_ble_eq_true rfl⟩) ⟨GP.blind, va_recv hE.1 hP (ci := 3) (q0 := 0) rfl rfl, GP.go (wc := [wcA a ck, wcS a cn]) hE hZ hP hD hS hA [0, 1] rfl (by decide) [.ref (a 0), .int p0]⟩ rfl rfl hl.1 rfl (lv_room (Nat.le_of_ble_eq_true rfl)) dX3_order_2 ⟨Nat.le_of_ble_eq_true rfl, Nat.le_of_ble_eq_true rfl⟩) (by rw [k_X3_order, if_neg c_2])

/-! X3_nextAisle -/
def f_X3_nextAisle (cn : Int32) (sp : Nat → Int32) (oc : Int32) (ob : Nat → Int32) (od : Nat → Int32) (dn : Nat → Int32) : Int32 :=
  f_X2_aisleOfBox cn sp (f_X0_boxOf oc ob (f_X0_earliest oc ob od dn cn sp (-2)))
theorem iw_X3_nextAisle_RX3 : ∀ w ∈ u_ws RX3 TX3 4, w ∈ wsX3_nextAisle := by decide +kernel
set_option maxHeartbeats 4000000 in
set_option maxRecDepth 100000 in
theorem c_X3_nextAisle (l : Launch) (G : GT) (a : Nat → Nat) (sz : Nat) (ck : Int32) (cn : Int32) (sp : Nat → Int32) (oc : Int32) (lt : Int32) (ob : Nat → Int32) (od : Nat → Int32) (dn : Nat → Int32) (hcn : okN 20 cn) (hoc : okN 30 oc) : Met l yX3_nextAisle wsX3_nextAisle ({ frames := 5, cells := 0, slots := 0, locals := 112 }) (GP G [.ref (a 0)] [wcA a ck, wcS a cn, wcI G (a 6) 20 sp, wcO a oc lt, wcI G (a 12) 30 ob, wcI G (a 13) 30 od, wcZ G (a 14) 30 dn] sz) (PQo (.returned (some (.int (f_X3_nextAisle cn sp oc ob od dn))))) 0 0 (fun _ => False) := by
  refine bodyM (cc := cX3_nextAisle) (maxL := 2) (ret := (some .int)) (by decide) rfl (Nat.le_of_ble_eq_true rfl) ?_
  intro p e s m below meth c ls C
  obtain ⟨hx, hb, hr, hts, hown, hlocks, hml, hsz, hP, hE, hD, hZ, hA, hS, hl⟩ := C
  subst hsz
  have hl : lv_has ls 2 [(0, .ref (a 0))] := hl
  refine lv_aload_n hx hb dX3_nextAisle_0 rfl (lv_at hl 0 rfl) ?_
  refine va_get (D := G.1) (ci := 3) (v := .ref (a 11)) (C := RX3) (T := TX3) (N := 4) hx hb hts iw_X3_nextAisle_RX3 hown hE.1 hP 0 rfl rfl 2 (by decide) (hts (.fieldLink RX3 26 "Rackrail" "orders" "LRackrail$Orders;") (by decide +kernel)) (fun _ h9 => h9) rfl dX3_nextAisle_1 ?_
  refine lv_aload_n hx hb dX3_nextAisle_4 rfl (lv_at hl 0 rfl) ?_
  refine va_get (D := G.1) (ci := 3) (v := .ref (a 1)) (C := RX3) (T := TX3) (N := 4) hx hb hts iw_X3_nextAisle_RX3 hown hE.1 hP 0 rfl rfl 0 (by decide) (hts (.fieldLink RX3 12 "Rackrail" "store" "LRackrail$Store;") (by decide +kernel)) (fun _ h9 => h9) rfl dX3_nextAisle_5 ?_
  refine lv_bipush (v := (-2)) hx hb dX3_nextAisle_8 (by decide) ?_
  refine k_p (va_runV (As := [.ref (a 1), .int (-2)]) (rest := []) ⟨hx, hb, hml, hown, hts⟩ (c_X0_earliest l G a s.heap.size oc lt ob od dn cn sp (-2) hcn hoc) (cwV 2 hts gX3_nextAisle_X0_earliest rfl rfl rfl ⟨rfl, by decide +kernel, by decide +kernel, by decide +kernel⟩ ⟨Nat.le_of_ble_eq_true rfl, Nat.le_of_ble_eq_true rfl⟩) ⟨GP.blind, va_recv hE.1 hP (ci := 0) (q0 := 3) rfl rfl, GP.go (wc := [wcO a oc lt, wcI G (a 12) 30 ob, wcI G (a 13) 30 od, wcZ G (a 14) 30 dn, wcS a cn, wcI G (a 6) 20 sp]) hE hZ hP hD hS hA [3, 4, 5, 6, 1, 2] rfl (by decide) [.ref (a 11), .ref (a 1), .int (-2)]⟩ rfl rfl hl.1 rfl (lv_room (Nat.le_of_ble_eq_true rfl)) dX3_nextAisle_10 ⟨Nat.le_of_ble_eq_true rfl, Nat.le_of_ble_eq_true rfl⟩) ?_
  refine lv_istore_n (lv' := [(1, .int (f_X0_earliest oc ob od dn cn sp (-2))), (0, .ref (a 0))]) hx hb dX3_nextAisle_13 rfl hl (by decide) rfl (fun ls hl => ?_)
  refine lv_aload_n hx hb dX3_nextAisle_14 rfl (lv_at hl 1 rfl) ?_
  refine va_get (D := G.1) (ci := 3) (v := .ref (a 1)) (C := RX3) (T := TX3) (N := 4) hx hb hts iw_X3_nextAisle_RX3 hown hE.1 hP 0 rfl rfl 0 (by decide) (hts (.fieldLink RX3 12 "Rackrail" "store" "LRackrail$Store;") (by decide +kernel)) (fun _ h9 => h9) rfl dX3_nextAisle_15 ?_
  refine lv_aload_n hx hb dX3_nextAisle_18 rfl (lv_at hl 1 rfl) ?_
  refine va_get (D := G.1) (ci := 3) (v := .ref (a 11)) (C := RX3) (T := TX3) (N := 4) hx hb hts iw_X3_nextAisle_RX3 hown hE.1 hP 0 rfl rfl 2 (by decide) (hts (.fieldLink RX3 26 "Rackrail" "orders" "LRackrail$Orders;") (by decide +kernel)) (fun _ h9 => h9) rfl dX3_nextAisle_19 ?_
  refine lv_iload_n hx hb dX3_nextAisle_22 rfl (lv_at hl 0 rfl) ?_
  refine k_p (va_runV (As := [.int (f_X0_earliest oc ob od dn cn sp (-2))]) (rest := [.ref (a 1)]) ⟨hx, hb, hml, hown, hts⟩ (c_X0_boxOf l G a s.heap.size oc lt ob (f_X0_earliest oc ob od dn cn sp (-2)) hoc) (cwV 1 hts gX3_nextAisle_X0_boxOf rfl rfl rfl ⟨rfl, by decide +kernel, by decide +kernel, by decide +kernel⟩ ⟨Nat.le_of_ble_eq_true rfl, Nat.le_of_ble_eq_true rfl⟩) ⟨GP.blind, va_recv hE.1 hP (ci := 0) (q0 := 3) rfl rfl, GP.go (wc := [wcO a oc lt, wcI G (a 12) 30 ob]) hE hZ hP hD hS hA [3, 4] rfl (by decide) [.ref (a 11), .int (f_X0_earliest oc ob od dn cn sp (-2))]⟩ rfl rfl hl.1 rfl (lv_room (Nat.le_of_ble_eq_true rfl)) dX3_nextAisle_23 ⟨Nat.le_of_ble_eq_true rfl, Nat.le_of_ble_eq_true rfl⟩) ?_
  refine k_p (va_runV (As := [.int (f_X0_boxOf oc ob (f_X0_earliest oc ob od dn cn sp (-2)))]) (rest := []) ⟨hx, hb, hml, hown, hts⟩ (c_X2_aisleOfBox l G a s.heap.size cn sp (f_X0_boxOf oc ob (f_X0_earliest oc ob od dn cn sp (-2))) hcn) (cwV 1 hts gX3_nextAisle_X2_aisleOfBox rfl rfl rfl ⟨rfl, by decide +kernel, by decide +kernel, by decide +kernel⟩ ⟨Nat.le_of_ble_eq_true rfl, Nat.le_of_ble_eq_true rfl⟩) ⟨GP.blind, va_recv hE.1 hP (ci := 2) (q0 := 1) rfl rfl, GP.go (wc := [wcS a cn, wcI G (a 6) 20 sp]) hE hZ hP hD hS hA [1, 2] rfl (by decide) [.ref (a 1), .int (f_X0_boxOf oc ob (f_X0_earliest oc ob od dn cn sp (-2)))]⟩ rfl rfl hl.1 rfl (lv_room (Nat.le_of_ble_eq_true rfl)) dX3_nextAisle_26 ⟨Nat.le_of_ble_eq_true rfl, Nat.le_of_ble_eq_true rfl⟩) ?_
  have hq : f_X3_nextAisle cn sp oc ob od dn = (f_X2_aisleOfBox cn sp (f_X0_boxOf oc ob (f_X0_earliest oc ob od dn cn sp (-2)))) := (by rw [f_X3_nextAisle])
  exact W.iret (v := f_X2_aisleOfBox cn sp (f_X0_boxOf oc ob (f_X0_earliest oc ob od dn cn sp (-2)))) hx hb hr (fun t ht _ => ⟨by rw [hq], ht⟩) (fun _ h => nomatch h) dX3_nextAisle_29

/-! X3_fetch -/
def f_X3_fetch (ck : Int32) (cn : Int32) (sp : Nat → Int32) (gp : Int32) (tg : Int32) (ins : Nat → Int32) (oc : Int32) (lt : Int32) (ob : Nat → Int32) (od : Nat → Int32) (dn : Nat → Int32) (p0 : Int32) : Int32 × (Nat → Int32) × Int32 × (Nat → Int32) :=
  if k_X3_requirePerson p0 = 0 then (if k_X3_requireInside ins p0 = 0 then (if (f_X0_earliest oc ob od dn cn sp (f_X1_openAisle gp tg)) = (-1) then (0, sp, lt, dn)
        else (f_X0_earliest oc ob od dn cn sp (f_X1_openAisle gp tg), f_X2_put cn sp (f_X0_boxOf oc ob (f_X0_earliest oc ob od dn cn sp (f_X1_openAisle gp tg))) (-1), (f_X0_finish oc lt od dn (f_X0_earliest oc ob od dn cn sp (f_X1_openAisle gp tg)) ck).1, (f_X0_finish oc lt od dn (f_X0_earliest oc ob od dn cn sp (f_X1_openAisle gp tg)) ck).2))
      else (0, sp, lt, dn))
    else (0, sp, lt, dn)
def k_X3_fetch (cn : Int32) (sp : Nat → Int32) (gp : Int32) (tg : Int32) (ins : Nat → Int32) (oc : Int32) (ob : Nat → Int32) (od : Nat → Int32) (dn : Nat → Int32) (p0 : Int32) : Nat :=
  if k_X3_requirePerson p0 = 0 then (if k_X3_requireInside ins p0 = 0 then (if (f_X0_earliest oc ob od dn cn sp (f_X1_openAisle gp tg)) = (-1) then 3
        else 0)
      else 3)
    else 1
theorem kr_X3_fetch (cn : Int32) (sp : Nat → Int32) (gp : Int32) (tg : Int32) (ins : Nat → Int32) (oc : Int32) (ob : Nat → Int32) (od : Nat → Int32) (dn : Nat → Int32) (p0 : Int32) : k_X3_fetch cn sp gp tg ins oc ob od dn p0 = 0 ∨ k_X3_fetch cn sp gp tg ins oc ob od dn p0 = 1 ∨ k_X3_fetch cn sp gp tg ins oc ob od dn p0 = 3 := by
  unfold k_X3_fetch
  (repeat' split) <;> decide
theorem iw_X3_fetch_RX3 : ∀ w ∈ u_ws RX3 TX3 4, w ∈ wsX3_fetch := by decide +kernel
set_option maxHeartbeats 4000000 in
set_option maxRecDepth 100000 in
theorem c_X3_fetch (l : Launch) (hl9 : l.stackTraces = false) (G : GT) (a : Nat → Nat) (sz : Nat) (ck : Int32) (cn : Int32) (sp : Nat → Int32) (gp : Int32) (tg : Int32) (st : Int32) (sm : Int32) (ins : Nat → Int32) (oc : Int32) (lt : Int32) (ob : Nat → Int32) (od : Nat → Int32) (dn : Nat → Int32) (p0 : Int32) (hcn : okN 20 cn) (hoc : okN 30 oc) (h0 : k_X3_fetch cn sp gp tg ins oc ob od dn p0 = 0) : Met l yX3_fetch wsX3_fetch ({ frames := 7, cells := 0, slots := 0, locals := 112 }) (GP G [.ref (a 0), .int p0] [wcA a ck, wcS a cn, wcI G (a 6) 20 sp, wcR a gp tg st sm, wcZ G (a 9) 4 ins, wcO a oc lt, wcI G (a 12) 30 ob, wcI G (a 13) 30 od, wcZ G (a 14) 30 dn] sz) (MQo G (.returned (some (.int ((f_X3_fetch ck cn sp gp tg ins oc lt ob od dn p0).1)))) [wcA a ck, wcS a cn, wcI G (a 6) 20 ((f_X3_fetch ck cn sp gp tg ins oc lt ob od dn p0).2.1), wcR a gp tg st sm, wcZ G (a 9) 4 ins, wcO a oc ((f_X3_fetch ck cn sp gp tg ins oc lt ob od dn p0).2.2.1), wcI G (a 12) 30 ob, wcI G (a 13) 30 od, wcZ G (a 14) 30 ((f_X3_fetch ck cn sp gp tg ins oc lt ob od dn p0).2.2.2)] (va_A [wcA a ck, wcS a cn, wcI G (a 6) 20 sp, wcR a gp tg st sm, wcZ G (a 9) 4 ins, wcO a oc lt, wcI G (a 12) 30 ob, wcI G (a 13) 30 od, wcZ G (a 14) 30 dn] sz)) 0 0 (va_A [wcA a ck, wcS a cn, wcI G (a 6) 20 sp, wcR a gp tg st sm, wcZ G (a 9) 4 ins, wcO a oc lt, wcI G (a 12) 30 ob, wcI G (a 13) 30 od, wcZ G (a 14) 30 dn] sz) := by
  refine bodyM (cc := cX3_fetch) (maxL := 3) (ret := (some .int)) (by decide) rfl (Nat.le_of_ble_eq_true rfl) ?_
  intro p e s m below meth c ls C
  obtain ⟨hx, hb, hr, hts, hown, hlocks, hml, hsz, hP, hE, hD, hZ, hA, hS, hl⟩ := C
  subst hsz
  have hl : lv_has ls 3 [(0, .ref (a 0)), (1, .int p0)] := hl
  refine lv_aload_n hx hb dX3_fetch_0 rfl (lv_at hl 0 rfl) ?_
  refine lv_iload_n hx hb dX3_fetch_1 rfl (lv_at hl 1 rfl) ?_
  have c_2 : k_X3_requirePerson p0 = 0 := Decidable.byContradiction (fun c_2 => absurd (h0.symm.trans (by rw [k_X3_fetch, if_neg c_2])) (by decide))
  refine k_p (va_runV (As := [.int p0]) (rest := []) ⟨hx, hb, hml, hown, hts⟩ (c_X3_requirePerson l hl9 G a s.heap.size p0 c_2) (cwV 1 hts gX3_fetch_X3_requirePerson rfl rfl rfl ⟨rfl, by decide +kernel, by decide +kernel, by decide +kernel⟩ ⟨Nat.le_of_ble_eq_true rfl, Nat.le_of_ble_eq_true rfl⟩) ⟨GP.blind, va_recv hE.1 hP (ci := 3) (q0 := 0) rfl rfl, GP.go (wc := []) hE hZ hP hD hS hA [] rfl (by decide) [.ref (a 0), .int p0]⟩ rfl rfl hl.1 rfl (lv_room (Nat.le_of_ble_eq_true rfl)) dX3_fetch_2 ⟨Nat.le_of_ble_eq_true rfl, Nat.le_of_ble_eq_true rfl⟩) ?_
  refine lv_aload_n hx hb dX3_fetch_5 rfl (lv_at hl 0 rfl) ?_
  refine lv_iload_n hx hb dX3_fetch_6 rfl (lv_at hl 1 rfl) ?_
  have c_7 : k_X3_requireInside ins p0 = 0 := Decidable.byContradiction (fun c_7 => absurd (h0.symm.trans (by rw [k_X3_fetch, if_pos c_2, if_neg c_7])) (by decide))
  refine k_p (va_runV (As := [.int p0]) (rest := []) ⟨hx, hb, hml, hown, hts⟩ (c_X3_requireInside l hl9 G a s.heap.size ck gp tg st sm ins p0 c_7) (cwV 1 hts gX3_fetch_X3_requireInside rfl rfl rfl ⟨rfl, by decide +kernel, by decide +kernel, by decide +kernel⟩ ⟨Nat.le_of_ble_eq_true rfl, Nat.le_of_ble_eq_true rfl⟩) ⟨GP.blind, va_recv hE.1 hP (ci := 3) (q0 := 0) rfl rfl, GP.go (wc := [wcA a ck, wcR a gp tg st sm, wcZ G (a 9) 4 ins]) hE hZ hP hD hS hA [0, 3, 4] rfl (by decide) [.ref (a 0), .int p0]⟩ rfl rfl hl.1 rfl (lv_room (Nat.le_of_ble_eq_true rfl)) dX3_fetch_7 ⟨Nat.le_of_ble_eq_true rfl, Nat.le_of_ble_eq_true rfl⟩) ?_
  refine lv_aload_n hx hb dX3_fetch_10 rfl (lv_at hl 0 rfl) ?_
  refine va_get (D := G.1) (ci := 3) (v := .ref (a 11)) (C := RX3) (T := TX3) (N := 4) hx hb hts iw_X3_fetch_RX3 hown hE.1 hP 0 rfl rfl 2 (by decide) (hts (.fieldLink RX3 26 "Rackrail" "orders" "LRackrail$Orders;") (by decide +kernel)) (fun _ h9 => h9) rfl dX3_fetch_11 ?_
  refine lv_aload_n hx hb dX3_fetch_14 rfl (lv_at hl 0 rfl) ?_
  refine va_get (D := G.1) (ci := 3) (v := .ref (a 1)) (C := RX3) (T := TX3) (N := 4) hx hb hts iw_X3_fetch_RX3 hown hE.1 hP 0 rfl rfl 0 (by decide) (hts (.fieldLink RX3 12 "Rackrail" "store" "LRackrail$Store;") (by decide +kernel)) (fun _ h9 => h9) rfl dX3_fetch_15 ?_
  refine lv_aload_n hx hb dX3_fetch_18 rfl (lv_at hl 0 rfl) ?_
  refine va_get (D := G.1) (ci := 3) (v := .ref (a 7)) (C := RX3) (T := TX3) (N := 4) hx hb hts iw_X3_fetch_RX3 hown hE.1 hP 0 rfl rfl 1 (by decide) (hts (.fieldLink RX3 19 "Rackrail" "rail" "LRackrail$Rail;") (by decide +kernel)) (fun _ h9 => h9) rfl dX3_fetch_19 ?_
  refine k_p (va_runV (As := []) (rest := [.ref (a 1), .ref (a 11)]) ⟨hx, hb, hml, hown, hts⟩ (c_X1_openAisle l G a s.heap.size gp tg st sm) (cwV 0 hts gX3_fetch_X1_openAisle rfl rfl rfl ⟨rfl, by decide +kernel, by decide +kernel, by decide +kernel⟩ ⟨Nat.le_of_ble_eq_true rfl, Nat.le_of_ble_eq_true rfl⟩) ⟨GP.blind, va_recv hE.1 hP (ci := 1) (q0 := 3) rfl rfl, GP.go (wc := [wcR a gp tg st sm]) hE hZ hP hD hS hA [3] rfl (by decide) [.ref (a 7)]⟩ rfl rfl hl.1 rfl (lv_room (Nat.le_of_ble_eq_true rfl)) dX3_fetch_22 ⟨Nat.le_of_ble_eq_true rfl, Nat.le_of_ble_eq_true rfl⟩) ?_
  refine k_p (va_runV (As := [.ref (a 1), .int (f_X1_openAisle gp tg)]) (rest := []) ⟨hx, hb, hml, hown, hts⟩ (c_X0_earliest l G a s.heap.size oc lt ob od dn cn sp (f_X1_openAisle gp tg) hcn hoc) (cwV 2 hts gX3_fetch_X0_earliest rfl rfl rfl ⟨rfl, by decide +kernel, by decide +kernel, by decide +kernel⟩ ⟨Nat.le_of_ble_eq_true rfl, Nat.le_of_ble_eq_true rfl⟩) ⟨GP.blind, va_recv hE.1 hP (ci := 0) (q0 := 5) rfl rfl, GP.go (wc := [wcO a oc lt, wcI G (a 12) 30 ob, wcI G (a 13) 30 od, wcZ G (a 14) 30 dn, wcS a cn, wcI G (a 6) 20 sp]) hE hZ hP hD hS hA [5, 6, 7, 8, 1, 2] rfl (by decide) [.ref (a 11), .ref (a 1), .int (f_X1_openAisle gp tg)]⟩ rfl rfl hl.1 rfl (lv_room (Nat.le_of_ble_eq_true rfl)) dX3_fetch_25 ⟨Nat.le_of_ble_eq_true rfl, Nat.le_of_ble_eq_true rfl⟩) ?_
  refine lv_istore_n (lv' := [(2, .int (f_X0_earliest oc ob od dn cn sp (f_X1_openAisle gp tg))), (0, .ref (a 0)), (1, .int p0)]) hx hb dX3_fetch_28 rfl hl (by decide) rfl (fun ls hl => ?_)
  refine lv_iload_n hx hb dX3_fetch_29 rfl (lv_at hl 0 rfl) ?_
  refine lv_iconst (v := (-1)) hx hb dX3_fetch_30 (by decide) ?_
  refine lv_icmp_ne (tgt := 44) hx hb dX3_fetch_31 (by decide) (fun c_31 => ?_) (fun c_31 => ?_)
  · refine lv_aload_n hx hb dX3_fetch_44 rfl (lv_at hl 1 rfl) ?_
    refine va_get (D := G.1) (ci := 3) (v := .ref (a 11)) (C := RX3) (T := TX3) (N := 4) hx hb hts iw_X3_fetch_RX3 hown hE.1 hP 0 rfl rfl 2 (by decide) (hts (.fieldLink RX3 26 "Rackrail" "orders" "LRackrail$Orders;") (by decide +kernel)) (fun _ h9 => h9) rfl dX3_fetch_45 ?_
    refine lv_iload_n hx hb dX3_fetch_48 rfl (lv_at hl 0 rfl) ?_
    refine lv_aload_n hx hb dX3_fetch_49 rfl (lv_at hl 1 rfl) ?_
    refine va_get (D := G.1) (ci := 3) (v := .int ck) (C := RX3) (T := TX3) (N := 4) hx hb hts iw_X3_fetch_RX3 hown hE.1 hP 0 rfl rfl 3 (by decide) (hts (.fieldLink RX3 30 "Rackrail" "clock" "I") (by decide +kernel)) (fun _ h9 => h9) rfl dX3_fetch_50 ?_
    refine k_m (wc := [wcO a oc lt, wcI G (a 13) 30 od, wcZ G (a 14) 30 dn]) (w1 := [wcO a oc ((f_X0_finish oc lt od dn (f_X0_earliest oc ob od dn cn sp (f_X1_openAisle gp tg)) ck).1), wcI G (a 13) 30 od, wcZ G (a 14) 30 ((f_X0_finish oc lt od dn (f_X0_earliest oc ob od dn cn sp (f_X1_openAisle gp tg)) ck).2)]) (wn := [wcA a ck, wcS a cn, wcI G (a 6) 20 sp, wcR a gp tg st sm, wcZ G (a 9) 4 ins, wcO a oc ((f_X0_finish oc lt od dn (f_X0_earliest oc ob od dn cn sp (f_X1_openAisle gp tg)) ck).1), wcI G (a 12) 30 ob, wcI G (a 13) 30 od, wcZ G (a 14) 30 ((f_X0_finish oc lt od dn (f_X0_earliest oc ob od dn cn sp (f_X1_openAisle gp tg)) ck).2)]) (va_runV (As := [.int (f_X0_earliest oc ob od dn cn sp (f_X1_openAisle gp tg)), .int ck]) (rest := []) ⟨hx, hb, hml, hown, hts⟩ (c_X0_finish l G a s.heap.size oc lt od dn (f_X0_earliest oc ob od dn cn sp (f_X1_openAisle gp tg)) ck hoc) (cwV 2 hts gX3_fetch_X0_finish rfl rfl rfl ⟨rfl, by decide +kernel, by decide +kernel, by decide +kernel⟩ ⟨Nat.le_of_ble_eq_true rfl, Nat.le_of_ble_eq_true rfl⟩) ⟨GP.blind, va_recv hE.1 hP (ci := 0) (q0 := 5) rfl rfl, GP.go (wc := [wcO a oc lt, wcI G (a 13) 30 od, wcZ G (a 14) 30 dn]) hE hZ hP hD hS hA [5, 7, 8] rfl (by decide) [.ref (a 11), .int (f_X0_earliest oc ob od dn cn sp (f_X1_openAisle gp tg)), .int ck]⟩ rfl rfl hl.1 rfl (lv_room (Nat.le_of_ble_eq_true rfl)) dX3_fetch_53 ⟨Nat.le_of_ble_eq_true rfl, Nat.le_of_ble_eq_true rfl⟩) hP hD hS hA [5, 7, 8] rfl rfl rfl rfl (fun H locs hP hD hS => ?_)
    refine lv_aload_n hx hb dX3_fetch_56 rfl (lv_at hl 1 rfl) ?_
    refine va_get (D := G.1) (ci := 3) (v := .ref (a 1)) (C := RX3) (T := TX3) (N := 4) hx hb hts iw_X3_fetch_RX3 hown hE.1 hP 0 rfl rfl 0 (by decide) (hts (.fieldLink RX3 12 "Rackrail" "store" "LRackrail$Store;") (by decide +kernel)) (fun _ h9 => h9) rfl dX3_fetch_57 ?_
    refine lv_aload_n hx hb dX3_fetch_60 rfl (lv_at hl 1 rfl) ?_
    refine va_get (D := G.1) (ci := 3) (v := .ref (a 11)) (C := RX3) (T := TX3) (N := 4) hx hb hts iw_X3_fetch_RX3 hown hE.1 hP 0 rfl rfl 2 (by decide) (hts (.fieldLink RX3 26 "Rackrail" "orders" "LRackrail$Orders;") (by decide +kernel)) (fun _ h9 => h9) rfl dX3_fetch_61 ?_
    refine lv_iload_n hx hb dX3_fetch_64 rfl (lv_at hl 0 rfl) ?_
    refine k_p (va_runV (As := [.int (f_X0_earliest oc ob od dn cn sp (f_X1_openAisle gp tg))]) (rest := [.ref (a 1)]) ⟨hx, hb, hml, hown, hts⟩ (c_X0_boxOf l G a H.size oc ((f_X0_finish oc lt od dn (f_X0_earliest oc ob od dn cn sp (f_X1_openAisle gp tg)) ck).1) ob (f_X0_earliest oc ob od dn cn sp (f_X1_openAisle gp tg)) hoc) (cwV 1 hts gX3_fetch_X0_boxOf rfl rfl rfl ⟨rfl, by decide +kernel, by decide +kernel, by decide +kernel⟩ ⟨Nat.le_of_ble_eq_true rfl, Nat.le_of_ble_eq_true rfl⟩) ⟨GP.blind, va_recv hE.1 hP (ci := 0) (q0 := 5) rfl rfl, GP.go (wc := [wcO a oc ((f_X0_finish oc lt od dn (f_X0_earliest oc ob od dn cn sp (f_X1_openAisle gp tg)) ck).1), wcI G (a 12) 30 ob]) hE hZ hP hD hS hA [5, 6] rfl (by decide) [.ref (a 11), .int (f_X0_earliest oc ob od dn cn sp (f_X1_openAisle gp tg))]⟩ rfl rfl hl.1 rfl (lv_room (Nat.le_of_ble_eq_true rfl)) dX3_fetch_65 ⟨Nat.le_of_ble_eq_true rfl, Nat.le_of_ble_eq_true rfl⟩) ?_
    refine lv_iconst (v := (-1)) hx hb dX3_fetch_68 (by decide) ?_
    refine k_m (wc := [wcS a cn, wcI G (a 6) 20 sp]) (w1 := [wcS a cn, wcI G (a 6) 20 (f_X2_put cn sp (f_X0_boxOf oc ob (f_X0_earliest oc ob od dn cn sp (f_X1_openAisle gp tg))) (-1))]) (wn := [wcA a ck, wcS a cn, wcI G (a 6) 20 (f_X2_put cn sp (f_X0_boxOf oc ob (f_X0_earliest oc ob od dn cn sp (f_X1_openAisle gp tg))) (-1)), wcR a gp tg st sm, wcZ G (a 9) 4 ins, wcO a oc ((f_X0_finish oc lt od dn (f_X0_earliest oc ob od dn cn sp (f_X1_openAisle gp tg)) ck).1), wcI G (a 12) 30 ob, wcI G (a 13) 30 od, wcZ G (a 14) 30 ((f_X0_finish oc lt od dn (f_X0_earliest oc ob od dn cn sp (f_X1_openAisle gp tg)) ck).2)]) (va_runV (As := [.int (f_X0_boxOf oc ob (f_X0_earliest oc ob od dn cn sp (f_X1_openAisle gp tg))), .int (-1)]) (rest := []) ⟨hx, hb, hml, hown, hts⟩ (c_X2_put l G a H.size cn sp (f_X0_boxOf oc ob (f_X0_earliest oc ob od dn cn sp (f_X1_openAisle gp tg))) (-1) hcn) (cwV 2 hts gX3_fetch_X2_put rfl rfl rfl ⟨rfl, by decide +kernel, by decide +kernel, by decide +kernel⟩ ⟨Nat.le_of_ble_eq_true rfl, Nat.le_of_ble_eq_true rfl⟩) ⟨GP.blind, va_recv hE.1 hP (ci := 2) (q0 := 1) rfl rfl, GP.go (wc := [wcS a cn, wcI G (a 6) 20 sp]) hE hZ hP hD hS hA [1, 2] rfl (by decide) [.ref (a 1), .int (f_X0_boxOf oc ob (f_X0_earliest oc ob od dn cn sp (f_X1_openAisle gp tg))), .int (-1)]⟩ rfl rfl hl.1 rfl (lv_room (Nat.le_of_ble_eq_true rfl)) dX3_fetch_69 ⟨Nat.le_of_ble_eq_true rfl, Nat.le_of_ble_eq_true rfl⟩) hP hD hS hA [1, 2] rfl rfl rfl rfl (fun H locs hP hD hS => ?_)
    refine lv_iload_n hx hb dX3_fetch_72 rfl (lv_at hl 0 rfl) ?_
    have hq : f_X3_fetch ck cn sp gp tg ins oc lt ob od dn p0 = (f_X0_earliest oc ob od dn cn sp (f_X1_openAisle gp tg), f_X2_put cn sp (f_X0_boxOf oc ob (f_X0_earliest oc ob od dn cn sp (f_X1_openAisle gp tg))) (-1), (f_X0_finish oc lt od dn (f_X0_earliest oc ob od dn cn sp (f_X1_openAisle gp tg)) ck).1, (f_X0_finish oc lt od dn (f_X0_earliest oc ob od dn cn sp (f_X1_openAisle gp tg)) ck).2) := (by rw [f_X3_fetch, if_pos c_2, if_pos c_7, if_neg c_31])
    exact W.iret (v := f_X0_earliest oc ob od dn cn sp (f_X1_openAisle gp tg)) hx hb hr (fun t ht _ => ⟨by rw [hq], by rw [hq, ht]; exact hP, hS.F ht⟩) hS.2.2 dX3_fetch_73
  · exact absurd (h0.symm.trans (by rw [k_X3_fetch, if_pos c_2, if_pos c_7, if_pos c_31])) (by decide)

theorem gx3_X3_fetch : ∀ w ∈ (vx_atS RX3 69 (exn 3) xnames).filter goodWord, w ∈ wsX3_fetch := by decide +kernel
set_option maxHeartbeats 4000000 in
set_option maxRecDepth 100000 in
theorem cx_X3_fetch (l : Launch) (hl9 : l.stackTraces = false) (G : GT) (a : Nat → Nat) (sz : Nat) (ck : Int32) (cn : Int32) (sp : Nat → Int32) (gp : Int32) (tg : Int32) (st : Int32) (sm : Int32) (ins : Nat → Int32) (oc : Int32) (lt : Int32) (ob : Nat → Int32) (od : Nat → Int32) (dn : Nat → Int32) (p0 : Int32) (hcn : okN 20 cn) (hoc : okN 30 oc) (h0 : ¬ k_X3_fetch cn sp gp tg ins oc ob od dn p0 = 0) : vx_Met l yX3_fetch wsX3_fetch ({ frames := 7, cells := 1, slots := 6, locals := 112 }) (GP G [.ref (a 0), .int p0] [wcA a ck, wcS a cn, wcI G (a 6) 20 sp, wcR a gp tg st sm, wcZ G (a 9) 4 ins, wcO a oc lt, wcI G (a 12) 30 ob, wcI G (a 13) 30 od, wcZ G (a 14) 30 dn] sz) NQ (XQ (k_X3_fetch cn sp gp tg ins oc ob od dn p0)) 1 6 (fun _ => False) := by
  refine bodyX (cc := cX3_fetch) (maxL := 3) (ret := (some .int)) (by decide) rfl (Nat.le_of_ble_eq_true rfl) ?_
  intro p e s m below meth c ls C ht
  obtain ⟨hx, hb, hr, hts, hown, hlocks, hml, hsz, hP, hE, hD, hZ, hA, hS, hl⟩ := C
  subst hsz
  have hl : lv_has ls 3 [(0, .ref (a 0)), (1, .int p0)] := hl
  refine lv_aload_n hx hb dX3_fetch_0 rfl (lv_at hl 0 rfl) ?_
  refine lv_iload_n hx hb dX3_fetch_1 rfl (lv_at hl 1 rfl) ?_
  by_cases c_2 : k_X3_requirePerson p0 = 0
  · refine k_p (va_runV (As := [.int p0]) (rest := []) ⟨hx, hb, hml, hown, hts⟩ (c_X3_requirePerson l hl9 G a s.heap.size p0 c_2) (cwV 1 hts gX3_fetch_X3_requirePerson rfl rfl rfl ⟨rfl, by decide +kernel, by decide +kernel, by decide +kernel⟩ ⟨Nat.le_of_ble_eq_true rfl, Nat.le_of_ble_eq_true rfl⟩) ⟨GP.blind, va_recv hE.1 hP (ci := 3) (q0 := 0) rfl rfl, GP.go (wc := []) hE hZ hP hD hS hA [] rfl (by decide) [.ref (a 0), .int p0]⟩ rfl rfl hl.1 rfl (lv_room (Nat.le_of_ble_eq_true rfl)) dX3_fetch_2 ⟨Nat.le_of_ble_eq_true rfl, Nat.le_of_ble_eq_true rfl⟩) ?_
    refine lv_aload_n hx hb dX3_fetch_5 rfl (lv_at hl 0 rfl) ?_
    refine lv_iload_n hx hb dX3_fetch_6 rfl (lv_at hl 1 rfl) ?_
    by_cases c_7 : k_X3_requireInside ins p0 = 0
    · refine k_p (va_runV (As := [.int p0]) (rest := []) ⟨hx, hb, hml, hown, hts⟩ (c_X3_requireInside l hl9 G a s.heap.size ck gp tg st sm ins p0 c_7) (cwV 1 hts gX3_fetch_X3_requireInside rfl rfl rfl ⟨rfl, by decide +kernel, by decide +kernel, by decide +kernel⟩ ⟨Nat.le_of_ble_eq_true rfl, Nat.le_of_ble_eq_true rfl⟩) ⟨GP.blind, va_recv hE.1 hP (ci := 3) (q0 := 0) rfl rfl, GP.go (wc := [wcA a ck, wcR a gp tg st sm, wcZ G (a 9) 4 ins]) hE hZ hP hD hS hA [0, 3, 4] rfl (by decide) [.ref (a 0), .int p0]⟩ rfl rfl hl.1 rfl (lv_room (Nat.le_of_ble_eq_true rfl)) dX3_fetch_7 ⟨Nat.le_of_ble_eq_true rfl, Nat.le_of_ble_eq_true rfl⟩) ?_
      refine lv_aload_n hx hb dX3_fetch_10 rfl (lv_at hl 0 rfl) ?_
      refine va_get (D := G.1) (ci := 3) (v := .ref (a 11)) (C := RX3) (T := TX3) (N := 4) hx hb hts iw_X3_fetch_RX3 hown hE.1 hP 0 rfl rfl 2 (by decide) (hts (.fieldLink RX3 26 "Rackrail" "orders" "LRackrail$Orders;") (by decide +kernel)) (fun _ h9 => h9) rfl dX3_fetch_11 ?_
      refine lv_aload_n hx hb dX3_fetch_14 rfl (lv_at hl 0 rfl) ?_
      refine va_get (D := G.1) (ci := 3) (v := .ref (a 1)) (C := RX3) (T := TX3) (N := 4) hx hb hts iw_X3_fetch_RX3 hown hE.1 hP 0 rfl rfl 0 (by decide) (hts (.fieldLink RX3 12 "Rackrail" "store" "LRackrail$Store;") (by decide +kernel)) (fun _ h9 => h9) rfl dX3_fetch_15 ?_
      refine lv_aload_n hx hb dX3_fetch_18 rfl (lv_at hl 0 rfl) ?_
      refine va_get (D := G.1) (ci := 3) (v := .ref (a 7)) (C := RX3) (T := TX3) (N := 4) hx hb hts iw_X3_fetch_RX3 hown hE.1 hP 0 rfl rfl 1 (by decide) (hts (.fieldLink RX3 19 "Rackrail" "rail" "LRackrail$Rail;") (by decide +kernel)) (fun _ h9 => h9) rfl dX3_fetch_19 ?_
      refine k_p (va_runV (As := []) (rest := [.ref (a 1), .ref (a 11)]) ⟨hx, hb, hml, hown, hts⟩ (c_X1_openAisle l G a s.heap.size gp tg st sm) (cwV 0 hts gX3_fetch_X1_openAisle rfl rfl rfl ⟨rfl, by decide +kernel, by decide +kernel, by decide +kernel⟩ ⟨Nat.le_of_ble_eq_true rfl, Nat.le_of_ble_eq_true rfl⟩) ⟨GP.blind, va_recv hE.1 hP (ci := 1) (q0 := 3) rfl rfl, GP.go (wc := [wcR a gp tg st sm]) hE hZ hP hD hS hA [3] rfl (by decide) [.ref (a 7)]⟩ rfl rfl hl.1 rfl (lv_room (Nat.le_of_ble_eq_true rfl)) dX3_fetch_22 ⟨Nat.le_of_ble_eq_true rfl, Nat.le_of_ble_eq_true rfl⟩) ?_
      refine k_p (va_runV (As := [.ref (a 1), .int (f_X1_openAisle gp tg)]) (rest := []) ⟨hx, hb, hml, hown, hts⟩ (c_X0_earliest l G a s.heap.size oc lt ob od dn cn sp (f_X1_openAisle gp tg) hcn hoc) (cwV 2 hts gX3_fetch_X0_earliest rfl rfl rfl ⟨rfl, by decide +kernel, by decide +kernel, by decide +kernel⟩ ⟨Nat.le_of_ble_eq_true rfl, Nat.le_of_ble_eq_true rfl⟩) ⟨GP.blind, va_recv hE.1 hP (ci := 0) (q0 := 5) rfl rfl, GP.go (wc := [wcO a oc lt, wcI G (a 12) 30 ob, wcI G (a 13) 30 od, wcZ G (a 14) 30 dn, wcS a cn, wcI G (a 6) 20 sp]) hE hZ hP hD hS hA [5, 6, 7, 8, 1, 2] rfl (by decide) [.ref (a 11), .ref (a 1), .int (f_X1_openAisle gp tg)]⟩ rfl rfl hl.1 rfl (lv_room (Nat.le_of_ble_eq_true rfl)) dX3_fetch_25 ⟨Nat.le_of_ble_eq_true rfl, Nat.le_of_ble_eq_true rfl⟩) ?_
      refine lv_istore_n (lv' := [(2, .int (f_X0_earliest oc ob od dn cn sp (f_X1_openAisle gp tg))), (0, .ref (a 0)), (1, .int p0)]) hx hb dX3_fetch_28 rfl hl (by decide) rfl (fun ls hl => ?_)
      refine lv_iload_n hx hb dX3_fetch_29 rfl (lv_at hl 0 rfl) ?_
      refine lv_iconst (v := (-1)) hx hb dX3_fetch_30 (by decide) ?_
      refine lv_icmp_ne (tgt := 44) hx hb dX3_fetch_31 (by decide) (fun c_31 => ?_) (fun c_31 => ?_)
      · refine lv_aload_n hx hb dX3_fetch_44 rfl (lv_at hl 1 rfl) ?_
        refine va_get (D := G.1) (ci := 3) (v := .ref (a 11)) (C := RX3) (T := TX3) (N := 4) hx hb hts iw_X3_fetch_RX3 hown hE.1 hP 0 rfl rfl 2 (by decide) (hts (.fieldLink RX3 26 "Rackrail" "orders" "LRackrail$Orders;") (by decide +kernel)) (fun _ h9 => h9) rfl dX3_fetch_45 ?_
        refine lv_iload_n hx hb dX3_fetch_48 rfl (lv_at hl 0 rfl) ?_
        refine lv_aload_n hx hb dX3_fetch_49 rfl (lv_at hl 1 rfl) ?_
        refine va_get (D := G.1) (ci := 3) (v := .int ck) (C := RX3) (T := TX3) (N := 4) hx hb hts iw_X3_fetch_RX3 hown hE.1 hP 0 rfl rfl 3 (by decide) (hts (.fieldLink RX3 30 "Rackrail" "clock" "I") (by decide +kernel)) (fun _ h9 => h9) rfl dX3_fetch_50 ?_
        exact absurd (by rw [k_X3_fetch, if_pos c_2, if_pos c_7, if_neg c_31]) h0
      · exact k_thr (k := 3) (ik := 65) (is := 197) (ic := 69) (by decide) thr_f3 thr_o3 thr_b3 (tx := "no order for this aisle") (by decide) hx hb hl9 hown (hts (.classLink RX3 65 (exn 3)) (by decide +kernel)) (hts (.initialized (exn 3)) (by decide +kernel)) (fun w h => hts w (gx3_X3_fetch w h)) hE hZ hS (hl.1.trans hml.symm) ht hlocks dX3_fetch_34 dX3_fetch_37 dX3_fetch_38 dX3_fetch_40 dX3_fetch_43 (Nat.le_of_ble_eq_true rfl) (Nat.le_of_ble_eq_true rfl) (Nat.le_of_ble_eq_true rfl) (Nat.le_of_ble_eq_true rfl) (by rw [k_X3_fetch, if_pos c_2, if_pos c_7, if_pos c_31])
    · exact k_xo ht hlocks (by decide) (by decide) rfl rfl (vx_runV (As := [.int p0]) (rest := []) ⟨hx, hb, hml, hown, hts⟩ (cx_X3_requireInside l hl9 G a s.heap.size ck gp tg st sm ins p0 c_7) (cwV 1 hts gX3_fetch_X3_requireInside rfl rfl rfl ⟨rfl, by decide +kernel, by decide +kernel, by decide +kernel⟩ ⟨Nat.le_of_ble_eq_true rfl, Nat.le_of_ble_eq_true rfl⟩) ⟨GP.blind, va_recv hE.1 hP (ci := 3) (q0 := 0) rfl rfl, GP.go (wc := [wcA a ck, wcR a gp tg st sm, wcZ G (a 9) 4 ins]) hE hZ hP hD hS hA [0, 3, 4] rfl (by decide) [.ref (a 0), .int p0]⟩ rfl rfl hl.1 rfl (lv_room (Nat.le_of_ble_eq_true rfl)) dX3_fetch_7 ⟨Nat.le_of_ble_eq_true rfl, Nat.le_of_ble_eq_true rfl⟩) (by rw [k_X3_fetch, if_pos c_2, if_neg c_7])
  · exact k_xo ht hlocks (by decide) (by decide) rfl rfl (vx_runV (As := [.int p0]) (rest := []) ⟨hx, hb, hml, hown, hts⟩ (cx_X3_requirePerson l hl9 G a s.heap.size p0 c_2) (cwV 1 hts gX3_fetch_X3_requirePerson rfl rfl rfl ⟨rfl, by decide +kernel, by decide +kernel, by decide +kernel⟩ ⟨Nat.le_of_ble_eq_true rfl, Nat.le_of_ble_eq_true rfl⟩) ⟨GP.blind, va_recv hE.1 hP (ci := 3) (q0 := 0) rfl rfl, GP.go (wc := []) hE hZ hP hD hS hA [] rfl (by decide) [.ref (a 0), .int p0]⟩ rfl rfl hl.1 rfl (lv_room (Nat.le_of_ble_eq_true rfl)) dX3_fetch_2 ⟨Nat.le_of_ble_eq_true rfl, Nat.le_of_ble_eq_true rfl⟩) (by rw [k_X3_fetch, if_neg c_2])

/-! X3_giveBack -/
def f_X3_giveBack (cn : Int32) (sc : Nat → Int32) (cl : Nat → Int32) (sp : Nat → Int32) (gp : Int32) (tg : Int32) (ins : Nat → Int32) (p0 : Int32) (p1 : Int32) (p2 : Int32) : Int32 × (Nat → Int32) :=
  if k_X3_requirePerson p0 = 0 then (if k_X3_requireBox cn p1 = 0 then (if k_X3_requireSpot p2 = 0 then (if k_X3_requireInside ins p0 = 0 then (if k_X3_requireOut cn sp p1 = 0 then (if (f_X3_aisleAt p2) = (f_X1_openAisle gp tg) then (if (f_X2_boxIn cn sp p2) = (-1) then (if (f_X2_isWrong cn sc cl (f_X2_put cn sp p1 p2) p1) = 0 then (1, f_X2_put cn sp p1 p2)
                  else (0, f_X2_put cn sp p1 p2))
                else (0, sp))
              else (0, sp))
            else (0, sp))
          else (0, sp))
        else (0, sp))
      else (0, sp))
    else (0, sp)
def k_X3_giveBack (cn : Int32) (sp : Nat → Int32) (gp : Int32) (tg : Int32) (ins : Nat → Int32) (p0 : Int32) (p1 : Int32) (p2 : Int32) : Nat :=
  if k_X3_requirePerson p0 = 0 then (if k_X3_requireBox cn p1 = 0 then (if k_X3_requireSpot p2 = 0 then (if k_X3_requireInside ins p0 = 0 then (if k_X3_requireOut cn sp p1 = 0 then (if (f_X3_aisleAt p2) = (f_X1_openAisle gp tg) then (if (f_X2_boxIn cn sp p2) = (-1) then 0
                else 3)
              else 3)
            else 3)
          else 3)
        else 1)
      else 1)
    else 1
theorem kr_X3_giveBack (cn : Int32) (sp : Nat → Int32) (gp : Int32) (tg : Int32) (ins : Nat → Int32) (p0 : Int32) (p1 : Int32) (p2 : Int32) : k_X3_giveBack cn sp gp tg ins p0 p1 p2 = 0 ∨ k_X3_giveBack cn sp gp tg ins p0 p1 p2 = 1 ∨ k_X3_giveBack cn sp gp tg ins p0 p1 p2 = 3 := by
  unfold k_X3_giveBack
  (repeat' split) <;> decide
theorem iw_X3_giveBack_RX3 : ∀ w ∈ u_ws RX3 TX3 4, w ∈ wsX3_giveBack := by decide +kernel
set_option maxHeartbeats 4000000 in
set_option maxRecDepth 100000 in
theorem c_X3_giveBack (l : Launch) (hl9 : l.stackTraces = false) (G : GT) (a : Nat → Nat) (sz : Nat) (ck : Int32) (cn : Int32) (sc : Nat → Int32) (cl : Nat → Int32) (sp : Nat → Int32) (gp : Int32) (tg : Int32) (st : Int32) (sm : Int32) (ins : Nat → Int32) (p0 : Int32) (p1 : Int32) (p2 : Int32) (hcn : okN 20 cn) (h0 : k_X3_giveBack cn sp gp tg ins p0 p1 p2 = 0) : Met l yX3_giveBack wsX3_giveBack ({ frames := 7, cells := 0, slots := 0, locals := 111 }) (GP G [.ref (a 0), .int p0, .int p1, .int p2] [wcA a ck, wcS a cn, wcI G (a 2) 6 sc, wcI G (a 3) 20 cl, wcI G (a 6) 20 sp, wcR a gp tg st sm, wcZ G (a 9) 4 ins] sz) (MQo G (.returned (some (.int ((f_X3_giveBack cn sc cl sp gp tg ins p0 p1 p2).1)))) [wcA a ck, wcS a cn, wcI G (a 2) 6 sc, wcI G (a 3) 20 cl, wcI G (a 6) 20 ((f_X3_giveBack cn sc cl sp gp tg ins p0 p1 p2).2), wcR a gp tg st sm, wcZ G (a 9) 4 ins] (va_A [wcA a ck, wcS a cn, wcI G (a 2) 6 sc, wcI G (a 3) 20 cl, wcI G (a 6) 20 sp, wcR a gp tg st sm, wcZ G (a 9) 4 ins] sz)) 0 0 (va_A [wcA a ck, wcS a cn, wcI G (a 2) 6 sc, wcI G (a 3) 20 cl, wcI G (a 6) 20 sp, wcR a gp tg st sm, wcZ G (a 9) 4 ins] sz) := by
  refine bodyM (cc := cX3_giveBack) (maxL := 4) (ret := (some .boolean)) (by decide) rfl (Nat.le_of_ble_eq_true rfl) ?_
  intro p e s m below meth c ls C
  obtain ⟨hx, hb, hr, hts, hown, hlocks, hml, hsz, hP, hE, hD, hZ, hA, hS, hl⟩ := C
  subst hsz
  have hl : lv_has ls 4 [(0, .ref (a 0)), (1, .int p0), (2, .int p1), (3, .int p2)] := hl
  refine lv_aload_n hx hb dX3_giveBack_0 rfl (lv_at hl 0 rfl) ?_
  refine lv_iload_n hx hb dX3_giveBack_1 rfl (lv_at hl 1 rfl) ?_
  have c_2 : k_X3_requirePerson p0 = 0 := Decidable.byContradiction (fun c_2 => absurd (h0.symm.trans (by rw [k_X3_giveBack, if_neg c_2])) (by decide))
  refine k_p (va_runV (As := [.int p0]) (rest := []) ⟨hx, hb, hml, hown, hts⟩ (c_X3_requirePerson l hl9 G a s.heap.size p0 c_2) (cwV 1 hts gX3_giveBack_X3_requirePerson rfl rfl rfl ⟨rfl, by decide +kernel, by decide +kernel, by decide +kernel⟩ ⟨Nat.le_of_ble_eq_true rfl, Nat.le_of_ble_eq_true rfl⟩) ⟨GP.blind, va_recv hE.1 hP (ci := 3) (q0 := 0) rfl rfl, GP.go (wc := []) hE hZ hP hD hS hA [] rfl (by decide) [.ref (a 0), .int p0]⟩ rfl rfl hl.1 rfl (lv_room (Nat.le_of_ble_eq_true rfl)) dX3_giveBack_2 ⟨Nat.le_of_ble_eq_true rfl, Nat.le_of_ble_eq_true rfl⟩) ?_
  refine lv_aload_n hx hb dX3_giveBack_5 rfl (lv_at hl 0 rfl) ?_
  refine lv_iload_n hx hb dX3_giveBack_6 rfl (lv_at hl 2 rfl) ?_
  have c_7 : k_X3_requireBox cn p1 = 0 := Decidable.byContradiction (fun c_7 => absurd (h0.symm.trans (by rw [k_X3_giveBack, if_pos c_2, if_neg c_7])) (by decide))
  refine k_p (va_runV (As := [.int p1]) (rest := []) ⟨hx, hb, hml, hown, hts⟩ (c_X3_requireBox l hl9 G a s.heap.size ck cn p1 c_7) (cwV 1 hts gX3_giveBack_X3_requireBox rfl rfl rfl ⟨rfl, by decide +kernel, by decide +kernel, by decide +kernel⟩ ⟨Nat.le_of_ble_eq_true rfl, Nat.le_of_ble_eq_true rfl⟩) ⟨GP.blind, va_recv hE.1 hP (ci := 3) (q0 := 0) rfl rfl, GP.go (wc := [wcA a ck, wcS a cn]) hE hZ hP hD hS hA [0, 1] rfl (by decide) [.ref (a 0), .int p1]⟩ rfl rfl hl.1 rfl (lv_room (Nat.le_of_ble_eq_true rfl)) dX3_giveBack_7 ⟨Nat.le_of_ble_eq_true rfl, Nat.le_of_ble_eq_true rfl⟩) ?_
  refine lv_aload_n hx hb dX3_giveBack_10 rfl (lv_at hl 0 rfl) ?_
  refine lv_iload_n hx hb dX3_giveBack_11 rfl (lv_at hl 3 rfl) ?_
  have c_12 : k_X3_requireSpot p2 = 0 := Decidable.byContradiction (fun c_12 => absurd (h0.symm.trans (by rw [k_X3_giveBack, if_pos c_2, if_pos c_7, if_neg c_12])) (by decide))
  refine k_p (va_runV (As := [.int p2]) (rest := []) ⟨hx, hb, hml, hown, hts⟩ (c_X3_requireSpot l hl9 G a s.heap.size p2 c_12) (cwV 1 hts gX3_giveBack_X3_requireSpot rfl rfl rfl ⟨rfl, by decide +kernel, by decide +kernel, by decide +kernel⟩ ⟨Nat.le_of_ble_eq_true rfl, Nat.le_of_ble_eq_true rfl⟩) ⟨GP.blind, va_recv hE.1 hP (ci := 3) (q0 := 0) rfl rfl, GP.go (wc := []) hE hZ hP hD hS hA [] rfl (by decide) [.ref (a 0), .int p2]⟩ rfl rfl hl.1 rfl (lv_room (Nat.le_of_ble_eq_true rfl)) dX3_giveBack_12 ⟨Nat.le_of_ble_eq_true rfl, Nat.le_of_ble_eq_true rfl⟩) ?_
  refine lv_aload_n hx hb dX3_giveBack_15 rfl (lv_at hl 0 rfl) ?_
  refine lv_iload_n hx hb dX3_giveBack_16 rfl (lv_at hl 1 rfl) ?_
  have c_17 : k_X3_requireInside ins p0 = 0 := Decidable.byContradiction (fun c_17 => absurd (h0.symm.trans (by rw [k_X3_giveBack, if_pos c_2, if_pos c_7, if_pos c_12, if_neg c_17])) (by decide))
  refine k_p (va_runV (As := [.int p0]) (rest := []) ⟨hx, hb, hml, hown, hts⟩ (c_X3_requireInside l hl9 G a s.heap.size ck gp tg st sm ins p0 c_17) (cwV 1 hts gX3_giveBack_X3_requireInside rfl rfl rfl ⟨rfl, by decide +kernel, by decide +kernel, by decide +kernel⟩ ⟨Nat.le_of_ble_eq_true rfl, Nat.le_of_ble_eq_true rfl⟩) ⟨GP.blind, va_recv hE.1 hP (ci := 3) (q0 := 0) rfl rfl, GP.go (wc := [wcA a ck, wcR a gp tg st sm, wcZ G (a 9) 4 ins]) hE hZ hP hD hS hA [0, 5, 6] rfl (by decide) [.ref (a 0), .int p0]⟩ rfl rfl hl.1 rfl (lv_room (Nat.le_of_ble_eq_true rfl)) dX3_giveBack_17 ⟨Nat.le_of_ble_eq_true rfl, Nat.le_of_ble_eq_true rfl⟩) ?_
  refine lv_aload_n hx hb dX3_giveBack_20 rfl (lv_at hl 0 rfl) ?_
  refine lv_iload_n hx hb dX3_giveBack_21 rfl (lv_at hl 2 rfl) ?_
  have c_22 : k_X3_requireOut cn sp p1 = 0 := Decidable.byContradiction (fun c_22 => absurd (h0.symm.trans (by rw [k_X3_giveBack, if_pos c_2, if_pos c_7, if_pos c_12, if_pos c_17, if_neg c_22])) (by decide))
  refine k_p (va_runV (As := [.int p1]) (rest := []) ⟨hx, hb, hml, hown, hts⟩ (c_X3_requireOut l hl9 G a s.heap.size ck cn sp p1 hcn c_22) (cwV 1 hts gX3_giveBack_X3_requireOut rfl rfl rfl ⟨rfl, by decide +kernel, by decide +kernel, by decide +kernel⟩ ⟨Nat.le_of_ble_eq_true rfl, Nat.le_of_ble_eq_true rfl⟩) ⟨GP.blind, va_recv hE.1 hP (ci := 3) (q0 := 0) rfl rfl, GP.go (wc := [wcA a ck, wcS a cn, wcI G (a 6) 20 sp]) hE hZ hP hD hS hA [0, 1, 4] rfl (by decide) [.ref (a 0), .int p1]⟩ rfl rfl hl.1 rfl (lv_room (Nat.le_of_ble_eq_true rfl)) dX3_giveBack_22 ⟨Nat.le_of_ble_eq_true rfl, Nat.le_of_ble_eq_true rfl⟩) ?_
  refine lv_iload_n hx hb dX3_giveBack_25 rfl (lv_at hl 3 rfl) ?_
  refine k_p (va_runS (As := [.int p2]) (rest := []) ⟨hx, hb, hml, hown, hts⟩ (c_X3_aisleAt l G s.heap.size p2) (va_cwS 1 hts gX3_giveBack_X3_aisleAt rfl rfl rfl ⟨by decide +kernel, by decide +kernel, by decide +kernel⟩ ⟨Nat.le_of_ble_eq_true rfl, Nat.le_of_ble_eq_true rfl⟩) ⟨GP.blind, GP.go (wc := []) hE hZ hP hD hS hA [] rfl (by decide) [.int p2]⟩ rfl rfl hl.1 rfl (lv_room (Nat.le_of_ble_eq_true rfl)) dX3_giveBack_26 ⟨Nat.le_of_ble_eq_true rfl, Nat.le_of_ble_eq_true rfl⟩) ?_
  refine lv_aload_n hx hb dX3_giveBack_29 rfl (lv_at hl 0 rfl) ?_
  refine va_get (D := G.1) (ci := 3) (v := .ref (a 7)) (C := RX3) (T := TX3) (N := 4) hx hb hts iw_X3_giveBack_RX3 hown hE.1 hP 0 rfl rfl 1 (by decide) (hts (.fieldLink RX3 19 "Rackrail" "rail" "LRackrail$Rail;") (by decide +kernel)) (fun _ h9 => h9) rfl dX3_giveBack_30 ?_
  refine k_p (va_runV (As := []) (rest := [.int (f_X3_aisleAt p2)]) ⟨hx, hb, hml, hown, hts⟩ (c_X1_openAisle l G a s.heap.size gp tg st sm) (cwV 0 hts gX3_giveBack_X1_openAisle rfl rfl rfl ⟨rfl, by decide +kernel, by decide +kernel, by decide +kernel⟩ ⟨Nat.le_of_ble_eq_true rfl, Nat.le_of_ble_eq_true rfl⟩) ⟨GP.blind, va_recv hE.1 hP (ci := 1) (q0 := 5) rfl rfl, GP.go (wc := [wcR a gp tg st sm]) hE hZ hP hD hS hA [5] rfl (by decide) [.ref (a 7)]⟩ rfl rfl hl.1 rfl (lv_room (Nat.le_of_ble_eq_true rfl)) dX3_giveBack_33 ⟨Nat.le_of_ble_eq_true rfl, Nat.le_of_ble_eq_true rfl⟩) ?_
  refine lv_icmp_eq (tgt := 49) hx hb dX3_giveBack_36 (by decide) (fun c_36 => ?_) (fun c_36 => ?_)
  · refine lv_aload_n hx hb dX3_giveBack_49 rfl (lv_at hl 0 rfl) ?_
    refine va_get (D := G.1) (ci := 3) (v := .ref (a 1)) (C := RX3) (T := TX3) (N := 4) hx hb hts iw_X3_giveBack_RX3 hown hE.1 hP 0 rfl rfl 0 (by decide) (hts (.fieldLink RX3 12 "Rackrail" "store" "LRackrail$Store;") (by decide +kernel)) (fun _ h9 => h9) rfl dX3_giveBack_50 ?_
    refine lv_iload_n hx hb dX3_giveBack_53 rfl (lv_at hl 3 rfl) ?_
    refine k_p (va_runV (As := [.int p2]) (rest := []) ⟨hx, hb, hml, hown, hts⟩ (c_X2_boxIn l G a s.heap.size cn sp p2 hcn) (cwV 1 hts gX3_giveBack_X2_boxIn rfl rfl rfl ⟨rfl, by decide +kernel, by decide +kernel, by decide +kernel⟩ ⟨Nat.le_of_ble_eq_true rfl, Nat.le_of_ble_eq_true rfl⟩) ⟨GP.blind, va_recv hE.1 hP (ci := 2) (q0 := 1) rfl rfl, GP.go (wc := [wcS a cn, wcI G (a 6) 20 sp]) hE hZ hP hD hS hA [1, 4] rfl (by decide) [.ref (a 1), .int p2]⟩ rfl rfl hl.1 rfl (lv_room (Nat.le_of_ble_eq_true rfl)) dX3_giveBack_54 ⟨Nat.le_of_ble_eq_true rfl, Nat.le_of_ble_eq_true rfl⟩) ?_
    refine lv_iconst (v := (-1)) hx hb dX3_giveBack_57 (by decide) ?_
    refine lv_icmp_eq (tgt := 71) hx hb dX3_giveBack_58 (by decide) (fun c_58 => ?_) (fun c_58 => ?_)
    · refine lv_aload_n hx hb dX3_giveBack_71 rfl (lv_at hl 0 rfl) ?_
      refine va_get (D := G.1) (ci := 3) (v := .ref (a 1)) (C := RX3) (T := TX3) (N := 4) hx hb hts iw_X3_giveBack_RX3 hown hE.1 hP 0 rfl rfl 0 (by decide) (hts (.fieldLink RX3 12 "Rackrail" "store" "LRackrail$Store;") (by decide +kernel)) (fun _ h9 => h9) rfl dX3_giveBack_72 ?_
      refine lv_iload_n hx hb dX3_giveBack_75 rfl (lv_at hl 2 rfl) ?_
      refine lv_iload_n hx hb dX3_giveBack_76 rfl (lv_at hl 3 rfl) ?_
      refine k_m (wc := [wcS a cn, wcI G (a 6) 20 sp]) (w1 := [wcS a cn, wcI G (a 6) 20 (f_X2_put cn sp p1 p2)]) (wn := [wcA a ck, wcS a cn, wcI G (a 2) 6 sc, wcI G (a 3) 20 cl, wcI G (a 6) 20 (f_X2_put cn sp p1 p2), wcR a gp tg st sm, wcZ G (a 9) 4 ins]) (va_runV (As := [.int p1, .int p2]) (rest := []) ⟨hx, hb, hml, hown, hts⟩ (c_X2_put l G a s.heap.size cn sp p1 p2 hcn) (cwV 2 hts gX3_giveBack_X2_put rfl rfl rfl ⟨rfl, by decide +kernel, by decide +kernel, by decide +kernel⟩ ⟨Nat.le_of_ble_eq_true rfl, Nat.le_of_ble_eq_true rfl⟩) ⟨GP.blind, va_recv hE.1 hP (ci := 2) (q0 := 1) rfl rfl, GP.go (wc := [wcS a cn, wcI G (a 6) 20 sp]) hE hZ hP hD hS hA [1, 4] rfl (by decide) [.ref (a 1), .int p1, .int p2]⟩ rfl rfl hl.1 rfl (lv_room (Nat.le_of_ble_eq_true rfl)) dX3_giveBack_77 ⟨Nat.le_of_ble_eq_true rfl, Nat.le_of_ble_eq_true rfl⟩) hP hD hS hA [1, 4] rfl rfl rfl rfl (fun H locs hP hD hS => ?_)
      refine lv_aload_n hx hb dX3_giveBack_80 rfl (lv_at hl 0 rfl) ?_
      refine va_get (D := G.1) (ci := 3) (v := .ref (a 1)) (C := RX3) (T := TX3) (N := 4) hx hb hts iw_X3_giveBack_RX3 hown hE.1 hP 0 rfl rfl 0 (by decide) (hts (.fieldLink RX3 12 "Rackrail" "store" "LRackrail$Store;") (by decide +kernel)) (fun _ h9 => h9) rfl dX3_giveBack_81 ?_
      refine lv_iload_n hx hb dX3_giveBack_84 rfl (lv_at hl 2 rfl) ?_
      refine k_p (va_runV (As := [.int p1]) (rest := []) ⟨hx, hb, hml, hown, hts⟩ (c_X2_isWrong l G a H.size cn sc cl (f_X2_put cn sp p1 p2) p1 hcn) (cwV 1 hts gX3_giveBack_X2_isWrong rfl rfl rfl ⟨rfl, by decide +kernel, by decide +kernel, by decide +kernel⟩ ⟨Nat.le_of_ble_eq_true rfl, Nat.le_of_ble_eq_true rfl⟩) ⟨GP.blind, va_recv hE.1 hP (ci := 2) (q0 := 1) rfl rfl, GP.go (wc := [wcS a cn, wcI G (a 2) 6 sc, wcI G (a 3) 20 cl, wcI G (a 6) 20 (f_X2_put cn sp p1 p2)]) hE hZ hP hD hS hA [1, 2, 3, 4] rfl (by decide) [.ref (a 1), .int p1]⟩ rfl rfl hl.1 rfl (lv_room (Nat.le_of_ble_eq_true rfl)) dX3_giveBack_85 ⟨Nat.le_of_ble_eq_true rfl, Nat.le_of_ble_eq_true rfl⟩) ?_
      refine lv_if_ne (tgt := 95) hx hb dX3_giveBack_88 (by decide) (fun c_88 => ?_) (fun c_88 => ?_)
      · refine lv_iconst (v := 0) hx hb dX3_giveBack_95 (by decide) ?_
        have hq : f_X3_giveBack cn sc cl sp gp tg ins p0 p1 p2 = (0, f_X2_put cn sp p1 p2) := (by rw [f_X3_giveBack, if_pos c_2, if_pos c_7, if_pos c_12, if_pos c_17, if_pos c_22, if_pos c_36, if_pos c_58, if_neg c_88])
        exact W.zret (v := 0) hx hb hr rfl (fun t ht _ => ⟨by rw [hq], by rw [hq, ht]; exact hP, hS.F ht⟩) hS.2.2 dX3_giveBack_96
      · refine lv_iconst (v := 1) hx hb dX3_giveBack_91 (by decide) ?_
        refine lv_goto (tgt := 96) hx hb dX3_giveBack_92 (by decide) ?_
        have hq : f_X3_giveBack cn sc cl sp gp tg ins p0 p1 p2 = (1, f_X2_put cn sp p1 p2) := (by rw [f_X3_giveBack, if_pos c_2, if_pos c_7, if_pos c_12, if_pos c_17, if_pos c_22, if_pos c_36, if_pos c_58, if_pos c_88])
        exact W.zret (v := 1) hx hb hr rfl (fun t ht _ => ⟨by rw [hq], by rw [hq, ht]; exact hP, hS.F ht⟩) hS.2.2 dX3_giveBack_96
    · exact absurd (h0.symm.trans (by rw [k_X3_giveBack, if_pos c_2, if_pos c_7, if_pos c_12, if_pos c_17, if_pos c_22, if_pos c_36, if_neg c_58])) (by decide)
  · exact absurd (h0.symm.trans (by rw [k_X3_giveBack, if_pos c_2, if_pos c_7, if_pos c_12, if_pos c_17, if_pos c_22, if_neg c_36])) (by decide)

theorem gx3_X3_giveBack : ∀ w ∈ (vx_atS RX3 69 (exn 3) xnames).filter goodWord, w ∈ wsX3_giveBack := by decide +kernel
set_option maxHeartbeats 4000000 in
set_option maxRecDepth 100000 in
theorem cx_X3_giveBack (l : Launch) (hl9 : l.stackTraces = false) (G : GT) (a : Nat → Nat) (sz : Nat) (ck : Int32) (cn : Int32) (sc : Nat → Int32) (cl : Nat → Int32) (sp : Nat → Int32) (gp : Int32) (tg : Int32) (st : Int32) (sm : Int32) (ins : Nat → Int32) (p0 : Int32) (p1 : Int32) (p2 : Int32) (hcn : okN 20 cn) (h0 : ¬ k_X3_giveBack cn sp gp tg ins p0 p1 p2 = 0) : vx_Met l yX3_giveBack wsX3_giveBack ({ frames := 7, cells := 1, slots := 6, locals := 111 }) (GP G [.ref (a 0), .int p0, .int p1, .int p2] [wcA a ck, wcS a cn, wcI G (a 2) 6 sc, wcI G (a 3) 20 cl, wcI G (a 6) 20 sp, wcR a gp tg st sm, wcZ G (a 9) 4 ins] sz) NQ (XQ (k_X3_giveBack cn sp gp tg ins p0 p1 p2)) 1 6 (fun _ => False) := by
  refine bodyX (cc := cX3_giveBack) (maxL := 4) (ret := (some .boolean)) (by decide) rfl (Nat.le_of_ble_eq_true rfl) ?_
  intro p e s m below meth c ls C ht
  obtain ⟨hx, hb, hr, hts, hown, hlocks, hml, hsz, hP, hE, hD, hZ, hA, hS, hl⟩ := C
  subst hsz
  have hl : lv_has ls 4 [(0, .ref (a 0)), (1, .int p0), (2, .int p1), (3, .int p2)] := hl
  refine lv_aload_n hx hb dX3_giveBack_0 rfl (lv_at hl 0 rfl) ?_
  refine lv_iload_n hx hb dX3_giveBack_1 rfl (lv_at hl 1 rfl) ?_
  by_cases c_2 : k_X3_requirePerson p0 = 0
  · refine k_p (va_runV (As := [.int p0]) (rest := []) ⟨hx, hb, hml, hown, hts⟩ (c_X3_requirePerson l hl9 G a s.heap.size p0 c_2) (cwV 1 hts gX3_giveBack_X3_requirePerson rfl rfl rfl ⟨rfl, by decide +kernel, by decide +kernel, by decide +kernel⟩ ⟨Nat.le_of_ble_eq_true rfl, Nat.le_of_ble_eq_true rfl⟩) ⟨GP.blind, va_recv hE.1 hP (ci := 3) (q0 := 0) rfl rfl, GP.go (wc := []) hE hZ hP hD hS hA [] rfl (by decide) [.ref (a 0), .int p0]⟩ rfl rfl hl.1 rfl (lv_room (Nat.le_of_ble_eq_true rfl)) dX3_giveBack_2 ⟨Nat.le_of_ble_eq_true rfl, Nat.le_of_ble_eq_true rfl⟩) ?_
    refine lv_aload_n hx hb dX3_giveBack_5 rfl (lv_at hl 0 rfl) ?_
    refine lv_iload_n hx hb dX3_giveBack_6 rfl (lv_at hl 2 rfl) ?_
    by_cases c_7 : k_X3_requireBox cn p1 = 0
    · refine k_p (va_runV (As := [.int p1]) (rest := []) ⟨hx, hb, hml, hown, hts⟩ (c_X3_requireBox l hl9 G a s.heap.size ck cn p1 c_7) (cwV 1 hts gX3_giveBack_X3_requireBox rfl rfl rfl ⟨rfl, by decide +kernel, by decide +kernel, by decide +kernel⟩ ⟨Nat.le_of_ble_eq_true rfl, Nat.le_of_ble_eq_true rfl⟩) ⟨GP.blind, va_recv hE.1 hP (ci := 3) (q0 := 0) rfl rfl, GP.go (wc := [wcA a ck, wcS a cn]) hE hZ hP hD hS hA [0, 1] rfl (by decide) [.ref (a 0), .int p1]⟩ rfl rfl hl.1 rfl (lv_room (Nat.le_of_ble_eq_true rfl)) dX3_giveBack_7 ⟨Nat.le_of_ble_eq_true rfl, Nat.le_of_ble_eq_true rfl⟩) ?_
      refine lv_aload_n hx hb dX3_giveBack_10 rfl (lv_at hl 0 rfl) ?_
      refine lv_iload_n hx hb dX3_giveBack_11 rfl (lv_at hl 3 rfl) ?_
      by_cases c_12 : k_X3_requireSpot p2 = 0
      · refine k_p (va_runV (As := [.int p2]) (rest := []) ⟨hx, hb, hml, hown, hts⟩ (c_X3_requireSpot l hl9 G a s.heap.size p2 c_12) (cwV 1 hts gX3_giveBack_X3_requireSpot rfl rfl rfl ⟨rfl, by decide +kernel, by decide +kernel, by decide +kernel⟩ ⟨Nat.le_of_ble_eq_true rfl, Nat.le_of_ble_eq_true rfl⟩) ⟨GP.blind, va_recv hE.1 hP (ci := 3) (q0 := 0) rfl rfl, GP.go (wc := []) hE hZ hP hD hS hA [] rfl (by decide) [.ref (a 0), .int p2]⟩ rfl rfl hl.1 rfl (lv_room (Nat.le_of_ble_eq_true rfl)) dX3_giveBack_12 ⟨Nat.le_of_ble_eq_true rfl, Nat.le_of_ble_eq_true rfl⟩) ?_
        refine lv_aload_n hx hb dX3_giveBack_15 rfl (lv_at hl 0 rfl) ?_
        refine lv_iload_n hx hb dX3_giveBack_16 rfl (lv_at hl 1 rfl) ?_
        by_cases c_17 : k_X3_requireInside ins p0 = 0
        · refine k_p (va_runV (As := [.int p0]) (rest := []) ⟨hx, hb, hml, hown, hts⟩ (c_X3_requireInside l hl9 G a s.heap.size ck gp tg st sm ins p0 c_17) (cwV 1 hts gX3_giveBack_X3_requireInside rfl rfl rfl ⟨rfl, by decide +kernel, by decide +kernel, by decide +kernel⟩ ⟨Nat.le_of_ble_eq_true rfl, Nat.le_of_ble_eq_true rfl⟩) ⟨GP.blind, va_recv hE.1 hP (ci := 3) (q0 := 0) rfl rfl, GP.go (wc := [wcA a ck, wcR a gp tg st sm, wcZ G (a 9) 4 ins]) hE hZ hP hD hS hA [0, 5, 6] rfl (by decide) [.ref (a 0), .int p0]⟩ rfl rfl hl.1 rfl (lv_room (Nat.le_of_ble_eq_true rfl)) dX3_giveBack_17 ⟨Nat.le_of_ble_eq_true rfl, Nat.le_of_ble_eq_true rfl⟩) ?_
          refine lv_aload_n hx hb dX3_giveBack_20 rfl (lv_at hl 0 rfl) ?_
          refine lv_iload_n hx hb dX3_giveBack_21 rfl (lv_at hl 2 rfl) ?_
          by_cases c_22 : k_X3_requireOut cn sp p1 = 0
          · refine k_p (va_runV (As := [.int p1]) (rest := []) ⟨hx, hb, hml, hown, hts⟩ (c_X3_requireOut l hl9 G a s.heap.size ck cn sp p1 hcn c_22) (cwV 1 hts gX3_giveBack_X3_requireOut rfl rfl rfl ⟨rfl, by decide +kernel, by decide +kernel, by decide +kernel⟩ ⟨Nat.le_of_ble_eq_true rfl, Nat.le_of_ble_eq_true rfl⟩) ⟨GP.blind, va_recv hE.1 hP (ci := 3) (q0 := 0) rfl rfl, GP.go (wc := [wcA a ck, wcS a cn, wcI G (a 6) 20 sp]) hE hZ hP hD hS hA [0, 1, 4] rfl (by decide) [.ref (a 0), .int p1]⟩ rfl rfl hl.1 rfl (lv_room (Nat.le_of_ble_eq_true rfl)) dX3_giveBack_22 ⟨Nat.le_of_ble_eq_true rfl, Nat.le_of_ble_eq_true rfl⟩) ?_
            refine lv_iload_n hx hb dX3_giveBack_25 rfl (lv_at hl 3 rfl) ?_
            refine k_p (va_runS (As := [.int p2]) (rest := []) ⟨hx, hb, hml, hown, hts⟩ (c_X3_aisleAt l G s.heap.size p2) (va_cwS 1 hts gX3_giveBack_X3_aisleAt rfl rfl rfl ⟨by decide +kernel, by decide +kernel, by decide +kernel⟩ ⟨Nat.le_of_ble_eq_true rfl, Nat.le_of_ble_eq_true rfl⟩) ⟨GP.blind, GP.go (wc := []) hE hZ hP hD hS hA [] rfl (by decide) [.int p2]⟩ rfl rfl hl.1 rfl (lv_room (Nat.le_of_ble_eq_true rfl)) dX3_giveBack_26 ⟨Nat.le_of_ble_eq_true rfl, Nat.le_of_ble_eq_true rfl⟩) ?_
            refine lv_aload_n hx hb dX3_giveBack_29 rfl (lv_at hl 0 rfl) ?_
            refine va_get (D := G.1) (ci := 3) (v := .ref (a 7)) (C := RX3) (T := TX3) (N := 4) hx hb hts iw_X3_giveBack_RX3 hown hE.1 hP 0 rfl rfl 1 (by decide) (hts (.fieldLink RX3 19 "Rackrail" "rail" "LRackrail$Rail;") (by decide +kernel)) (fun _ h9 => h9) rfl dX3_giveBack_30 ?_
            refine k_p (va_runV (As := []) (rest := [.int (f_X3_aisleAt p2)]) ⟨hx, hb, hml, hown, hts⟩ (c_X1_openAisle l G a s.heap.size gp tg st sm) (cwV 0 hts gX3_giveBack_X1_openAisle rfl rfl rfl ⟨rfl, by decide +kernel, by decide +kernel, by decide +kernel⟩ ⟨Nat.le_of_ble_eq_true rfl, Nat.le_of_ble_eq_true rfl⟩) ⟨GP.blind, va_recv hE.1 hP (ci := 1) (q0 := 5) rfl rfl, GP.go (wc := [wcR a gp tg st sm]) hE hZ hP hD hS hA [5] rfl (by decide) [.ref (a 7)]⟩ rfl rfl hl.1 rfl (lv_room (Nat.le_of_ble_eq_true rfl)) dX3_giveBack_33 ⟨Nat.le_of_ble_eq_true rfl, Nat.le_of_ble_eq_true rfl⟩) ?_
            refine lv_icmp_eq (tgt := 49) hx hb dX3_giveBack_36 (by decide) (fun c_36 => ?_) (fun c_36 => ?_)
            · refine lv_aload_n hx hb dX3_giveBack_49 rfl (lv_at hl 0 rfl) ?_
              refine va_get (D := G.1) (ci := 3) (v := .ref (a 1)) (C := RX3) (T := TX3) (N := 4) hx hb hts iw_X3_giveBack_RX3 hown hE.1 hP 0 rfl rfl 0 (by decide) (hts (.fieldLink RX3 12 "Rackrail" "store" "LRackrail$Store;") (by decide +kernel)) (fun _ h9 => h9) rfl dX3_giveBack_50 ?_
              refine lv_iload_n hx hb dX3_giveBack_53 rfl (lv_at hl 3 rfl) ?_
              refine k_p (va_runV (As := [.int p2]) (rest := []) ⟨hx, hb, hml, hown, hts⟩ (c_X2_boxIn l G a s.heap.size cn sp p2 hcn) (cwV 1 hts gX3_giveBack_X2_boxIn rfl rfl rfl ⟨rfl, by decide +kernel, by decide +kernel, by decide +kernel⟩ ⟨Nat.le_of_ble_eq_true rfl, Nat.le_of_ble_eq_true rfl⟩) ⟨GP.blind, va_recv hE.1 hP (ci := 2) (q0 := 1) rfl rfl, GP.go (wc := [wcS a cn, wcI G (a 6) 20 sp]) hE hZ hP hD hS hA [1, 4] rfl (by decide) [.ref (a 1), .int p2]⟩ rfl rfl hl.1 rfl (lv_room (Nat.le_of_ble_eq_true rfl)) dX3_giveBack_54 ⟨Nat.le_of_ble_eq_true rfl, Nat.le_of_ble_eq_true rfl⟩) ?_
              refine lv_iconst (v := (-1)) hx hb dX3_giveBack_57 (by decide) ?_
              refine lv_icmp_eq (tgt := 71) hx hb dX3_giveBack_58 (by decide) (fun c_58 => ?_) (fun c_58 => ?_)
              · refine lv_aload_n hx hb dX3_giveBack_71 rfl (lv_at hl 0 rfl) ?_
                refine va_get (D := G.1) (ci := 3) (v := .ref (a 1)) (C := RX3) (T := TX3) (N := 4) hx hb hts iw_X3_giveBack_RX3 hown hE.1 hP 0 rfl rfl 0 (by decide) (hts (.fieldLink RX3 12 "Rackrail" "store" "LRackrail$Store;") (by decide +kernel)) (fun _ h9 => h9) rfl dX3_giveBack_72 ?_
                refine lv_iload_n hx hb dX3_giveBack_75 rfl (lv_at hl 2 rfl) ?_
                refine lv_iload_n hx hb dX3_giveBack_76 rfl (lv_at hl 3 rfl) ?_
                exact absurd (by rw [k_X3_giveBack, if_pos c_2, if_pos c_7, if_pos c_12, if_pos c_17, if_pos c_22, if_pos c_36, if_pos c_58]) h0
              · exact k_thr (k := 3) (ik := 65) (is := 207) (ic := 69) (by decide) thr_f3 thr_o3 thr_b3 (tx := "a box lies there") (by decide) hx hb hl9 hown (hts (.classLink RX3 65 (exn 3)) (by decide +kernel)) (hts (.initialized (exn 3)) (by decide +kernel)) (fun w h => hts w (gx3_X3_giveBack w h)) hE hZ hS (hl.1.trans hml.symm) ht hlocks dX3_giveBack_61 dX3_giveBack_64 dX3_giveBack_65 dX3_giveBack_67 dX3_giveBack_70 (Nat.le_of_ble_eq_true rfl) (Nat.le_of_ble_eq_true rfl) (Nat.le_of_ble_eq_true rfl) (Nat.le_of_ble_eq_true rfl) (by rw [k_X3_giveBack, if_pos c_2, if_pos c_7, if_pos c_12, if_pos c_17, if_pos c_22, if_pos c_36, if_neg c_58])
            · exact k_thr (k := 3) (ik := 65) (is := 205) (ic := 69) (by decide) thr_f3 thr_o3 thr_b3 (tx := "the spot is not reached") (by decide) hx hb hl9 hown (hts (.classLink RX3 65 (exn 3)) (by decide +kernel)) (hts (.initialized (exn 3)) (by decide +kernel)) (fun w h => hts w (gx3_X3_giveBack w h)) hE hZ hS (hl.1.trans hml.symm) ht hlocks dX3_giveBack_39 dX3_giveBack_42 dX3_giveBack_43 dX3_giveBack_45 dX3_giveBack_48 (Nat.le_of_ble_eq_true rfl) (Nat.le_of_ble_eq_true rfl) (Nat.le_of_ble_eq_true rfl) (Nat.le_of_ble_eq_true rfl) (by rw [k_X3_giveBack, if_pos c_2, if_pos c_7, if_pos c_12, if_pos c_17, if_pos c_22, if_neg c_36])
          · exact k_xo ht hlocks (by decide) (by decide) rfl rfl (vx_runV (As := [.int p1]) (rest := []) ⟨hx, hb, hml, hown, hts⟩ (cx_X3_requireOut l hl9 G a s.heap.size ck cn sp p1 hcn c_22) (cwV 1 hts gX3_giveBack_X3_requireOut rfl rfl rfl ⟨rfl, by decide +kernel, by decide +kernel, by decide +kernel⟩ ⟨Nat.le_of_ble_eq_true rfl, Nat.le_of_ble_eq_true rfl⟩) ⟨GP.blind, va_recv hE.1 hP (ci := 3) (q0 := 0) rfl rfl, GP.go (wc := [wcA a ck, wcS a cn, wcI G (a 6) 20 sp]) hE hZ hP hD hS hA [0, 1, 4] rfl (by decide) [.ref (a 0), .int p1]⟩ rfl rfl hl.1 rfl (lv_room (Nat.le_of_ble_eq_true rfl)) dX3_giveBack_22 ⟨Nat.le_of_ble_eq_true rfl, Nat.le_of_ble_eq_true rfl⟩) (by rw [k_X3_giveBack, if_pos c_2, if_pos c_7, if_pos c_12, if_pos c_17, if_neg c_22])
        · exact k_xo ht hlocks (by decide) (by decide) rfl rfl (vx_runV (As := [.int p0]) (rest := []) ⟨hx, hb, hml, hown, hts⟩ (cx_X3_requireInside l hl9 G a s.heap.size ck gp tg st sm ins p0 c_17) (cwV 1 hts gX3_giveBack_X3_requireInside rfl rfl rfl ⟨rfl, by decide +kernel, by decide +kernel, by decide +kernel⟩ ⟨Nat.le_of_ble_eq_true rfl, Nat.le_of_ble_eq_true rfl⟩) ⟨GP.blind, va_recv hE.1 hP (ci := 3) (q0 := 0) rfl rfl, GP.go (wc := [wcA a ck, wcR a gp tg st sm, wcZ G (a 9) 4 ins]) hE hZ hP hD hS hA [0, 5, 6] rfl (by decide) [.ref (a 0), .int p0]⟩ rfl rfl hl.1 rfl (lv_room (Nat.le_of_ble_eq_true rfl)) dX3_giveBack_17 ⟨Nat.le_of_ble_eq_true rfl, Nat.le_of_ble_eq_true rfl⟩) (by rw [k_X3_giveBack, if_pos c_2, if_pos c_7, if_pos c_12, if_neg c_17])
      · exact k_xo ht hlocks (by decide) (by decide) rfl rfl (vx_runV (As := [.int p2]) (rest := []) ⟨hx, hb, hml, hown, hts⟩ (cx_X3_requireSpot l hl9 G a s.heap.size p2 c_12) (cwV 1 hts gX3_giveBack_X3_requireSpot rfl rfl rfl ⟨rfl, by decide +kernel, by decide +kernel, by decide +kernel⟩ ⟨Nat.le_of_ble_eq_true rfl, Nat.le_of_ble_eq_true rfl⟩) ⟨GP.blind, va_recv hE.1 hP (ci := 3) (q0 := 0) rfl rfl, GP.go (wc := []) hE hZ hP hD hS hA [] rfl (by decide) [.ref (a 0), .int p2]⟩ rfl rfl hl.1 rfl (lv_room (Nat.le_of_ble_eq_true rfl)) dX3_giveBack_12 ⟨Nat.le_of_ble_eq_true rfl, Nat.le_of_ble_eq_true rfl⟩) (by rw [k_X3_giveBack, if_pos c_2, if_pos c_7, if_neg c_12])
    · exact k_xo ht hlocks (by decide) (by decide) rfl rfl (vx_runV (As := [.int p1]) (rest := []) ⟨hx, hb, hml, hown, hts⟩ (cx_X3_requireBox l hl9 G a s.heap.size ck cn p1 c_7) (cwV 1 hts gX3_giveBack_X3_requireBox rfl rfl rfl ⟨rfl, by decide +kernel, by decide +kernel, by decide +kernel⟩ ⟨Nat.le_of_ble_eq_true rfl, Nat.le_of_ble_eq_true rfl⟩) ⟨GP.blind, va_recv hE.1 hP (ci := 3) (q0 := 0) rfl rfl, GP.go (wc := [wcA a ck, wcS a cn]) hE hZ hP hD hS hA [0, 1] rfl (by decide) [.ref (a 0), .int p1]⟩ rfl rfl hl.1 rfl (lv_room (Nat.le_of_ble_eq_true rfl)) dX3_giveBack_7 ⟨Nat.le_of_ble_eq_true rfl, Nat.le_of_ble_eq_true rfl⟩) (by rw [k_X3_giveBack, if_pos c_2, if_neg c_7])
  · exact k_xo ht hlocks (by decide) (by decide) rfl rfl (vx_runV (As := [.int p0]) (rest := []) ⟨hx, hb, hml, hown, hts⟩ (cx_X3_requirePerson l hl9 G a s.heap.size p0 c_2) (cwV 1 hts gX3_giveBack_X3_requirePerson rfl rfl rfl ⟨rfl, by decide +kernel, by decide +kernel, by decide +kernel⟩ ⟨Nat.le_of_ble_eq_true rfl, Nat.le_of_ble_eq_true rfl⟩) ⟨GP.blind, va_recv hE.1 hP (ci := 3) (q0 := 0) rfl rfl, GP.go (wc := []) hE hZ hP hD hS hA [] rfl (by decide) [.ref (a 0), .int p0]⟩ rfl rfl hl.1 rfl (lv_room (Nat.le_of_ble_eq_true rfl)) dX3_giveBack_2 ⟨Nat.le_of_ble_eq_true rfl, Nat.le_of_ble_eq_true rfl⟩) (by rw [k_X3_giveBack, if_neg c_2])

/-! X3_waiting -/
def f_X3_waiting (oc : Int32) (dn : Nat → Int32) : Int32 :=
  f_X0_countOpen oc dn
theorem iw_X3_waiting_RX3 : ∀ w ∈ u_ws RX3 TX3 4, w ∈ wsX3_waiting := by decide +kernel
set_option maxHeartbeats 4000000 in
set_option maxRecDepth 100000 in
theorem c_X3_waiting (l : Launch) (G : GT) (a : Nat → Nat) (sz : Nat) (ck : Int32) (oc : Int32) (lt : Int32) (dn : Nat → Int32) (hoc : okN 30 oc) : Met l yX3_waiting wsX3_waiting ({ frames := 1, cells := 0, slots := 0, locals := 22 }) (GP G [.ref (a 0)] [wcA a ck, wcO a oc lt, wcZ G (a 14) 30 dn] sz) (PQo (.returned (some (.int (f_X3_waiting oc dn))))) 0 0 (fun _ => False) := by
  refine bodyM (cc := cX3_waiting) (maxL := 1) (ret := (some .int)) (by decide) rfl (Nat.le_of_ble_eq_true rfl) ?_
  intro p e s m below meth c ls C
  obtain ⟨hx, hb, hr, hts, hown, hlocks, hml, hsz, hP, hE, hD, hZ, hA, hS, hl⟩ := C
  subst hsz
  have hl : lv_has ls 1 [(0, .ref (a 0))] := hl
  refine lv_aload_n hx hb dX3_waiting_0 rfl (lv_at hl 0 rfl) ?_
  refine va_get (D := G.1) (ci := 3) (v := .ref (a 11)) (C := RX3) (T := TX3) (N := 4) hx hb hts iw_X3_waiting_RX3 hown hE.1 hP 0 rfl rfl 2 (by decide) (hts (.fieldLink RX3 26 "Rackrail" "orders" "LRackrail$Orders;") (by decide +kernel)) (fun _ h9 => h9) rfl dX3_waiting_1 ?_
  refine k_p (va_runV (As := []) (rest := []) ⟨hx, hb, hml, hown, hts⟩ (c_X0_countOpen l G a s.heap.size oc lt dn hoc) (cwV 0 hts gX3_waiting_X0_countOpen rfl rfl rfl ⟨rfl, by decide +kernel, by decide +kernel, by decide +kernel⟩ ⟨Nat.le_of_ble_eq_true rfl, Nat.le_of_ble_eq_true rfl⟩) ⟨GP.blind, va_recv hE.1 hP (ci := 0) (q0 := 1) rfl rfl, GP.go (wc := [wcO a oc lt, wcZ G (a 14) 30 dn]) hE hZ hP hD hS hA [1, 2] rfl (by decide) [.ref (a 11)]⟩ rfl rfl hl.1 rfl (lv_room (Nat.le_of_ble_eq_true rfl)) dX3_waiting_4 ⟨Nat.le_of_ble_eq_true rfl, Nat.le_of_ble_eq_true rfl⟩) ?_
  have hq : f_X3_waiting oc dn = (f_X0_countOpen oc dn) := (by rw [f_X3_waiting])
  exact W.iret (v := f_X0_countOpen oc dn) hx hb hr (fun t ht _ => ⟨by rw [hq], ht⟩) (fun _ h => nomatch h) dX3_waiting_7

/-! X3_late -/
def f_X3_late (lt : Int32) : Int32 :=
  f_X0_countLate lt
theorem iw_X3_late_RX3 : ∀ w ∈ u_ws RX3 TX3 4, w ∈ wsX3_late := by decide +kernel
set_option maxHeartbeats 4000000 in
set_option maxRecDepth 100000 in
theorem c_X3_late (l : Launch) (G : GT) (a : Nat → Nat) (sz : Nat) (ck : Int32) (oc : Int32) (lt : Int32) : Met l yX3_late wsX3_late ({ frames := 1, cells := 0, slots := 0, locals := 20 }) (GP G [.ref (a 0)] [wcA a ck, wcO a oc lt] sz) (PQo (.returned (some (.int (f_X3_late lt))))) 0 0 (fun _ => False) := by
  refine bodyM (cc := cX3_late) (maxL := 1) (ret := (some .int)) (by decide) rfl (Nat.le_of_ble_eq_true rfl) ?_
  intro p e s m below meth c ls C
  obtain ⟨hx, hb, hr, hts, hown, hlocks, hml, hsz, hP, hE, hD, hZ, hA, hS, hl⟩ := C
  subst hsz
  have hl : lv_has ls 1 [(0, .ref (a 0))] := hl
  refine lv_aload_n hx hb dX3_late_0 rfl (lv_at hl 0 rfl) ?_
  refine va_get (D := G.1) (ci := 3) (v := .ref (a 11)) (C := RX3) (T := TX3) (N := 4) hx hb hts iw_X3_late_RX3 hown hE.1 hP 0 rfl rfl 2 (by decide) (hts (.fieldLink RX3 26 "Rackrail" "orders" "LRackrail$Orders;") (by decide +kernel)) (fun _ h9 => h9) rfl dX3_late_1 ?_
  refine k_p (va_runV (As := []) (rest := []) ⟨hx, hb, hml, hown, hts⟩ (c_X0_countLate l G a s.heap.size oc lt) (cwV 0 hts gX3_late_X0_countLate rfl rfl rfl ⟨rfl, by decide +kernel, by decide +kernel, by decide +kernel⟩ ⟨Nat.le_of_ble_eq_true rfl, Nat.le_of_ble_eq_true rfl⟩) ⟨GP.blind, va_recv hE.1 hP (ci := 0) (q0 := 1) rfl rfl, GP.go (wc := [wcO a oc lt]) hE hZ hP hD hS hA [1] rfl (by decide) [.ref (a 11)]⟩ rfl rfl hl.1 rfl (lv_room (Nat.le_of_ble_eq_true rfl)) dX3_late_4 ⟨Nat.le_of_ble_eq_true rfl, Nat.le_of_ble_eq_true rfl⟩) ?_
  have hq : f_X3_late lt = (f_X0_countLate lt) := (by rw [f_X3_late])
  exact W.iret (v := f_X0_countLate lt) hx hb hr (fun t ht _ => ⟨by rw [hq], ht⟩) (fun _ h => nomatch h) dX3_late_7

