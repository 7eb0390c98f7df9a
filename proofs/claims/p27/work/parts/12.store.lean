/-! X3_isBelow -/
def f_X3_isBelow (p0 : Int32) (p1 : Int32) : Int32 :=
  if p0 < 0 then 0
    else if p1 ≤ p0 then 0
    else 1
theorem b_X3_isBelow (p0 : Int32) (p1 : Int32) : f_X3_isBelow p0 p1 = 0 ∨ f_X3_isBelow p0 p1 = 1 := by
  rw [f_X3_isBelow]
  (repeat' split) <;> first | exact Or.inl rfl | exact Or.inr rfl
theorem in_below {x y : Int32} {N : Nat} (hy : y = nI N) (hN : N < 2 ^ 31) (h : ¬ f_X3_isBelow x y = 0) : vp_in x N := by
  subst hy
  refine in_of hN (fun z => h (by rw [f_X3_isBelow, if_pos z])) (fun z => h ?_)
  by_cases z0 : x < 0
  · rw [f_X3_isBelow, if_pos z0]
  · rw [f_X3_isBelow, if_neg z0, if_pos z]
theorem in_mo {x y : Int32} {N : Nat} (hy : okN N y) (h : ¬ f_X3_isBelow x y = 0) (hN : N < 2 ^ 31 := by decide) : vp_in x N := by
  obtain ⟨n, hn, e⟩ := hy
  exact in_mono (in_below e (by omega) h) hn hN
set_option maxHeartbeats 4000000 in
set_option maxRecDepth 100000 in
theorem c_X3_isBelow (l : Launch) (G : GT) (sz : Nat) (p0 : Int32) (p1 : Int32) : Met l yX3_isBelow wsX3_isBelow ({ frames := 0, cells := 0, slots := 0, locals := 0 }) (GP G [.int p0, .int p1] [] sz) (PQo (.returned (some (.int (f_X3_isBelow p0 p1))))) 0 0 (fun _ => False) := by
  refine bodyM (cc := cX3_isBelow) (maxL := 2) (ret := (some .boolean)) (by decide) rfl (Nat.le_of_ble_eq_true rfl) ?_
  intro p e s m below meth c ls C
  obtain ⟨hx, hb, hr, hts, hown, hlocks, hml, hsz, hP, hE, hD, hA, hS, hl⟩ := C
  subst hsz
  have hl : lv_has ls 2 [(0, .int p0), (1, .int p1)] := hl
  refine lv_iload_n hx hb dX3_isBelow_0 rfl (lv_at hl 0 rfl) ?_
  refine lv_if_lt (tgt := 13) hx hb dX3_isBelow_1 (by decide) (fun c_1 => ?_) (fun c_1 => ?_)
  · refine lv_iconst (v := 0) hx hb dX3_isBelow_13 (by decide) ?_
    have hq : f_X3_isBelow p0 p1 = 0 := (by rw [f_X3_isBelow, if_pos c_1])
    exact W.zret (v := 0) hx hb hr rfl (fun t ht _ => ⟨by rw [hq], ht⟩) (fun _ h => nomatch h) dX3_isBelow_14
  · refine lv_iload_n hx hb dX3_isBelow_4 rfl (lv_at hl 0 rfl) ?_
    refine lv_iload_n hx hb dX3_isBelow_5 rfl (lv_at hl 1 rfl) ?_
    refine lv_icmp_ge (tgt := 13) hx hb dX3_isBelow_6 (by decide) (fun c_6 => ?_) (fun c_6 => ?_)
    · refine lv_iconst (v := 0) hx hb dX3_isBelow_13 (by decide) ?_
      have hq : f_X3_isBelow p0 p1 = 0 := (by rw [f_X3_isBelow, if_neg c_1, if_pos c_6])
      exact W.zret (v := 0) hx hb hr rfl (fun t ht _ => ⟨by rw [hq], ht⟩) (fun _ h => nomatch h) dX3_isBelow_14
    · refine lv_iconst (v := 1) hx hb dX3_isBelow_9 (by decide) ?_
      refine lv_goto (tgt := 14) hx hb dX3_isBelow_10 (by decide) ?_
      have hq : f_X3_isBelow p0 p1 = 1 := (by rw [f_X3_isBelow, if_neg c_1, if_neg c_6])
      exact W.zret (v := 1) hx hb hr rfl (fun t ht _ => ⟨by rw [hq], ht⟩) (fun _ h => nomatch h) dX3_isBelow_14

/-! X3_spotAt -/
def f_X3_spotAt (p0 : Int32) (p1 : Int32) (p2 : Int32) : Int32 :=
  ((100 * p0) + (10 * p1)) + p2
set_option maxHeartbeats 4000000 in
set_option maxRecDepth 100000 in
theorem c_X3_spotAt (l : Launch) (G : GT) (sz : Nat) (p0 : Int32) (p1 : Int32) (p2 : Int32) : Met l yX3_spotAt wsX3_spotAt ({ frames := 0, cells := 0, slots := 0, locals := 0 }) (GP G [.int p0, .int p1, .int p2] [] sz) (PQo (.returned (some (.int (f_X3_spotAt p0 p1 p2))))) 0 0 (fun _ => False) := by
  refine bodyM (cc := cX3_spotAt) (maxL := 3) (ret := (some .int)) (by decide) rfl (Nat.le_of_ble_eq_true rfl) ?_
  intro p e s m below meth c ls C
  obtain ⟨hx, hb, hr, hts, hown, hlocks, hml, hsz, hP, hE, hD, hA, hS, hl⟩ := C
  subst hsz
  have hl : lv_has ls 3 [(0, .int p0), (1, .int p1), (2, .int p2)] := hl
  refine lv_bipush (v := 100) hx hb dX3_spotAt_0 (by decide) ?_
  refine lv_iload_n hx hb dX3_spotAt_2 rfl (lv_at hl 0 rfl) ?_
  refine lv_imul hx hb dX3_spotAt_3 ?_
  refine lv_bipush (v := 10) hx hb dX3_spotAt_4 (by decide) ?_
  refine lv_iload_n hx hb dX3_spotAt_6 rfl (lv_at hl 1 rfl) ?_
  refine lv_imul hx hb dX3_spotAt_7 ?_
  refine lv_iadd hx hb dX3_spotAt_8 ?_
  refine lv_iload_n hx hb dX3_spotAt_9 rfl (lv_at hl 2 rfl) ?_
  refine lv_iadd hx hb dX3_spotAt_10 ?_
  have hq : f_X3_spotAt p0 p1 p2 = (((100 * p0) + (10 * p1)) + p2) := (by rw [f_X3_spotAt])
  exact W.iret (v := ((100 * p0) + (10 * p1)) + p2) hx hb hr (fun t ht _ => ⟨by rw [hq], ht⟩) (fun _ h => nomatch h) dX3_spotAt_11

/-! X3_shelfAt -/
def f_X3_shelfAt (p0 : Int32) : Int32 :=
  p0 / 100
set_option maxHeartbeats 4000000 in
set_option maxRecDepth 100000 in
theorem c_X3_shelfAt (l : Launch) (G : GT) (sz : Nat) (p0 : Int32) : Met l yX3_shelfAt wsX3_shelfAt ({ frames := 0, cells := 0, slots := 0, locals := 0 }) (GP G [.int p0] [] sz) (PQo (.returned (some (.int (f_X3_shelfAt p0))))) 0 0 (fun _ => False) := by
  refine bodyM (cc := cX3_shelfAt) (maxL := 1) (ret := (some .int)) (by decide) rfl (Nat.le_of_ble_eq_true rfl) ?_
  intro p e s m below meth c ls C
  obtain ⟨hx, hb, hr, hts, hown, hlocks, hml, hsz, hP, hE, hD, hA, hS, hl⟩ := C
  subst hsz
  have hl : lv_has ls 1 [(0, .int p0)] := hl
  refine lv_iload_n hx hb dX3_shelfAt_0 rfl (lv_at hl 0 rfl) ?_
  refine lv_bipush (v := 100) hx hb dX3_shelfAt_1 (by decide) ?_
  refine lv_idiv hx hb dX3_shelfAt_3 (by decide) ?_
  have hq : f_X3_shelfAt p0 = (p0 / 100) := (by rw [f_X3_shelfAt])
  exact W.iret (v := p0 / 100) hx hb hr (fun t ht _ => ⟨by rw [hq], ht⟩) (fun _ h => nomatch h) dX3_shelfAt_4

/-! X3_sideAt -/
def f_X3_sideAt (p0 : Int32) : Int32 :=
  (p0 / 10) - (p0 / 10) / 10 * 10
set_option maxHeartbeats 4000000 in
set_option maxRecDepth 100000 in
theorem c_X3_sideAt (l : Launch) (G : GT) (sz : Nat) (p0 : Int32) : Met l yX3_sideAt wsX3_sideAt ({ frames := 0, cells := 0, slots := 0, locals := 0 }) (GP G [.int p0] [] sz) (PQo (.returned (some (.int (f_X3_sideAt p0))))) 0 0 (fun _ => False) := by
  refine bodyM (cc := cX3_sideAt) (maxL := 1) (ret := (some .int)) (by decide) rfl (Nat.le_of_ble_eq_true rfl) ?_
  intro p e s m below meth c ls C
  obtain ⟨hx, hb, hr, hts, hown, hlocks, hml, hsz, hP, hE, hD, hA, hS, hl⟩ := C
  subst hsz
  have hl : lv_has ls 1 [(0, .int p0)] := hl
  refine lv_iload_n hx hb dX3_sideAt_0 rfl (lv_at hl 0 rfl) ?_
  refine lv_bipush (v := 10) hx hb dX3_sideAt_1 (by decide) ?_
  refine lv_idiv hx hb dX3_sideAt_3 (by decide) ?_
  refine lv_bipush (v := 10) hx hb dX3_sideAt_4 (by decide) ?_
  refine lv_irem hx hb dX3_sideAt_6 (by decide) ?_
  have hq : f_X3_sideAt p0 = ((p0 / 10) - (p0 / 10) / 10 * 10) := (by rw [f_X3_sideAt])
  exact W.iret (v := (p0 / 10) - (p0 / 10) / 10 * 10) hx hb hr (fun t ht _ => ⟨by rw [hq], ht⟩) (fun _ h => nomatch h) dX3_sideAt_7

/-! X3_placeAt -/
def f_X3_placeAt (p0 : Int32) : Int32 :=
  p0 - p0 / 10 * 10
set_option maxHeartbeats 4000000 in
set_option maxRecDepth 100000 in
theorem c_X3_placeAt (l : Launch) (G : GT) (sz : Nat) (p0 : Int32) : Met l yX3_placeAt wsX3_placeAt ({ frames := 0, cells := 0, slots := 0, locals := 0 }) (GP G [.int p0] [] sz) (PQo (.returned (some (.int (f_X3_placeAt p0))))) 0 0 (fun _ => False) := by
  refine bodyM (cc := cX3_placeAt) (maxL := 1) (ret := (some .int)) (by decide) rfl (Nat.le_of_ble_eq_true rfl) ?_
  intro p e s m below meth c ls C
  obtain ⟨hx, hb, hr, hts, hown, hlocks, hml, hsz, hP, hE, hD, hA, hS, hl⟩ := C
  subst hsz
  have hl : lv_has ls 1 [(0, .int p0)] := hl
  refine lv_iload_n hx hb dX3_placeAt_0 rfl (lv_at hl 0 rfl) ?_
  refine lv_bipush (v := 10) hx hb dX3_placeAt_1 (by decide) ?_
  refine lv_irem hx hb dX3_placeAt_3 (by decide) ?_
  have hq : f_X3_placeAt p0 = (p0 - p0 / 10 * 10) := (by rw [f_X3_placeAt])
  exact W.iret (v := p0 - p0 / 10 * 10) hx hb hr (fun t ht _ => ⟨by rw [hq], ht⟩) (fun _ h => nomatch h) dX3_placeAt_4

/-! X3_isSpot -/
def f_X3_isSpot (p0 : Int32) : Int32 :=
  if p0 < 0 then 0
    else if 6 ≤ (f_X3_shelfAt p0) then 0
    else if 2 ≤ (f_X3_sideAt p0) then 0
    else if 3 ≤ (f_X3_placeAt p0) then 0
    else 1
theorem b_X3_isSpot (p0 : Int32) : f_X3_isSpot p0 = 0 ∨ f_X3_isSpot p0 = 1 := by
  rw [f_X3_isSpot]
  (repeat' split) <;> first | exact Or.inl rfl | exact Or.inr rfl
set_option maxHeartbeats 4000000 in
set_option maxRecDepth 100000 in
theorem c_X3_isSpot (l : Launch) (G : GT) (sz : Nat) (p0 : Int32) : Met l yX3_isSpot wsX3_isSpot ({ frames := 1, cells := 0, slots := 0, locals := 20 }) (GP G [.int p0] [] sz) (PQo (.returned (some (.int (f_X3_isSpot p0))))) 0 0 (fun _ => False) := by
  refine bodyM (cc := cX3_isSpot) (maxL := 1) (ret := (some .boolean)) (by decide) rfl (Nat.le_of_ble_eq_true rfl) ?_
  intro p e s m below meth c ls C
  obtain ⟨hx, hb, hr, hts, hown, hlocks, hml, hsz, hP, hE, hD, hA, hS, hl⟩ := C
  subst hsz
  have hl : lv_has ls 1 [(0, .int p0)] := hl
  refine lv_iload_n hx hb dX3_isSpot_0 rfl (lv_at hl 0 rfl) ?_
  refine lv_if_lt (tgt := 33) hx hb dX3_isSpot_1 (by decide) (fun c_1 => ?_) (fun c_1 => ?_)
  · refine lv_iconst (v := 0) hx hb dX3_isSpot_33 (by decide) ?_
    have hq : f_X3_isSpot p0 = 0 := (by rw [f_X3_isSpot, if_pos c_1])
    exact W.zret (v := 0) hx hb hr rfl (fun t ht _ => ⟨by rw [hq], ht⟩) (fun _ h => nomatch h) dX3_isSpot_34
  · refine lv_iload_n hx hb dX3_isSpot_4 rfl (lv_at hl 0 rfl) ?_
    refine k_p (va_runS (As := [.int p0]) (rest := []) ⟨hx, hb, hml, hown, hts⟩ (c_X3_shelfAt l G s.heap.size p0) (va_cwS 1 hts gX3_isSpot_X3_shelfAt rfl rfl rfl ⟨by decide +kernel, by decide +kernel, by decide +kernel⟩ ⟨Nat.le_of_ble_eq_true rfl, Nat.le_of_ble_eq_true rfl⟩) ⟨GP.blind, GP.go (wc := []) hE hP hD hS hA [] rfl (by decide) [.int p0]⟩ rfl rfl hl.1 rfl (lv_room (Nat.le_of_ble_eq_true rfl)) dX3_isSpot_5 ⟨Nat.le_of_ble_eq_true rfl, Nat.le_of_ble_eq_true rfl⟩) ?_
    refine lv_bipush (v := 6) hx hb dX3_isSpot_8 (by decide) ?_
    refine lv_icmp_ge (tgt := 33) hx hb dX3_isSpot_10 (by decide) (fun c_10 => ?_) (fun c_10 => ?_)
    · refine lv_iconst (v := 0) hx hb dX3_isSpot_33 (by decide) ?_
      have hq : f_X3_isSpot p0 = 0 := (by rw [f_X3_isSpot, if_neg c_1, if_pos c_10])
      exact W.zret (v := 0) hx hb hr rfl (fun t ht _ => ⟨by rw [hq], ht⟩) (fun _ h => nomatch h) dX3_isSpot_34
    · refine lv_iload_n hx hb dX3_isSpot_13 rfl (lv_at hl 0 rfl) ?_
      refine k_p (va_runS (As := [.int p0]) (rest := []) ⟨hx, hb, hml, hown, hts⟩ (c_X3_sideAt l G s.heap.size p0) (va_cwS 1 hts gX3_isSpot_X3_sideAt rfl rfl rfl ⟨by decide +kernel, by decide +kernel, by decide +kernel⟩ ⟨Nat.le_of_ble_eq_true rfl, Nat.le_of_ble_eq_true rfl⟩) ⟨GP.blind, GP.go (wc := []) hE hP hD hS hA [] rfl (by decide) [.int p0]⟩ rfl rfl hl.1 rfl (lv_room (Nat.le_of_ble_eq_true rfl)) dX3_isSpot_14 ⟨Nat.le_of_ble_eq_true rfl, Nat.le_of_ble_eq_true rfl⟩) ?_
      refine lv_iconst (v := 2) hx hb dX3_isSpot_17 (by decide) ?_
      refine lv_icmp_ge (tgt := 33) hx hb dX3_isSpot_18 (by decide) (fun c_18 => ?_) (fun c_18 => ?_)
      · refine lv_iconst (v := 0) hx hb dX3_isSpot_33 (by decide) ?_
        have hq : f_X3_isSpot p0 = 0 := (by rw [f_X3_isSpot, if_neg c_1, if_neg c_10, if_pos c_18])
        exact W.zret (v := 0) hx hb hr rfl (fun t ht _ => ⟨by rw [hq], ht⟩) (fun _ h => nomatch h) dX3_isSpot_34
      · refine lv_iload_n hx hb dX3_isSpot_21 rfl (lv_at hl 0 rfl) ?_
        refine k_p (va_runS (As := [.int p0]) (rest := []) ⟨hx, hb, hml, hown, hts⟩ (c_X3_placeAt l G s.heap.size p0) (va_cwS 1 hts gX3_isSpot_X3_placeAt rfl rfl rfl ⟨by decide +kernel, by decide +kernel, by decide +kernel⟩ ⟨Nat.le_of_ble_eq_true rfl, Nat.le_of_ble_eq_true rfl⟩) ⟨GP.blind, GP.go (wc := []) hE hP hD hS hA [] rfl (by decide) [.int p0]⟩ rfl rfl hl.1 rfl (lv_room (Nat.le_of_ble_eq_true rfl)) dX3_isSpot_22 ⟨Nat.le_of_ble_eq_true rfl, Nat.le_of_ble_eq_true rfl⟩) ?_
        refine lv_iconst (v := 3) hx hb dX3_isSpot_25 (by decide) ?_
        refine lv_icmp_ge (tgt := 33) hx hb dX3_isSpot_26 (by decide) (fun c_26 => ?_) (fun c_26 => ?_)
        · refine lv_iconst (v := 0) hx hb dX3_isSpot_33 (by decide) ?_
          have hq : f_X3_isSpot p0 = 0 := (by rw [f_X3_isSpot, if_neg c_1, if_neg c_10, if_neg c_18, if_pos c_26])
          exact W.zret (v := 0) hx hb hr rfl (fun t ht _ => ⟨by rw [hq], ht⟩) (fun _ h => nomatch h) dX3_isSpot_34
        · refine lv_iconst (v := 1) hx hb dX3_isSpot_29 (by decide) ?_
          refine lv_goto (tgt := 34) hx hb dX3_isSpot_30 (by decide) ?_
          have hq : f_X3_isSpot p0 = 1 := (by rw [f_X3_isSpot, if_neg c_1, if_neg c_10, if_neg c_18, if_neg c_26])
          exact W.zret (v := 1) hx hb hr rfl (fun t ht _ => ⟨by rw [hq], ht⟩) (fun _ h => nomatch h) dX3_isSpot_34

/-! X3_aisleAt -/
def f_X3_aisleAt (p0 : Int32) : Int32 :=
  (f_X3_shelfAt p0) + (f_X3_sideAt p0)
set_option maxHeartbeats 4000000 in
set_option maxRecDepth 100000 in
theorem c_X3_aisleAt (l : Launch) (G : GT) (sz : Nat) (p0 : Int32) : Met l yX3_aisleAt wsX3_aisleAt ({ frames := 1, cells := 0, slots := 0, locals := 20 }) (GP G [.int p0] [] sz) (PQo (.returned (some (.int (f_X3_aisleAt p0))))) 0 0 (fun _ => False) := by
  refine bodyM (cc := cX3_aisleAt) (maxL := 1) (ret := (some .int)) (by decide) rfl (Nat.le_of_ble_eq_true rfl) ?_
  intro p e s m below meth c ls C
  obtain ⟨hx, hb, hr, hts, hown, hlocks, hml, hsz, hP, hE, hD, hA, hS, hl⟩ := C
  subst hsz
  have hl : lv_has ls 1 [(0, .int p0)] := hl
  refine lv_iload_n hx hb dX3_aisleAt_0 rfl (lv_at hl 0 rfl) ?_
  refine k_p (va_runS (As := [.int p0]) (rest := []) ⟨hx, hb, hml, hown, hts⟩ (c_X3_shelfAt l G s.heap.size p0) (va_cwS 1 hts gX3_aisleAt_X3_shelfAt rfl rfl rfl ⟨by decide +kernel, by decide +kernel, by decide +kernel⟩ ⟨Nat.le_of_ble_eq_true rfl, Nat.le_of_ble_eq_true rfl⟩) ⟨GP.blind, GP.go (wc := []) hE hP hD hS hA [] rfl (by decide) [.int p0]⟩ rfl rfl hl.1 rfl (lv_room (Nat.le_of_ble_eq_true rfl)) dX3_aisleAt_1 ⟨Nat.le_of_ble_eq_true rfl, Nat.le_of_ble_eq_true rfl⟩) ?_
  refine lv_iload_n hx hb dX3_aisleAt_4 rfl (lv_at hl 0 rfl) ?_
  refine k_p (va_runS (As := [.int p0]) (rest := [.int (f_X3_shelfAt p0)]) ⟨hx, hb, hml, hown, hts⟩ (c_X3_sideAt l G s.heap.size p0) (va_cwS 1 hts gX3_aisleAt_X3_sideAt rfl rfl rfl ⟨by decide +kernel, by decide +kernel, by decide +kernel⟩ ⟨Nat.le_of_ble_eq_true rfl, Nat.le_of_ble_eq_true rfl⟩) ⟨GP.blind, GP.go (wc := []) hE hP hD hS hA [] rfl (by decide) [.int p0]⟩ rfl rfl hl.1 rfl (lv_room (Nat.le_of_ble_eq_true rfl)) dX3_aisleAt_5 ⟨Nat.le_of_ble_eq_true rfl, Nat.le_of_ble_eq_true rfl⟩) ?_
  refine lv_iadd hx hb dX3_aisleAt_8 ?_
  have hq : f_X3_aisleAt p0 = ((f_X3_shelfAt p0) + (f_X3_sideAt p0)) := (by rw [f_X3_aisleAt])
  exact W.iret (v := (f_X3_shelfAt p0) + (f_X3_sideAt p0)) hx hb hr (fun t ht _ => ⟨by rw [hq], ht⟩) (fun _ h => nomatch h) dX3_aisleAt_9

/-! X2_has -/
def f_X2_has (cn : Int32) (p0 : Int32) : Int32 :=
  f_X3_isBelow p0 cn
theorem b_X2_has (cn : Int32) (p0 : Int32) : f_X2_has cn p0 = 0 ∨ f_X2_has cn p0 = 1 := by
  rw [f_X2_has]
  (repeat' split) <;> first | exact Or.inl rfl | exact Or.inr rfl | exact b_X3_isBelow _ _
theorem in_has {x cn : Int32} (hcn : okN 20 cn) (h : ¬ f_X2_has cn x = 0) : vp_in x 20 := in_mo hcn (by rw [f_X2_has] at h; exact h)
theorem iw_X2_has_RX2 : ∀ w ∈ u_ws RX2 TX2 6, w ∈ wsX2_has := by decide +kernel
set_option maxHeartbeats 4000000 in
set_option maxRecDepth 100000 in
theorem c_X2_has (l : Launch) (G : GT) (a : Nat → Nat) (sz : Nat) (cn : Int32) (p0 : Int32) : Met l yX2_has wsX2_has ({ frames := 1, cells := 0, slots := 0, locals := 21 }) (GP G [.ref (a 1), .int p0] [wcS a cn] sz) (PQo (.returned (some (.int (f_X2_has cn p0))))) 0 0 (fun _ => False) := by
  refine bodyM (cc := cX2_has) (maxL := 2) (ret := (some .boolean)) (by decide) rfl (Nat.le_of_ble_eq_true rfl) ?_
  intro p e s m below meth c ls C
  obtain ⟨hx, hb, hr, hts, hown, hlocks, hml, hsz, hP, hE, hD, hA, hS, hl⟩ := C
  subst hsz
  have hl : lv_has ls 2 [(0, .ref (a 1)), (1, .int p0)] := hl
  refine lv_iload_n hx hb dX2_has_0 rfl (lv_at hl 1 rfl) ?_
  refine lv_aload_n hx hb dX2_has_1 rfl (lv_at hl 0 rfl) ?_
  refine va_get (D := G.1) (ci := 2) (v := .int cn) (C := RX2) (T := TX2) (N := 6) hx hb hts iw_X2_has_RX2 hown hE.1 hP 0 rfl rfl 5 (by decide) (hts (.fieldLink RX2 27 "Rackrail$Store" "count" "I") (by decide +kernel)) (fun _ h9 => h9) rfl dX2_has_2 ?_
  refine k_p (va_runSN (As := [.int p0, .int cn]) (rest := []) ⟨hx, hb, hml, hown, hts⟩ (c_X3_isBelow l G s.heap.size p0 cn) ⟨va_cnB (host := "Rackrail") 2 hts gX2_has_X3_isBelow_n31 rfl rfl rfl (hE.2.1 (RX2, 31, yX3_isBelow) (by decide)) (hts (.initialized RX3) (by decide +kernel)) ⟨by decide +kernel, by decide +kernel, by decide +kernel⟩ ⟨Nat.le_of_ble_eq_true rfl, Nat.le_of_ble_eq_true rfl⟩, hts (.static yX3_isBelow) (by decide +kernel), trivial⟩ ⟨GP.blind, GP.go (wc := []) hE hP hD hS hA [] rfl (by decide) [.int p0, .int cn]⟩ rfl rfl hl.1 rfl (lv_room (Nat.le_of_ble_eq_true rfl)) dX2_has_5 ⟨Nat.le_of_ble_eq_true rfl, Nat.le_of_ble_eq_true rfl⟩) ?_
  have hq : f_X2_has cn p0 = (f_X3_isBelow p0 cn) := (by rw [f_X2_has])
  exact W.zret (v := f_X3_isBelow p0 cn) hx hb hr (bool_nar (b_X3_isBelow _ _)) (fun t ht _ => ⟨by rw [hq], ht⟩) (fun _ h => nomatch h) dX2_has_8

/-! X2_isFull -/
def f_X2_isFull (cn : Int32) : Int32 :=
  if cn < 20 then 0
    else 1
theorem b_X2_isFull (cn : Int32) : f_X2_isFull cn = 0 ∨ f_X2_isFull cn = 1 := by
  rw [f_X2_isFull]
  (repeat' split) <;> first | exact Or.inl rfl | exact Or.inr rfl
theorem in_fullS {cn : Int32} (hcn : okN 20 cn) (h : f_X2_isFull cn = 0) : vp_in cn 20 := by
  obtain ⟨n, hn, e⟩ := hcn
  refine in_of (by decide) (by rw [e]; exact nI_pos (by omega)) (fun z => ?_)
  have h1 : f_X2_isFull cn = 1 := by
    rw [f_X2_isFull, if_neg]
    intro z2
    rw [e] at z z2
    have h2 := (nI_leI (by decide) (by omega)).mp z
    exact absurd z2 (nI_nlt h2 (by omega))
  rw [h1] at h
  exact absurd h (by decide)
theorem iw_X2_isFull_RX2 : ∀ w ∈ u_ws RX2 TX2 6, w ∈ wsX2_isFull := by decide +kernel
set_option maxHeartbeats 4000000 in
set_option maxRecDepth 100000 in
theorem c_X2_isFull (l : Launch) (G : GT) (a : Nat → Nat) (sz : Nat) (cn : Int32) : Met l yX2_isFull wsX2_isFull ({ frames := 0, cells := 0, slots := 0, locals := 0 }) (GP G [.ref (a 1)] [wcS a cn] sz) (PQo (.returned (some (.int (f_X2_isFull cn))))) 0 0 (fun _ => False) := by
  refine bodyM (cc := cX2_isFull) (maxL := 1) (ret := (some .boolean)) (by decide) rfl (Nat.le_of_ble_eq_true rfl) ?_
  intro p e s m below meth c ls C
  obtain ⟨hx, hb, hr, hts, hown, hlocks, hml, hsz, hP, hE, hD, hA, hS, hl⟩ := C
  subst hsz
  have hl : lv_has ls 1 [(0, .ref (a 1))] := hl
  refine lv_aload_n hx hb dX2_isFull_0 rfl (lv_at hl 0 rfl) ?_
  refine va_get (D := G.1) (ci := 2) (v := .int cn) (C := RX2) (T := TX2) (N := 6) hx hb hts iw_X2_isFull_RX2 hown hE.1 hP 0 rfl rfl 5 (by decide) (hts (.fieldLink RX2 27 "Rackrail$Store" "count" "I") (by decide +kernel)) (fun _ h9 => h9) rfl dX2_isFull_1 ?_
  refine lv_bipush (v := 20) hx hb dX2_isFull_4 (by decide) ?_
  refine lv_icmp_lt (tgt := 13) hx hb dX2_isFull_6 (by decide) (fun c_6 => ?_) (fun c_6 => ?_)
  · refine lv_iconst (v := 0) hx hb dX2_isFull_13 (by decide) ?_
    have hq : f_X2_isFull cn = 0 := (by rw [f_X2_isFull, if_pos c_6])
    exact W.zret (v := 0) hx hb hr rfl (fun t ht _ => ⟨by rw [hq], ht⟩) (fun _ h => nomatch h) dX2_isFull_14
  · refine lv_iconst (v := 1) hx hb dX2_isFull_9 (by decide) ?_
    refine lv_goto (tgt := 14) hx hb dX2_isFull_10 (by decide) ?_
    have hq : f_X2_isFull cn = 1 := (by rw [f_X2_isFull, if_neg c_6])
    exact W.zret (v := 1) hx hb hr rfl (fun t ht _ => ⟨by rw [hq], ht⟩) (fun _ h => nomatch h) dX2_isFull_14

/-! X2_climateOf -/
def f_X2_climateOf (sc : Nat → Int32) (p0 : Int32) : Int32 :=
  if (f_X3_isBelow p0 6) = 0 then (-1)
    else sc p0.toNatClampNeg
theorem iw_X2_climateOf_RX2 : ∀ w ∈ u_ws RX2 TX2 6, w ∈ wsX2_climateOf := by decide +kernel
set_option maxHeartbeats 4000000 in
set_option maxRecDepth 100000 in
theorem c_X2_climateOf (l : Launch) (G : GT) (a : Nat → Nat) (sz : Nat) (cn : Int32) (sc : Nat → Int32) (p0 : Int32) : Met l yX2_climateOf wsX2_climateOf ({ frames := 1, cells := 0, slots := 0, locals := 21 }) (GP G [.ref (a 1), .int p0] [wcS a cn, wcI G (a 2) 6 sc] sz) (PQo (.returned (some (.int (f_X2_climateOf sc p0))))) 0 0 (fun _ => False) := by
  refine bodyM (cc := cX2_climateOf) (maxL := 2) (ret := (some .int)) (by decide) rfl (Nat.le_of_ble_eq_true rfl) ?_
  intro p e s m below meth c ls C
  obtain ⟨hx, hb, hr, hts, hown, hlocks, hml, hsz, hP, hE, hD, hA, hS, hl⟩ := C
  subst hsz
  have hl : lv_has ls 2 [(0, .ref (a 1)), (1, .int p0)] := hl
  refine lv_iload_n hx hb dX2_climateOf_0 rfl (lv_at hl 1 rfl) ?_
  refine lv_bipush (v := 6) hx hb dX2_climateOf_1 (by decide) ?_
  refine k_p (va_runSN (As := [.int p0, .int 6]) (rest := []) ⟨hx, hb, hml, hown, hts⟩ (c_X3_isBelow l G s.heap.size p0 6) ⟨va_cnB (host := "Rackrail") 2 hts gX2_climateOf_X3_isBelow_n31 rfl rfl rfl (hE.2.1 (RX2, 31, yX3_isBelow) (by decide)) (hts (.initialized RX3) (by decide +kernel)) ⟨by decide +kernel, by decide +kernel, by decide +kernel⟩ ⟨Nat.le_of_ble_eq_true rfl, Nat.le_of_ble_eq_true rfl⟩, hts (.static yX3_isBelow) (by decide +kernel), trivial⟩ ⟨GP.blind, GP.go (wc := []) hE hP hD hS hA [] rfl (by decide) [.int p0, .int 6]⟩ rfl rfl hl.1 rfl (lv_room (Nat.le_of_ble_eq_true rfl)) dX2_climateOf_3 ⟨Nat.le_of_ble_eq_true rfl, Nat.le_of_ble_eq_true rfl⟩) ?_
  refine lv_if_eq (tgt := 18) hx hb dX2_climateOf_6 (by decide) (fun c_6 => ?_) (fun c_6 => ?_)
  · refine lv_iconst (v := (-1)) hx hb dX2_climateOf_18 (by decide) ?_
    have hq : f_X2_climateOf sc p0 = (-1) := (by rw [f_X2_climateOf, if_pos c_6])
    exact W.iret (v := (-1)) hx hb hr (fun t ht _ => ⟨by rw [hq], ht⟩) (fun _ h => nomatch h) dX2_climateOf_19
  · refine lv_aload_n hx hb dX2_climateOf_9 rfl (lv_at hl 0 rfl) ?_
    refine va_get (D := G.1) (ci := 2) (v := .ref (a 2)) (C := RX2) (T := TX2) (N := 6) hx hb hts iw_X2_climateOf_RX2 hown hE.1 hP 0 rfl rfl 0 (by decide) (hts (.fieldLink RX2 9 "Rackrail$Store" "shelfClimates" "[I") (by decide +kernel)) (fun _ h9 => h9) rfl dX2_climateOf_10 ?_
    refine lv_iload_n hx hb dX2_climateOf_13 rfl (lv_at hl 1 rfl) ?_
    refine va_iald hx hb hE.1 hP 1 0 rfl rfl (in_below rfl (by decide) c_6) dX2_climateOf_14 ?_
    refine lv_goto (tgt := 19) hx hb dX2_climateOf_15 (by decide) ?_
    have hq : f_X2_climateOf sc p0 = (sc p0.toNatClampNeg) := (by rw [f_X2_climateOf, if_neg c_6])
    exact W.iret (v := sc p0.toNatClampNeg) hx hb hr (fun t ht _ => ⟨by rw [hq], ht⟩) (fun _ h => nomatch h) dX2_climateOf_19

/-! X2_changeClimate -/
def f_X2_changeClimate (sc : Nat → Int32) (p0 : Int32) (p1 : Int32) : (Nat → Int32) :=
  if (f_X3_isBelow p0 6) = 0 then sc
    else upd sc p0.toNatClampNeg p1
theorem iw_X2_changeClimate_RX2 : ∀ w ∈ u_ws RX2 TX2 6, w ∈ wsX2_changeClimate := by decide +kernel
set_option maxHeartbeats 4000000 in
set_option maxRecDepth 100000 in
theorem c_X2_changeClimate (l : Launch) (G : GT) (a : Nat → Nat) (sz : Nat) (cn : Int32) (sc : Nat → Int32) (p0 : Int32) (p1 : Int32) : Met l yX2_changeClimate wsX2_changeClimate ({ frames := 1, cells := 0, slots := 0, locals := 21 }) (GP G [.ref (a 1), .int p0, .int p1] [wcS a cn, wcI G (a 2) 6 sc] sz) (MQo G (.returned none) [wcS a cn, wcI G (a 2) 6 (f_X2_changeClimate sc p0 p1)] (va_A [wcS a cn, wcI G (a 2) 6 sc] sz)) 0 0 (va_A [wcS a cn, wcI G (a 2) 6 sc] sz) := by
  refine bodyM (cc := cX2_changeClimate) (maxL := 3) (ret := none) (by decide) rfl (Nat.le_of_ble_eq_true rfl) ?_
  intro p e s m below meth c ls C
  obtain ⟨hx, hb, hr, hts, hown, hlocks, hml, hsz, hP, hE, hD, hA, hS, hl⟩ := C
  subst hsz
  have hl : lv_has ls 3 [(0, .ref (a 1)), (1, .int p0), (2, .int p1)] := hl
  refine lv_iload_n hx hb dX2_changeClimate_0 rfl (lv_at hl 1 rfl) ?_
  refine lv_bipush (v := 6) hx hb dX2_changeClimate_1 (by decide) ?_
  refine k_p (va_runSN (As := [.int p0, .int 6]) (rest := []) ⟨hx, hb, hml, hown, hts⟩ (c_X3_isBelow l G s.heap.size p0 6) ⟨va_cnB (host := "Rackrail") 2 hts gX2_changeClimate_X3_isBelow_n31 rfl rfl rfl (hE.2.1 (RX2, 31, yX3_isBelow) (by decide)) (hts (.initialized RX3) (by decide +kernel)) ⟨by decide +kernel, by decide +kernel, by decide +kernel⟩ ⟨Nat.le_of_ble_eq_true rfl, Nat.le_of_ble_eq_true rfl⟩, hts (.static yX3_isBelow) (by decide +kernel), trivial⟩ ⟨GP.blind, GP.go (wc := []) hE hP hD hS hA [] rfl (by decide) [.int p0, .int 6]⟩ rfl rfl hl.1 rfl (lv_room (Nat.le_of_ble_eq_true rfl)) dX2_changeClimate_3 ⟨Nat.le_of_ble_eq_true rfl, Nat.le_of_ble_eq_true rfl⟩) ?_
  refine lv_if_eq (tgt := 16) hx hb dX2_changeClimate_6 (by decide) (fun c_6 => ?_) (fun c_6 => ?_)
  · have hq : f_X2_changeClimate sc p0 p1 = sc := (by rw [f_X2_changeClimate, if_pos c_6])
    exact W.vret hx hb hr (fun t ht _ => ⟨rfl, by rw [hq, ht]; exact hP, hS.F ht⟩) hS.2.2 dX2_changeClimate_16
  · refine lv_aload_n hx hb dX2_changeClimate_9 rfl (lv_at hl 0 rfl) ?_
    refine va_get (D := G.1) (ci := 2) (v := .ref (a 2)) (C := RX2) (T := TX2) (N := 6) hx hb hts iw_X2_changeClimate_RX2 hown hE.1 hP 0 rfl rfl 0 (by decide) (hts (.fieldLink RX2 9 "Rackrail$Store" "shelfClimates" "[I") (by decide +kernel)) (fun _ h9 => h9) rfl dX2_changeClimate_10 ?_
    refine lv_iload_n hx hb dX2_changeClimate_13 rfl (lv_at hl 1 rfl) ?_
    refine lv_iload_n hx hb dX2_changeClimate_14 rfl (lv_at hl 2 rfl) ?_
    refine va_iast hx hb hE.1 hP hD hS 1 0 rfl rfl (in_below rfl (by decide) c_6) dX2_changeClimate_15 (fun H locs hP hD hS => ?_)
    have hP : va_P G.1 vwCl [wcS a cn, wcI G (a 2) 6 (upd sc p0.toNatClampNeg p1)] H := hP
    have hD : va_D _ [wcS a cn, wcI G (a 2) 6 (upd sc p0.toNatClampNeg p1)] := hD
    have hq : f_X2_changeClimate sc p0 p1 = upd sc p0.toNatClampNeg p1 := (by rw [f_X2_changeClimate, if_neg c_6])
    exact W.vret hx hb hr (fun t ht _ => ⟨rfl, by rw [hq, ht]; exact hP, hS.F ht⟩) hS.2.2 dX2_changeClimate_16

/-! X2_enter -/
def f_X2_enter (cn : Int32) (cl : Nat → Int32) (wt : Nat → Int32) (kn : Nat → Int32) (sp : Nat → Int32) (p0 : Int32) (p1 : Int32) (p2 : Int32) : Int32 × Int32 × (Nat → Int32) × (Nat → Int32) × (Nat → Int32) × (Nat → Int32) :=
  if (f_X2_isFull cn) = 0 then (cn, cn + 1, upd cl cn.toNatClampNeg p0, upd wt cn.toNatClampNeg p1, upd kn cn.toNatClampNeg p2, upd sp cn.toNatClampNeg (-1))
    else ((-1), cn, cl, wt, kn, sp)
theorem iw_X2_enter_RX2 : ∀ w ∈ u_ws RX2 TX2 6, w ∈ wsX2_enter := by decide +kernel
set_option maxHeartbeats 4000000 in
set_option maxRecDepth 100000 in
theorem c_X2_enter (l : Launch) (G : GT) (a : Nat → Nat) (sz : Nat) (cn : Int32) (cl : Nat → Int32) (wt : Nat → Int32) (kn : Nat → Int32) (sp : Nat → Int32) (p0 : Int32) (p1 : Int32) (p2 : Int32) (hcn : okN 20 cn) : Met l yX2_enter wsX2_enter ({ frames := 1, cells := 0, slots := 0, locals := 20 }) (GP G [.ref (a 1), .int p0, .int p1, .int p2] [wcS a cn, wcI G (a 3) 20 cl, wcI G (a 4) 20 wt, wcI G (a 5) 20 kn, wcI G (a 6) 20 sp] sz) (MQo G (.returned (some (.int ((f_X2_enter cn cl wt kn sp p0 p1 p2).1)))) [wcS a ((f_X2_enter cn cl wt kn sp p0 p1 p2).2.1), wcI G (a 3) 20 ((f_X2_enter cn cl wt kn sp p0 p1 p2).2.2.1), wcI G (a 4) 20 ((f_X2_enter cn cl wt kn sp p0 p1 p2).2.2.2.1), wcI G (a 5) 20 ((f_X2_enter cn cl wt kn sp p0 p1 p2).2.2.2.2.1), wcI G (a 6) 20 ((f_X2_enter cn cl wt kn sp p0 p1 p2).2.2.2.2.2)] (va_A [wcS a cn, wcI G (a 3) 20 cl, wcI G (a 4) 20 wt, wcI G (a 5) 20 kn, wcI G (a 6) 20 sp] sz)) 0 0 (va_A [wcS a cn, wcI G (a 3) 20 cl, wcI G (a 4) 20 wt, wcI G (a 5) 20 kn, wcI G (a 6) 20 sp] sz) := by
  refine bodyM (cc := cX2_enter) (maxL := 5) (ret := (some .int)) (by decide) rfl (Nat.le_of_ble_eq_true rfl) ?_
  intro p e s m below meth c ls C
  obtain ⟨hx, hb, hr, hts, hown, hlocks, hml, hsz, hP, hE, hD, hA, hS, hl⟩ := C
  subst hsz
  have hl : lv_has ls 5 [(0, .ref (a 1)), (1, .int p0), (2, .int p1), (3, .int p2)] := hl
  refine lv_aload_n hx hb dX2_enter_0 rfl (lv_at hl 0 rfl) ?_
  refine k_p (va_runV (As := []) (rest := []) ⟨hx, hb, hml, hown, hts⟩ (c_X2_isFull l G a s.heap.size cn) (cwV 0 hts gX2_enter_X2_isFull rfl rfl rfl ⟨rfl, by decide +kernel, by decide +kernel, by decide +kernel⟩ ⟨Nat.le_of_ble_eq_true rfl, Nat.le_of_ble_eq_true rfl⟩) ⟨GP.blind, va_recv hE.1 hP (ci := 2) (q0 := 0) rfl rfl, GP.go (wc := [wcS a cn]) hE hP hD hS hA [0] rfl (by decide) [.ref (a 1)]⟩ rfl rfl hl.1 rfl (lv_room (Nat.le_of_ble_eq_true rfl)) dX2_enter_1 ⟨Nat.le_of_ble_eq_true rfl, Nat.le_of_ble_eq_true rfl⟩) ?_
  refine lv_if_eq (tgt := 9) hx hb dX2_enter_4 (by decide) (fun c_4 => ?_) (fun c_4 => ?_)
  · refine lv_aload_n hx hb dX2_enter_9 rfl (lv_at hl 0 rfl) ?_
    refine va_get (D := G.1) (ci := 2) (v := .int cn) (C := RX2) (T := TX2) (N := 6) hx hb hts iw_X2_enter_RX2 hown hE.1 hP 0 rfl rfl 5 (by decide) (hts (.fieldLink RX2 27 "Rackrail$Store" "count" "I") (by decide +kernel)) (fun _ h9 => h9) rfl dX2_enter_10 ?_
    refine lv_istore (lv' := [(4, .int cn), (0, .ref (a 1)), (1, .int p0), (2, .int p1), (3, .int p2)]) hx hb dX2_enter_13 hl (by decide) rfl (fun ls hl => ?_)
    refine lv_aload_n hx hb dX2_enter_15 rfl (lv_at hl 1 rfl) ?_
    refine va_get (D := G.1) (ci := 2) (v := .ref (a 3)) (C := RX2) (T := TX2) (N := 6) hx hb hts iw_X2_enter_RX2 hown hE.1 hP 0 rfl rfl 1 (by decide) (hts (.fieldLink RX2 15 "Rackrail$Store" "climates" "[I") (by decide +kernel)) (fun _ h9 => h9) rfl dX2_enter_16 ?_
    refine lv_iload hx hb dX2_enter_19 (lv_at hl 0 rfl) ?_
    refine lv_iload_n hx hb dX2_enter_21 rfl (lv_at hl 2 rfl) ?_
    refine va_iast hx hb hE.1 hP hD hS 1 0 rfl rfl (in_fullS hcn c_4) dX2_enter_22 (fun H locs hP hD hS => ?_)
    have hP : va_P G.1 vwCl [wcS a cn, wcI G (a 3) 20 (upd cl cn.toNatClampNeg p0), wcI G (a 4) 20 wt, wcI G (a 5) 20 kn, wcI G (a 6) 20 sp] H := hP
    have hD : va_D _ [wcS a cn, wcI G (a 3) 20 (upd cl cn.toNatClampNeg p0), wcI G (a 4) 20 wt, wcI G (a 5) 20 kn, wcI G (a 6) 20 sp] := hD
    refine lv_aload_n hx hb dX2_enter_23 rfl (lv_at hl 1 rfl) ?_
    refine va_get (D := G.1) (ci := 2) (v := .ref (a 4)) (C := RX2) (T := TX2) (N := 6) hx hb hts iw_X2_enter_RX2 hown hE.1 hP 0 rfl rfl 2 (by decide) (hts (.fieldLink RX2 18 "Rackrail$Store" "weights" "[I") (by decide +kernel)) (fun _ h9 => h9) rfl dX2_enter_24 ?_
    refine lv_iload hx hb dX2_enter_27 (lv_at hl 0 rfl) ?_
    refine lv_iload_n hx hb dX2_enter_29 rfl (lv_at hl 3 rfl) ?_
    refine va_iast hx hb hE.1 hP hD hS 2 0 rfl rfl (in_fullS hcn c_4) dX2_enter_30 (fun H locs hP hD hS => ?_)
    have hP : va_P G.1 vwCl [wcS a cn, wcI G (a 3) 20 (upd cl cn.toNatClampNeg p0), wcI G (a 4) 20 (upd wt cn.toNatClampNeg p1), wcI G (a 5) 20 kn, wcI G (a 6) 20 sp] H := hP
    have hD : va_D _ [wcS a cn, wcI G (a 3) 20 (upd cl cn.toNatClampNeg p0), wcI G (a 4) 20 (upd wt cn.toNatClampNeg p1), wcI G (a 5) 20 kn, wcI G (a 6) 20 sp] := hD
    refine lv_aload_n hx hb dX2_enter_31 rfl (lv_at hl 1 rfl) ?_
    refine va_get (D := G.1) (ci := 2) (v := .ref (a 5)) (C := RX2) (T := TX2) (N := 6) hx hb hts iw_X2_enter_RX2 hown hE.1 hP 0 rfl rfl 3 (by decide) (hts (.fieldLink RX2 21 "Rackrail$Store" "kins" "[I") (by decide +kernel)) (fun _ h9 => h9) rfl dX2_enter_32 ?_
    refine lv_iload hx hb dX2_enter_35 (lv_at hl 0 rfl) ?_
    refine lv_iload_n hx hb dX2_enter_37 rfl (lv_at hl 4 rfl) ?_
    refine va_iast hx hb hE.1 hP hD hS 3 0 rfl rfl (in_fullS hcn c_4) dX2_enter_38 (fun H locs hP hD hS => ?_)
    have hP : va_P G.1 vwCl [wcS a cn, wcI G (a 3) 20 (upd cl cn.toNatClampNeg p0), wcI G (a 4) 20 (upd wt cn.toNatClampNeg p1), wcI G (a 5) 20 (upd kn cn.toNatClampNeg p2), wcI G (a 6) 20 sp] H := hP
    have hD : va_D _ [wcS a cn, wcI G (a 3) 20 (upd cl cn.toNatClampNeg p0), wcI G (a 4) 20 (upd wt cn.toNatClampNeg p1), wcI G (a 5) 20 (upd kn cn.toNatClampNeg p2), wcI G (a 6) 20 sp] := hD
    refine lv_aload_n hx hb dX2_enter_39 rfl (lv_at hl 1 rfl) ?_
    refine va_get (D := G.1) (ci := 2) (v := .ref (a 6)) (C := RX2) (T := TX2) (N := 6) hx hb hts iw_X2_enter_RX2 hown hE.1 hP 0 rfl rfl 4 (by decide) (hts (.fieldLink RX2 24 "Rackrail$Store" "spots" "[I") (by decide +kernel)) (fun _ h9 => h9) rfl dX2_enter_40 ?_
    refine lv_iload hx hb dX2_enter_43 (lv_at hl 0 rfl) ?_
    refine lv_iconst (v := (-1)) hx hb dX2_enter_45 (by decide) ?_
    refine va_iast hx hb hE.1 hP hD hS 4 0 rfl rfl (in_fullS hcn c_4) dX2_enter_46 (fun H locs hP hD hS => ?_)
    have hP : va_P G.1 vwCl [wcS a cn, wcI G (a 3) 20 (upd cl cn.toNatClampNeg p0), wcI G (a 4) 20 (upd wt cn.toNatClampNeg p1), wcI G (a 5) 20 (upd kn cn.toNatClampNeg p2), wcI G (a 6) 20 (upd sp cn.toNatClampNeg (-1))] H := hP
    have hD : va_D _ [wcS a cn, wcI G (a 3) 20 (upd cl cn.toNatClampNeg p0), wcI G (a 4) 20 (upd wt cn.toNatClampNeg p1), wcI G (a 5) 20 (upd kn cn.toNatClampNeg p2), wcI G (a 6) 20 (upd sp cn.toNatClampNeg (-1))] := hD
    refine lv_aload_n hx hb dX2_enter_47 rfl (lv_at hl 1 rfl) ?_
    refine lv_dup hx hb dX2_enter_48 rfl ?_
    refine va_get (D := G.1) (ci := 2) (v := .int cn) (C := RX2) (T := TX2) (N := 6) hx hb hts iw_X2_enter_RX2 hown hE.1 hP 0 rfl rfl 5 (by decide) (hts (.fieldLink RX2 27 "Rackrail$Store" "count" "I") (by decide +kernel)) (fun _ h9 => h9) rfl dX2_enter_49 ?_
    refine lv_iconst (v := 1) hx hb dX2_enter_52 (by decide) ?_
    refine lv_iadd hx hb dX2_enter_53 ?_
    refine va_put (D := G.1) (ci := 2) (v := .int (cn + 1)) (ty := .int) (C := RX2) (T := TX2) (N := 6) hx hb hts iw_X2_enter_RX2 tyX2 tyX2_ok nmX2 hown hE.1 hP hD hS 0 rfl rfl 5 (by decide) (hts (.fieldLink RX2 27 "Rackrail$Store" "count" "I") (by decide +kernel)) (fun _ h9 => h9) rfl (by decide +kernel) rfl rfl (Nat.le_of_ble_eq_true rfl) dX2_enter_54 (fun H locs hP hD hS => ?_)
    have hP : va_P G.1 vwCl [wcS a (cn + 1), wcI G (a 3) 20 (upd cl cn.toNatClampNeg p0), wcI G (a 4) 20 (upd wt cn.toNatClampNeg p1), wcI G (a 5) 20 (upd kn cn.toNatClampNeg p2), wcI G (a 6) 20 (upd sp cn.toNatClampNeg (-1))] H := hP
    have hD : va_D _ [wcS a (cn + 1), wcI G (a 3) 20 (upd cl cn.toNatClampNeg p0), wcI G (a 4) 20 (upd wt cn.toNatClampNeg p1), wcI G (a 5) 20 (upd kn cn.toNatClampNeg p2), wcI G (a 6) 20 (upd sp cn.toNatClampNeg (-1))] := hD
    refine lv_iload hx hb dX2_enter_57 (lv_at hl 0 rfl) ?_
    have hq : f_X2_enter cn cl wt kn sp p0 p1 p2 = (cn, cn + 1, upd cl cn.toNatClampNeg p0, upd wt cn.toNatClampNeg p1, upd kn cn.toNatClampNeg p2, upd sp cn.toNatClampNeg (-1)) := (by rw [f_X2_enter, if_pos c_4])
    exact W.iret (v := cn) hx hb hr (fun t ht _ => ⟨by rw [hq], by rw [hq, ht]; exact hP, hS.F ht⟩) hS.2.2 dX2_enter_59
  · refine lv_iconst (v := (-1)) hx hb dX2_enter_7 (by decide) ?_
    have hq : f_X2_enter cn cl wt kn sp p0 p1 p2 = ((-1), cn, cl, wt, kn, sp) := (by rw [f_X2_enter, if_neg c_4])
    exact W.iret (v := (-1)) hx hb hr (fun t ht _ => ⟨by rw [hq], by rw [hq, ht]; exact hP, hS.F ht⟩) hS.2.2 dX2_enter_8

/-! X2_whereIs -/
def f_X2_whereIs (cn : Int32) (sp : Nat → Int32) (p0 : Int32) : Int32 :=
  if (f_X2_has cn p0) = 0 then (-1)
    else sp p0.toNatClampNeg
theorem in_where {x cn : Int32} {sp : Nat → Int32} (hcn : okN 20 cn) (h : ¬ f_X2_whereIs cn sp x = -1) : vp_in x 20 := by
  refine in_has hcn (fun z => h ?_)
  rw [f_X2_whereIs, if_pos z]
theorem iw_X2_whereIs_RX2 : ∀ w ∈ u_ws RX2 TX2 6, w ∈ wsX2_whereIs := by decide +kernel
set_option maxHeartbeats 4000000 in
set_option maxRecDepth 100000 in
theorem c_X2_whereIs (l : Launch) (G : GT) (a : Nat → Nat) (sz : Nat) (cn : Int32) (sp : Nat → Int32) (p0 : Int32) (hcn : okN 20 cn) : Met l yX2_whereIs wsX2_whereIs ({ frames := 2, cells := 0, slots := 0, locals := 42 }) (GP G [.ref (a 1), .int p0] [wcS a cn, wcI G (a 6) 20 sp] sz) (PQo (.returned (some (.int (f_X2_whereIs cn sp p0))))) 0 0 (fun _ => False) := by
  refine bodyM (cc := cX2_whereIs) (maxL := 2) (ret := (some .int)) (by decide) rfl (Nat.le_of_ble_eq_true rfl) ?_
  intro p e s m below meth c ls C
  obtain ⟨hx, hb, hr, hts, hown, hlocks, hml, hsz, hP, hE, hD, hA, hS, hl⟩ := C
  subst hsz
  have hl : lv_has ls 2 [(0, .ref (a 1)), (1, .int p0)] := hl
  refine lv_aload_n hx hb dX2_whereIs_0 rfl (lv_at hl 0 rfl) ?_
  refine lv_iload_n hx hb dX2_whereIs_1 rfl (lv_at hl 1 rfl) ?_
  refine k_p (va_runV (As := [.int p0]) (rest := []) ⟨hx, hb, hml, hown, hts⟩ (c_X2_has l G a s.heap.size cn p0) (cwV 1 hts gX2_whereIs_X2_has rfl rfl rfl ⟨rfl, by decide +kernel, by decide +kernel, by decide +kernel⟩ ⟨Nat.le_of_ble_eq_true rfl, Nat.le_of_ble_eq_true rfl⟩) ⟨GP.blind, va_recv hE.1 hP (ci := 2) (q0 := 0) rfl rfl, GP.go (wc := [wcS a cn]) hE hP hD hS hA [0] rfl (by decide) [.ref (a 1), .int p0]⟩ rfl rfl hl.1 rfl (lv_room (Nat.le_of_ble_eq_true rfl)) dX2_whereIs_2 ⟨Nat.le_of_ble_eq_true rfl, Nat.le_of_ble_eq_true rfl⟩) ?_
  refine lv_if_eq (tgt := 17) hx hb dX2_whereIs_5 (by decide) (fun c_5 => ?_) (fun c_5 => ?_)
  · refine lv_iconst (v := (-1)) hx hb dX2_whereIs_17 (by decide) ?_
    have hq : f_X2_whereIs cn sp p0 = (-1) := (by rw [f_X2_whereIs, if_pos c_5])
    exact W.iret (v := (-1)) hx hb hr (fun t ht _ => ⟨by rw [hq], ht⟩) (fun _ h => nomatch h) dX2_whereIs_18
  · refine lv_aload_n hx hb dX2_whereIs_8 rfl (lv_at hl 0 rfl) ?_
    refine va_get (D := G.1) (ci := 2) (v := .ref (a 6)) (C := RX2) (T := TX2) (N := 6) hx hb hts iw_X2_whereIs_RX2 hown hE.1 hP 0 rfl rfl 4 (by decide) (hts (.fieldLink RX2 24 "Rackrail$Store" "spots" "[I") (by decide +kernel)) (fun _ h9 => h9) rfl dX2_whereIs_9 ?_
    refine lv_iload_n hx hb dX2_whereIs_12 rfl (lv_at hl 1 rfl) ?_
    refine va_iald hx hb hE.1 hP 1 0 rfl rfl (in_has hcn c_5) dX2_whereIs_13 ?_
    refine lv_goto (tgt := 18) hx hb dX2_whereIs_14 (by decide) ?_
    have hq : f_X2_whereIs cn sp p0 = (sp p0.toNatClampNeg) := (by rw [f_X2_whereIs, if_neg c_5])
    exact W.iret (v := sp p0.toNatClampNeg) hx hb hr (fun t ht _ => ⟨by rw [hq], ht⟩) (fun _ h => nomatch h) dX2_whereIs_18

/-! X2_put -/
def f_X2_put (cn : Int32) (sp : Nat → Int32) (p0 : Int32) (p1 : Int32) : (Nat → Int32) :=
  if (f_X2_has cn p0) = 0 then sp
    else upd sp p0.toNatClampNeg p1
theorem iw_X2_put_RX2 : ∀ w ∈ u_ws RX2 TX2 6, w ∈ wsX2_put := by decide +kernel
set_option maxHeartbeats 4000000 in
set_option maxRecDepth 100000 in
theorem c_X2_put (l : Launch) (G : GT) (a : Nat → Nat) (sz : Nat) (cn : Int32) (sp : Nat → Int32) (p0 : Int32) (p1 : Int32) (hcn : okN 20 cn) : Met l yX2_put wsX2_put ({ frames := 2, cells := 0, slots := 0, locals := 42 }) (GP G [.ref (a 1), .int p0, .int p1] [wcS a cn, wcI G (a 6) 20 sp] sz) (MQo G (.returned none) [wcS a cn, wcI G (a 6) 20 (f_X2_put cn sp p0 p1)] (va_A [wcS a cn, wcI G (a 6) 20 sp] sz)) 0 0 (va_A [wcS a cn, wcI G (a 6) 20 sp] sz) := by
  refine bodyM (cc := cX2_put) (maxL := 3) (ret := none) (by decide) rfl (Nat.le_of_ble_eq_true rfl) ?_
  intro p e s m below meth c ls C
  obtain ⟨hx, hb, hr, hts, hown, hlocks, hml, hsz, hP, hE, hD, hA, hS, hl⟩ := C
  subst hsz
  have hl : lv_has ls 3 [(0, .ref (a 1)), (1, .int p0), (2, .int p1)] := hl
  refine lv_aload_n hx hb dX2_put_0 rfl (lv_at hl 0 rfl) ?_
  refine lv_iload_n hx hb dX2_put_1 rfl (lv_at hl 1 rfl) ?_
  refine k_p (va_runV (As := [.int p0]) (rest := []) ⟨hx, hb, hml, hown, hts⟩ (c_X2_has l G a s.heap.size cn p0) (cwV 1 hts gX2_put_X2_has rfl rfl rfl ⟨rfl, by decide +kernel, by decide +kernel, by decide +kernel⟩ ⟨Nat.le_of_ble_eq_true rfl, Nat.le_of_ble_eq_true rfl⟩) ⟨GP.blind, va_recv hE.1 hP (ci := 2) (q0 := 0) rfl rfl, GP.go (wc := [wcS a cn]) hE hP hD hS hA [0] rfl (by decide) [.ref (a 1), .int p0]⟩ rfl rfl hl.1 rfl (lv_room (Nat.le_of_ble_eq_true rfl)) dX2_put_2 ⟨Nat.le_of_ble_eq_true rfl, Nat.le_of_ble_eq_true rfl⟩) ?_
  refine lv_if_eq (tgt := 15) hx hb dX2_put_5 (by decide) (fun c_5 => ?_) (fun c_5 => ?_)
  · have hq : f_X2_put cn sp p0 p1 = sp := (by rw [f_X2_put, if_pos c_5])
    exact W.vret hx hb hr (fun t ht _ => ⟨rfl, by rw [hq, ht]; exact hP, hS.F ht⟩) hS.2.2 dX2_put_15
  · refine lv_aload_n hx hb dX2_put_8 rfl (lv_at hl 0 rfl) ?_
    refine va_get (D := G.1) (ci := 2) (v := .ref (a 6)) (C := RX2) (T := TX2) (N := 6) hx hb hts iw_X2_put_RX2 hown hE.1 hP 0 rfl rfl 4 (by decide) (hts (.fieldLink RX2 24 "Rackrail$Store" "spots" "[I") (by decide +kernel)) (fun _ h9 => h9) rfl dX2_put_9 ?_
    refine lv_iload_n hx hb dX2_put_12 rfl (lv_at hl 1 rfl) ?_
    refine lv_iload_n hx hb dX2_put_13 rfl (lv_at hl 2 rfl) ?_
    refine va_iast hx hb hE.1 hP hD hS 1 0 rfl rfl (in_has hcn c_5) dX2_put_14 (fun H locs hP hD hS => ?_)
    have hP : va_P G.1 vwCl [wcS a cn, wcI G (a 6) 20 (upd sp p0.toNatClampNeg p1)] H := hP
    have hD : va_D _ [wcS a cn, wcI G (a 6) 20 (upd sp p0.toNatClampNeg p1)] := hD
    have hq : f_X2_put cn sp p0 p1 = upd sp p0.toNatClampNeg p1 := (by rw [f_X2_put, if_neg c_5])
    exact W.vret hx hb hr (fun t ht _ => ⟨rfl, by rw [hq, ht]; exact hP, hS.F ht⟩) hS.2.2 dX2_put_15

/-! X2_boxIn -/
def f_X2_boxIn_L (sp : Nat → Int32) (p0 : Int32) : Nat → Nat → Int32
  | 0, j => (-1)
  | r + 1, j => if (sp (nI j).toNatClampNeg) = p0 then nI j
    else f_X2_boxIn_L sp p0 r (j + 1)
def f_X2_boxIn (cn : Int32) (sp : Nat → Int32) (p0 : Int32) : Int32 :=
  f_X2_boxIn_L sp p0 cn.toNatClampNeg 0
theorem iw_X2_boxIn_RX2 : ∀ w ∈ u_ws RX2 TX2 6, w ∈ wsX2_boxIn := by decide +kernel
set_option maxHeartbeats 4000000 in
set_option maxRecDepth 100000 in
theorem c_X2_boxIn (l : Launch) (G : GT) (a : Nat → Nat) (sz : Nat) (cn : Int32) (sp : Nat → Int32) (p0 : Int32) (hcn : okN 20 cn) : Met l yX2_boxIn wsX2_boxIn ({ frames := 0, cells := 0, slots := 0, locals := 0 }) (GP G [.ref (a 1), .int p0] [wcS a cn, wcI G (a 6) 20 sp] sz) (PQo (.returned (some (.int (f_X2_boxIn cn sp p0))))) 0 0 (fun _ => False) := by
  refine bodyM (cc := cX2_boxIn) (maxL := 3) (ret := (some .int)) (by decide) rfl (Nat.le_of_ble_eq_true rfl) ?_
  intro p e s m below meth c ls C
  obtain ⟨hx, hb, hr, hts, hown, hlocks, hml, hsz, hP, hE, hD, hA, hS, hl⟩ := C
  subst hsz
  have hl : lv_has ls 3 [(0, .ref (a 1)), (1, .int p0)] := hl
  obtain ⟨n, hn, hcn2⟩ := id hcn
  have hcl : cn.toNatClampNeg = n := by rw [hcn2]; exact nI_clamp (by omega)
  refine lv_iconst (v := 0) hx hb dX2_boxIn_0 (by decide) ?_
  refine lv_istore_n (lv' := [(2, .int 0), (0, .ref (a 1)), (1, .int p0)]) hx hb dX2_boxIn_1 rfl hl (by decide) rfl (fun ls hl => ?_)
  refine k_loopP (α := Unit) (fun (r j : Nat) (x : Unit) (ls : Array Slot) => j + r = n ∧ f_X2_boxIn cn sp p0 = f_X2_boxIn_L sp p0 r j ∧ lv_has ls 3 [(2, .int (nI j)), (0, .ref (a 1)), (1, .int p0)]) n 0 () ⟨by omega, (by rw [f_X2_boxIn, hcl]), lv_sub hl [0, 1, 2] rfl⟩ ?_ ?_
  · intro j x ls hI
    obtain ⟨hj, hf, hl⟩ := hI
    have hl : lv_has ls 3 [(2, .int (nI j)), (0, .ref (a 1)), (1, .int p0)] := hl
    have hf : f_X2_boxIn cn sp p0 = f_X2_boxIn_L sp p0 0 j := hf
    refine lv_iload_n hx hb dX2_boxIn_2 rfl (lv_at hl 0 rfl) ?_
    refine lv_aload_n hx hb dX2_boxIn_3 rfl (lv_at hl 1 rfl) ?_
    refine va_get (D := G.1) (ci := 2) (v := .int cn) (C := RX2) (T := TX2) (N := 6) hx hb hts iw_X2_boxIn_RX2 hown hE.1 hP 0 rfl rfl 5 (by decide) (hts (.fieldLink RX2 27 "Rackrail$Store" "count" "I") (by decide +kernel)) (fun _ h9 => h9) rfl dX2_boxIn_4 ?_
    refine lv_icmp_ge (tgt := 28) hx hb dX2_boxIn_7 (by decide) (fun c_7 => ?_) (fun c_7 => absurd (lp_a hcn2 (by omega) (by omega)) c_7)
    refine lv_iconst (v := (-1)) hx hb dX2_boxIn_28 (by decide) ?_
    have hq : f_X2_boxIn cn sp p0 = (-1) := (hf.trans (by rw [f_X2_boxIn_L]))
    exact W.iret (v := (-1)) hx hb hr (fun t ht _ => ⟨by rw [hq], ht⟩) (fun _ h => nomatch h) dX2_boxIn_29
  · intro r ih j x ls hI
    obtain ⟨hj, hf, hl⟩ := hI
    have hl : lv_has ls 3 [(2, .int (nI j)), (0, .ref (a 1)), (1, .int p0)] := hl
    have hf : f_X2_boxIn cn sp p0 = f_X2_boxIn_L sp p0 (r + 1) j := hf
    refine lv_iload_n hx hb dX2_boxIn_2 rfl (lv_at hl 0 rfl) ?_
    refine lv_aload_n hx hb dX2_boxIn_3 rfl (lv_at hl 1 rfl) ?_
    refine va_get (D := G.1) (ci := 2) (v := .int cn) (C := RX2) (T := TX2) (N := 6) hx hb hts iw_X2_boxIn_RX2 hown hE.1 hP 0 rfl rfl 5 (by decide) (hts (.fieldLink RX2 27 "Rackrail$Store" "count" "I") (by decide +kernel)) (fun _ h9 => h9) rfl dX2_boxIn_4 ?_
    refine lv_icmp_ge (tgt := 28) hx hb dX2_boxIn_7 (by decide) (fun c_7 => absurd c_7 (lp_b (r := r) hcn2 (by omega) (by omega))) (fun c_7 => ?_)
    refine lv_aload_n hx hb dX2_boxIn_10 rfl (lv_at hl 1 rfl) ?_
    refine va_get (D := G.1) (ci := 2) (v := .ref (a 6)) (C := RX2) (T := TX2) (N := 6) hx hb hts iw_X2_boxIn_RX2 hown hE.1 hP 0 rfl rfl 4 (by decide) (hts (.fieldLink RX2 24 "Rackrail$Store" "spots" "[I") (by decide +kernel)) (fun _ h9 => h9) rfl dX2_boxIn_11 ?_
    refine lv_iload_n hx hb dX2_boxIn_14 rfl (lv_at hl 0 rfl) ?_
    refine va_iald hx hb hE.1 hP 1 0 rfl rfl (vp_in_nI (by omega) (by decide)) dX2_boxIn_15 ?_
    refine lv_iload_n hx hb dX2_boxIn_16 rfl (lv_at hl 2 rfl) ?_
    refine lv_icmp_ne (tgt := 22) hx hb dX2_boxIn_17 (by decide) (fun c_17 => ?_) (fun c_17 => ?_)
    · refine lv_iinc (v := nI (j + 1)) (lv' := [(2, .int (nI (j + 1))), (0, .ref (a 1)), (1, .int p0)]) hx hb dX2_boxIn_22 hl (k := 0) rfl (inc1 _) (by decide) rfl (fun ls hl => ?_)
      refine lv_goto (tgt := 2) hx hb dX2_boxIn_25 (by decide) ?_
      exact ih (j + 1) () _ ⟨by omega, (hf.trans (by rw [f_X2_boxIn_L, if_neg c_17])), lv_sub hl [0, 1, 2] rfl⟩
    · refine lv_iload_n hx hb dX2_boxIn_20 rfl (lv_at hl 0 rfl) ?_
      have hq : f_X2_boxIn cn sp p0 = (nI j) := (hf.trans (by rw [f_X2_boxIn_L, if_pos c_17]))
      exact W.iret (v := nI j) hx hb hr (fun t ht _ => ⟨by rw [hq], ht⟩) (fun _ h => nomatch h) dX2_boxIn_21

/-! X2_aisleOfBox -/
def f_X2_aisleOfBox (cn : Int32) (sp : Nat → Int32) (p0 : Int32) : Int32 :=
  if (f_X2_whereIs cn sp p0) = (-1) then (-1)
    else f_X3_aisleAt (f_X2_whereIs cn sp p0)
set_option maxHeartbeats 4000000 in
set_option maxRecDepth 100000 in
theorem c_X2_aisleOfBox (l : Launch) (G : GT) (a : Nat → Nat) (sz : Nat) (cn : Int32) (sp : Nat → Int32) (p0 : Int32) (hcn : okN 20 cn) : Met l yX2_aisleOfBox wsX2_aisleOfBox ({ frames := 3, cells := 0, slots := 0, locals := 63 }) (GP G [.ref (a 1), .int p0] [wcS a cn, wcI G (a 6) 20 sp] sz) (PQo (.returned (some (.int (f_X2_aisleOfBox cn sp p0))))) 0 0 (fun _ => False) := by
  refine bodyM (cc := cX2_aisleOfBox) (maxL := 3) (ret := (some .int)) (by decide) rfl (Nat.le_of_ble_eq_true rfl) ?_
  intro p e s m below meth c ls C
  obtain ⟨hx, hb, hr, hts, hown, hlocks, hml, hsz, hP, hE, hD, hA, hS, hl⟩ := C
  subst hsz
  have hl : lv_has ls 3 [(0, .ref (a 1)), (1, .int p0)] := hl
  refine lv_aload_n hx hb dX2_aisleOfBox_0 rfl (lv_at hl 0 rfl) ?_
  refine lv_iload_n hx hb dX2_aisleOfBox_1 rfl (lv_at hl 1 rfl) ?_
  refine k_p (va_runV (As := [.int p0]) (rest := []) ⟨hx, hb, hml, hown, hts⟩ (c_X2_whereIs l G a s.heap.size cn sp p0 hcn) (cwV 1 hts gX2_aisleOfBox_X2_whereIs rfl rfl rfl ⟨rfl, by decide +kernel, by decide +kernel, by decide +kernel⟩ ⟨Nat.le_of_ble_eq_true rfl, Nat.le_of_ble_eq_true rfl⟩) ⟨GP.blind, va_recv hE.1 hP (ci := 2) (q0 := 0) rfl rfl, GP.go (wc := [wcS a cn, wcI G (a 6) 20 sp]) hE hP hD hS hA [0, 1] rfl (by decide) [.ref (a 1), .int p0]⟩ rfl rfl hl.1 rfl (lv_room (Nat.le_of_ble_eq_true rfl)) dX2_aisleOfBox_2 ⟨Nat.le_of_ble_eq_true rfl, Nat.le_of_ble_eq_true rfl⟩) ?_
  refine lv_istore_n (lv' := [(2, .int (f_X2_whereIs cn sp p0)), (0, .ref (a 1)), (1, .int p0)]) hx hb dX2_aisleOfBox_5 rfl hl (by decide) rfl (fun ls hl => ?_)
  refine lv_iload_n hx hb dX2_aisleOfBox_6 rfl (lv_at hl 0 rfl) ?_
  refine lv_iconst (v := (-1)) hx hb dX2_aisleOfBox_7 (by decide) ?_
  refine lv_icmp_ne (tgt := 15) hx hb dX2_aisleOfBox_8 (by decide) (fun c_8 => ?_) (fun c_8 => ?_)
  · refine lv_iload_n hx hb dX2_aisleOfBox_15 rfl (lv_at hl 0 rfl) ?_
    refine k_p (va_runSN (As := [.int (f_X2_whereIs cn sp p0)]) (rest := []) ⟨hx, hb, hml, hown, hts⟩ (c_X3_aisleAt l G s.heap.size (f_X2_whereIs cn sp p0)) ⟨va_cnB (host := "Rackrail") 1 hts gX2_aisleOfBox_X3_aisleAt_n47 rfl rfl rfl (hE.2.1 (RX2, 47, yX3_aisleAt) (by decide)) (hts (.initialized RX3) (by decide +kernel)) ⟨by decide +kernel, by decide +kernel, by decide +kernel⟩ ⟨Nat.le_of_ble_eq_true rfl, Nat.le_of_ble_eq_true rfl⟩, hts (.static yX3_aisleAt) (by decide +kernel), trivial⟩ ⟨GP.blind, GP.go (wc := []) hE hP hD hS hA [] rfl (by decide) [.int (f_X2_whereIs cn sp p0)]⟩ rfl rfl hl.1 rfl (lv_room (Nat.le_of_ble_eq_true rfl)) dX2_aisleOfBox_16 ⟨Nat.le_of_ble_eq_true rfl, Nat.le_of_ble_eq_true rfl⟩) ?_
    have hq : f_X2_aisleOfBox cn sp p0 = (f_X3_aisleAt (f_X2_whereIs cn sp p0)) := (by rw [f_X2_aisleOfBox, if_neg c_8])
    exact W.iret (v := f_X3_aisleAt (f_X2_whereIs cn sp p0)) hx hb hr (fun t ht _ => ⟨by rw [hq], ht⟩) (fun _ h => nomatch h) dX2_aisleOfBox_19
  · refine lv_iconst (v := (-1)) hx hb dX2_aisleOfBox_11 (by decide) ?_
    refine lv_goto (tgt := 19) hx hb dX2_aisleOfBox_12 (by decide) ?_
    have hq : f_X2_aisleOfBox cn sp p0 = (-1) := (by rw [f_X2_aisleOfBox, if_pos c_8])
    exact W.iret (v := (-1)) hx hb hr (fun t ht _ => ⟨by rw [hq], ht⟩) (fun _ h => nomatch h) dX2_aisleOfBox_19

/-! X2_liesOn -/
def f_X2_liesOn (cn : Int32) (sp : Nat → Int32) (p0 : Int32) (p1 : Int32) : Int32 :=
  if (f_X2_whereIs cn sp p0) = (-1) then 0
    else if (f_X3_shelfAt (f_X2_whereIs cn sp p0)) = p1 then 1
    else 0
theorem b_X2_liesOn (cn : Int32) (sp : Nat → Int32) (p0 : Int32) (p1 : Int32) : f_X2_liesOn cn sp p0 p1 = 0 ∨ f_X2_liesOn cn sp p0 p1 = 1 := by
  rw [f_X2_liesOn]
  (repeat' split) <;> first | exact Or.inl rfl | exact Or.inr rfl
set_option maxHeartbeats 4000000 in
set_option maxRecDepth 100000 in
theorem c_X2_liesOn (l : Launch) (G : GT) (a : Nat → Nat) (sz : Nat) (cn : Int32) (sp : Nat → Int32) (p0 : Int32) (p1 : Int32) (hcn : okN 20 cn) : Met l yX2_liesOn wsX2_liesOn ({ frames := 3, cells := 0, slots := 0, locals := 63 }) (GP G [.ref (a 1), .int p0, .int p1] [wcS a cn, wcI G (a 6) 20 sp] sz) (PQo (.returned (some (.int (f_X2_liesOn cn sp p0 p1))))) 0 0 (fun _ => False) := by
  refine bodyM (cc := cX2_liesOn) (maxL := 4) (ret := (some .boolean)) (by decide) rfl (Nat.le_of_ble_eq_true rfl) ?_
  intro p e s m below meth c ls C
  obtain ⟨hx, hb, hr, hts, hown, hlocks, hml, hsz, hP, hE, hD, hA, hS, hl⟩ := C
  subst hsz
  have hl : lv_has ls 4 [(0, .ref (a 1)), (1, .int p0), (2, .int p1)] := hl
  refine lv_aload_n hx hb dX2_liesOn_0 rfl (lv_at hl 0 rfl) ?_
  refine lv_iload_n hx hb dX2_liesOn_1 rfl (lv_at hl 1 rfl) ?_
  refine k_p (va_runV (As := [.int p0]) (rest := []) ⟨hx, hb, hml, hown, hts⟩ (c_X2_whereIs l G a s.heap.size cn sp p0 hcn) (cwV 1 hts gX2_liesOn_X2_whereIs rfl rfl rfl ⟨rfl, by decide +kernel, by decide +kernel, by decide +kernel⟩ ⟨Nat.le_of_ble_eq_true rfl, Nat.le_of_ble_eq_true rfl⟩) ⟨GP.blind, va_recv hE.1 hP (ci := 2) (q0 := 0) rfl rfl, GP.go (wc := [wcS a cn, wcI G (a 6) 20 sp]) hE hP hD hS hA [0, 1] rfl (by decide) [.ref (a 1), .int p0]⟩ rfl rfl hl.1 rfl (lv_room (Nat.le_of_ble_eq_true rfl)) dX2_liesOn_2 ⟨Nat.le_of_ble_eq_true rfl, Nat.le_of_ble_eq_true rfl⟩) ?_
  refine lv_istore_n (lv' := [(3, .int (f_X2_whereIs cn sp p0)), (0, .ref (a 1)), (1, .int p0), (2, .int p1)]) hx hb dX2_liesOn_5 rfl hl (by decide) rfl (fun ls hl => ?_)
  refine lv_iload_n hx hb dX2_liesOn_6 rfl (lv_at hl 0 rfl) ?_
  refine lv_iconst (v := (-1)) hx hb dX2_liesOn_7 (by decide) ?_
  refine lv_icmp_eq (tgt := 23) hx hb dX2_liesOn_8 (by decide) (fun c_8 => ?_) (fun c_8 => ?_)
  · refine lv_iconst (v := 0) hx hb dX2_liesOn_23 (by decide) ?_
    have hq : f_X2_liesOn cn sp p0 p1 = 0 := (by rw [f_X2_liesOn, if_pos c_8])
    exact W.zret (v := 0) hx hb hr rfl (fun t ht _ => ⟨by rw [hq], ht⟩) (fun _ h => nomatch h) dX2_liesOn_24
  · refine lv_iload_n hx hb dX2_liesOn_11 rfl (lv_at hl 0 rfl) ?_
    refine k_p (va_runSN (As := [.int (f_X2_whereIs cn sp p0)]) (rest := []) ⟨hx, hb, hml, hown, hts⟩ (c_X3_shelfAt l G s.heap.size (f_X2_whereIs cn sp p0)) ⟨va_cnB (host := "Rackrail") 1 hts gX2_liesOn_X3_shelfAt_n50 rfl rfl rfl (hE.2.1 (RX2, 50, yX3_shelfAt) (by decide)) (hts (.initialized RX3) (by decide +kernel)) ⟨by decide +kernel, by decide +kernel, by decide +kernel⟩ ⟨Nat.le_of_ble_eq_true rfl, Nat.le_of_ble_eq_true rfl⟩, hts (.static yX3_shelfAt) (by decide +kernel), trivial⟩ ⟨GP.blind, GP.go (wc := []) hE hP hD hS hA [] rfl (by decide) [.int (f_X2_whereIs cn sp p0)]⟩ rfl rfl hl.1 rfl (lv_room (Nat.le_of_ble_eq_true rfl)) dX2_liesOn_12 ⟨Nat.le_of_ble_eq_true rfl, Nat.le_of_ble_eq_true rfl⟩) ?_
    refine lv_iload_n hx hb dX2_liesOn_15 rfl (lv_at hl 3 rfl) ?_
    refine lv_icmp_ne (tgt := 23) hx hb dX2_liesOn_16 (by decide) (fun c_16 => ?_) (fun c_16 => ?_)
    · refine lv_iconst (v := 0) hx hb dX2_liesOn_23 (by decide) ?_
      have hq : f_X2_liesOn cn sp p0 p1 = 0 := (by rw [f_X2_liesOn, if_neg c_8, if_neg c_16])
      exact W.zret (v := 0) hx hb hr rfl (fun t ht _ => ⟨by rw [hq], ht⟩) (fun _ h => nomatch h) dX2_liesOn_24
    · refine lv_iconst (v := 1) hx hb dX2_liesOn_19 (by decide) ?_
      refine lv_goto (tgt := 24) hx hb dX2_liesOn_20 (by decide) ?_
      have hq : f_X2_liesOn cn sp p0 p1 = 1 := (by rw [f_X2_liesOn, if_neg c_8, if_pos c_16])
      exact W.zret (v := 1) hx hb hr rfl (fun t ht _ => ⟨by rw [hq], ht⟩) (fun _ h => nomatch h) dX2_liesOn_24

/-! X2_weightOn -/
def f_X2_weightOn_L (cn : Int32) (wt : Nat → Int32) (sp : Nat → Int32) (p0 : Int32) : Nat → Nat → Int32 → Int32
  | 0, j, sum => sum
  | r + 1, j, sum => if (f_X2_liesOn cn sp (nI j) p0) = 0 then f_X2_weightOn_L cn wt sp p0 r (j + 1) sum
    else f_X2_weightOn_L cn wt sp p0 r (j + 1) (sum + (wt (nI j).toNatClampNeg))
def f_X2_weightOn (cn : Int32) (wt : Nat → Int32) (sp : Nat → Int32) (p0 : Int32) : Int32 :=
  f_X2_weightOn_L cn wt sp p0 cn.toNatClampNeg 0 0
theorem iw_X2_weightOn_RX2 : ∀ w ∈ u_ws RX2 TX2 6, w ∈ wsX2_weightOn := by decide +kernel
set_option maxHeartbeats 4000000 in
set_option maxRecDepth 100000 in
theorem c_X2_weightOn (l : Launch) (G : GT) (a : Nat → Nat) (sz : Nat) (cn : Int32) (wt : Nat → Int32) (sp : Nat → Int32) (p0 : Int32) (hcn : okN 20 cn) : Met l yX2_weightOn wsX2_weightOn ({ frames := 4, cells := 0, slots := 0, locals := 86 }) (GP G [.ref (a 1), .int p0] [wcS a cn, wcI G (a 4) 20 wt, wcI G (a 6) 20 sp] sz) (PQo (.returned (some (.int (f_X2_weightOn cn wt sp p0))))) 0 0 (fun _ => False) := by
  refine bodyM (cc := cX2_weightOn) (maxL := 4) (ret := (some .int)) (by decide) rfl (Nat.le_of_ble_eq_true rfl) ?_
  intro p e s m below meth c ls C
  obtain ⟨hx, hb, hr, hts, hown, hlocks, hml, hsz, hP, hE, hD, hA, hS, hl⟩ := C
  subst hsz
  have hl : lv_has ls 4 [(0, .ref (a 1)), (1, .int p0)] := hl
  obtain ⟨n, hn, hcn2⟩ := id hcn
  have hcl : cn.toNatClampNeg = n := by rw [hcn2]; exact nI_clamp (by omega)
  refine lv_iconst (v := 0) hx hb dX2_weightOn_0 (by decide) ?_
  refine lv_istore_n (lv' := [(2, .int 0), (0, .ref (a 1)), (1, .int p0)]) hx hb dX2_weightOn_1 rfl hl (by decide) rfl (fun ls hl => ?_)
  refine lv_iconst (v := 0) hx hb dX2_weightOn_2 (by decide) ?_
  refine lv_istore_n (lv' := [(3, .int 0), (2, .int 0), (0, .ref (a 1)), (1, .int p0)]) hx hb dX2_weightOn_3 rfl hl (by decide) rfl (fun ls hl => ?_)
  refine k_loopP (α := Int32) (fun (r j : Nat) (x : Int32) (ls : Array Slot) => j + r = n ∧ f_X2_weightOn cn wt sp p0 = f_X2_weightOn_L cn wt sp p0 r j x ∧ lv_has ls 4 [(3, .int (nI j)), (2, .int x), (0, .ref (a 1)), (1, .int p0)]) n 0 0 ⟨by omega, (by rw [f_X2_weightOn, hcl]), lv_sub hl [0, 1, 2, 3] rfl⟩ ?_ ?_
  · intro j x ls hI
    obtain ⟨sum, rfl⟩ : ∃ y, y = x := ⟨_, rfl⟩
    obtain ⟨hj, hf, hl⟩ := hI
    have hl : lv_has ls 4 [(3, .int (nI j)), (2, .int sum), (0, .ref (a 1)), (1, .int p0)] := hl
    have hf : f_X2_weightOn cn wt sp p0 = f_X2_weightOn_L cn wt sp p0 0 j sum := hf
    refine lv_iload_n hx hb dX2_weightOn_4 rfl (lv_at hl 0 rfl) ?_
    refine lv_aload_n hx hb dX2_weightOn_5 rfl (lv_at hl 2 rfl) ?_
    refine va_get (D := G.1) (ci := 2) (v := .int cn) (C := RX2) (T := TX2) (N := 6) hx hb hts iw_X2_weightOn_RX2 hown hE.1 hP 0 rfl rfl 5 (by decide) (hts (.fieldLink RX2 27 "Rackrail$Store" "count" "I") (by decide +kernel)) (fun _ h9 => h9) rfl dX2_weightOn_6 ?_
    refine lv_icmp_ge (tgt := 36) hx hb dX2_weightOn_9 (by decide) (fun c_9 => ?_) (fun c_9 => absurd (lp_a hcn2 (by omega) (by omega)) c_9)
    refine lv_iload_n hx hb dX2_weightOn_36 rfl (lv_at hl 1 rfl) ?_
    have hq : f_X2_weightOn cn wt sp p0 = sum := (hf.trans (by rw [f_X2_weightOn_L]))
    exact W.iret (v := sum) hx hb hr (fun t ht _ => ⟨by rw [hq], ht⟩) (fun _ h => nomatch h) dX2_weightOn_37
  · intro r ih j x ls hI
    obtain ⟨sum, rfl⟩ : ∃ y, y = x := ⟨_, rfl⟩
    obtain ⟨hj, hf, hl⟩ := hI
    have hl : lv_has ls 4 [(3, .int (nI j)), (2, .int sum), (0, .ref (a 1)), (1, .int p0)] := hl
    have hf : f_X2_weightOn cn wt sp p0 = f_X2_weightOn_L cn wt sp p0 (r + 1) j sum := hf
    refine lv_iload_n hx hb dX2_weightOn_4 rfl (lv_at hl 0 rfl) ?_
    refine lv_aload_n hx hb dX2_weightOn_5 rfl (lv_at hl 2 rfl) ?_
    refine va_get (D := G.1) (ci := 2) (v := .int cn) (C := RX2) (T := TX2) (N := 6) hx hb hts iw_X2_weightOn_RX2 hown hE.1 hP 0 rfl rfl 5 (by decide) (hts (.fieldLink RX2 27 "Rackrail$Store" "count" "I") (by decide +kernel)) (fun _ h9 => h9) rfl dX2_weightOn_6 ?_
    refine lv_icmp_ge (tgt := 36) hx hb dX2_weightOn_9 (by decide) (fun c_9 => absurd c_9 (lp_b (r := r) hcn2 (by omega) (by omega))) (fun c_9 => ?_)
    refine lv_aload_n hx hb dX2_weightOn_12 rfl (lv_at hl 2 rfl) ?_
    refine lv_iload_n hx hb dX2_weightOn_13 rfl (lv_at hl 0 rfl) ?_
    refine lv_iload_n hx hb dX2_weightOn_14 rfl (lv_at hl 3 rfl) ?_
    refine k_p (va_runV (As := [.int (nI j), .int p0]) (rest := []) ⟨hx, hb, hml, hown, hts⟩ (c_X2_liesOn l G a s.heap.size cn sp (nI j) p0 hcn) (cwV 2 hts gX2_weightOn_X2_liesOn rfl rfl rfl ⟨rfl, by decide +kernel, by decide +kernel, by decide +kernel⟩ ⟨Nat.le_of_ble_eq_true rfl, Nat.le_of_ble_eq_true rfl⟩) ⟨GP.blind, va_recv hE.1 hP (ci := 2) (q0 := 0) rfl rfl, GP.go (wc := [wcS a cn, wcI G (a 6) 20 sp]) hE hP hD hS hA [0, 2] rfl (by decide) [.ref (a 1), .int (nI j), .int p0]⟩ rfl rfl hl.1 rfl (lv_room (Nat.le_of_ble_eq_true rfl)) dX2_weightOn_15 ⟨Nat.le_of_ble_eq_true rfl, Nat.le_of_ble_eq_true rfl⟩) ?_
    refine lv_if_eq (tgt := 30) hx hb dX2_weightOn_18 (by decide) (fun c_18 => ?_) (fun c_18 => ?_)
    · refine lv_iinc (v := nI (j + 1)) (lv' := [(3, .int (nI (j + 1))), (2, .int sum), (0, .ref (a 1)), (1, .int p0)]) hx hb dX2_weightOn_30 hl (k := 0) rfl (inc1 _) (by decide) rfl (fun ls hl => ?_)
      refine lv_goto (tgt := 4) hx hb dX2_weightOn_33 (by decide) ?_
      exact ih (j + 1) sum _ ⟨by omega, (hf.trans (by rw [f_X2_weightOn_L, if_pos c_18])), lv_sub hl [0, 1, 2, 3] rfl⟩
    · refine lv_iload_n hx hb dX2_weightOn_21 rfl (lv_at hl 1 rfl) ?_
      refine lv_aload_n hx hb dX2_weightOn_22 rfl (lv_at hl 2 rfl) ?_
      refine va_get (D := G.1) (ci := 2) (v := .ref (a 4)) (C := RX2) (T := TX2) (N := 6) hx hb hts iw_X2_weightOn_RX2 hown hE.1 hP 0 rfl rfl 2 (by decide) (hts (.fieldLink RX2 18 "Rackrail$Store" "weights" "[I") (by decide +kernel)) (fun _ h9 => h9) rfl dX2_weightOn_23 ?_
      refine lv_iload_n hx hb dX2_weightOn_26 rfl (lv_at hl 0 rfl) ?_
      refine va_iald hx hb hE.1 hP 1 0 rfl rfl (vp_in_nI (by omega) (by decide)) dX2_weightOn_27 ?_
      refine lv_iadd hx hb dX2_weightOn_28 ?_
      refine lv_istore_n (lv' := [(2, .int (sum + (wt (nI j).toNatClampNeg))), (3, .int (nI j)), (0, .ref (a 1)), (1, .int p0)]) hx hb dX2_weightOn_29 rfl hl (by decide) rfl (fun ls hl => ?_)
      refine lv_iinc (v := nI (j + 1)) (lv' := [(3, .int (nI (j + 1))), (2, .int (sum + (wt (nI j).toNatClampNeg))), (0, .ref (a 1)), (1, .int p0)]) hx hb dX2_weightOn_30 hl (k := 1) rfl (inc1 _) (by decide) rfl (fun ls hl => ?_)
      refine lv_goto (tgt := 4) hx hb dX2_weightOn_33 (by decide) ?_
      exact ih (j + 1) (sum + (wt (nI j).toNatClampNeg)) _ ⟨by omega, (hf.trans (by rw [f_X2_weightOn_L, if_neg c_18])), lv_sub hl [0, 1, 2, 3] rfl⟩

/-! X2_countKin -/
def f_X2_countKin_L (cn : Int32) (kn : Nat → Int32) (sp : Nat → Int32) (p0 : Int32) (p1 : Int32) : Nat → Nat → Int32 → Int32
  | 0, j, fnd => fnd
  | r + 1, j, fnd => if (kn (nI j).toNatClampNeg) = p1 then (if (f_X2_liesOn cn sp (nI j) p0) = 0 then f_X2_countKin_L cn kn sp p0 p1 r (j + 1) fnd
      else f_X2_countKin_L cn kn sp p0 p1 r (j + 1) (fnd + 1))
    else f_X2_countKin_L cn kn sp p0 p1 r (j + 1) fnd
def f_X2_countKin (cn : Int32) (kn : Nat → Int32) (sp : Nat → Int32) (p0 : Int32) (p1 : Int32) : Int32 :=
  f_X2_countKin_L cn kn sp p0 p1 cn.toNatClampNeg 0 0
theorem iw_X2_countKin_RX2 : ∀ w ∈ u_ws RX2 TX2 6, w ∈ wsX2_countKin := by decide +kernel
set_option maxHeartbeats 4000000 in
set_option maxRecDepth 100000 in
theorem c_X2_countKin (l : Launch) (G : GT) (a : Nat → Nat) (sz : Nat) (cn : Int32) (kn : Nat → Int32) (sp : Nat → Int32) (p0 : Int32) (p1 : Int32) (hcn : okN 20 cn) : Met l yX2_countKin wsX2_countKin ({ frames := 4, cells := 0, slots := 0, locals := 86 }) (GP G [.ref (a 1), .int p0, .int p1] [wcS a cn, wcI G (a 5) 20 kn, wcI G (a 6) 20 sp] sz) (PQo (.returned (some (.int (f_X2_countKin cn kn sp p0 p1))))) 0 0 (fun _ => False) := by
  refine bodyM (cc := cX2_countKin) (maxL := 5) (ret := (some .int)) (by decide) rfl (Nat.le_of_ble_eq_true rfl) ?_
  intro p e s m below meth c ls C
  obtain ⟨hx, hb, hr, hts, hown, hlocks, hml, hsz, hP, hE, hD, hA, hS, hl⟩ := C
  subst hsz
  have hl : lv_has ls 5 [(0, .ref (a 1)), (1, .int p0), (2, .int p1)] := hl
  obtain ⟨n, hn, hcn2⟩ := id hcn
  have hcl : cn.toNatClampNeg = n := by rw [hcn2]; exact nI_clamp (by omega)
  refine lv_iconst (v := 0) hx hb dX2_countKin_0 (by decide) ?_
  refine lv_istore_n (lv' := [(3, .int 0), (0, .ref (a 1)), (1, .int p0), (2, .int p1)]) hx hb dX2_countKin_1 rfl hl (by decide) rfl (fun ls hl => ?_)
  refine lv_iconst (v := 0) hx hb dX2_countKin_2 (by decide) ?_
  refine lv_istore (lv' := [(4, .int 0), (3, .int 0), (0, .ref (a 1)), (1, .int p0), (2, .int p1)]) hx hb dX2_countKin_3 hl (by decide) rfl (fun ls hl => ?_)
  refine k_loopP (α := Int32) (fun (r j : Nat) (x : Int32) (ls : Array Slot) => j + r = n ∧ f_X2_countKin cn kn sp p0 p1 = f_X2_countKin_L cn kn sp p0 p1 r j x ∧ lv_has ls 5 [(4, .int (nI j)), (3, .int x), (0, .ref (a 1)), (1, .int p0), (2, .int p1)]) n 0 0 ⟨by omega, (by rw [f_X2_countKin, hcl]), lv_sub hl [0, 1, 2, 3, 4] rfl⟩ ?_ ?_
  · intro j x ls hI
    obtain ⟨fnd, rfl⟩ : ∃ y, y = x := ⟨_, rfl⟩
    obtain ⟨hj, hf, hl⟩ := hI
    have hl : lv_has ls 5 [(4, .int (nI j)), (3, .int fnd), (0, .ref (a 1)), (1, .int p0), (2, .int p1)] := hl
    have hf : f_X2_countKin cn kn sp p0 p1 = f_X2_countKin_L cn kn sp p0 p1 0 j fnd := hf
    refine lv_iload hx hb dX2_countKin_5 (lv_at hl 0 rfl) ?_
    refine lv_aload_n hx hb dX2_countKin_7 rfl (lv_at hl 2 rfl) ?_
    refine va_get (D := G.1) (ci := 2) (v := .int cn) (C := RX2) (T := TX2) (N := 6) hx hb hts iw_X2_countKin_RX2 hown hE.1 hP 0 rfl rfl 5 (by decide) (hts (.fieldLink RX2 27 "Rackrail$Store" "count" "I") (by decide +kernel)) (fun _ h9 => h9) rfl dX2_countKin_8 ?_
    refine lv_icmp_ge (tgt := 44) hx hb dX2_countKin_11 (by decide) (fun c_11 => ?_) (fun c_11 => absurd (lp_a hcn2 (by omega) (by omega)) c_11)
    refine lv_iload_n hx hb dX2_countKin_44 rfl (lv_at hl 1 rfl) ?_
    have hq : f_X2_countKin cn kn sp p0 p1 = fnd := (hf.trans (by rw [f_X2_countKin_L]))
    exact W.iret (v := fnd) hx hb hr (fun t ht _ => ⟨by rw [hq], ht⟩) (fun _ h => nomatch h) dX2_countKin_45
  · intro r ih j x ls hI
    obtain ⟨fnd, rfl⟩ : ∃ y, y = x := ⟨_, rfl⟩
    obtain ⟨hj, hf, hl⟩ := hI
    have hl : lv_has ls 5 [(4, .int (nI j)), (3, .int fnd), (0, .ref (a 1)), (1, .int p0), (2, .int p1)] := hl
    have hf : f_X2_countKin cn kn sp p0 p1 = f_X2_countKin_L cn kn sp p0 p1 (r + 1) j fnd := hf
    refine lv_iload hx hb dX2_countKin_5 (lv_at hl 0 rfl) ?_
    refine lv_aload_n hx hb dX2_countKin_7 rfl (lv_at hl 2 rfl) ?_
    refine va_get (D := G.1) (ci := 2) (v := .int cn) (C := RX2) (T := TX2) (N := 6) hx hb hts iw_X2_countKin_RX2 hown hE.1 hP 0 rfl rfl 5 (by decide) (hts (.fieldLink RX2 27 "Rackrail$Store" "count" "I") (by decide +kernel)) (fun _ h9 => h9) rfl dX2_countKin_8 ?_
    refine lv_icmp_ge (tgt := 44) hx hb dX2_countKin_11 (by decide) (fun c_11 => absurd c_11 (lp_b (r := r) hcn2 (by omega) (by omega))) (fun c_11 => ?_)
    refine lv_aload_n hx hb dX2_countKin_14 rfl (lv_at hl 2 rfl) ?_
    refine va_get (D := G.1) (ci := 2) (v := .ref (a 5)) (C := RX2) (T := TX2) (N := 6) hx hb hts iw_X2_countKin_RX2 hown hE.1 hP 0 rfl rfl 3 (by decide) (hts (.fieldLink RX2 21 "Rackrail$Store" "kins" "[I") (by decide +kernel)) (fun _ h9 => h9) rfl dX2_countKin_15 ?_
    refine lv_iload hx hb dX2_countKin_18 (lv_at hl 0 rfl) ?_
    refine va_iald hx hb hE.1 hP 1 0 rfl rfl (vp_in_nI (by omega) (by decide)) dX2_countKin_20 ?_
    refine lv_iload_n hx hb dX2_countKin_21 rfl (lv_at hl 4 rfl) ?_
    refine lv_icmp_ne (tgt := 38) hx hb dX2_countKin_22 (by decide) (fun c_22 => ?_) (fun c_22 => ?_)
    · refine lv_iinc (v := nI (j + 1)) (lv' := [(4, .int (nI (j + 1))), (3, .int fnd), (0, .ref (a 1)), (1, .int p0), (2, .int p1)]) hx hb dX2_countKin_38 hl (k := 0) rfl (inc1 _) (by decide) rfl (fun ls hl => ?_)
      refine lv_goto (tgt := 5) hx hb dX2_countKin_41 (by decide) ?_
      exact ih (j + 1) fnd _ ⟨by omega, (hf.trans (by rw [f_X2_countKin_L, if_neg c_22])), lv_sub hl [0, 1, 2, 3, 4] rfl⟩
    · refine lv_aload_n hx hb dX2_countKin_25 rfl (lv_at hl 2 rfl) ?_
      refine lv_iload hx hb dX2_countKin_26 (lv_at hl 0 rfl) ?_
      refine lv_iload_n hx hb dX2_countKin_28 rfl (lv_at hl 3 rfl) ?_
      refine k_p (va_runV (As := [.int (nI j), .int p0]) (rest := []) ⟨hx, hb, hml, hown, hts⟩ (c_X2_liesOn l G a s.heap.size cn sp (nI j) p0 hcn) (cwV 2 hts gX2_countKin_X2_liesOn rfl rfl rfl ⟨rfl, by decide +kernel, by decide +kernel, by decide +kernel⟩ ⟨Nat.le_of_ble_eq_true rfl, Nat.le_of_ble_eq_true rfl⟩) ⟨GP.blind, va_recv hE.1 hP (ci := 2) (q0 := 0) rfl rfl, GP.go (wc := [wcS a cn, wcI G (a 6) 20 sp]) hE hP hD hS hA [0, 2] rfl (by decide) [.ref (a 1), .int (nI j), .int p0]⟩ rfl rfl hl.1 rfl (lv_room (Nat.le_of_ble_eq_true rfl)) dX2_countKin_29 ⟨Nat.le_of_ble_eq_true rfl, Nat.le_of_ble_eq_true rfl⟩) ?_
      refine lv_if_eq (tgt := 38) hx hb dX2_countKin_32 (by decide) (fun c_32 => ?_) (fun c_32 => ?_)
      · refine lv_iinc (v := nI (j + 1)) (lv' := [(4, .int (nI (j + 1))), (3, .int fnd), (0, .ref (a 1)), (1, .int p0), (2, .int p1)]) hx hb dX2_countKin_38 hl (k := 0) rfl (inc1 _) (by decide) rfl (fun ls hl => ?_)
        refine lv_goto (tgt := 5) hx hb dX2_countKin_41 (by decide) ?_
        exact ih (j + 1) fnd _ ⟨by omega, (hf.trans (by rw [f_X2_countKin_L, if_pos c_22, if_pos c_32])), lv_sub hl [0, 1, 2, 3, 4] rfl⟩
      · refine lv_iinc (v := fnd + 1) (lv' := [(3, .int (fnd + 1)), (4, .int (nI j)), (0, .ref (a 1)), (1, .int p0), (2, .int p1)]) hx hb dX2_countKin_35 hl (k := 1) rfl rfl (by decide) rfl (fun ls hl => ?_)
        refine lv_iinc (v := nI (j + 1)) (lv' := [(4, .int (nI (j + 1))), (3, .int (fnd + 1)), (0, .ref (a 1)), (1, .int p0), (2, .int p1)]) hx hb dX2_countKin_38 hl (k := 1) rfl (inc1 _) (by decide) rfl (fun ls hl => ?_)
        refine lv_goto (tgt := 5) hx hb dX2_countKin_41 (by decide) ?_
        exact ih (j + 1) (fnd + 1) _ ⟨by omega, (hf.trans (by rw [f_X2_countKin_L, if_pos c_22, if_neg c_32])), lv_sub hl [0, 1, 2, 3, 4] rfl⟩

/-! X2_isWrong -/
def f_X2_isWrong (cn : Int32) (sc : Nat → Int32) (cl : Nat → Int32) (sp : Nat → Int32) (p0 : Int32) : Int32 :=
  if (f_X2_whereIs cn sp p0) = (-1) then 0
    else if (cl p0.toNatClampNeg) = (f_X2_climateOf sc (f_X3_shelfAt (f_X2_whereIs cn sp p0))) then 0
    else 1
theorem b_X2_isWrong (cn : Int32) (sc : Nat → Int32) (cl : Nat → Int32) (sp : Nat → Int32) (p0 : Int32) : f_X2_isWrong cn sc cl sp p0 = 0 ∨ f_X2_isWrong cn sc cl sp p0 = 1 := by
  rw [f_X2_isWrong]
  (repeat' split) <;> first | exact Or.inl rfl | exact Or.inr rfl
theorem iw_X2_isWrong_RX2 : ∀ w ∈ u_ws RX2 TX2 6, w ∈ wsX2_isWrong := by decide +kernel
set_option maxHeartbeats 4000000 in
set_option maxRecDepth 100000 in
theorem c_X2_isWrong (l : Launch) (G : GT) (a : Nat → Nat) (sz : Nat) (cn : Int32) (sc : Nat → Int32) (cl : Nat → Int32) (sp : Nat → Int32) (p0 : Int32) (hcn : okN 20 cn) : Met l yX2_isWrong wsX2_isWrong ({ frames := 3, cells := 0, slots := 0, locals := 63 }) (GP G [.ref (a 1), .int p0] [wcS a cn, wcI G (a 2) 6 sc, wcI G (a 3) 20 cl, wcI G (a 6) 20 sp] sz) (PQo (.returned (some (.int (f_X2_isWrong cn sc cl sp p0))))) 0 0 (fun _ => False) := by
  refine bodyM (cc := cX2_isWrong) (maxL := 3) (ret := (some .boolean)) (by decide) rfl (Nat.le_of_ble_eq_true rfl) ?_
  intro p e s m below meth c ls C
  obtain ⟨hx, hb, hr, hts, hown, hlocks, hml, hsz, hP, hE, hD, hA, hS, hl⟩ := C
  subst hsz
  have hl : lv_has ls 3 [(0, .ref (a 1)), (1, .int p0)] := hl
  refine lv_aload_n hx hb dX2_isWrong_0 rfl (lv_at hl 0 rfl) ?_
  refine lv_iload_n hx hb dX2_isWrong_1 rfl (lv_at hl 1 rfl) ?_
  refine k_p (va_runV (As := [.int p0]) (rest := []) ⟨hx, hb, hml, hown, hts⟩ (c_X2_whereIs l G a s.heap.size cn sp p0 hcn) (cwV 1 hts gX2_isWrong_X2_whereIs rfl rfl rfl ⟨rfl, by decide +kernel, by decide +kernel, by decide +kernel⟩ ⟨Nat.le_of_ble_eq_true rfl, Nat.le_of_ble_eq_true rfl⟩) ⟨GP.blind, va_recv hE.1 hP (ci := 2) (q0 := 0) rfl rfl, GP.go (wc := [wcS a cn, wcI G (a 6) 20 sp]) hE hP hD hS hA [0, 3] rfl (by decide) [.ref (a 1), .int p0]⟩ rfl rfl hl.1 rfl (lv_room (Nat.le_of_ble_eq_true rfl)) dX2_isWrong_2 ⟨Nat.le_of_ble_eq_true rfl, Nat.le_of_ble_eq_true rfl⟩) ?_
  refine lv_istore_n (lv' := [(2, .int (f_X2_whereIs cn sp p0)), (0, .ref (a 1)), (1, .int p0)]) hx hb dX2_isWrong_5 rfl hl (by decide) rfl (fun ls hl => ?_)
  refine lv_iload_n hx hb dX2_isWrong_6 rfl (lv_at hl 0 rfl) ?_
  refine lv_iconst (v := (-1)) hx hb dX2_isWrong_7 (by decide) ?_
  refine lv_icmp_eq (tgt := 32) hx hb dX2_isWrong_8 (by decide) (fun c_8 => ?_) (fun c_8 => ?_)
  · refine lv_iconst (v := 0) hx hb dX2_isWrong_32 (by decide) ?_
    have hq : f_X2_isWrong cn sc cl sp p0 = 0 := (by rw [f_X2_isWrong, if_pos c_8])
    exact W.zret (v := 0) hx hb hr rfl (fun t ht _ => ⟨by rw [hq], ht⟩) (fun _ h => nomatch h) dX2_isWrong_33
  · refine lv_aload_n hx hb dX2_isWrong_11 rfl (lv_at hl 1 rfl) ?_
    refine va_get (D := G.1) (ci := 2) (v := .ref (a 3)) (C := RX2) (T := TX2) (N := 6) hx hb hts iw_X2_isWrong_RX2 hown hE.1 hP 0 rfl rfl 1 (by decide) (hts (.fieldLink RX2 15 "Rackrail$Store" "climates" "[I") (by decide +kernel)) (fun _ h9 => h9) rfl dX2_isWrong_12 ?_
    refine lv_iload_n hx hb dX2_isWrong_15 rfl (lv_at hl 2 rfl) ?_
    refine va_iald hx hb hE.1 hP 2 0 rfl rfl (in_where hcn c_8) dX2_isWrong_16 ?_
    refine lv_aload_n hx hb dX2_isWrong_17 rfl (lv_at hl 1 rfl) ?_
    refine lv_iload_n hx hb dX2_isWrong_18 rfl (lv_at hl 0 rfl) ?_
    refine k_p (va_runSN (As := [.int (f_X2_whereIs cn sp p0)]) (rest := [.ref (a 1), .int (cl p0.toNatClampNeg)]) ⟨hx, hb, hml, hown, hts⟩ (c_X3_shelfAt l G s.heap.size (f_X2_whereIs cn sp p0)) ⟨va_cnB (host := "Rackrail") 1 hts gX2_isWrong_X3_shelfAt_n50 rfl rfl rfl (hE.2.1 (RX2, 50, yX3_shelfAt) (by decide)) (hts (.initialized RX3) (by decide +kernel)) ⟨by decide +kernel, by decide +kernel, by decide +kernel⟩ ⟨Nat.le_of_ble_eq_true rfl, Nat.le_of_ble_eq_true rfl⟩, hts (.static yX3_shelfAt) (by decide +kernel), trivial⟩ ⟨GP.blind, GP.go (wc := []) hE hP hD hS hA [] rfl (by decide) [.int (f_X2_whereIs cn sp p0)]⟩ rfl rfl hl.1 rfl (lv_room (Nat.le_of_ble_eq_true rfl)) dX2_isWrong_19 ⟨Nat.le_of_ble_eq_true rfl, Nat.le_of_ble_eq_true rfl⟩) ?_
    refine k_p (va_runV (As := [.int (f_X3_shelfAt (f_X2_whereIs cn sp p0))]) (rest := [.int (cl p0.toNatClampNeg)]) ⟨hx, hb, hml, hown, hts⟩ (c_X2_climateOf l G a s.heap.size cn sc (f_X3_shelfAt (f_X2_whereIs cn sp p0))) (cwV 1 hts gX2_isWrong_X2_climateOf rfl rfl rfl ⟨rfl, by decide +kernel, by decide +kernel, by decide +kernel⟩ ⟨Nat.le_of_ble_eq_true rfl, Nat.le_of_ble_eq_true rfl⟩) ⟨GP.blind, va_recv hE.1 hP (ci := 2) (q0 := 0) rfl rfl, GP.go (wc := [wcS a cn, wcI G (a 2) 6 sc]) hE hP hD hS hA [0, 1] rfl (by decide) [.ref (a 1), .int (f_X3_shelfAt (f_X2_whereIs cn sp p0))]⟩ rfl rfl hl.1 rfl (lv_room (Nat.le_of_ble_eq_true rfl)) dX2_isWrong_22 ⟨Nat.le_of_ble_eq_true rfl, Nat.le_of_ble_eq_true rfl⟩) ?_
    refine lv_icmp_eq (tgt := 32) hx hb dX2_isWrong_25 (by decide) (fun c_25 => ?_) (fun c_25 => ?_)
    · refine lv_iconst (v := 0) hx hb dX2_isWrong_32 (by decide) ?_
      have hq : f_X2_isWrong cn sc cl sp p0 = 0 := (by rw [f_X2_isWrong, if_neg c_8, if_pos c_25])
      exact W.zret (v := 0) hx hb hr rfl (fun t ht _ => ⟨by rw [hq], ht⟩) (fun _ h => nomatch h) dX2_isWrong_33
    · refine lv_iconst (v := 1) hx hb dX2_isWrong_28 (by decide) ?_
      refine lv_goto (tgt := 33) hx hb dX2_isWrong_29 (by decide) ?_
      have hq : f_X2_isWrong cn sc cl sp p0 = 1 := (by rw [f_X2_isWrong, if_neg c_8, if_neg c_25])
      exact W.zret (v := 1) hx hb hr rfl (fun t ht _ => ⟨by rw [hq], ht⟩) (fun _ h => nomatch h) dX2_isWrong_33

/-! X2_countWrong -/
def f_X2_countWrong_L (cn : Int32) (sc : Nat → Int32) (cl : Nat → Int32) (sp : Nat → Int32) : Nat → Nat → Int32 → Int32
  | 0, j, fnd => fnd
  | r + 1, j, fnd => if (f_X2_isWrong cn sc cl sp (nI j)) = 0 then f_X2_countWrong_L cn sc cl sp r (j + 1) fnd
    else f_X2_countWrong_L cn sc cl sp r (j + 1) (fnd + 1)
def f_X2_countWrong (cn : Int32) (sc : Nat → Int32) (cl : Nat → Int32) (sp : Nat → Int32) : Int32 :=
  f_X2_countWrong_L cn sc cl sp cn.toNatClampNeg 0 0
theorem iw_X2_countWrong_RX2 : ∀ w ∈ u_ws RX2 TX2 6, w ∈ wsX2_countWrong := by decide +kernel
set_option maxHeartbeats 4000000 in
set_option maxRecDepth 100000 in
theorem c_X2_countWrong (l : Launch) (G : GT) (a : Nat → Nat) (sz : Nat) (cn : Int32) (sc : Nat → Int32) (cl : Nat → Int32) (sp : Nat → Int32) (hcn : okN 20 cn) : Met l yX2_countWrong wsX2_countWrong ({ frames := 4, cells := 0, slots := 0, locals := 85 }) (GP G [.ref (a 1)] [wcS a cn, wcI G (a 2) 6 sc, wcI G (a 3) 20 cl, wcI G (a 6) 20 sp] sz) (PQo (.returned (some (.int (f_X2_countWrong cn sc cl sp))))) 0 0 (fun _ => False) := by
  refine bodyM (cc := cX2_countWrong) (maxL := 3) (ret := (some .int)) (by decide) rfl (Nat.le_of_ble_eq_true rfl) ?_
  intro p e s m below meth c ls C
  obtain ⟨hx, hb, hr, hts, hown, hlocks, hml, hsz, hP, hE, hD, hA, hS, hl⟩ := C
  subst hsz
  have hl : lv_has ls 3 [(0, .ref (a 1))] := hl
  obtain ⟨n, hn, hcn2⟩ := id hcn
  have hcl : cn.toNatClampNeg = n := by rw [hcn2]; exact nI_clamp (by omega)
  refine lv_iconst (v := 0) hx hb dX2_countWrong_0 (by decide) ?_
  refine lv_istore_n (lv' := [(1, .int 0), (0, .ref (a 1))]) hx hb dX2_countWrong_1 rfl hl (by decide) rfl (fun ls hl => ?_)
  refine lv_iconst (v := 0) hx hb dX2_countWrong_2 (by decide) ?_
  refine lv_istore_n (lv' := [(2, .int 0), (1, .int 0), (0, .ref (a 1))]) hx hb dX2_countWrong_3 rfl hl (by decide) rfl (fun ls hl => ?_)
  refine k_loopP (α := Int32) (fun (r j : Nat) (x : Int32) (ls : Array Slot) => j + r = n ∧ f_X2_countWrong cn sc cl sp = f_X2_countWrong_L cn sc cl sp r j x ∧ lv_has ls 3 [(2, .int (nI j)), (1, .int x), (0, .ref (a 1))]) n 0 0 ⟨by omega, (by rw [f_X2_countWrong, hcl]), lv_sub hl [0, 1, 2] rfl⟩ ?_ ?_
  · intro j x ls hI
    obtain ⟨fnd, rfl⟩ : ∃ y, y = x := ⟨_, rfl⟩
    obtain ⟨hj, hf, hl⟩ := hI
    have hl : lv_has ls 3 [(2, .int (nI j)), (1, .int fnd), (0, .ref (a 1))] := hl
    have hf : f_X2_countWrong cn sc cl sp = f_X2_countWrong_L cn sc cl sp 0 j fnd := hf
    refine lv_iload_n hx hb dX2_countWrong_4 rfl (lv_at hl 0 rfl) ?_
    refine lv_aload_n hx hb dX2_countWrong_5 rfl (lv_at hl 2 rfl) ?_
    refine va_get (D := G.1) (ci := 2) (v := .int cn) (C := RX2) (T := TX2) (N := 6) hx hb hts iw_X2_countWrong_RX2 hown hE.1 hP 0 rfl rfl 5 (by decide) (hts (.fieldLink RX2 27 "Rackrail$Store" "count" "I") (by decide +kernel)) (fun _ h9 => h9) rfl dX2_countWrong_6 ?_
    refine lv_icmp_ge (tgt := 29) hx hb dX2_countWrong_9 (by decide) (fun c_9 => ?_) (fun c_9 => absurd (lp_a hcn2 (by omega) (by omega)) c_9)
    refine lv_iload_n hx hb dX2_countWrong_29 rfl (lv_at hl 1 rfl) ?_
    have hq : f_X2_countWrong cn sc cl sp = fnd := (hf.trans (by rw [f_X2_countWrong_L]))
    exact W.iret (v := fnd) hx hb hr (fun t ht _ => ⟨by rw [hq], ht⟩) (fun _ h => nomatch h) dX2_countWrong_30
  · intro r ih j x ls hI
    obtain ⟨fnd, rfl⟩ : ∃ y, y = x := ⟨_, rfl⟩
    obtain ⟨hj, hf, hl⟩ := hI
    have hl : lv_has ls 3 [(2, .int (nI j)), (1, .int fnd), (0, .ref (a 1))] := hl
    have hf : f_X2_countWrong cn sc cl sp = f_X2_countWrong_L cn sc cl sp (r + 1) j fnd := hf
    refine lv_iload_n hx hb dX2_countWrong_4 rfl (lv_at hl 0 rfl) ?_
    refine lv_aload_n hx hb dX2_countWrong_5 rfl (lv_at hl 2 rfl) ?_
    refine va_get (D := G.1) (ci := 2) (v := .int cn) (C := RX2) (T := TX2) (N := 6) hx hb hts iw_X2_countWrong_RX2 hown hE.1 hP 0 rfl rfl 5 (by decide) (hts (.fieldLink RX2 27 "Rackrail$Store" "count" "I") (by decide +kernel)) (fun _ h9 => h9) rfl dX2_countWrong_6 ?_
    refine lv_icmp_ge (tgt := 29) hx hb dX2_countWrong_9 (by decide) (fun c_9 => absurd c_9 (lp_b (r := r) hcn2 (by omega) (by omega))) (fun c_9 => ?_)
    refine lv_aload_n hx hb dX2_countWrong_12 rfl (lv_at hl 2 rfl) ?_
    refine lv_iload_n hx hb dX2_countWrong_13 rfl (lv_at hl 0 rfl) ?_
    refine k_p (va_runV (As := [.int (nI j)]) (rest := []) ⟨hx, hb, hml, hown, hts⟩ (c_X2_isWrong l G a s.heap.size cn sc cl sp (nI j) hcn) (cwV 1 hts gX2_countWrong_X2_isWrong rfl rfl rfl ⟨rfl, by decide +kernel, by decide +kernel, by decide +kernel⟩ ⟨Nat.le_of_ble_eq_true rfl, Nat.le_of_ble_eq_true rfl⟩) ⟨GP.blind, va_recv hE.1 hP (ci := 2) (q0 := 0) rfl rfl, GP.go (wc := [wcS a cn, wcI G (a 2) 6 sc, wcI G (a 3) 20 cl, wcI G (a 6) 20 sp]) hE hP hD hS hA [0, 1, 2, 3] rfl (by decide) [.ref (a 1), .int (nI j)]⟩ rfl rfl hl.1 rfl (lv_room (Nat.le_of_ble_eq_true rfl)) dX2_countWrong_14 ⟨Nat.le_of_ble_eq_true rfl, Nat.le_of_ble_eq_true rfl⟩) ?_
    refine lv_if_eq (tgt := 23) hx hb dX2_countWrong_17 (by decide) (fun c_17 => ?_) (fun c_17 => ?_)
    · refine lv_iinc (v := nI (j + 1)) (lv' := [(2, .int (nI (j + 1))), (1, .int fnd), (0, .ref (a 1))]) hx hb dX2_countWrong_23 hl (k := 0) rfl (inc1 _) (by decide) rfl (fun ls hl => ?_)
      refine lv_goto (tgt := 4) hx hb dX2_countWrong_26 (by decide) ?_
      exact ih (j + 1) fnd _ ⟨by omega, (hf.trans (by rw [f_X2_countWrong_L, if_pos c_17])), lv_sub hl [0, 1, 2] rfl⟩
    · refine lv_iinc (v := fnd + 1) (lv' := [(1, .int (fnd + 1)), (2, .int (nI j)), (0, .ref (a 1))]) hx hb dX2_countWrong_20 hl (k := 1) rfl rfl (by decide) rfl (fun ls hl => ?_)
      refine lv_iinc (v := nI (j + 1)) (lv' := [(2, .int (nI (j + 1))), (1, .int (fnd + 1)), (0, .ref (a 1))]) hx hb dX2_countWrong_23 hl (k := 1) rfl (inc1 _) (by decide) rfl (fun ls hl => ?_)
      refine lv_goto (tgt := 4) hx hb dX2_countWrong_26 (by decide) ?_
      exact ih (j + 1) (fnd + 1) _ ⟨by omega, (hf.trans (by rw [f_X2_countWrong_L, if_neg c_17])), lv_sub hl [0, 1, 2] rfl⟩

/-! X2_firstFreeSpot -/
def f_X2_firstFreeSpot (cn : Int32) (sp : Nat → Int32) (p0 : Int32) : Int32 :=
  if (f_X2_boxIn cn sp (f_X3_spotAt p0 0 0)) = (-1) then f_X3_spotAt p0 0 0
    else if (f_X2_boxIn cn sp (f_X3_spotAt p0 0 1)) = (-1) then f_X3_spotAt p0 0 1
    else if (f_X2_boxIn cn sp (f_X3_spotAt p0 0 2)) = (-1) then f_X3_spotAt p0 0 2
    else if (f_X2_boxIn cn sp (f_X3_spotAt p0 1 0)) = (-1) then f_X3_spotAt p0 1 0
    else if (f_X2_boxIn cn sp (f_X3_spotAt p0 1 1)) = (-1) then f_X3_spotAt p0 1 1
    else if (f_X2_boxIn cn sp (f_X3_spotAt p0 1 2)) = (-1) then f_X3_spotAt p0 1 2
    else (-1)
set_option maxHeartbeats 4000000 in
set_option maxRecDepth 100000 in
theorem c_X2_firstFreeSpot (l : Launch) (G : GT) (a : Nat → Nat) (sz : Nat) (cn : Int32) (sp : Nat → Int32) (p0 : Int32) (hcn : okN 20 cn) : Met l yX2_firstFreeSpot wsX2_firstFreeSpot ({ frames := 1, cells := 0, slots := 0, locals := 22 }) (GP G [.ref (a 1), .int p0] [wcS a cn, wcI G (a 6) 20 sp] sz) (PQo (.returned (some (.int (f_X2_firstFreeSpot cn sp p0))))) 0 0 (fun _ => False) := by
  refine bodyM (cc := cX2_firstFreeSpot) (maxL := 5) (ret := (some .int)) (by decide) rfl (Nat.le_of_ble_eq_true rfl) ?_
  intro p e s m below meth c ls C
  obtain ⟨hx, hb, hr, hts, hown, hlocks, hml, hsz, hP, hE, hD, hA, hS, hl⟩ := C
  subst hsz
  have hl : lv_has ls 5 [(0, .ref (a 1)), (1, .int p0)] := hl
  refine lv_iconst (v := 0) hx hb dX2_firstFreeSpot_0 (by decide) ?_
  refine lv_istore_n (lv' := [(2, .int 0), (0, .ref (a 1)), (1, .int p0)]) hx hb dX2_firstFreeSpot_1 rfl hl (by decide) rfl (fun ls hl => ?_)
  refine lv_iload_n hx hb dX2_firstFreeSpot_2 rfl (lv_at hl 0 rfl) ?_
  refine lv_iconst (v := 2) hx hb dX2_firstFreeSpot_3 (by decide) ?_
  refine lv_icmp_ge (tgt := 47) hx hb dX2_firstFreeSpot_4 (by decide) (fun c_4 => absurd c_4 (by decide)) (fun c_4 => ?_)
  refine lv_iconst (v := 0) hx hb dX2_firstFreeSpot_7 (by decide) ?_
  refine lv_istore_n (lv' := [(3, .int 0), (2, .int 0), (0, .ref (a 1)), (1, .int p0)]) hx hb dX2_firstFreeSpot_8 rfl hl (by decide) rfl (fun ls hl => ?_)
  refine lv_iload_n hx hb dX2_firstFreeSpot_9 rfl (lv_at hl 0 rfl) ?_
  refine lv_iconst (v := 3) hx hb dX2_firstFreeSpot_10 (by decide) ?_
  refine lv_icmp_ge (tgt := 41) hx hb dX2_firstFreeSpot_11 (by decide) (fun c_11 => absurd c_11 (by decide)) (fun c_11 => ?_)
  refine lv_iload_n hx hb dX2_firstFreeSpot_14 rfl (lv_at hl 3 rfl) ?_
  refine lv_iload_n hx hb dX2_firstFreeSpot_15 rfl (lv_at hl 1 rfl) ?_
  refine lv_iload_n hx hb dX2_firstFreeSpot_16 rfl (lv_at hl 0 rfl) ?_
  refine k_p (va_runSN (As := [.int p0, .int 0, .int 0]) (rest := []) ⟨hx, hb, hml, hown, hts⟩ (c_X3_spotAt l G s.heap.size p0 0 0) ⟨va_cnB (host := "Rackrail") 3 hts gX2_firstFreeSpot_X3_spotAt_n62 rfl rfl rfl (hE.2.1 (RX2, 62, yX3_spotAt) (by decide)) (hts (.initialized RX3) (by decide +kernel)) ⟨by decide +kernel, by decide +kernel, by decide +kernel⟩ ⟨Nat.le_of_ble_eq_true rfl, Nat.le_of_ble_eq_true rfl⟩, hts (.static yX3_spotAt) (by decide +kernel), trivial⟩ ⟨GP.blind, GP.go (wc := []) hE hP hD hS hA [] rfl (by decide) [.int p0, .int 0, .int 0]⟩ rfl rfl hl.1 rfl (lv_room (Nat.le_of_ble_eq_true rfl)) dX2_firstFreeSpot_17 ⟨Nat.le_of_ble_eq_true rfl, Nat.le_of_ble_eq_true rfl⟩) ?_
  refine lv_istore (lv' := [(4, .int (f_X3_spotAt p0 0 0)), (3, .int 0), (2, .int 0), (0, .ref (a 1)), (1, .int p0)]) hx hb dX2_firstFreeSpot_20 hl (by decide) rfl (fun ls hl => ?_)
  refine lv_aload_n hx hb dX2_firstFreeSpot_22 rfl (lv_at hl 3 rfl) ?_
  refine lv_iload hx hb dX2_firstFreeSpot_23 (lv_at hl 0 rfl) ?_
  refine k_p (va_runV (As := [.int (f_X3_spotAt p0 0 0)]) (rest := []) ⟨hx, hb, hml, hown, hts⟩ (c_X2_boxIn l G a s.heap.size cn sp (f_X3_spotAt p0 0 0) hcn) (cwV 1 hts gX2_firstFreeSpot_X2_boxIn rfl rfl rfl ⟨rfl, by decide +kernel, by decide +kernel, by decide +kernel⟩ ⟨Nat.le_of_ble_eq_true rfl, Nat.le_of_ble_eq_true rfl⟩) ⟨GP.blind, va_recv hE.1 hP (ci := 2) (q0 := 0) rfl rfl, GP.go (wc := [wcS a cn, wcI G (a 6) 20 sp]) hE hP hD hS hA [0, 1] rfl (by decide) [.ref (a 1), .int (f_X3_spotAt p0 0 0)]⟩ rfl rfl hl.1 rfl (lv_room (Nat.le_of_ble_eq_true rfl)) dX2_firstFreeSpot_25 ⟨Nat.le_of_ble_eq_true rfl, Nat.le_of_ble_eq_true rfl⟩) ?_
  refine lv_iconst (v := (-1)) hx hb dX2_firstFreeSpot_28 (by decide) ?_
  refine lv_icmp_ne (tgt := 35) hx hb dX2_firstFreeSpot_29 (by decide) (fun c_29 => ?_) (fun c_29 => ?_)
  · refine lv_iinc (v := 1) (lv' := [(3, .int 1), (4, .int (f_X3_spotAt p0 0 0)), (2, .int 0), (0, .ref (a 1)), (1, .int p0)]) hx hb dX2_firstFreeSpot_35 hl (k := 1) rfl (by decide) (by decide) rfl (fun ls hl => ?_)
    refine lv_goto (tgt := 9) hx hb dX2_firstFreeSpot_38 (by decide) ?_
    refine lv_iload_n hx hb dX2_firstFreeSpot_9 rfl (lv_at hl 0 rfl) ?_
    refine lv_iconst (v := 3) hx hb dX2_firstFreeSpot_10 (by decide) ?_
    refine lv_icmp_ge (tgt := 41) hx hb dX2_firstFreeSpot_11 (by decide) (fun c_11 => absurd c_11 (by decide)) (fun c_11 => ?_)
    refine lv_iload_n hx hb dX2_firstFreeSpot_14 rfl (lv_at hl 4 rfl) ?_
    refine lv_iload_n hx hb dX2_firstFreeSpot_15 rfl (lv_at hl 2 rfl) ?_
    refine lv_iload_n hx hb dX2_firstFreeSpot_16 rfl (lv_at hl 0 rfl) ?_
    refine k_p (va_runSN (As := [.int p0, .int 0, .int 1]) (rest := []) ⟨hx, hb, hml, hown, hts⟩ (c_X3_spotAt l G s.heap.size p0 0 1) ⟨va_cnB (host := "Rackrail") 3 hts gX2_firstFreeSpot_X3_spotAt_n62 rfl rfl rfl (hE.2.1 (RX2, 62, yX3_spotAt) (by decide)) (hts (.initialized RX3) (by decide +kernel)) ⟨by decide +kernel, by decide +kernel, by decide +kernel⟩ ⟨Nat.le_of_ble_eq_true rfl, Nat.le_of_ble_eq_true rfl⟩, hts (.static yX3_spotAt) (by decide +kernel), trivial⟩ ⟨GP.blind, GP.go (wc := []) hE hP hD hS hA [] rfl (by decide) [.int p0, .int 0, .int 1]⟩ rfl rfl hl.1 rfl (lv_room (Nat.le_of_ble_eq_true rfl)) dX2_firstFreeSpot_17 ⟨Nat.le_of_ble_eq_true rfl, Nat.le_of_ble_eq_true rfl⟩) ?_
    refine lv_istore (lv' := [(4, .int (f_X3_spotAt p0 0 1)), (3, .int 1), (2, .int 0), (0, .ref (a 1)), (1, .int p0)]) hx hb dX2_firstFreeSpot_20 hl (by decide) rfl (fun ls hl => ?_)
    refine lv_aload_n hx hb dX2_firstFreeSpot_22 rfl (lv_at hl 3 rfl) ?_
    refine lv_iload hx hb dX2_firstFreeSpot_23 (lv_at hl 0 rfl) ?_
    refine k_p (va_runV (As := [.int (f_X3_spotAt p0 0 1)]) (rest := []) ⟨hx, hb, hml, hown, hts⟩ (c_X2_boxIn l G a s.heap.size cn sp (f_X3_spotAt p0 0 1) hcn) (cwV 1 hts gX2_firstFreeSpot_X2_boxIn rfl rfl rfl ⟨rfl, by decide +kernel, by decide +kernel, by decide +kernel⟩ ⟨Nat.le_of_ble_eq_true rfl, Nat.le_of_ble_eq_true rfl⟩) ⟨GP.blind, va_recv hE.1 hP (ci := 2) (q0 := 0) rfl rfl, GP.go (wc := [wcS a cn, wcI G (a 6) 20 sp]) hE hP hD hS hA [0, 1] rfl (by decide) [.ref (a 1), .int (f_X3_spotAt p0 0 1)]⟩ rfl rfl hl.1 rfl (lv_room (Nat.le_of_ble_eq_true rfl)) dX2_firstFreeSpot_25 ⟨Nat.le_of_ble_eq_true rfl, Nat.le_of_ble_eq_true rfl⟩) ?_
    refine lv_iconst (v := (-1)) hx hb dX2_firstFreeSpot_28 (by decide) ?_
    refine lv_icmp_ne (tgt := 35) hx hb dX2_firstFreeSpot_29 (by decide) (fun c_29_2 => ?_) (fun c_29_2 => ?_)
    · refine lv_iinc (v := 2) (lv' := [(3, .int 2), (4, .int (f_X3_spotAt p0 0 1)), (2, .int 0), (0, .ref (a 1)), (1, .int p0)]) hx hb dX2_firstFreeSpot_35 hl (k := 1) rfl (by decide) (by decide) rfl (fun ls hl => ?_)
      refine lv_goto (tgt := 9) hx hb dX2_firstFreeSpot_38 (by decide) ?_
      refine lv_iload_n hx hb dX2_firstFreeSpot_9 rfl (lv_at hl 0 rfl) ?_
      refine lv_iconst (v := 3) hx hb dX2_firstFreeSpot_10 (by decide) ?_
      refine lv_icmp_ge (tgt := 41) hx hb dX2_firstFreeSpot_11 (by decide) (fun c_11 => absurd c_11 (by decide)) (fun c_11 => ?_)
      refine lv_iload_n hx hb dX2_firstFreeSpot_14 rfl (lv_at hl 4 rfl) ?_
      refine lv_iload_n hx hb dX2_firstFreeSpot_15 rfl (lv_at hl 2 rfl) ?_
      refine lv_iload_n hx hb dX2_firstFreeSpot_16 rfl (lv_at hl 0 rfl) ?_
      refine k_p (va_runSN (As := [.int p0, .int 0, .int 2]) (rest := []) ⟨hx, hb, hml, hown, hts⟩ (c_X3_spotAt l G s.heap.size p0 0 2) ⟨va_cnB (host := "Rackrail") 3 hts gX2_firstFreeSpot_X3_spotAt_n62 rfl rfl rfl (hE.2.1 (RX2, 62, yX3_spotAt) (by decide)) (hts (.initialized RX3) (by decide +kernel)) ⟨by decide +kernel, by decide +kernel, by decide +kernel⟩ ⟨Nat.le_of_ble_eq_true rfl, Nat.le_of_ble_eq_true rfl⟩, hts (.static yX3_spotAt) (by decide +kernel), trivial⟩ ⟨GP.blind, GP.go (wc := []) hE hP hD hS hA [] rfl (by decide) [.int p0, .int 0, .int 2]⟩ rfl rfl hl.1 rfl (lv_room (Nat.le_of_ble_eq_true rfl)) dX2_firstFreeSpot_17 ⟨Nat.le_of_ble_eq_true rfl, Nat.le_of_ble_eq_true rfl⟩) ?_
      refine lv_istore (lv' := [(4, .int (f_X3_spotAt p0 0 2)), (3, .int 2), (2, .int 0), (0, .ref (a 1)), (1, .int p0)]) hx hb dX2_firstFreeSpot_20 hl (by decide) rfl (fun ls hl => ?_)
      refine lv_aload_n hx hb dX2_firstFreeSpot_22 rfl (lv_at hl 3 rfl) ?_
      refine lv_iload hx hb dX2_firstFreeSpot_23 (lv_at hl 0 rfl) ?_
      refine k_p (va_runV (As := [.int (f_X3_spotAt p0 0 2)]) (rest := []) ⟨hx, hb, hml, hown, hts⟩ (c_X2_boxIn l G a s.heap.size cn sp (f_X3_spotAt p0 0 2) hcn) (cwV 1 hts gX2_firstFreeSpot_X2_boxIn rfl rfl rfl ⟨rfl, by decide +kernel, by decide +kernel, by decide +kernel⟩ ⟨Nat.le_of_ble_eq_true rfl, Nat.le_of_ble_eq_true rfl⟩) ⟨GP.blind, va_recv hE.1 hP (ci := 2) (q0 := 0) rfl rfl, GP.go (wc := [wcS a cn, wcI G (a 6) 20 sp]) hE hP hD hS hA [0, 1] rfl (by decide) [.ref (a 1), .int (f_X3_spotAt p0 0 2)]⟩ rfl rfl hl.1 rfl (lv_room (Nat.le_of_ble_eq_true rfl)) dX2_firstFreeSpot_25 ⟨Nat.le_of_ble_eq_true rfl, Nat.le_of_ble_eq_true rfl⟩) ?_
      refine lv_iconst (v := (-1)) hx hb dX2_firstFreeSpot_28 (by decide) ?_
      refine lv_icmp_ne (tgt := 35) hx hb dX2_firstFreeSpot_29 (by decide) (fun c_29_3 => ?_) (fun c_29_3 => ?_)
      · refine lv_iinc (v := 3) (lv' := [(3, .int 3), (4, .int (f_X3_spotAt p0 0 2)), (2, .int 0), (0, .ref (a 1)), (1, .int p0)]) hx hb dX2_firstFreeSpot_35 hl (k := 1) rfl (by decide) (by decide) rfl (fun ls hl => ?_)
        refine lv_goto (tgt := 9) hx hb dX2_firstFreeSpot_38 (by decide) ?_
        refine lv_iload_n hx hb dX2_firstFreeSpot_9 rfl (lv_at hl 0 rfl) ?_
        refine lv_iconst (v := 3) hx hb dX2_firstFreeSpot_10 (by decide) ?_
        refine lv_icmp_ge (tgt := 41) hx hb dX2_firstFreeSpot_11 (by decide) (fun c_11 => ?_) (fun c_11 => absurd (by decide) c_11)
        refine lv_iinc (v := 1) (lv' := [(2, .int 1), (3, .int 3), (4, .int (f_X3_spotAt p0 0 2)), (0, .ref (a 1)), (1, .int p0)]) hx hb dX2_firstFreeSpot_41 hl (k := 2) rfl (by decide) (by decide) rfl (fun ls hl => ?_)
        refine lv_goto (tgt := 2) hx hb dX2_firstFreeSpot_44 (by decide) ?_
        refine lv_iload_n hx hb dX2_firstFreeSpot_2 rfl (lv_at hl 0 rfl) ?_
        refine lv_iconst (v := 2) hx hb dX2_firstFreeSpot_3 (by decide) ?_
        refine lv_icmp_ge (tgt := 47) hx hb dX2_firstFreeSpot_4 (by decide) (fun c_4 => absurd c_4 (by decide)) (fun c_4 => ?_)
        refine lv_iconst (v := 0) hx hb dX2_firstFreeSpot_7 (by decide) ?_
        refine lv_istore_n (lv' := [(3, .int 0), (2, .int 1), (4, .int (f_X3_spotAt p0 0 2)), (0, .ref (a 1)), (1, .int p0)]) hx hb dX2_firstFreeSpot_8 rfl hl (by decide) rfl (fun ls hl => ?_)
        refine lv_iload_n hx hb dX2_firstFreeSpot_9 rfl (lv_at hl 0 rfl) ?_
        refine lv_iconst (v := 3) hx hb dX2_firstFreeSpot_10 (by decide) ?_
        refine lv_icmp_ge (tgt := 41) hx hb dX2_firstFreeSpot_11 (by decide) (fun c_11 => absurd c_11 (by decide)) (fun c_11 => ?_)
        refine lv_iload_n hx hb dX2_firstFreeSpot_14 rfl (lv_at hl 4 rfl) ?_
        refine lv_iload_n hx hb dX2_firstFreeSpot_15 rfl (lv_at hl 1 rfl) ?_
        refine lv_iload_n hx hb dX2_firstFreeSpot_16 rfl (lv_at hl 0 rfl) ?_
        refine k_p (va_runSN (As := [.int p0, .int 1, .int 0]) (rest := []) ⟨hx, hb, hml, hown, hts⟩ (c_X3_spotAt l G s.heap.size p0 1 0) ⟨va_cnB (host := "Rackrail") 3 hts gX2_firstFreeSpot_X3_spotAt_n62 rfl rfl rfl (hE.2.1 (RX2, 62, yX3_spotAt) (by decide)) (hts (.initialized RX3) (by decide +kernel)) ⟨by decide +kernel, by decide +kernel, by decide +kernel⟩ ⟨Nat.le_of_ble_eq_true rfl, Nat.le_of_ble_eq_true rfl⟩, hts (.static yX3_spotAt) (by decide +kernel), trivial⟩ ⟨GP.blind, GP.go (wc := []) hE hP hD hS hA [] rfl (by decide) [.int p0, .int 1, .int 0]⟩ rfl rfl hl.1 rfl (lv_room (Nat.le_of_ble_eq_true rfl)) dX2_firstFreeSpot_17 ⟨Nat.le_of_ble_eq_true rfl, Nat.le_of_ble_eq_true rfl⟩) ?_
        refine lv_istore (lv' := [(4, .int (f_X3_spotAt p0 1 0)), (3, .int 0), (2, .int 1), (0, .ref (a 1)), (1, .int p0)]) hx hb dX2_firstFreeSpot_20 hl (by decide) rfl (fun ls hl => ?_)
        refine lv_aload_n hx hb dX2_firstFreeSpot_22 rfl (lv_at hl 3 rfl) ?_
        refine lv_iload hx hb dX2_firstFreeSpot_23 (lv_at hl 0 rfl) ?_
        refine k_p (va_runV (As := [.int (f_X3_spotAt p0 1 0)]) (rest := []) ⟨hx, hb, hml, hown, hts⟩ (c_X2_boxIn l G a s.heap.size cn sp (f_X3_spotAt p0 1 0) hcn) (cwV 1 hts gX2_firstFreeSpot_X2_boxIn rfl rfl rfl ⟨rfl, by decide +kernel, by decide +kernel, by decide +kernel⟩ ⟨Nat.le_of_ble_eq_true rfl, Nat.le_of_ble_eq_true rfl⟩) ⟨GP.blind, va_recv hE.1 hP (ci := 2) (q0 := 0) rfl rfl, GP.go (wc := [wcS a cn, wcI G (a 6) 20 sp]) hE hP hD hS hA [0, 1] rfl (by decide) [.ref (a 1), .int (f_X3_spotAt p0 1 0)]⟩ rfl rfl hl.1 rfl (lv_room (Nat.le_of_ble_eq_true rfl)) dX2_firstFreeSpot_25 ⟨Nat.le_of_ble_eq_true rfl, Nat.le_of_ble_eq_true rfl⟩) ?_
        refine lv_iconst (v := (-1)) hx hb dX2_firstFreeSpot_28 (by decide) ?_
        refine lv_icmp_ne (tgt := 35) hx hb dX2_firstFreeSpot_29 (by decide) (fun c_29_4 => ?_) (fun c_29_4 => ?_)
        · refine lv_iinc (v := 1) (lv' := [(3, .int 1), (4, .int (f_X3_spotAt p0 1 0)), (2, .int 1), (0, .ref (a 1)), (1, .int p0)]) hx hb dX2_firstFreeSpot_35 hl (k := 1) rfl (by decide) (by decide) rfl (fun ls hl => ?_)
          refine lv_goto (tgt := 9) hx hb dX2_firstFreeSpot_38 (by decide) ?_
          refine lv_iload_n hx hb dX2_firstFreeSpot_9 rfl (lv_at hl 0 rfl) ?_
          refine lv_iconst (v := 3) hx hb dX2_firstFreeSpot_10 (by decide) ?_
          refine lv_icmp_ge (tgt := 41) hx hb dX2_firstFreeSpot_11 (by decide) (fun c_11 => absurd c_11 (by decide)) (fun c_11 => ?_)
          refine lv_iload_n hx hb dX2_firstFreeSpot_14 rfl (lv_at hl 4 rfl) ?_
          refine lv_iload_n hx hb dX2_firstFreeSpot_15 rfl (lv_at hl 2 rfl) ?_
          refine lv_iload_n hx hb dX2_firstFreeSpot_16 rfl (lv_at hl 0 rfl) ?_
          refine k_p (va_runSN (As := [.int p0, .int 1, .int 1]) (rest := []) ⟨hx, hb, hml, hown, hts⟩ (c_X3_spotAt l G s.heap.size p0 1 1) ⟨va_cnB (host := "Rackrail") 3 hts gX2_firstFreeSpot_X3_spotAt_n62 rfl rfl rfl (hE.2.1 (RX2, 62, yX3_spotAt) (by decide)) (hts (.initialized RX3) (by decide +kernel)) ⟨by decide +kernel, by decide +kernel, by decide +kernel⟩ ⟨Nat.le_of_ble_eq_true rfl, Nat.le_of_ble_eq_true rfl⟩, hts (.static yX3_spotAt) (by decide +kernel), trivial⟩ ⟨GP.blind, GP.go (wc := []) hE hP hD hS hA [] rfl (by decide) [.int p0, .int 1, .int 1]⟩ rfl rfl hl.1 rfl (lv_room (Nat.le_of_ble_eq_true rfl)) dX2_firstFreeSpot_17 ⟨Nat.le_of_ble_eq_true rfl, Nat.le_of_ble_eq_true rfl⟩) ?_
          refine lv_istore (lv' := [(4, .int (f_X3_spotAt p0 1 1)), (3, .int 1), (2, .int 1), (0, .ref (a 1)), (1, .int p0)]) hx hb dX2_firstFreeSpot_20 hl (by decide) rfl (fun ls hl => ?_)
          refine lv_aload_n hx hb dX2_firstFreeSpot_22 rfl (lv_at hl 3 rfl) ?_
          refine lv_iload hx hb dX2_firstFreeSpot_23 (lv_at hl 0 rfl) ?_
          refine k_p (va_runV (As := [.int (f_X3_spotAt p0 1 1)]) (rest := []) ⟨hx, hb, hml, hown, hts⟩ (c_X2_boxIn l G a s.heap.size cn sp (f_X3_spotAt p0 1 1) hcn) (cwV 1 hts gX2_firstFreeSpot_X2_boxIn rfl rfl rfl ⟨rfl, by decide +kernel, by decide +kernel, by decide +kernel⟩ ⟨Nat.le_of_ble_eq_true rfl, Nat.le_of_ble_eq_true rfl⟩) ⟨GP.blind, va_recv hE.1 hP (ci := 2) (q0 := 0) rfl rfl, GP.go (wc := [wcS a cn, wcI G (a 6) 20 sp]) hE hP hD hS hA [0, 1] rfl (by decide) [.ref (a 1), .int (f_X3_spotAt p0 1 1)]⟩ rfl rfl hl.1 rfl (lv_room (Nat.le_of_ble_eq_true rfl)) dX2_firstFreeSpot_25 ⟨Nat.le_of_ble_eq_true rfl, Nat.le_of_ble_eq_true rfl⟩) ?_
          refine lv_iconst (v := (-1)) hx hb dX2_firstFreeSpot_28 (by decide) ?_
          refine lv_icmp_ne (tgt := 35) hx hb dX2_firstFreeSpot_29 (by decide) (fun c_29_5 => ?_) (fun c_29_5 => ?_)
          · refine lv_iinc (v := 2) (lv' := [(3, .int 2), (4, .int (f_X3_spotAt p0 1 1)), (2, .int 1), (0, .ref (a 1)), (1, .int p0)]) hx hb dX2_firstFreeSpot_35 hl (k := 1) rfl (by decide) (by decide) rfl (fun ls hl => ?_)
            refine lv_goto (tgt := 9) hx hb dX2_firstFreeSpot_38 (by decide) ?_
            refine lv_iload_n hx hb dX2_firstFreeSpot_9 rfl (lv_at hl 0 rfl) ?_
            refine lv_iconst (v := 3) hx hb dX2_firstFreeSpot_10 (by decide) ?_
            refine lv_icmp_ge (tgt := 41) hx hb dX2_firstFreeSpot_11 (by decide) (fun c_11 => absurd c_11 (by decide)) (fun c_11 => ?_)
            refine lv_iload_n hx hb dX2_firstFreeSpot_14 rfl (lv_at hl 4 rfl) ?_
            refine lv_iload_n hx hb dX2_firstFreeSpot_15 rfl (lv_at hl 2 rfl) ?_
            refine lv_iload_n hx hb dX2_firstFreeSpot_16 rfl (lv_at hl 0 rfl) ?_
            refine k_p (va_runSN (As := [.int p0, .int 1, .int 2]) (rest := []) ⟨hx, hb, hml, hown, hts⟩ (c_X3_spotAt l G s.heap.size p0 1 2) ⟨va_cnB (host := "Rackrail") 3 hts gX2_firstFreeSpot_X3_spotAt_n62 rfl rfl rfl (hE.2.1 (RX2, 62, yX3_spotAt) (by decide)) (hts (.initialized RX3) (by decide +kernel)) ⟨by decide +kernel, by decide +kernel, by decide +kernel⟩ ⟨Nat.le_of_ble_eq_true rfl, Nat.le_of_ble_eq_true rfl⟩, hts (.static yX3_spotAt) (by decide +kernel), trivial⟩ ⟨GP.blind, GP.go (wc := []) hE hP hD hS hA [] rfl (by decide) [.int p0, .int 1, .int 2]⟩ rfl rfl hl.1 rfl (lv_room (Nat.le_of_ble_eq_true rfl)) dX2_firstFreeSpot_17 ⟨Nat.le_of_ble_eq_true rfl, Nat.le_of_ble_eq_true rfl⟩) ?_
            refine lv_istore (lv' := [(4, .int (f_X3_spotAt p0 1 2)), (3, .int 2), (2, .int 1), (0, .ref (a 1)), (1, .int p0)]) hx hb dX2_firstFreeSpot_20 hl (by decide) rfl (fun ls hl => ?_)
            refine lv_aload_n hx hb dX2_firstFreeSpot_22 rfl (lv_at hl 3 rfl) ?_
            refine lv_iload hx hb dX2_firstFreeSpot_23 (lv_at hl 0 rfl) ?_
            refine k_p (va_runV (As := [.int (f_X3_spotAt p0 1 2)]) (rest := []) ⟨hx, hb, hml, hown, hts⟩ (c_X2_boxIn l G a s.heap.size cn sp (f_X3_spotAt p0 1 2) hcn) (cwV 1 hts gX2_firstFreeSpot_X2_boxIn rfl rfl rfl ⟨rfl, by decide +kernel, by decide +kernel, by decide +kernel⟩ ⟨Nat.le_of_ble_eq_true rfl, Nat.le_of_ble_eq_true rfl⟩) ⟨GP.blind, va_recv hE.1 hP (ci := 2) (q0 := 0) rfl rfl, GP.go (wc := [wcS a cn, wcI G (a 6) 20 sp]) hE hP hD hS hA [0, 1] rfl (by decide) [.ref (a 1), .int (f_X3_spotAt p0 1 2)]⟩ rfl rfl hl.1 rfl (lv_room (Nat.le_of_ble_eq_true rfl)) dX2_firstFreeSpot_25 ⟨Nat.le_of_ble_eq_true rfl, Nat.le_of_ble_eq_true rfl⟩) ?_
            refine lv_iconst (v := (-1)) hx hb dX2_firstFreeSpot_28 (by decide) ?_
            refine lv_icmp_ne (tgt := 35) hx hb dX2_firstFreeSpot_29 (by decide) (fun c_29_6 => ?_) (fun c_29_6 => ?_)
            · refine lv_iinc (v := 3) (lv' := [(3, .int 3), (4, .int (f_X3_spotAt p0 1 2)), (2, .int 1), (0, .ref (a 1)), (1, .int p0)]) hx hb dX2_firstFreeSpot_35 hl (k := 1) rfl (by decide) (by decide) rfl (fun ls hl => ?_)
              refine lv_goto (tgt := 9) hx hb dX2_firstFreeSpot_38 (by decide) ?_
              refine lv_iload_n hx hb dX2_firstFreeSpot_9 rfl (lv_at hl 0 rfl) ?_
              refine lv_iconst (v := 3) hx hb dX2_firstFreeSpot_10 (by decide) ?_
              refine lv_icmp_ge (tgt := 41) hx hb dX2_firstFreeSpot_11 (by decide) (fun c_11 => ?_) (fun c_11 => absurd (by decide) c_11)
              refine lv_iinc (v := 2) (lv' := [(2, .int 2), (3, .int 3), (4, .int (f_X3_spotAt p0 1 2)), (0, .ref (a 1)), (1, .int p0)]) hx hb dX2_firstFreeSpot_41 hl (k := 2) rfl (by decide) (by decide) rfl (fun ls hl => ?_)
              refine lv_goto (tgt := 2) hx hb dX2_firstFreeSpot_44 (by decide) ?_
              refine lv_iload_n hx hb dX2_firstFreeSpot_2 rfl (lv_at hl 0 rfl) ?_
              refine lv_iconst (v := 2) hx hb dX2_firstFreeSpot_3 (by decide) ?_
              refine lv_icmp_ge (tgt := 47) hx hb dX2_firstFreeSpot_4 (by decide) (fun c_4 => ?_) (fun c_4 => absurd (by decide) c_4)
              refine lv_iconst (v := (-1)) hx hb dX2_firstFreeSpot_47 (by decide) ?_
              have hq : f_X2_firstFreeSpot cn sp p0 = (-1) := (by rw [f_X2_firstFreeSpot, if_neg c_29, if_neg c_29_2, if_neg c_29_3, if_neg c_29_4, if_neg c_29_5, if_neg c_29_6])
              exact W.iret (v := (-1)) hx hb hr (fun t ht _ => ⟨by rw [hq], ht⟩) (fun _ h => nomatch h) dX2_firstFreeSpot_48
            · refine lv_iload hx hb dX2_firstFreeSpot_32 (lv_at hl 0 rfl) ?_
              have hq : f_X2_firstFreeSpot cn sp p0 = (f_X3_spotAt p0 1 2) := (by rw [f_X2_firstFreeSpot, if_neg c_29, if_neg c_29_2, if_neg c_29_3, if_neg c_29_4, if_neg c_29_5, if_pos c_29_6])
              exact W.iret (v := f_X3_spotAt p0 1 2) hx hb hr (fun t ht _ => ⟨by rw [hq], ht⟩) (fun _ h => nomatch h) dX2_firstFreeSpot_34
          · refine lv_iload hx hb dX2_firstFreeSpot_32 (lv_at hl 0 rfl) ?_
            have hq : f_X2_firstFreeSpot cn sp p0 = (f_X3_spotAt p0 1 1) := (by rw [f_X2_firstFreeSpot, if_neg c_29, if_neg c_29_2, if_neg c_29_3, if_neg c_29_4, if_pos c_29_5])
            exact W.iret (v := f_X3_spotAt p0 1 1) hx hb hr (fun t ht _ => ⟨by rw [hq], ht⟩) (fun _ h => nomatch h) dX2_firstFreeSpot_34
        · refine lv_iload hx hb dX2_firstFreeSpot_32 (lv_at hl 0 rfl) ?_
          have hq : f_X2_firstFreeSpot cn sp p0 = (f_X3_spotAt p0 1 0) := (by rw [f_X2_firstFreeSpot, if_neg c_29, if_neg c_29_2, if_neg c_29_3, if_pos c_29_4])
          exact W.iret (v := f_X3_spotAt p0 1 0) hx hb hr (fun t ht _ => ⟨by rw [hq], ht⟩) (fun _ h => nomatch h) dX2_firstFreeSpot_34
      · refine lv_iload hx hb dX2_firstFreeSpot_32 (lv_at hl 0 rfl) ?_
        have hq : f_X2_firstFreeSpot cn sp p0 = (f_X3_spotAt p0 0 2) := (by rw [f_X2_firstFreeSpot, if_neg c_29, if_neg c_29_2, if_pos c_29_3])
        exact W.iret (v := f_X3_spotAt p0 0 2) hx hb hr (fun t ht _ => ⟨by rw [hq], ht⟩) (fun _ h => nomatch h) dX2_firstFreeSpot_34
    · refine lv_iload hx hb dX2_firstFreeSpot_32 (lv_at hl 0 rfl) ?_
      have hq : f_X2_firstFreeSpot cn sp p0 = (f_X3_spotAt p0 0 1) := (by rw [f_X2_firstFreeSpot, if_neg c_29, if_pos c_29_2])
      exact W.iret (v := f_X3_spotAt p0 0 1) hx hb hr (fun t ht _ => ⟨by rw [hq], ht⟩) (fun _ h => nomatch h) dX2_firstFreeSpot_34
  · refine lv_iload hx hb dX2_firstFreeSpot_32 (lv_at hl 0 rfl) ?_
    have hq : f_X2_firstFreeSpot cn sp p0 = (f_X3_spotAt p0 0 0) := (by rw [f_X2_firstFreeSpot, if_pos c_29])
    exact W.iret (v := f_X3_spotAt p0 0 0) hx hb hr (fun t ht _ => ⟨by rw [hq], ht⟩) (fun _ h => nomatch h) dX2_firstFreeSpot_34

/-! X2_bestSpotFor -/
def f_X2_bestSpotFor_L (cn : Int32) (sc : Nat → Int32) (cl : Nat → Int32) (wt : Nat → Int32) (kn : Nat → Int32) (sp : Nat → Int32) (p0 : Int32) : Nat → Nat → Int32 → Int32 → Int32
  | 0, j, bst, mok => bst
  | r + 1, j, bst, mok => if (sc (nI j).toNatClampNeg) = (cl p0.toNatClampNeg) then (if 100 < ((f_X2_weightOn cn wt sp (nI j)) + (wt p0.toNatClampNeg)) then f_X2_bestSpotFor_L cn sc cl wt kn sp p0 r (j + 1) bst mok
      else if (f_X2_firstFreeSpot cn sp (nI j)) = (-1) then f_X2_bestSpotFor_L cn sc cl wt kn sp p0 r (j + 1) bst mok
      else if (f_X2_countKin cn kn sp (nI j) (kn p0.toNatClampNeg)) ≤ mok then f_X2_bestSpotFor_L cn sc cl wt kn sp p0 r (j + 1) bst mok
      else f_X2_bestSpotFor_L cn sc cl wt kn sp p0 r (j + 1) (f_X2_firstFreeSpot cn sp (nI j)) (f_X2_countKin cn kn sp (nI j) (kn p0.toNatClampNeg)))
    else f_X2_bestSpotFor_L cn sc cl wt kn sp p0 r (j + 1) bst mok
def f_X2_bestSpotFor (cn : Int32) (sc : Nat → Int32) (cl : Nat → Int32) (wt : Nat → Int32) (kn : Nat → Int32) (sp : Nat → Int32) (p0 : Int32) : Int32 :=
  if (f_X2_has cn p0) = 0 then (-1)
    else f_X2_bestSpotFor_L cn sc cl wt kn sp p0 6 0 (-1) (-1)
theorem iw_X2_bestSpotFor_RX2 : ∀ w ∈ u_ws RX2 TX2 6, w ∈ wsX2_bestSpotFor := by decide +kernel
set_option maxHeartbeats 4000000 in
set_option maxRecDepth 100000 in
theorem c_X2_bestSpotFor (l : Launch) (G : GT) (a : Nat → Nat) (sz : Nat) (cn : Int32) (sc : Nat → Int32) (cl : Nat → Int32) (wt : Nat → Int32) (kn : Nat → Int32) (sp : Nat → Int32) (p0 : Int32) (hcn : okN 20 cn) : Met l yX2_bestSpotFor wsX2_bestSpotFor ({ frames := 5, cells := 0, slots := 0, locals := 110 }) (GP G [.ref (a 1), .int p0] [wcS a cn, wcI G (a 2) 6 sc, wcI G (a 3) 20 cl, wcI G (a 4) 20 wt, wcI G (a 5) 20 kn, wcI G (a 6) 20 sp] sz) (PQo (.returned (some (.int (f_X2_bestSpotFor cn sc cl wt kn sp p0))))) 0 0 (fun _ => False) := by
  refine bodyM (cc := cX2_bestSpotFor) (maxL := 8) (ret := (some .int)) (by decide) rfl (Nat.le_of_ble_eq_true rfl) ?_
  intro p e s m below meth c ls C
  obtain ⟨hx, hb, hr, hts, hown, hlocks, hml, hsz, hP, hE, hD, hA, hS, hl⟩ := C
  subst hsz
  have hl : lv_has ls 8 [(0, .ref (a 1)), (1, .int p0)] := hl
  refine lv_aload_n hx hb dX2_bestSpotFor_0 rfl (lv_at hl 0 rfl) ?_
  refine lv_iload_n hx hb dX2_bestSpotFor_1 rfl (lv_at hl 1 rfl) ?_
  refine k_p (va_runV (As := [.int p0]) (rest := []) ⟨hx, hb, hml, hown, hts⟩ (c_X2_has l G a s.heap.size cn p0) (cwV 1 hts gX2_bestSpotFor_X2_has rfl rfl rfl ⟨rfl, by decide +kernel, by decide +kernel, by decide +kernel⟩ ⟨Nat.le_of_ble_eq_true rfl, Nat.le_of_ble_eq_true rfl⟩) ⟨GP.blind, va_recv hE.1 hP (ci := 2) (q0 := 0) rfl rfl, GP.go (wc := [wcS a cn]) hE hP hD hS hA [0] rfl (by decide) [.ref (a 1), .int p0]⟩ rfl rfl hl.1 rfl (lv_room (Nat.le_of_ble_eq_true rfl)) dX2_bestSpotFor_2 ⟨Nat.le_of_ble_eq_true rfl, Nat.le_of_ble_eq_true rfl⟩) ?_
  refine lv_if_ne (tgt := 10) hx hb dX2_bestSpotFor_5 (by decide) (fun c_5 => ?_) (fun c_5 => ?_)
  · refine lv_iconst (v := (-1)) hx hb dX2_bestSpotFor_10 (by decide) ?_
    refine lv_istore_n (lv' := [(2, .int (-1)), (0, .ref (a 1)), (1, .int p0)]) hx hb dX2_bestSpotFor_11 rfl hl (by decide) rfl (fun ls hl => ?_)
    refine lv_iconst (v := (-1)) hx hb dX2_bestSpotFor_12 (by decide) ?_
    refine lv_istore_n (lv' := [(3, .int (-1)), (2, .int (-1)), (0, .ref (a 1)), (1, .int p0)]) hx hb dX2_bestSpotFor_13 rfl hl (by decide) rfl (fun ls hl => ?_)
    refine lv_iconst (v := 0) hx hb dX2_bestSpotFor_14 (by decide) ?_
    refine lv_istore (lv' := [(4, .int 0), (3, .int (-1)), (2, .int (-1)), (0, .ref (a 1)), (1, .int p0)]) hx hb dX2_bestSpotFor_15 hl (by decide) rfl (fun ls hl => ?_)
    have hin0 : vp_in p0 20 := in_has hcn c_5
    refine k_loopP (α := Int32 × Int32) (fun (r j : Nat) (x : Int32 × Int32) (ls : Array Slot) => j + r = 6 ∧ f_X2_bestSpotFor cn sc cl wt kn sp p0 = f_X2_bestSpotFor_L cn sc cl wt kn sp p0 r j x.1 x.2 ∧ lv_has ls 8 [(4, .int (nI j)), (2, .int x.1), (3, .int x.2), (0, .ref (a 1)), (1, .int p0)]) 6 0 ((-1), (-1)) ⟨by omega, (by rw [f_X2_bestSpotFor, if_neg c_5]), lv_sub hl [0, 2, 1, 3, 4] rfl⟩ ?_ ?_
    · intro j x ls hI
      obtain ⟨bst, mok⟩ := x
      obtain ⟨hj, hf, hl⟩ := hI
      have hl : lv_has ls 8 [(4, .int (nI j)), (2, .int bst), (3, .int mok), (0, .ref (a 1)), (1, .int p0)] := hl
      have hf : f_X2_bestSpotFor cn sc cl wt kn sp p0 = f_X2_bestSpotFor_L cn sc cl wt kn sp p0 0 j bst mok := hf
      refine lv_iload hx hb dX2_bestSpotFor_17 (lv_at hl 0 rfl) ?_
      refine lv_bipush (v := 6) hx hb dX2_bestSpotFor_19 (by decide) ?_
      refine lv_icmp_ge (tgt := 116) hx hb dX2_bestSpotFor_21 (by decide) (fun c_21 => ?_) (fun c_21 => absurd (lp_a n6_eq (by omega) (by omega)) c_21)
      refine lv_iload_n hx hb dX2_bestSpotFor_116 rfl (lv_at hl 1 rfl) ?_
      have hq : f_X2_bestSpotFor cn sc cl wt kn sp p0 = bst := (hf.trans (by rw [f_X2_bestSpotFor_L]))
      exact W.iret (v := bst) hx hb hr (fun t ht _ => ⟨by rw [hq], ht⟩) (fun _ h => nomatch h) dX2_bestSpotFor_117
    · intro r ih j x ls hI
      obtain ⟨bst, mok⟩ := x
      obtain ⟨hj, hf, hl⟩ := hI
      have hl : lv_has ls 8 [(4, .int (nI j)), (2, .int bst), (3, .int mok), (0, .ref (a 1)), (1, .int p0)] := hl
      have hf : f_X2_bestSpotFor cn sc cl wt kn sp p0 = f_X2_bestSpotFor_L cn sc cl wt kn sp p0 (r + 1) j bst mok := hf
      refine lv_iload hx hb dX2_bestSpotFor_17 (lv_at hl 0 rfl) ?_
      refine lv_bipush (v := 6) hx hb dX2_bestSpotFor_19 (by decide) ?_
      refine lv_icmp_ge (tgt := 116) hx hb dX2_bestSpotFor_21 (by decide) (fun c_21 => absurd c_21 (lp_b (r := r) n6_eq (by omega) (by omega))) (fun c_21 => ?_)
      refine lv_aload_n hx hb dX2_bestSpotFor_24 rfl (lv_at hl 3 rfl) ?_
      refine va_get (D := G.1) (ci := 2) (v := .ref (a 2)) (C := RX2) (T := TX2) (N := 6) hx hb hts iw_X2_bestSpotFor_RX2 hown hE.1 hP 0 rfl rfl 0 (by decide) (hts (.fieldLink RX2 9 "Rackrail$Store" "shelfClimates" "[I") (by decide +kernel)) (fun _ h9 => h9) rfl dX2_bestSpotFor_25 ?_
      refine lv_iload hx hb dX2_bestSpotFor_28 (lv_at hl 0 rfl) ?_
      refine va_iald hx hb hE.1 hP 1 0 rfl rfl (vp_in_nI (by omega) (by decide)) dX2_bestSpotFor_30 ?_
      refine lv_aload_n hx hb dX2_bestSpotFor_31 rfl (lv_at hl 3 rfl) ?_
      refine va_get (D := G.1) (ci := 2) (v := .ref (a 3)) (C := RX2) (T := TX2) (N := 6) hx hb hts iw_X2_bestSpotFor_RX2 hown hE.1 hP 0 rfl rfl 1 (by decide) (hts (.fieldLink RX2 15 "Rackrail$Store" "climates" "[I") (by decide +kernel)) (fun _ h9 => h9) rfl dX2_bestSpotFor_32 ?_
      refine lv_iload_n hx hb dX2_bestSpotFor_35 rfl (lv_at hl 4 rfl) ?_
      refine va_iald hx hb hE.1 hP 2 0 rfl rfl (hin0) dX2_bestSpotFor_36 ?_
      refine lv_icmp_ne (tgt := 62) hx hb dX2_bestSpotFor_37 (by decide) (fun c_37 => ?_) (fun c_37 => ?_)
      · refine lv_iconst (v := 0) hx hb dX2_bestSpotFor_62 (by decide) ?_
        refine lv_istore (lv' := [(5, .int 0), (4, .int (nI j)), (2, .int bst), (3, .int mok), (0, .ref (a 1)), (1, .int p0)]) hx hb dX2_bestSpotFor_63 hl (by decide) rfl (fun ls hl => ?_)
        refine lv_aload_n hx hb dX2_bestSpotFor_65 rfl (lv_at hl 4 rfl) ?_
        refine lv_iload hx hb dX2_bestSpotFor_66 (lv_at hl 1 rfl) ?_
        refine k_p (va_runV (As := [.int (nI j)]) (rest := []) ⟨hx, hb, hml, hown, hts⟩ (c_X2_firstFreeSpot l G a s.heap.size cn sp (nI j) hcn) (cwV 1 hts gX2_bestSpotFor_X2_firstFreeSpot rfl rfl rfl ⟨rfl, by decide +kernel, by decide +kernel, by decide +kernel⟩ ⟨Nat.le_of_ble_eq_true rfl, Nat.le_of_ble_eq_true rfl⟩) ⟨GP.blind, va_recv hE.1 hP (ci := 2) (q0 := 0) rfl rfl, GP.go (wc := [wcS a cn, wcI G (a 6) 20 sp]) hE hP hD hS hA [0, 5] rfl (by decide) [.ref (a 1), .int (nI j)]⟩ rfl rfl hl.1 rfl (lv_room (Nat.le_of_ble_eq_true rfl)) dX2_bestSpotFor_68 ⟨Nat.le_of_ble_eq_true rfl, Nat.le_of_ble_eq_true rfl⟩) ?_
        refine lv_istore (lv' := [(6, .int (f_X2_firstFreeSpot cn sp (nI j))), (5, .int 0), (4, .int (nI j)), (2, .int bst), (3, .int mok), (0, .ref (a 1)), (1, .int p0)]) hx hb dX2_bestSpotFor_71 hl (by decide) rfl (fun ls hl => ?_)
        refine lv_aload_n hx hb dX2_bestSpotFor_73 rfl (lv_at hl 5 rfl) ?_
        refine lv_iload hx hb dX2_bestSpotFor_74 (lv_at hl 2 rfl) ?_
        refine lv_aload_n hx hb dX2_bestSpotFor_76 rfl (lv_at hl 5 rfl) ?_
        refine va_get (D := G.1) (ci := 2) (v := .ref (a 5)) (C := RX2) (T := TX2) (N := 6) hx hb hts iw_X2_bestSpotFor_RX2 hown hE.1 hP 0 rfl rfl 3 (by decide) (hts (.fieldLink RX2 21 "Rackrail$Store" "kins" "[I") (by decide +kernel)) (fun _ h9 => h9) rfl dX2_bestSpotFor_77 ?_
        refine lv_iload_n hx hb dX2_bestSpotFor_80 rfl (lv_at hl 6 rfl) ?_
        refine va_iald hx hb hE.1 hP 4 0 rfl rfl (hin0) dX2_bestSpotFor_81 ?_
        refine k_p (va_runV (As := [.int (nI j), .int (kn p0.toNatClampNeg)]) (rest := []) ⟨hx, hb, hml, hown, hts⟩ (c_X2_countKin l G a s.heap.size cn kn sp (nI j) (kn p0.toNatClampNeg) hcn) (cwV 2 hts gX2_bestSpotFor_X2_countKin rfl rfl rfl ⟨rfl, by decide +kernel, by decide +kernel, by decide +kernel⟩ ⟨Nat.le_of_ble_eq_true rfl, Nat.le_of_ble_eq_true rfl⟩) ⟨GP.blind, va_recv hE.1 hP (ci := 2) (q0 := 0) rfl rfl, GP.go (wc := [wcS a cn, wcI G (a 5) 20 kn, wcI G (a 6) 20 sp]) hE hP hD hS hA [0, 4, 5] rfl (by decide) [.ref (a 1), .int (nI j), .int (kn p0.toNatClampNeg)]⟩ rfl rfl hl.1 rfl (lv_room (Nat.le_of_ble_eq_true rfl)) dX2_bestSpotFor_82 ⟨Nat.le_of_ble_eq_true rfl, Nat.le_of_ble_eq_true rfl⟩) ?_
        refine lv_istore (lv' := [(7, .int (f_X2_countKin cn kn sp (nI j) (kn p0.toNatClampNeg))), (6, .int (f_X2_firstFreeSpot cn sp (nI j))), (5, .int 0), (4, .int (nI j)), (2, .int bst), (3, .int mok), (0, .ref (a 1)), (1, .int p0)]) hx hb dX2_bestSpotFor_85 hl (by decide) rfl (fun ls hl => ?_)
        refine lv_iload hx hb dX2_bestSpotFor_87 (lv_at hl 2 rfl) ?_
        refine lv_if_eq (tgt := 110) hx hb dX2_bestSpotFor_89 (by decide) (fun c_89 => ?_) (fun c_89 => absurd (by decide) c_89)
        refine lv_iinc (v := nI (j + 1)) (lv' := [(4, .int (nI (j + 1))), (7, .int (f_X2_countKin cn kn sp (nI j) (kn p0.toNatClampNeg))), (6, .int (f_X2_firstFreeSpot cn sp (nI j))), (5, .int 0), (2, .int bst), (3, .int mok), (0, .ref (a 1)), (1, .int p0)]) hx hb dX2_bestSpotFor_110 hl (k := 3) rfl (inc1 _) (by decide) rfl (fun ls hl => ?_)
        refine lv_goto (tgt := 17) hx hb dX2_bestSpotFor_113 (by decide) ?_
        exact ih (j + 1) (bst, mok) _ ⟨by omega, (hf.trans (by rw [f_X2_bestSpotFor_L, if_neg c_37])), lv_sub hl [0, 4, 5, 6, 7] rfl⟩
      · refine lv_aload_n hx hb dX2_bestSpotFor_40 rfl (lv_at hl 3 rfl) ?_
        refine lv_iload hx hb dX2_bestSpotFor_41 (lv_at hl 0 rfl) ?_
        refine k_p (va_runV (As := [.int (nI j)]) (rest := []) ⟨hx, hb, hml, hown, hts⟩ (c_X2_weightOn l G a s.heap.size cn wt sp (nI j) hcn) (cwV 1 hts gX2_bestSpotFor_X2_weightOn rfl rfl rfl ⟨rfl, by decide +kernel, by decide +kernel, by decide +kernel⟩ ⟨Nat.le_of_ble_eq_true rfl, Nat.le_of_ble_eq_true rfl⟩) ⟨GP.blind, va_recv hE.1 hP (ci := 2) (q0 := 0) rfl rfl, GP.go (wc := [wcS a cn, wcI G (a 4) 20 wt, wcI G (a 6) 20 sp]) hE hP hD hS hA [0, 3, 5] rfl (by decide) [.ref (a 1), .int (nI j)]⟩ rfl rfl hl.1 rfl (lv_room (Nat.le_of_ble_eq_true rfl)) dX2_bestSpotFor_43 ⟨Nat.le_of_ble_eq_true rfl, Nat.le_of_ble_eq_true rfl⟩) ?_
        refine lv_aload_n hx hb dX2_bestSpotFor_46 rfl (lv_at hl 3 rfl) ?_
        refine va_get (D := G.1) (ci := 2) (v := .ref (a 4)) (C := RX2) (T := TX2) (N := 6) hx hb hts iw_X2_bestSpotFor_RX2 hown hE.1 hP 0 rfl rfl 2 (by decide) (hts (.fieldLink RX2 18 "Rackrail$Store" "weights" "[I") (by decide +kernel)) (fun _ h9 => h9) rfl dX2_bestSpotFor_47 ?_
        refine lv_iload_n hx hb dX2_bestSpotFor_50 rfl (lv_at hl 4 rfl) ?_
        refine va_iald hx hb hE.1 hP 3 0 rfl rfl (hin0) dX2_bestSpotFor_51 ?_
        refine lv_iadd hx hb dX2_bestSpotFor_52 ?_
        refine lv_bipush (v := 100) hx hb dX2_bestSpotFor_53 (by decide) ?_
        refine lv_icmp_gt (tgt := 62) hx hb dX2_bestSpotFor_55 (by decide) (fun c_55 => ?_) (fun c_55 => ?_)
        · refine lv_iconst (v := 0) hx hb dX2_bestSpotFor_62 (by decide) ?_
          refine lv_istore (lv' := [(5, .int 0), (4, .int (nI j)), (2, .int bst), (3, .int mok), (0, .ref (a 1)), (1, .int p0)]) hx hb dX2_bestSpotFor_63 hl (by decide) rfl (fun ls hl => ?_)
          refine lv_aload_n hx hb dX2_bestSpotFor_65 rfl (lv_at hl 4 rfl) ?_
          refine lv_iload hx hb dX2_bestSpotFor_66 (lv_at hl 1 rfl) ?_
          refine k_p (va_runV (As := [.int (nI j)]) (rest := []) ⟨hx, hb, hml, hown, hts⟩ (c_X2_firstFreeSpot l G a s.heap.size cn sp (nI j) hcn) (cwV 1 hts gX2_bestSpotFor_X2_firstFreeSpot rfl rfl rfl ⟨rfl, by decide +kernel, by decide +kernel, by decide +kernel⟩ ⟨Nat.le_of_ble_eq_true rfl, Nat.le_of_ble_eq_true rfl⟩) ⟨GP.blind, va_recv hE.1 hP (ci := 2) (q0 := 0) rfl rfl, GP.go (wc := [wcS a cn, wcI G (a 6) 20 sp]) hE hP hD hS hA [0, 5] rfl (by decide) [.ref (a 1), .int (nI j)]⟩ rfl rfl hl.1 rfl (lv_room (Nat.le_of_ble_eq_true rfl)) dX2_bestSpotFor_68 ⟨Nat.le_of_ble_eq_true rfl, Nat.le_of_ble_eq_true rfl⟩) ?_
          refine lv_istore (lv' := [(6, .int (f_X2_firstFreeSpot cn sp (nI j))), (5, .int 0), (4, .int (nI j)), (2, .int bst), (3, .int mok), (0, .ref (a 1)), (1, .int p0)]) hx hb dX2_bestSpotFor_71 hl (by decide) rfl (fun ls hl => ?_)
          refine lv_aload_n hx hb dX2_bestSpotFor_73 rfl (lv_at hl 5 rfl) ?_
          refine lv_iload hx hb dX2_bestSpotFor_74 (lv_at hl 2 rfl) ?_
          refine lv_aload_n hx hb dX2_bestSpotFor_76 rfl (lv_at hl 5 rfl) ?_
          refine va_get (D := G.1) (ci := 2) (v := .ref (a 5)) (C := RX2) (T := TX2) (N := 6) hx hb hts iw_X2_bestSpotFor_RX2 hown hE.1 hP 0 rfl rfl 3 (by decide) (hts (.fieldLink RX2 21 "Rackrail$Store" "kins" "[I") (by decide +kernel)) (fun _ h9 => h9) rfl dX2_bestSpotFor_77 ?_
          refine lv_iload_n hx hb dX2_bestSpotFor_80 rfl (lv_at hl 6 rfl) ?_
          refine va_iald hx hb hE.1 hP 4 0 rfl rfl (hin0) dX2_bestSpotFor_81 ?_
          refine k_p (va_runV (As := [.int (nI j), .int (kn p0.toNatClampNeg)]) (rest := []) ⟨hx, hb, hml, hown, hts⟩ (c_X2_countKin l G a s.heap.size cn kn sp (nI j) (kn p0.toNatClampNeg) hcn) (cwV 2 hts gX2_bestSpotFor_X2_countKin rfl rfl rfl ⟨rfl, by decide +kernel, by decide +kernel, by decide +kernel⟩ ⟨Nat.le_of_ble_eq_true rfl, Nat.le_of_ble_eq_true rfl⟩) ⟨GP.blind, va_recv hE.1 hP (ci := 2) (q0 := 0) rfl rfl, GP.go (wc := [wcS a cn, wcI G (a 5) 20 kn, wcI G (a 6) 20 sp]) hE hP hD hS hA [0, 4, 5] rfl (by decide) [.ref (a 1), .int (nI j), .int (kn p0.toNatClampNeg)]⟩ rfl rfl hl.1 rfl (lv_room (Nat.le_of_ble_eq_true rfl)) dX2_bestSpotFor_82 ⟨Nat.le_of_ble_eq_true rfl, Nat.le_of_ble_eq_true rfl⟩) ?_
          refine lv_istore (lv' := [(7, .int (f_X2_countKin cn kn sp (nI j) (kn p0.toNatClampNeg))), (6, .int (f_X2_firstFreeSpot cn sp (nI j))), (5, .int 0), (4, .int (nI j)), (2, .int bst), (3, .int mok), (0, .ref (a 1)), (1, .int p0)]) hx hb dX2_bestSpotFor_85 hl (by decide) rfl (fun ls hl => ?_)
          refine lv_iload hx hb dX2_bestSpotFor_87 (lv_at hl 2 rfl) ?_
          refine lv_if_eq (tgt := 110) hx hb dX2_bestSpotFor_89 (by decide) (fun c_89 => ?_) (fun c_89 => absurd (by decide) c_89)
          refine lv_iinc (v := nI (j + 1)) (lv' := [(4, .int (nI (j + 1))), (7, .int (f_X2_countKin cn kn sp (nI j) (kn p0.toNatClampNeg))), (6, .int (f_X2_firstFreeSpot cn sp (nI j))), (5, .int 0), (2, .int bst), (3, .int mok), (0, .ref (a 1)), (1, .int p0)]) hx hb dX2_bestSpotFor_110 hl (k := 3) rfl (inc1 _) (by decide) rfl (fun ls hl => ?_)
          refine lv_goto (tgt := 17) hx hb dX2_bestSpotFor_113 (by decide) ?_
          exact ih (j + 1) (bst, mok) _ ⟨by omega, (hf.trans (by rw [f_X2_bestSpotFor_L, if_pos c_37, if_pos c_55])), lv_sub hl [0, 4, 5, 6, 7] rfl⟩
        · refine lv_iconst (v := 1) hx hb dX2_bestSpotFor_58 (by decide) ?_
          refine lv_goto (tgt := 63) hx hb dX2_bestSpotFor_59 (by decide) ?_
          refine lv_istore (lv' := [(5, .int 1), (4, .int (nI j)), (2, .int bst), (3, .int mok), (0, .ref (a 1)), (1, .int p0)]) hx hb dX2_bestSpotFor_63 hl (by decide) rfl (fun ls hl => ?_)
          refine lv_aload_n hx hb dX2_bestSpotFor_65 rfl (lv_at hl 4 rfl) ?_
          refine lv_iload hx hb dX2_bestSpotFor_66 (lv_at hl 1 rfl) ?_
          refine k_p (va_runV (As := [.int (nI j)]) (rest := []) ⟨hx, hb, hml, hown, hts⟩ (c_X2_firstFreeSpot l G a s.heap.size cn sp (nI j) hcn) (cwV 1 hts gX2_bestSpotFor_X2_firstFreeSpot rfl rfl rfl ⟨rfl, by decide +kernel, by decide +kernel, by decide +kernel⟩ ⟨Nat.le_of_ble_eq_true rfl, Nat.le_of_ble_eq_true rfl⟩) ⟨GP.blind, va_recv hE.1 hP (ci := 2) (q0 := 0) rfl rfl, GP.go (wc := [wcS a cn, wcI G (a 6) 20 sp]) hE hP hD hS hA [0, 5] rfl (by decide) [.ref (a 1), .int (nI j)]⟩ rfl rfl hl.1 rfl (lv_room (Nat.le_of_ble_eq_true rfl)) dX2_bestSpotFor_68 ⟨Nat.le_of_ble_eq_true rfl, Nat.le_of_ble_eq_true rfl⟩) ?_
          refine lv_istore (lv' := [(6, .int (f_X2_firstFreeSpot cn sp (nI j))), (5, .int 1), (4, .int (nI j)), (2, .int bst), (3, .int mok), (0, .ref (a 1)), (1, .int p0)]) hx hb dX2_bestSpotFor_71 hl (by decide) rfl (fun ls hl => ?_)
          refine lv_aload_n hx hb dX2_bestSpotFor_73 rfl (lv_at hl 5 rfl) ?_
          refine lv_iload hx hb dX2_bestSpotFor_74 (lv_at hl 2 rfl) ?_
          refine lv_aload_n hx hb dX2_bestSpotFor_76 rfl (lv_at hl 5 rfl) ?_
          refine va_get (D := G.1) (ci := 2) (v := .ref (a 5)) (C := RX2) (T := TX2) (N := 6) hx hb hts iw_X2_bestSpotFor_RX2 hown hE.1 hP 0 rfl rfl 3 (by decide) (hts (.fieldLink RX2 21 "Rackrail$Store" "kins" "[I") (by decide +kernel)) (fun _ h9 => h9) rfl dX2_bestSpotFor_77 ?_
          refine lv_iload_n hx hb dX2_bestSpotFor_80 rfl (lv_at hl 6 rfl) ?_
          refine va_iald hx hb hE.1 hP 4 0 rfl rfl (hin0) dX2_bestSpotFor_81 ?_
          refine k_p (va_runV (As := [.int (nI j), .int (kn p0.toNatClampNeg)]) (rest := []) ⟨hx, hb, hml, hown, hts⟩ (c_X2_countKin l G a s.heap.size cn kn sp (nI j) (kn p0.toNatClampNeg) hcn) (cwV 2 hts gX2_bestSpotFor_X2_countKin rfl rfl rfl ⟨rfl, by decide +kernel, by decide +kernel, by decide +kernel⟩ ⟨Nat.le_of_ble_eq_true rfl, Nat.le_of_ble_eq_true rfl⟩) ⟨GP.blind, va_recv hE.1 hP (ci := 2) (q0 := 0) rfl rfl, GP.go (wc := [wcS a cn, wcI G (a 5) 20 kn, wcI G (a 6) 20 sp]) hE hP hD hS hA [0, 4, 5] rfl (by decide) [.ref (a 1), .int (nI j), .int (kn p0.toNatClampNeg)]⟩ rfl rfl hl.1 rfl (lv_room (Nat.le_of_ble_eq_true rfl)) dX2_bestSpotFor_82 ⟨Nat.le_of_ble_eq_true rfl, Nat.le_of_ble_eq_true rfl⟩) ?_
          refine lv_istore (lv' := [(7, .int (f_X2_countKin cn kn sp (nI j) (kn p0.toNatClampNeg))), (6, .int (f_X2_firstFreeSpot cn sp (nI j))), (5, .int 1), (4, .int (nI j)), (2, .int bst), (3, .int mok), (0, .ref (a 1)), (1, .int p0)]) hx hb dX2_bestSpotFor_85 hl (by decide) rfl (fun ls hl => ?_)
          refine lv_iload hx hb dX2_bestSpotFor_87 (lv_at hl 2 rfl) ?_
          refine lv_if_eq (tgt := 110) hx hb dX2_bestSpotFor_89 (by decide) (fun c_89 => absurd c_89 (by decide)) (fun c_89 => ?_)
          refine lv_iload hx hb dX2_bestSpotFor_92 (lv_at hl 1 rfl) ?_
          refine lv_iconst (v := (-1)) hx hb dX2_bestSpotFor_94 (by decide) ?_
          refine lv_icmp_eq (tgt := 110) hx hb dX2_bestSpotFor_95 (by decide) (fun c_95 => ?_) (fun c_95 => ?_)
          · refine lv_iinc (v := nI (j + 1)) (lv' := [(4, .int (nI (j + 1))), (7, .int (f_X2_countKin cn kn sp (nI j) (kn p0.toNatClampNeg))), (6, .int (f_X2_firstFreeSpot cn sp (nI j))), (5, .int 1), (2, .int bst), (3, .int mok), (0, .ref (a 1)), (1, .int p0)]) hx hb dX2_bestSpotFor_110 hl (k := 3) rfl (inc1 _) (by decide) rfl (fun ls hl => ?_)
            refine lv_goto (tgt := 17) hx hb dX2_bestSpotFor_113 (by decide) ?_
            exact ih (j + 1) (bst, mok) _ ⟨by omega, (hf.trans (by rw [f_X2_bestSpotFor_L, if_pos c_37, if_neg c_55, if_pos c_95])), lv_sub hl [0, 4, 5, 6, 7] rfl⟩
          · refine lv_iload hx hb dX2_bestSpotFor_98 (lv_at hl 0 rfl) ?_
            refine lv_iload_n hx hb dX2_bestSpotFor_100 rfl (lv_at hl 5 rfl) ?_
            refine lv_icmp_le (tgt := 110) hx hb dX2_bestSpotFor_101 (by decide) (fun c_101 => ?_) (fun c_101 => ?_)
            · refine lv_iinc (v := nI (j + 1)) (lv' := [(4, .int (nI (j + 1))), (7, .int (f_X2_countKin cn kn sp (nI j) (kn p0.toNatClampNeg))), (6, .int (f_X2_firstFreeSpot cn sp (nI j))), (5, .int 1), (2, .int bst), (3, .int mok), (0, .ref (a 1)), (1, .int p0)]) hx hb dX2_bestSpotFor_110 hl (k := 3) rfl (inc1 _) (by decide) rfl (fun ls hl => ?_)
              refine lv_goto (tgt := 17) hx hb dX2_bestSpotFor_113 (by decide) ?_
              exact ih (j + 1) (bst, mok) _ ⟨by omega, (hf.trans (by rw [f_X2_bestSpotFor_L, if_pos c_37, if_neg c_55, if_neg c_95, if_pos c_101])), lv_sub hl [0, 4, 5, 6, 7] rfl⟩
            · refine lv_iload hx hb dX2_bestSpotFor_104 (lv_at hl 1 rfl) ?_
              refine lv_istore_n (lv' := [(2, .int (f_X2_firstFreeSpot cn sp (nI j))), (7, .int (f_X2_countKin cn kn sp (nI j) (kn p0.toNatClampNeg))), (6, .int (f_X2_firstFreeSpot cn sp (nI j))), (5, .int 1), (4, .int (nI j)), (3, .int mok), (0, .ref (a 1)), (1, .int p0)]) hx hb dX2_bestSpotFor_106 rfl hl (by decide) rfl (fun ls hl => ?_)
              refine lv_iload hx hb dX2_bestSpotFor_107 (lv_at hl 1 rfl) ?_
              refine lv_istore_n (lv' := [(3, .int (f_X2_countKin cn kn sp (nI j) (kn p0.toNatClampNeg))), (2, .int (f_X2_firstFreeSpot cn sp (nI j))), (7, .int (f_X2_countKin cn kn sp (nI j) (kn p0.toNatClampNeg))), (6, .int (f_X2_firstFreeSpot cn sp (nI j))), (5, .int 1), (4, .int (nI j)), (0, .ref (a 1)), (1, .int p0)]) hx hb dX2_bestSpotFor_109 rfl hl (by decide) rfl (fun ls hl => ?_)
              refine lv_iinc (v := nI (j + 1)) (lv' := [(4, .int (nI (j + 1))), (3, .int (f_X2_countKin cn kn sp (nI j) (kn p0.toNatClampNeg))), (2, .int (f_X2_firstFreeSpot cn sp (nI j))), (7, .int (f_X2_countKin cn kn sp (nI j) (kn p0.toNatClampNeg))), (6, .int (f_X2_firstFreeSpot cn sp (nI j))), (5, .int 1), (0, .ref (a 1)), (1, .int p0)]) hx hb dX2_bestSpotFor_110 hl (k := 5) rfl (inc1 _) (by decide) rfl (fun ls hl => ?_)
              refine lv_goto (tgt := 17) hx hb dX2_bestSpotFor_113 (by decide) ?_
              exact ih (j + 1) (f_X2_firstFreeSpot cn sp (nI j), f_X2_countKin cn kn sp (nI j) (kn p0.toNatClampNeg)) _ ⟨by omega, (hf.trans (by rw [f_X2_bestSpotFor_L, if_pos c_37, if_neg c_55, if_neg c_95, if_neg c_101])), lv_sub hl [0, 2, 1, 6, 7] rfl⟩
  · refine lv_iconst (v := (-1)) hx hb dX2_bestSpotFor_8 (by decide) ?_
    have hq : f_X2_bestSpotFor cn sc cl wt kn sp p0 = (-1) := (by rw [f_X2_bestSpotFor, if_pos c_5])
    exact W.iret (v := (-1)) hx hb hr (fun t ht _ => ⟨by rw [hq], ht⟩) (fun _ h => nomatch h) dX2_bestSpotFor_9

