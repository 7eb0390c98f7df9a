/-! X4_in -/
def f_X4_in (p0 : Int32) (p1 : Int32) (p2 : Int32) : Int32 :=
  if p0 < p1 then 0
    else if p2 < p0 then 0
    else 1
theorem b_X4_in (p0 : Int32) (p1 : Int32) (p2 : Int32) : f_X4_in p0 p1 p2 = 0 ∨ f_X4_in p0 p1 p2 = 1 := by
  rw [f_X4_in]
  (repeat' split) <;> first | exact Or.inl rfl | exact Or.inr rfl
theorem in_in {x y : Int32} {N : Nat} (hy : y = nI N) (hN : N + 1 < 2 ^ 31) (h : ¬ f_X4_in x 0 y = 0) : vp_in x (N + 1) := by
  subst hy
  have h0 : ¬ x < 0 := fun z => h (by rw [f_X4_in, if_pos z])
  obtain ⟨j, hj, rfl⟩ := nI_of h0
  have h1 : ¬ nI N < nI j := fun z => h (by rw [f_X4_in, if_neg h0, if_pos z])
  refine vp_in_nI ?_ hN
  rcases Nat.lt_or_ge N j with q | q
  · exact absurd (nI_lt q hj) h1
  · omega
theorem in_div6 {j : Nat} (h : j < 36) : vp_in (nI j / 6) 6 := by
  rw [show nI j / 6 = nI (j / 6) from pk_div (d := 6) (by omega) (by decide) (by decide)]
  exact vp_in_nI (by omega) (by decide)
theorem vp_lt {x : Int32} {N : Nat} (h : vp_in x N) : x.toNatClampNeg < N := Nat.not_le.mp fun q => h (Or.inr q)
theorem in_li {x : Int32} (h : okN 20 x) (h0 : ¬ x ≤ 0) : vp_in (x - 1) 20 := by
  obtain ⟨n, hn, rfl⟩ := h
  cases n with
  | zero => exact absurd (by decide) h0
  | succ q => rw [nI_pred]; exact vp_in_nI (by omega) (by decide)
set_option maxHeartbeats 4000000 in
set_option maxRecDepth 100000 in
theorem c_X4_in (l : Launch) (G : GT) (sz : Nat) (p0 : Int32) (p1 : Int32) (p2 : Int32) : Met l yX4_in wsX4_in ({ frames := 0, cells := 0, slots := 0, locals := 0 }) (GP G [.int p0, .int p1, .int p2] [] sz) (PQo (.returned (some (.int (f_X4_in p0 p1 p2))))) 0 0 (fun _ => False) := by
  refine bodyM (cc := cX4_in) (maxL := 3) (ret := (some .boolean)) (by decide) rfl (Nat.le_of_ble_eq_true rfl) ?_
  intro p e s m below meth c ls C
  obtain ⟨hx, hb, hr, hts, hown, hlocks, hml, hsz, hP, hE, hD, hZ, hA, hS, hl⟩ := C
  subst hsz
  have hl : lv_has ls 3 [(0, .int p0), (1, .int p1), (2, .int p2)] := hl
  refine lv_iload_n hx hb dX4_in_0 rfl (lv_at hl 0 rfl) ?_
  refine lv_iload_n hx hb dX4_in_1 rfl (lv_at hl 1 rfl) ?_
  refine lv_icmp_lt (tgt := 14) hx hb dX4_in_2 (by decide) (fun c_2 => ?_) (fun c_2 => ?_)
  · refine lv_iconst (v := 0) hx hb dX4_in_14 (by decide) ?_
    have hq : f_X4_in p0 p1 p2 = 0 := (by rw [f_X4_in, if_pos c_2])
    exact W.zret (v := 0) hx hb hr rfl (fun t ht _ => ⟨by rw [hq], ht⟩) (fun _ h => nomatch h) dX4_in_15
  · refine lv_iload_n hx hb dX4_in_5 rfl (lv_at hl 0 rfl) ?_
    refine lv_iload_n hx hb dX4_in_6 rfl (lv_at hl 2 rfl) ?_
    refine lv_icmp_gt (tgt := 14) hx hb dX4_in_7 (by decide) (fun c_7 => ?_) (fun c_7 => ?_)
    · refine lv_iconst (v := 0) hx hb dX4_in_14 (by decide) ?_
      have hq : f_X4_in p0 p1 p2 = 0 := (by rw [f_X4_in, if_neg c_2, if_pos c_7])
      exact W.zret (v := 0) hx hb hr rfl (fun t ht _ => ⟨by rw [hq], ht⟩) (fun _ h => nomatch h) dX4_in_15
    · refine lv_iconst (v := 1) hx hb dX4_in_10 (by decide) ?_
      refine lv_goto (tgt := 15) hx hb dX4_in_11 (by decide) ?_
      have hq : f_X4_in p0 p1 p2 = 1 := (by rw [f_X4_in, if_neg c_2, if_neg c_7])
      exact W.zret (v := 1) hx hb hr rfl (fun t ht _ => ⟨by rw [hq], ht⟩) (fun _ h => nomatch h) dX4_in_15

/-! X4_isShelf -/
def f_X4_isShelf (p0 : Int32) : Int32 :=
  f_X4_in p0 0 5
theorem b_X4_isShelf (p0 : Int32) : f_X4_isShelf p0 = 0 ∨ f_X4_isShelf p0 = 1 := by
  rw [f_X4_isShelf]
  (repeat' split) <;> first | exact Or.inl rfl | exact Or.inr rfl | exact b_X4_in _ _ _
theorem in_shelfM {x : Int32} (h : ¬ f_X4_isShelf x = 0) : vp_in x 6 := in_in (y := 5) (N := 5) rfl (by decide) (by rw [f_X4_isShelf] at h; exact h)
set_option maxHeartbeats 4000000 in
set_option maxRecDepth 100000 in
theorem c_X4_isShelf (l : Launch) (G : GT) (sz : Nat) (p0 : Int32) : Met l yX4_isShelf wsX4_isShelf ({ frames := 1, cells := 0, slots := 0, locals := 22 }) (GP G [.int p0] [] sz) (PQo (.returned (some (.int (f_X4_isShelf p0))))) 0 0 (fun _ => False) := by
  refine bodyM (cc := cX4_isShelf) (maxL := 1) (ret := (some .boolean)) (by decide) rfl (Nat.le_of_ble_eq_true rfl) ?_
  intro p e s m below meth c ls C
  obtain ⟨hx, hb, hr, hts, hown, hlocks, hml, hsz, hP, hE, hD, hZ, hA, hS, hl⟩ := C
  subst hsz
  have hl : lv_has ls 1 [(0, .int p0)] := hl
  refine lv_iload_n hx hb dX4_isShelf_0 rfl (lv_at hl 0 rfl) ?_
  refine lv_iconst (v := 0) hx hb dX4_isShelf_1 (by decide) ?_
  refine lv_iconst (v := 5) hx hb dX4_isShelf_2 (by decide) ?_
  refine k_p (va_runS (As := [.int p0, .int 0, .int 5]) (rest := []) ⟨hx, hb, hml, hown, hts⟩ (c_X4_in l G s.heap.size p0 0 5) (va_cwS 3 hts gX4_isShelf_X4_in rfl rfl rfl ⟨by decide +kernel, by decide +kernel, by decide +kernel⟩ ⟨Nat.le_of_ble_eq_true rfl, Nat.le_of_ble_eq_true rfl⟩) ⟨GP.blind, GP.go (wc := []) hE hZ hP hD hS hA [] rfl (by decide) [.int p0, .int 0, .int 5]⟩ rfl rfl hl.1 rfl (lv_room (Nat.le_of_ble_eq_true rfl)) dX4_isShelf_3 ⟨Nat.le_of_ble_eq_true rfl, Nat.le_of_ble_eq_true rfl⟩) ?_
  have hq : f_X4_isShelf p0 = (f_X4_in p0 0 5) := (by rw [f_X4_isShelf])
  exact W.zret (v := f_X4_in p0 0 5) hx hb hr (bool_nar (b_X4_in _ _ _)) (fun t ht _ => ⟨by rw [hq], ht⟩) (fun _ h => nomatch h) dX4_isShelf_6

/-! X4_isPerson -/
def f_X4_isPerson (p0 : Int32) : Int32 :=
  f_X4_in p0 0 3
theorem b_X4_isPerson (p0 : Int32) : f_X4_isPerson p0 = 0 ∨ f_X4_isPerson p0 = 1 := by
  rw [f_X4_isPerson]
  (repeat' split) <;> first | exact Or.inl rfl | exact Or.inr rfl | exact b_X4_in _ _ _
theorem in_pers {x : Int32} (h : ¬ f_X4_isPerson x = 0) : vp_in x 4 := in_in (y := 3) (N := 3) rfl (by decide) (by rw [f_X4_isPerson] at h; exact h)
set_option maxHeartbeats 4000000 in
set_option maxRecDepth 100000 in
theorem c_X4_isPerson (l : Launch) (G : GT) (sz : Nat) (p0 : Int32) : Met l yX4_isPerson wsX4_isPerson ({ frames := 1, cells := 0, slots := 0, locals := 22 }) (GP G [.int p0] [] sz) (PQo (.returned (some (.int (f_X4_isPerson p0))))) 0 0 (fun _ => False) := by
  refine bodyM (cc := cX4_isPerson) (maxL := 1) (ret := (some .boolean)) (by decide) rfl (Nat.le_of_ble_eq_true rfl) ?_
  intro p e s m below meth c ls C
  obtain ⟨hx, hb, hr, hts, hown, hlocks, hml, hsz, hP, hE, hD, hZ, hA, hS, hl⟩ := C
  subst hsz
  have hl : lv_has ls 1 [(0, .int p0)] := hl
  refine lv_iload_n hx hb dX4_isPerson_0 rfl (lv_at hl 0 rfl) ?_
  refine lv_iconst (v := 0) hx hb dX4_isPerson_1 (by decide) ?_
  refine lv_iconst (v := 3) hx hb dX4_isPerson_2 (by decide) ?_
  refine k_p (va_runS (As := [.int p0, .int 0, .int 3]) (rest := []) ⟨hx, hb, hml, hown, hts⟩ (c_X4_in l G s.heap.size p0 0 3) (va_cwS 3 hts gX4_isPerson_X4_in rfl rfl rfl ⟨by decide +kernel, by decide +kernel, by decide +kernel⟩ ⟨Nat.le_of_ble_eq_true rfl, Nat.le_of_ble_eq_true rfl⟩) ⟨GP.blind, GP.go (wc := []) hE hZ hP hD hS hA [] rfl (by decide) [.int p0, .int 0, .int 3]⟩ rfl rfl hl.1 rfl (lv_room (Nat.le_of_ble_eq_true rfl)) dX4_isPerson_3 ⟨Nat.le_of_ble_eq_true rfl, Nat.le_of_ble_eq_true rfl⟩) ?_
  have hq : f_X4_isPerson p0 = (f_X4_in p0 0 3) := (by rw [f_X4_isPerson])
  exact W.zret (v := f_X4_in p0 0 3) hx hb hr (bool_nar (b_X4_in _ _ _)) (fun t ht _ => ⟨by rw [hq], ht⟩) (fun _ h => nomatch h) dX4_isPerson_6

/-! X4_row -/
def f_X4_row (p0 : Int32) : Int32 :=
  if (f_X4_in p0 0 599) = 0 then (-1)
    else if 2 ≤ ((p0 / 10) - (p0 / 10) / 10 * 10) then (-1)
    else if 3 ≤ (p0 - p0 / 10 * 10) then (-1)
    else ((6 * (p0 / 100)) + (3 * ((p0 / 10) - (p0 / 10) / 10 * 10))) + (p0 - p0 / 10 * 10)
theorem row_cases (x : Int32) : f_X4_row x = -1 ∨ ∃ j : Nat, j < 600 ∧ j / 10 % 10 < 2 ∧ j % 10 < 3 ∧ x = nI j ∧ f_X4_row x = nI (6 * (j / 100) + 3 * (j / 10 % 10) + j % 10) := by
  by_cases c : f_X4_in x 0 599 = 0
  · exact Or.inl (by rw [f_X4_row, if_pos c])
  · obtain ⟨j, hj, rfl⟩ := vp_in_of (in_in (y := 599) (N := 599) rfl (by decide) c) (by decide)
    have e1 : nI j / 10 = nI (j / 10) := pk_div (d := 10) (by omega) (by decide) (by decide)
    have e2 : nI (j / 10) - nI (j / 10) / 10 * 10 = nI (j / 10 % 10) := pk_rem (d := 10) (by omega) (by decide) (by decide)
    have e3 : nI j - nI j / 10 * 10 = nI (j % 10) := pk_rem (d := 10) (by omega) (by decide) (by decide)
    have e4 : nI j / 100 = nI (j / 100) := pk_div (d := 100) (by omega) (by decide) (by decide)
    rw [e1] at e3
    have e5 : f_X4_row (nI j) = if 2 ≤ nI (j / 10 % 10) then -1 else if 3 ≤ nI (j % 10) then -1 else nI (6 * (j / 100) + 3 * (j / 10 % 10) + j % 10) := by
      rw [f_X4_row, if_neg c, e1, e2, e3, e4]
      rw [show (6 : Int32) * nI (j / 100) = nI (6 * (j / 100)) from pk_mul 6 _, show (3 : Int32) * nI (j / 10 % 10) = nI (3 * (j / 10 % 10)) from pk_mul 3 _, nI_add, nI_add]
    by_cases c2 : 2 ≤ nI (j / 10 % 10)
    · exact Or.inl (by rw [e5, if_pos c2])
    · by_cases c3 : 3 ≤ nI (j % 10)
      · exact Or.inl (by rw [e5, if_neg c2, if_pos c3])
      · refine Or.inr ⟨j, hj, ?_, ?_, rfl, by rw [e5, if_neg c2, if_neg c3]⟩
        · rcases Nat.lt_or_ge (j / 10 % 10) 2 with q | q
          · exact q
          · exact absurd (nI_le q (by omega)) c2
        · rcases Nat.lt_or_ge (j % 10) 3 with q | q
          · exact q
          · exact absurd (nI_le q (by omega)) c3
theorem in_row {x : Int32} (h : ¬ f_X4_row x = -1) : vp_in (f_X4_row x) 36 := by
  rcases row_cases x with q | ⟨j, h1, h2, h3, -, e⟩
  · exact absurd q h
  · rw [e]; exact vp_in_nI (by omega) (by decide)
theorem in_row6 {x : Int32} (h : ¬ f_X4_row x = -1) : vp_in (f_X4_row x / 6) 6 := by
  obtain ⟨j, hj, e⟩ := vp_in_of (in_row h) (by decide)
  rw [e]; exact in_div6 hj
set_option maxHeartbeats 4000000 in
set_option maxRecDepth 100000 in
theorem c_X4_row (l : Launch) (G : GT) (sz : Nat) (p0 : Int32) : Met l yX4_row wsX4_row ({ frames := 1, cells := 0, slots := 0, locals := 22 }) (GP G [.int p0] [] sz) (PQo (.returned (some (.int (f_X4_row p0))))) 0 0 (fun _ => False) := by
  refine bodyM (cc := cX4_row) (maxL := 2) (ret := (some .int)) (by decide) rfl (Nat.le_of_ble_eq_true rfl) ?_
  intro p e s m below meth c ls C
  obtain ⟨hx, hb, hr, hts, hown, hlocks, hml, hsz, hP, hE, hD, hZ, hA, hS, hl⟩ := C
  subst hsz
  have hl : lv_has ls 2 [(0, .int p0)] := hl
  refine lv_iload_n hx hb dX4_row_0 rfl (lv_at hl 0 rfl) ?_
  refine lv_iconst (v := 0) hx hb dX4_row_1 (by decide) ?_
  refine lv_sipush (v := 599) hx hb dX4_row_2 (by decide) ?_
  refine k_p (va_runS (As := [.int p0, .int 0, .int 599]) (rest := []) ⟨hx, hb, hml, hown, hts⟩ (c_X4_in l G s.heap.size p0 0 599) (va_cwS 3 hts gX4_row_X4_in rfl rfl rfl ⟨by decide +kernel, by decide +kernel, by decide +kernel⟩ ⟨Nat.le_of_ble_eq_true rfl, Nat.le_of_ble_eq_true rfl⟩) ⟨GP.blind, GP.go (wc := []) hE hZ hP hD hS hA [] rfl (by decide) [.int p0, .int 0, .int 599]⟩ rfl rfl hl.1 rfl (lv_room (Nat.le_of_ble_eq_true rfl)) dX4_row_5 ⟨Nat.le_of_ble_eq_true rfl, Nat.le_of_ble_eq_true rfl⟩) ?_
  refine lv_if_eq (tgt := 34) hx hb dX4_row_8 (by decide) (fun c_8 => ?_) (fun c_8 => ?_)
  · refine lv_iconst (v := 0) hx hb dX4_row_34 (by decide) ?_
    refine lv_istore_n (lv' := [(1, .int 0), (0, .int p0)]) hx hb dX4_row_35 rfl hl (by decide) rfl (fun ls hl => ?_)
    refine lv_iload_n hx hb dX4_row_36 rfl (lv_at hl 0 rfl) ?_
    refine lv_if_eq (tgt := 65) hx hb dX4_row_37 (by decide) (fun c_37 => ?_) (fun c_37 => absurd (by decide) c_37)
    refine lv_iconst (v := (-1)) hx hb dX4_row_65 (by decide) ?_
    have hq : f_X4_row p0 = (-1) := (by rw [f_X4_row, if_pos c_8])
    exact W.iret (v := (-1)) hx hb hr (fun t ht _ => ⟨by rw [hq], ht⟩) (fun _ h => nomatch h) dX4_row_66
  · refine lv_iload_n hx hb dX4_row_11 rfl (lv_at hl 0 rfl) ?_
    refine lv_bipush (v := 10) hx hb dX4_row_12 (by decide) ?_
    refine lv_idiv hx hb dX4_row_14 (by decide) ?_
    refine lv_bipush (v := 10) hx hb dX4_row_15 (by decide) ?_
    refine lv_irem hx hb dX4_row_17 (by decide) ?_
    refine lv_iconst (v := 2) hx hb dX4_row_18 (by decide) ?_
    refine lv_icmp_ge (tgt := 34) hx hb dX4_row_19 (by decide) (fun c_19 => ?_) (fun c_19 => ?_)
    · refine lv_iconst (v := 0) hx hb dX4_row_34 (by decide) ?_
      refine lv_istore_n (lv' := [(1, .int 0), (0, .int p0)]) hx hb dX4_row_35 rfl hl (by decide) rfl (fun ls hl => ?_)
      refine lv_iload_n hx hb dX4_row_36 rfl (lv_at hl 0 rfl) ?_
      refine lv_if_eq (tgt := 65) hx hb dX4_row_37 (by decide) (fun c_37 => ?_) (fun c_37 => absurd (by decide) c_37)
      refine lv_iconst (v := (-1)) hx hb dX4_row_65 (by decide) ?_
      have hq : f_X4_row p0 = (-1) := (by rw [f_X4_row, if_neg c_8, if_pos c_19])
      exact W.iret (v := (-1)) hx hb hr (fun t ht _ => ⟨by rw [hq], ht⟩) (fun _ h => nomatch h) dX4_row_66
    · refine lv_iload_n hx hb dX4_row_22 rfl (lv_at hl 0 rfl) ?_
      refine lv_bipush (v := 10) hx hb dX4_row_23 (by decide) ?_
      refine lv_irem hx hb dX4_row_25 (by decide) ?_
      refine lv_iconst (v := 3) hx hb dX4_row_26 (by decide) ?_
      refine lv_icmp_ge (tgt := 34) hx hb dX4_row_27 (by decide) (fun c_27 => ?_) (fun c_27 => ?_)
      · refine lv_iconst (v := 0) hx hb dX4_row_34 (by decide) ?_
        refine lv_istore_n (lv' := [(1, .int 0), (0, .int p0)]) hx hb dX4_row_35 rfl hl (by decide) rfl (fun ls hl => ?_)
        refine lv_iload_n hx hb dX4_row_36 rfl (lv_at hl 0 rfl) ?_
        refine lv_if_eq (tgt := 65) hx hb dX4_row_37 (by decide) (fun c_37 => ?_) (fun c_37 => absurd (by decide) c_37)
        refine lv_iconst (v := (-1)) hx hb dX4_row_65 (by decide) ?_
        have hq : f_X4_row p0 = (-1) := (by rw [f_X4_row, if_neg c_8, if_neg c_19, if_pos c_27])
        exact W.iret (v := (-1)) hx hb hr (fun t ht _ => ⟨by rw [hq], ht⟩) (fun _ h => nomatch h) dX4_row_66
      · refine lv_iconst (v := 1) hx hb dX4_row_30 (by decide) ?_
        refine lv_goto (tgt := 35) hx hb dX4_row_31 (by decide) ?_
        refine lv_istore_n (lv' := [(1, .int 1), (0, .int p0)]) hx hb dX4_row_35 rfl hl (by decide) rfl (fun ls hl => ?_)
        refine lv_iload_n hx hb dX4_row_36 rfl (lv_at hl 0 rfl) ?_
        refine lv_if_eq (tgt := 65) hx hb dX4_row_37 (by decide) (fun c_37 => absurd c_37 (by decide)) (fun c_37 => ?_)
        refine lv_bipush (v := 6) hx hb dX4_row_40 (by decide) ?_
        refine lv_iload_n hx hb dX4_row_42 rfl (lv_at hl 1 rfl) ?_
        refine lv_bipush (v := 100) hx hb dX4_row_43 (by decide) ?_
        refine lv_idiv hx hb dX4_row_45 (by decide) ?_
        refine lv_imul hx hb dX4_row_46 ?_
        refine lv_iconst (v := 3) hx hb dX4_row_47 (by decide) ?_
        refine lv_iload_n hx hb dX4_row_48 rfl (lv_at hl 1 rfl) ?_
        refine lv_bipush (v := 10) hx hb dX4_row_49 (by decide) ?_
        refine lv_idiv hx hb dX4_row_51 (by decide) ?_
        refine lv_bipush (v := 10) hx hb dX4_row_52 (by decide) ?_
        refine lv_irem hx hb dX4_row_54 (by decide) ?_
        refine lv_imul hx hb dX4_row_55 ?_
        refine lv_iadd hx hb dX4_row_56 ?_
        refine lv_iload_n hx hb dX4_row_57 rfl (lv_at hl 1 rfl) ?_
        refine lv_bipush (v := 10) hx hb dX4_row_58 (by decide) ?_
        refine lv_irem hx hb dX4_row_60 (by decide) ?_
        refine lv_iadd hx hb dX4_row_61 ?_
        refine lv_goto (tgt := 66) hx hb dX4_row_62 (by decide) ?_
        have hq : f_X4_row p0 = (((6 * (p0 / 100)) + (3 * ((p0 / 10) - (p0 / 10) / 10 * 10))) + (p0 - p0 / 10 * 10)) := (by rw [f_X4_row, if_neg c_8, if_neg c_19, if_neg c_27])
        exact W.iret (v := ((6 * (p0 / 100)) + (3 * ((p0 / 10) - (p0 / 10) / 10 * 10))) + (p0 - p0 / 10 * 10)) hx hb hr (fun t ht _ => ⟨by rw [hq], ht⟩) (fun _ h => nomatch h) dX4_row_66

/-! X4_told -/
def f_X4_told (p0 : Int32) : Int32 :=
  ((100 * (p0 / 6)) + (10 * ((p0 / 3) - (p0 / 3) / 2 * 2))) + (p0 - p0 / 3 * 3)
set_option maxHeartbeats 4000000 in
set_option maxRecDepth 100000 in
theorem c_X4_told (l : Launch) (G : GT) (sz : Nat) (p0 : Int32) : Met l yX4_told wsX4_told ({ frames := 0, cells := 0, slots := 0, locals := 0 }) (GP G [.int p0] [] sz) (PQo (.returned (some (.int (f_X4_told p0))))) 0 0 (fun _ => False) := by
  refine bodyM (cc := cX4_told) (maxL := 1) (ret := (some .int)) (by decide) rfl (Nat.le_of_ble_eq_true rfl) ?_
  intro p e s m below meth c ls C
  obtain ⟨hx, hb, hr, hts, hown, hlocks, hml, hsz, hP, hE, hD, hZ, hA, hS, hl⟩ := C
  subst hsz
  have hl : lv_has ls 1 [(0, .int p0)] := hl
  refine lv_bipush (v := 100) hx hb dX4_told_0 (by decide) ?_
  refine lv_iload_n hx hb dX4_told_2 rfl (lv_at hl 0 rfl) ?_
  refine lv_bipush (v := 6) hx hb dX4_told_3 (by decide) ?_
  refine lv_idiv hx hb dX4_told_5 (by decide) ?_
  refine lv_imul hx hb dX4_told_6 ?_
  refine lv_bipush (v := 10) hx hb dX4_told_7 (by decide) ?_
  refine lv_iload_n hx hb dX4_told_9 rfl (lv_at hl 0 rfl) ?_
  refine lv_iconst (v := 3) hx hb dX4_told_10 (by decide) ?_
  refine lv_idiv hx hb dX4_told_11 (by decide) ?_
  refine lv_iconst (v := 2) hx hb dX4_told_12 (by decide) ?_
  refine lv_irem hx hb dX4_told_13 (by decide) ?_
  refine lv_imul hx hb dX4_told_14 ?_
  refine lv_iadd hx hb dX4_told_15 ?_
  refine lv_iload_n hx hb dX4_told_16 rfl (lv_at hl 0 rfl) ?_
  refine lv_iconst (v := 3) hx hb dX4_told_17 (by decide) ?_
  refine lv_irem hx hb dX4_told_18 (by decide) ?_
  refine lv_iadd hx hb dX4_told_19 ?_
  have hq : f_X4_told p0 = (((100 * (p0 / 6)) + (10 * ((p0 / 3) - (p0 / 3) / 2 * 2))) + (p0 - p0 / 3 * 3)) := (by rw [f_X4_told])
  exact W.iret (v := ((100 * (p0 / 6)) + (10 * ((p0 / 3) - (p0 / 3) / 2 * 2))) + (p0 - p0 / 3 * 3)) hx hb hr (fun t ht _ => ⟨by rw [hq], ht⟩) (fun _ h => nomatch h) dX4_told_20

/-! X4_aisleOf -/
def f_X4_aisleOf (p0 : Int32) : Int32 :=
  (p0 / 6) + ((p0 / 3) - (p0 / 3) / 2 * 2)
set_option maxHeartbeats 4000000 in
set_option maxRecDepth 100000 in
theorem c_X4_aisleOf (l : Launch) (G : GT) (sz : Nat) (p0 : Int32) : Met l yX4_aisleOf wsX4_aisleOf ({ frames := 0, cells := 0, slots := 0, locals := 0 }) (GP G [.int p0] [] sz) (PQo (.returned (some (.int (f_X4_aisleOf p0))))) 0 0 (fun _ => False) := by
  refine bodyM (cc := cX4_aisleOf) (maxL := 1) (ret := (some .int)) (by decide) rfl (Nat.le_of_ble_eq_true rfl) ?_
  intro p e s m below meth c ls C
  obtain ⟨hx, hb, hr, hts, hown, hlocks, hml, hsz, hP, hE, hD, hZ, hA, hS, hl⟩ := C
  subst hsz
  have hl : lv_has ls 1 [(0, .int p0)] := hl
  refine lv_iload_n hx hb dX4_aisleOf_0 rfl (lv_at hl 0 rfl) ?_
  refine lv_bipush (v := 6) hx hb dX4_aisleOf_1 (by decide) ?_
  refine lv_idiv hx hb dX4_aisleOf_3 (by decide) ?_
  refine lv_iload_n hx hb dX4_aisleOf_4 rfl (lv_at hl 0 rfl) ?_
  refine lv_iconst (v := 3) hx hb dX4_aisleOf_5 (by decide) ?_
  refine lv_idiv hx hb dX4_aisleOf_6 (by decide) ?_
  refine lv_iconst (v := 2) hx hb dX4_aisleOf_7 (by decide) ?_
  refine lv_irem hx hb dX4_aisleOf_8 (by decide) ?_
  refine lv_iadd hx hb dX4_aisleOf_9 ?_
  have hq : f_X4_aisleOf p0 = ((p0 / 6) + ((p0 / 3) - (p0 / 3) / 2 * 2)) := (by rw [f_X4_aisleOf])
  exact W.iret (v := (p0 / 6) + ((p0 / 3) - (p0 / 3) / 2 * 2)) hx hb hr (fun t ht _ => ⟨by rw [hq], ht⟩) (fun _ h => nomatch h) dX4_aisleOf_10

/-! X4_thrown -/
def f_X4_thrown (mth : Int32) : Int32 :=
  mth
theorem iw_X4_thrown_RX4 : ∀ w ∈ u_ws RX4 TX4 19, w ∈ wsX4_thrown := by decide +kernel
set_option maxHeartbeats 4000000 in
set_option maxRecDepth 100000 in
theorem c_X4_thrown (l : Launch) (G : GT) (b : Nat → Nat) (sz : Nat) (mth : Int32) (mck : Int32) (mbn : Int32) (mai : Int32) (mtm : Int32) (mst : Int32) (msm : Int32) (mon : Int32) (mlt : Int32) : Met l yX4_thrown wsX4_thrown ({ frames := 0, cells := 0, slots := 0, locals := 0 }) (GP G [.ref (b 0)] [wcM b mth mck mbn mai mtm mst msm mon mlt] sz) (PQo (.returned (some (.int (f_X4_thrown mth))))) 0 0 (fun _ => False) := by
  refine bodyM (cc := cX4_thrown) (maxL := 1) (ret := (some .int)) (by decide) rfl (Nat.le_of_ble_eq_true rfl) ?_
  intro p e s m below meth c ls C
  obtain ⟨hx, hb, hr, hts, hown, hlocks, hml, hsz, hP, hE, hD, hZ, hA, hS, hl⟩ := C
  subst hsz
  have hl : lv_has ls 1 [(0, .ref (b 0))] := hl
  refine lv_aload_n hx hb dX4_thrown_0 rfl (lv_at hl 0 rfl) ?_
  refine va_get (D := G.1) (ci := 4) (v := .int mth) (C := RX4) (T := TX4) (N := 19) hx hb hts iw_X4_thrown_RX4 hown hE.1 hP 0 rfl rfl 0 (by decide) (hts (.fieldLink RX4 41 "RackrailModel" "thrown" "I") (by decide +kernel)) (fun _ h9 => h9) rfl dX4_thrown_1 ?_
  have hq : f_X4_thrown mth = mth := (by rw [f_X4_thrown])
  exact W.iret (v := mth) hx hb hr (fun t ht _ => ⟨by rw [hq], ht⟩) (fun _ h => nomatch h) dX4_thrown_4

/-! X4_fails -/
def f_X4_fails (p0 : Int32) : Int32 × Int32 :=
  (0, p0)
theorem iw_X4_fails_RX4 : ∀ w ∈ u_ws RX4 TX4 19, w ∈ wsX4_fails := by decide +kernel
set_option maxHeartbeats 4000000 in
set_option maxRecDepth 100000 in
theorem c_X4_fails (l : Launch) (G : GT) (b : Nat → Nat) (sz : Nat) (mth : Int32) (mck : Int32) (mbn : Int32) (mai : Int32) (mtm : Int32) (mst : Int32) (msm : Int32) (mon : Int32) (mlt : Int32) (p0 : Int32) : Met l yX4_fails wsX4_fails ({ frames := 0, cells := 0, slots := 0, locals := 0 }) (GP G [.ref (b 0), .int p0] [wcM b mth mck mbn mai mtm mst msm mon mlt] sz) (MQo G (.returned (some (.int ((f_X4_fails p0).1)))) [wcM b ((f_X4_fails p0).2) mck mbn mai mtm mst msm mon mlt] (va_A [wcM b mth mck mbn mai mtm mst msm mon mlt] sz)) 0 0 (va_A [wcM b mth mck mbn mai mtm mst msm mon mlt] sz) := by
  refine bodyM (cc := cX4_fails) (maxL := 2) (ret := (some .int)) (by decide) rfl (Nat.le_of_ble_eq_true rfl) ?_
  intro p e s m below meth c ls C
  obtain ⟨hx, hb, hr, hts, hown, hlocks, hml, hsz, hP, hE, hD, hZ, hA, hS, hl⟩ := C
  subst hsz
  have hl : lv_has ls 2 [(0, .ref (b 0)), (1, .int p0)] := hl
  refine lv_aload_n hx hb dX4_fails_0 rfl (lv_at hl 0 rfl) ?_
  refine lv_iload_n hx hb dX4_fails_1 rfl (lv_at hl 1 rfl) ?_
  refine va_put (D := G.1) (ci := 4) (v := .int p0) (ty := .int) (C := RX4) (T := TX4) (N := 19) hx hb hts iw_X4_fails_RX4 tyX4 tyX4_ok nmX4 hown hE.1 hP hD hS 0 rfl rfl 0 (by decide) (hts (.fieldLink RX4 41 "RackrailModel" "thrown" "I") (by decide +kernel)) (fun _ h9 => h9) rfl (by decide +kernel) rfl rfl (Nat.le_of_ble_eq_true rfl) dX4_fails_2 (fun H locs hP hD hS => ?_)
  have hP : va_P G.1 vwCl [wcM b p0 mck mbn mai mtm mst msm mon mlt] H := hP
  have hD : va_D _ [wcM b p0 mck mbn mai mtm mst msm mon mlt] := hD
  refine lv_iconst (v := 0) hx hb dX4_fails_5 (by decide) ?_
  have hq : f_X4_fails p0 = (0, p0) := (by rw [f_X4_fails])
  exact W.iret (v := 0) hx hb hr (fun t ht _ => ⟨by rw [hq], by rw [hq, ht]; exact hP, hS.F ht⟩) hS.2.2 dX4_fails_6

/-! X4_isBox -/
def f_X4_isBox (mbn : Int32) (p0 : Int32) : Int32 :=
  f_X4_in p0 0 (mbn - 1)
theorem b_X4_isBox (mbn : Int32) (p0 : Int32) : f_X4_isBox mbn p0 = 0 ∨ f_X4_isBox mbn p0 = 1 := by
  rw [f_X4_isBox]
  (repeat' split) <;> first | exact Or.inl rfl | exact Or.inr rfl | exact b_X4_in _ _ _
theorem in_boxM {mbn x : Int32} (hmn : okN 20 mbn) (h : ¬ f_X4_isBox mbn x = 0) : vp_in x 20 := by
  obtain ⟨n, hn, rfl⟩ := hmn
  rw [f_X4_isBox] at h
  cases n with
  | zero =>
    exfalso
    apply h
    by_cases h0 : x < 0
    · rw [f_X4_in, if_pos h0]
    · rw [f_X4_in, if_neg h0, if_pos]
      obtain ⟨j, hj, rfl⟩ := nI_of h0
      exact Int32.lt_of_lt_of_le (show nI 0 - 1 < 0 by decide) (nI_pos' hj)
  | succ q =>
    rw [nI_pred] at h
    exact in_mono (in_in rfl (by omega) h) hn (by decide)
theorem in_fullB {mbn : Int32} (hmn : okN 20 mbn) (h : ¬ mbn = 20) : vp_in mbn 20 := by
  obtain ⟨n, hn, rfl⟩ := hmn
  refine vp_in_nI ?_ (by decide)
  rcases Nat.lt_or_ge n 20 with q | q
  · exact q
  · exact absurd (by rw [show n = 20 by omega]; rfl) h
theorem in_fullM {mon : Int32} (hmo : okN 30 mon) (h : ¬ mon = 30) : vp_in mon 30 := by
  obtain ⟨n, hn, rfl⟩ := hmo
  refine vp_in_nI ?_ (by decide)
  rcases Nat.lt_or_ge n 30 with q | q
  · exact q
  · exact absurd (by rw [show n = 30 by omega]; rfl) h
theorem iw_X4_isBox_RX4 : ∀ w ∈ u_ws RX4 TX4 19, w ∈ wsX4_isBox := by decide +kernel
set_option maxHeartbeats 4000000 in
set_option maxRecDepth 100000 in
theorem c_X4_isBox (l : Launch) (G : GT) (b : Nat → Nat) (sz : Nat) (mth : Int32) (mck : Int32) (mbn : Int32) (mai : Int32) (mtm : Int32) (mst : Int32) (msm : Int32) (mon : Int32) (mlt : Int32) (p0 : Int32) : Met l yX4_isBox wsX4_isBox ({ frames := 1, cells := 0, slots := 0, locals := 22 }) (GP G [.ref (b 0), .int p0] [wcM b mth mck mbn mai mtm mst msm mon mlt] sz) (PQo (.returned (some (.int (f_X4_isBox mbn p0))))) 0 0 (fun _ => False) := by
  refine bodyM (cc := cX4_isBox) (maxL := 2) (ret := (some .boolean)) (by decide) rfl (Nat.le_of_ble_eq_true rfl) ?_
  intro p e s m below meth c ls C
  obtain ⟨hx, hb, hr, hts, hown, hlocks, hml, hsz, hP, hE, hD, hZ, hA, hS, hl⟩ := C
  subst hsz
  have hl : lv_has ls 2 [(0, .ref (b 0)), (1, .int p0)] := hl
  refine lv_iload_n hx hb dX4_isBox_0 rfl (lv_at hl 1 rfl) ?_
  refine lv_iconst (v := 0) hx hb dX4_isBox_1 (by decide) ?_
  refine lv_aload_n hx hb dX4_isBox_2 rfl (lv_at hl 0 rfl) ?_
  refine va_get (D := G.1) (ci := 4) (v := .int mbn) (C := RX4) (T := TX4) (N := 19) hx hb hts iw_X4_isBox_RX4 hown hE.1 hP 0 rfl rfl 3 (by decide) (hts (.fieldLink RX4 49 "RackrailModel" "boxMany" "I") (by decide +kernel)) (fun _ h9 => h9) rfl dX4_isBox_3 ?_
  refine lv_iconst (v := 1) hx hb dX4_isBox_6 (by decide) ?_
  refine lv_isub hx hb dX4_isBox_7 ?_
  refine k_p (va_runS (As := [.int p0, .int 0, .int (mbn - 1)]) (rest := []) ⟨hx, hb, hml, hown, hts⟩ (c_X4_in l G s.heap.size p0 0 (mbn - 1)) (va_cwS 3 hts gX4_isBox_X4_in rfl rfl rfl ⟨by decide +kernel, by decide +kernel, by decide +kernel⟩ ⟨Nat.le_of_ble_eq_true rfl, Nat.le_of_ble_eq_true rfl⟩) ⟨GP.blind, GP.go (wc := []) hE hZ hP hD hS hA [] rfl (by decide) [.int p0, .int 0, .int (mbn - 1)]⟩ rfl rfl hl.1 rfl (lv_room (Nat.le_of_ble_eq_true rfl)) dX4_isBox_8 ⟨Nat.le_of_ble_eq_true rfl, Nat.le_of_ble_eq_true rfl⟩) ?_
  have hq : f_X4_isBox mbn p0 = (f_X4_in p0 0 (mbn - 1)) := (by rw [f_X4_isBox])
  exact W.zret (v := f_X4_in p0 0 (mbn - 1)) hx hb hr (bool_nar (b_X4_in _ _ _)) (fun t ht _ => ⟨by rw [hq], ht⟩) (fun _ h => nomatch h) dX4_isBox_11

/-! X4_spot -/
def f_X4_spot_L (mli : Nat → Int32) (p0 : Int32) : Nat → Nat → Int32 → Int32
  | 0, j, its => its
  | r + 1, j, its => if (mli (nI j).toNatClampNeg) = (p0 + 1) then f_X4_spot_L mli p0 r (j + 1) (nI j)
    else f_X4_spot_L mli p0 r (j + 1) its
def f_X4_spot (mli : Nat → Int32) (p0 : Int32) : Int32 :=
  f_X4_spot_L mli p0 36 0 (-1)
theorem spot_L {mli : Nat → Int32} {p0 : Int32} {P : Int32 → Prop} {N : Nat} (hs : ∀ j : Nat, j < N → mli (nI j).toNatClampNeg = p0 + 1 → P (nI j)) : ∀ (r j : Nat) (its : Int32), j + r = N → P its → P (f_X4_spot_L mli p0 r j its) := by
  intro r
  induction r with
  | zero => intro j its _ h; rw [f_X4_spot_L]; exact h
  | succ r ih =>
    intro j its hj h
    rw [f_X4_spot_L]
    split
    · exact ih _ _ (by omega) (hs j (by omega) (by assumption))
    · exact ih _ _ (by omega) h
theorem in_spot {mli : Nat → Int32} {p0 : Int32} (h : ¬ f_X4_spot mli p0 = -1) : vp_in (f_X4_spot mli p0) 36 :=
  (spot_L (P := fun z => z = -1 ∨ vp_in z 36) (N := 36) (fun j hj _ => Or.inr (vp_in_nI hj (by decide))) 36 0 (-1) (by omega) (Or.inl rfl)).resolve_left h
theorem iw_X4_spot_RX4 : ∀ w ∈ u_ws RX4 TX4 19, w ∈ wsX4_spot := by decide +kernel
set_option maxHeartbeats 4000000 in
set_option maxRecDepth 100000 in
theorem c_X4_spot (l : Launch) (G : GT) (b : Nat → Nat) (sz : Nat) (mth : Int32) (mck : Int32) (mbn : Int32) (mai : Int32) (mtm : Int32) (mst : Int32) (msm : Int32) (mon : Int32) (mlt : Int32) (mli : Nat → Int32) (p0 : Int32) : Met l yX4_spot wsX4_spot ({ frames := 0, cells := 0, slots := 0, locals := 0 }) (GP G [.ref (b 0), .int p0] [wcM b mth mck mbn mai mtm mst msm mon mlt, wcI G (b 5) 36 mli] sz) (PQo (.returned (some (.int (f_X4_spot mli p0))))) 0 0 (fun _ => False) := by
  refine bodyM (cc := cX4_spot) (maxL := 4) (ret := (some .int)) (by decide) rfl (Nat.le_of_ble_eq_true rfl) ?_
  intro p e s m below meth c ls C
  obtain ⟨hx, hb, hr, hts, hown, hlocks, hml, hsz, hP, hE, hD, hZ, hA, hS, hl⟩ := C
  subst hsz
  have hl : lv_has ls 4 [(0, .ref (b 0)), (1, .int p0)] := hl
  refine lv_iconst (v := (-1)) hx hb dX4_spot_0 (by decide) ?_
  refine lv_istore_n (lv' := [(2, .int (-1)), (0, .ref (b 0)), (1, .int p0)]) hx hb dX4_spot_1 rfl hl (by decide) rfl (fun ls hl => ?_)
  refine lv_iconst (v := 0) hx hb dX4_spot_2 (by decide) ?_
  refine lv_istore_n (lv' := [(3, .int 0), (2, .int (-1)), (0, .ref (b 0)), (1, .int p0)]) hx hb dX4_spot_3 rfl hl (by decide) rfl (fun ls hl => ?_)
  refine k_loopP (α := Int32) (fun (r j : Nat) (x : Int32) (ls : Array Slot) => j + r = 36 ∧ f_X4_spot mli p0 = f_X4_spot_L mli p0 r j x ∧ lv_has ls 4 [(3, .int (nI j)), (2, .int x), (0, .ref (b 0)), (1, .int p0)]) 36 0 (-1) ⟨by omega, (by rw [f_X4_spot]), lv_sub hl [0, 1, 2, 3] rfl⟩ ?_ ?_
  · intro j x ls hI
    obtain ⟨its, rfl⟩ : ∃ y, y = x := ⟨_, rfl⟩
    obtain ⟨hj, hf, hl⟩ := hI
    have hl : lv_has ls 4 [(3, .int (nI j)), (2, .int its), (0, .ref (b 0)), (1, .int p0)] := hl
    have hf : f_X4_spot mli p0 = f_X4_spot_L mli p0 0 j its := hf
    refine lv_iload_n hx hb dX4_spot_4 rfl (lv_at hl 0 rfl) ?_
    refine lv_bipush (v := 36) hx hb dX4_spot_5 (by decide) ?_
    refine lv_icmp_ge (tgt := 34) hx hb dX4_spot_7 (by decide) (fun c_7 => ?_) (fun c_7 => absurd (lp_a n36_eq (by omega) (by omega)) c_7)
    refine lv_iload_n hx hb dX4_spot_34 rfl (lv_at hl 1 rfl) ?_
    have hq : f_X4_spot mli p0 = its := (hf.trans (by rw [f_X4_spot_L]))
    exact W.iret (v := its) hx hb hr (fun t ht _ => ⟨by rw [hq], ht⟩) (fun _ h => nomatch h) dX4_spot_35
  · intro r ih j x ls hI
    obtain ⟨its, rfl⟩ : ∃ y, y = x := ⟨_, rfl⟩
    obtain ⟨hj, hf, hl⟩ := hI
    have hl : lv_has ls 4 [(3, .int (nI j)), (2, .int its), (0, .ref (b 0)), (1, .int p0)] := hl
    have hf : f_X4_spot mli p0 = f_X4_spot_L mli p0 (r + 1) j its := hf
    refine lv_iload_n hx hb dX4_spot_4 rfl (lv_at hl 0 rfl) ?_
    refine lv_bipush (v := 36) hx hb dX4_spot_5 (by decide) ?_
    refine lv_icmp_ge (tgt := 34) hx hb dX4_spot_7 (by decide) (fun c_7 => absurd c_7 (lp_b (r := r) n36_eq (by omega) (by omega))) (fun c_7 => ?_)
    refine lv_aload_n hx hb dX4_spot_10 rfl (lv_at hl 2 rfl) ?_
    refine va_get (D := G.1) (ci := 4) (v := .ref (b 5)) (C := RX4) (T := TX4) (N := 19) hx hb hts iw_X4_spot_RX4 hown hE.1 hP 0 rfl rfl 7 (by decide) (hts (.fieldLink RX4 22 "RackrailModel" "lies" "[I") (by decide +kernel)) (fun _ h9 => h9) rfl dX4_spot_11 ?_
    refine lv_iload_n hx hb dX4_spot_14 rfl (lv_at hl 0 rfl) ?_
    refine va_iald hx hb hE.1 hP 1 0 rfl rfl (vp_in_nI (by omega) (by decide)) dX4_spot_15 ?_
    refine lv_iload_n hx hb dX4_spot_16 rfl (lv_at hl 3 rfl) ?_
    refine lv_iconst (v := 1) hx hb dX4_spot_17 (by decide) ?_
    refine lv_iadd hx hb dX4_spot_18 ?_
    refine lv_icmp_ne (tgt := 26) hx hb dX4_spot_19 (by decide) (fun c_19 => ?_) (fun c_19 => ?_)
    · refine lv_iload_n hx hb dX4_spot_26 rfl (lv_at hl 1 rfl) ?_
      refine lv_istore_n (lv' := [(2, .int its), (3, .int (nI j)), (0, .ref (b 0)), (1, .int p0)]) hx hb dX4_spot_27 rfl hl (by decide) rfl (fun ls hl => ?_)
      refine lv_iinc (v := nI (j + 1)) (lv' := [(3, .int (nI (j + 1))), (2, .int its), (0, .ref (b 0)), (1, .int p0)]) hx hb dX4_spot_28 hl (k := 1) rfl (inc1 _) (by decide) rfl (fun ls hl => ?_)
      refine lv_goto (tgt := 4) hx hb dX4_spot_31 (by decide) ?_
      exact ih (j + 1) its _ ⟨by omega, (hf.trans (by rw [f_X4_spot_L, if_neg c_19])), lv_sub hl [0, 1, 2, 3] rfl⟩
    · refine lv_iload_n hx hb dX4_spot_22 rfl (lv_at hl 0 rfl) ?_
      refine lv_goto (tgt := 27) hx hb dX4_spot_23 (by decide) ?_
      refine lv_istore_n (lv' := [(2, .int (nI j)), (3, .int (nI j)), (0, .ref (b 0)), (1, .int p0)]) hx hb dX4_spot_27 rfl hl (by decide) rfl (fun ls hl => ?_)
      refine lv_iinc (v := nI (j + 1)) (lv' := [(3, .int (nI (j + 1))), (2, .int (nI j)), (0, .ref (b 0)), (1, .int p0)]) hx hb dX4_spot_28 hl (k := 1) rfl (inc1 _) (by decide) rfl (fun ls hl => ?_)
      refine lv_goto (tgt := 4) hx hb dX4_spot_31 (by decide) ?_
      exact ih (j + 1) (nI j) _ ⟨by omega, (hf.trans (by rw [f_X4_spot_L, if_pos c_19])), lv_sub hl [0, 1, 2, 3] rfl⟩

/-! X4_setClimate -/
def f_X4_setClimate (msc : Nat → Int32) (p0 : Int32) (p1 : Int32) : Int32 × Int32 × (Nat → Int32) :=
  if (f_X4_isShelf p0) = 0 then (0, 1, msc)
    else if (f_X4_in p1 0 2) = 0 then (0, 2, msc)
    else (msc p0.toNatClampNeg, 0, upd msc p0.toNatClampNeg p1)
theorem iw_X4_setClimate_RX4 : ∀ w ∈ u_ws RX4 TX4 19, w ∈ wsX4_setClimate := by decide +kernel
set_option maxHeartbeats 4000000 in
set_option maxRecDepth 100000 in
theorem c_X4_setClimate (l : Launch) (G : GT) (b : Nat → Nat) (sz : Nat) (mth : Int32) (mck : Int32) (mbn : Int32) (mai : Int32) (mtm : Int32) (mst : Int32) (msm : Int32) (mon : Int32) (mlt : Int32) (msc : Nat → Int32) (p0 : Int32) (p1 : Int32) : Met l yX4_setClimate wsX4_setClimate ({ frames := 2, cells := 0, slots := 0, locals := 42 }) (GP G [.ref (b 0), .int p0, .int p1] [wcM b mth mck mbn mai mtm mst msm mon mlt, wcI G (b 1) 6 msc] sz) (MQo G (.returned (some (.int ((f_X4_setClimate msc p0 p1).1)))) [wcM b ((f_X4_setClimate msc p0 p1).2.1) mck mbn mai mtm mst msm mon mlt, wcI G (b 1) 6 ((f_X4_setClimate msc p0 p1).2.2)] (va_A [wcM b mth mck mbn mai mtm mst msm mon mlt, wcI G (b 1) 6 msc] sz)) 0 0 (va_A [wcM b mth mck mbn mai mtm mst msm mon mlt, wcI G (b 1) 6 msc] sz) := by
  refine bodyM (cc := cX4_setClimate) (maxL := 4) (ret := (some .int)) (by decide) rfl (Nat.le_of_ble_eq_true rfl) ?_
  intro p e s m below meth c ls C
  obtain ⟨hx, hb, hr, hts, hown, hlocks, hml, hsz, hP, hE, hD, hZ, hA, hS, hl⟩ := C
  subst hsz
  have hl : lv_has ls 4 [(0, .ref (b 0)), (1, .int p0), (2, .int p1)] := hl
  refine lv_aload_n hx hb dX4_setClimate_0 rfl (lv_at hl 0 rfl) ?_
  refine lv_iload_n hx hb dX4_setClimate_1 rfl (lv_at hl 1 rfl) ?_
  refine k_p (va_runS (As := [.int p0]) (rest := [.ref (b 0)]) ⟨hx, hb, hml, hown, hts⟩ (c_X4_isShelf l G s.heap.size p0) (va_cwS 1 hts gX4_setClimate_X4_isShelf rfl rfl rfl ⟨by decide +kernel, by decide +kernel, by decide +kernel⟩ ⟨Nat.le_of_ble_eq_true rfl, Nat.le_of_ble_eq_true rfl⟩) ⟨GP.blind, GP.go (wc := []) hE hZ hP hD hS hA [] rfl (by decide) [.int p0]⟩ rfl rfl hl.1 rfl (lv_room (Nat.le_of_ble_eq_true rfl)) dX4_setClimate_2 ⟨Nat.le_of_ble_eq_true rfl, Nat.le_of_ble_eq_true rfl⟩) ?_
  refine lv_if_ne (tgt := 12) hx hb dX4_setClimate_5 (by decide) (fun c_5 => ?_) (fun c_5 => ?_)
  · refine lv_iload_n hx hb dX4_setClimate_12 rfl (lv_at hl 2 rfl) ?_
    refine lv_iconst (v := 0) hx hb dX4_setClimate_13 (by decide) ?_
    refine lv_iconst (v := 2) hx hb dX4_setClimate_14 (by decide) ?_
    refine k_p (va_runS (As := [.int p1, .int 0, .int 2]) (rest := [.ref (b 0)]) ⟨hx, hb, hml, hown, hts⟩ (c_X4_in l G s.heap.size p1 0 2) (va_cwS 3 hts gX4_setClimate_X4_in rfl rfl rfl ⟨by decide +kernel, by decide +kernel, by decide +kernel⟩ ⟨Nat.le_of_ble_eq_true rfl, Nat.le_of_ble_eq_true rfl⟩) ⟨GP.blind, GP.go (wc := []) hE hZ hP hD hS hA [] rfl (by decide) [.int p1, .int 0, .int 2]⟩ rfl rfl hl.1 rfl (lv_room (Nat.le_of_ble_eq_true rfl)) dX4_setClimate_15 ⟨Nat.le_of_ble_eq_true rfl, Nat.le_of_ble_eq_true rfl⟩) ?_
    refine lv_if_eq (tgt := 25) hx hb dX4_setClimate_18 (by decide) (fun c_18 => ?_) (fun c_18 => ?_)
    · refine lv_iconst (v := 2) hx hb dX4_setClimate_25 (by decide) ?_
      refine va_put (D := G.1) (ci := 4) (v := .int 2) (ty := .int) (C := RX4) (T := TX4) (N := 19) hx hb hts iw_X4_setClimate_RX4 tyX4 tyX4_ok nmX4 hown hE.1 hP hD hS 0 rfl rfl 0 (by decide) (hts (.fieldLink RX4 41 "RackrailModel" "thrown" "I") (by decide +kernel)) (fun _ h9 => h9) rfl (by decide +kernel) rfl rfl (Nat.le_of_ble_eq_true rfl) dX4_setClimate_26 (fun H locs hP hD hS => ?_)
      have hP : va_P G.1 vwCl [wcM b 2 mck mbn mai mtm mst msm mon mlt, wcI G (b 1) 6 msc] H := hP
      have hD : va_D _ [wcM b 2 mck mbn mai mtm mst msm mon mlt, wcI G (b 1) 6 msc] := hD
      refine lv_aload_n hx hb dX4_setClimate_29 rfl (lv_at hl 0 rfl) ?_
      refine va_get (D := G.1) (ci := 4) (v := .int 2) (C := RX4) (T := TX4) (N := 19) hx hb hts iw_X4_setClimate_RX4 hown hE.1 hP 0 rfl rfl 0 (by decide) (hts (.fieldLink RX4 41 "RackrailModel" "thrown" "I") (by decide +kernel)) (fun _ h9 => h9) rfl dX4_setClimate_30 ?_
      refine lv_if_le (tgt := 38) hx hb dX4_setClimate_33 (by decide) (fun c_33 => absurd c_33 (by decide)) (fun c_33 => ?_)
      refine lv_iconst (v := 0) hx hb dX4_setClimate_36 (by decide) ?_
      have hq : f_X4_setClimate msc p0 p1 = (0, 2, msc) := (by rw [f_X4_setClimate, if_neg c_5, if_pos c_18])
      exact W.iret (v := 0) hx hb hr (fun t ht _ => ⟨by rw [hq], by rw [hq, ht]; exact hP, hS.F ht⟩) hS.2.2 dX4_setClimate_37
    · refine lv_iconst (v := 0) hx hb dX4_setClimate_21 (by decide) ?_
      refine lv_goto (tgt := 26) hx hb dX4_setClimate_22 (by decide) ?_
      refine va_put (D := G.1) (ci := 4) (v := .int 0) (ty := .int) (C := RX4) (T := TX4) (N := 19) hx hb hts iw_X4_setClimate_RX4 tyX4 tyX4_ok nmX4 hown hE.1 hP hD hS 0 rfl rfl 0 (by decide) (hts (.fieldLink RX4 41 "RackrailModel" "thrown" "I") (by decide +kernel)) (fun _ h9 => h9) rfl (by decide +kernel) rfl rfl (Nat.le_of_ble_eq_true rfl) dX4_setClimate_26 (fun H locs hP hD hS => ?_)
      have hP : va_P G.1 vwCl [wcM b 0 mck mbn mai mtm mst msm mon mlt, wcI G (b 1) 6 msc] H := hP
      have hD : va_D _ [wcM b 0 mck mbn mai mtm mst msm mon mlt, wcI G (b 1) 6 msc] := hD
      refine lv_aload_n hx hb dX4_setClimate_29 rfl (lv_at hl 0 rfl) ?_
      refine va_get (D := G.1) (ci := 4) (v := .int 0) (C := RX4) (T := TX4) (N := 19) hx hb hts iw_X4_setClimate_RX4 hown hE.1 hP 0 rfl rfl 0 (by decide) (hts (.fieldLink RX4 41 "RackrailModel" "thrown" "I") (by decide +kernel)) (fun _ h9 => h9) rfl dX4_setClimate_30 ?_
      refine lv_if_le (tgt := 38) hx hb dX4_setClimate_33 (by decide) (fun c_33 => ?_) (fun c_33 => absurd (by decide) c_33)
      refine lv_aload_n hx hb dX4_setClimate_38 rfl (lv_at hl 0 rfl) ?_
      refine va_get (D := G.1) (ci := 4) (v := .ref (b 1)) (C := RX4) (T := TX4) (N := 19) hx hb hts iw_X4_setClimate_RX4 hown hE.1 hP 0 rfl rfl 2 (by decide) (hts (.fieldLink RX4 7 "RackrailModel" "climates" "[I") (by decide +kernel)) (fun _ h9 => h9) rfl dX4_setClimate_39 ?_
      refine lv_iload_n hx hb dX4_setClimate_42 rfl (lv_at hl 1 rfl) ?_
      refine va_iald hx hb hE.1 hP 1 0 rfl rfl (in_shelfM c_5) dX4_setClimate_43 ?_
      refine lv_istore_n (lv' := [(3, .int (msc p0.toNatClampNeg)), (0, .ref (b 0)), (1, .int p0), (2, .int p1)]) hx hb dX4_setClimate_44 rfl hl (by decide) rfl (fun ls hl => ?_)
      refine lv_aload_n hx hb dX4_setClimate_45 rfl (lv_at hl 1 rfl) ?_
      refine va_get (D := G.1) (ci := 4) (v := .ref (b 1)) (C := RX4) (T := TX4) (N := 19) hx hb hts iw_X4_setClimate_RX4 hown hE.1 hP 0 rfl rfl 2 (by decide) (hts (.fieldLink RX4 7 "RackrailModel" "climates" "[I") (by decide +kernel)) (fun _ h9 => h9) rfl dX4_setClimate_46 ?_
      refine lv_iload_n hx hb dX4_setClimate_49 rfl (lv_at hl 2 rfl) ?_
      refine lv_iload_n hx hb dX4_setClimate_50 rfl (lv_at hl 3 rfl) ?_
      refine va_iast hx hb hE.1 hP hD hS 1 0 rfl rfl (in_shelfM c_5) dX4_setClimate_51 (fun H locs hP hD hS => ?_)
      have hP : va_P G.1 vwCl [wcM b 0 mck mbn mai mtm mst msm mon mlt, wcI G (b 1) 6 (upd msc p0.toNatClampNeg p1)] H := hP
      have hD : va_D _ [wcM b 0 mck mbn mai mtm mst msm mon mlt, wcI G (b 1) 6 (upd msc p0.toNatClampNeg p1)] := hD
      refine lv_iload_n hx hb dX4_setClimate_52 rfl (lv_at hl 0 rfl) ?_
      have hq : f_X4_setClimate msc p0 p1 = (msc p0.toNatClampNeg, 0, upd msc p0.toNatClampNeg p1) := (by rw [f_X4_setClimate, if_neg c_5, if_neg c_18])
      exact W.iret (v := msc p0.toNatClampNeg) hx hb hr (fun t ht _ => ⟨by rw [hq], by rw [hq, ht]; exact hP, hS.F ht⟩) hS.2.2 dX4_setClimate_53
  · refine lv_iconst (v := 1) hx hb dX4_setClimate_8 (by decide) ?_
    refine lv_goto (tgt := 26) hx hb dX4_setClimate_9 (by decide) ?_
    refine va_put (D := G.1) (ci := 4) (v := .int 1) (ty := .int) (C := RX4) (T := TX4) (N := 19) hx hb hts iw_X4_setClimate_RX4 tyX4 tyX4_ok nmX4 hown hE.1 hP hD hS 0 rfl rfl 0 (by decide) (hts (.fieldLink RX4 41 "RackrailModel" "thrown" "I") (by decide +kernel)) (fun _ h9 => h9) rfl (by decide +kernel) rfl rfl (Nat.le_of_ble_eq_true rfl) dX4_setClimate_26 (fun H locs hP hD hS => ?_)
    have hP : va_P G.1 vwCl [wcM b 1 mck mbn mai mtm mst msm mon mlt, wcI G (b 1) 6 msc] H := hP
    have hD : va_D _ [wcM b 1 mck mbn mai mtm mst msm mon mlt, wcI G (b 1) 6 msc] := hD
    refine lv_aload_n hx hb dX4_setClimate_29 rfl (lv_at hl 0 rfl) ?_
    refine va_get (D := G.1) (ci := 4) (v := .int 1) (C := RX4) (T := TX4) (N := 19) hx hb hts iw_X4_setClimate_RX4 hown hE.1 hP 0 rfl rfl 0 (by decide) (hts (.fieldLink RX4 41 "RackrailModel" "thrown" "I") (by decide +kernel)) (fun _ h9 => h9) rfl dX4_setClimate_30 ?_
    refine lv_if_le (tgt := 38) hx hb dX4_setClimate_33 (by decide) (fun c_33 => absurd c_33 (by decide)) (fun c_33 => ?_)
    refine lv_iconst (v := 0) hx hb dX4_setClimate_36 (by decide) ?_
    have hq : f_X4_setClimate msc p0 p1 = (0, 1, msc) := (by rw [f_X4_setClimate, if_pos c_5])
    exact W.iret (v := 0) hx hb hr (fun t ht _ => ⟨by rw [hq], by rw [hq, ht]; exact hP, hS.F ht⟩) hS.2.2 dX4_setClimate_37

/-! X4_addBox -/
def f_X4_addBox (mbn : Int32) (mcl : Nat → Int32) (mwt : Nat → Int32) (mkn : Nat → Int32) (p0 : Int32) (p1 : Int32) (p2 : Int32) : Int32 × Int32 × Int32 × (Nat → Int32) × (Nat → Int32) × (Nat → Int32) :=
  if (f_X4_in p0 0 2) = 0 then (0, 1, mbn, mcl, mwt, mkn)
    else if (f_X4_in p1 1 60) = 0 then (0, 1, mbn, mcl, mwt, mkn)
    else if (f_X4_in p2 0 9) = 0 then (0, 1, mbn, mcl, mwt, mkn)
    else if mbn = 20 then (0, 2, mbn, mcl, mwt, mkn)
    else ((mbn + 1) - 1, 0, mbn + 1, upd mcl mbn.toNatClampNeg p0, upd mwt mbn.toNatClampNeg p1, upd mkn mbn.toNatClampNeg p2)
theorem iw_X4_addBox_RX4 : ∀ w ∈ u_ws RX4 TX4 19, w ∈ wsX4_addBox := by decide +kernel
set_option maxHeartbeats 4000000 in
set_option maxRecDepth 100000 in
theorem c_X4_addBox (l : Launch) (G : GT) (b : Nat → Nat) (sz : Nat) (mth : Int32) (mck : Int32) (mbn : Int32) (mai : Int32) (mtm : Int32) (mst : Int32) (msm : Int32) (mon : Int32) (mlt : Int32) (mcl : Nat → Int32) (mwt : Nat → Int32) (mkn : Nat → Int32) (p0 : Int32) (p1 : Int32) (p2 : Int32) (hmn : okN 20 mbn) : Met l yX4_addBox wsX4_addBox ({ frames := 1, cells := 0, slots := 0, locals := 22 }) (GP G [.ref (b 0), .int p0, .int p1, .int p2] [wcM b mth mck mbn mai mtm mst msm mon mlt, wcI G (b 2) 20 mcl, wcI G (b 3) 20 mwt, wcI G (b 4) 20 mkn] sz) (MQo G (.returned (some (.int ((f_X4_addBox mbn mcl mwt mkn p0 p1 p2).1)))) [wcM b ((f_X4_addBox mbn mcl mwt mkn p0 p1 p2).2.1) mck ((f_X4_addBox mbn mcl mwt mkn p0 p1 p2).2.2.1) mai mtm mst msm mon mlt, wcI G (b 2) 20 ((f_X4_addBox mbn mcl mwt mkn p0 p1 p2).2.2.2.1), wcI G (b 3) 20 ((f_X4_addBox mbn mcl mwt mkn p0 p1 p2).2.2.2.2.1), wcI G (b 4) 20 ((f_X4_addBox mbn mcl mwt mkn p0 p1 p2).2.2.2.2.2)] (va_A [wcM b mth mck mbn mai mtm mst msm mon mlt, wcI G (b 2) 20 mcl, wcI G (b 3) 20 mwt, wcI G (b 4) 20 mkn] sz)) 0 0 (va_A [wcM b mth mck mbn mai mtm mst msm mon mlt, wcI G (b 2) 20 mcl, wcI G (b 3) 20 mwt, wcI G (b 4) 20 mkn] sz) := by
  refine bodyM (cc := cX4_addBox) (maxL := 5) (ret := (some .int)) (by decide) rfl (Nat.le_of_ble_eq_true rfl) ?_
  intro p e s m below meth c ls C
  obtain ⟨hx, hb, hr, hts, hown, hlocks, hml, hsz, hP, hE, hD, hZ, hA, hS, hl⟩ := C
  subst hsz
  have hl : lv_has ls 5 [(0, .ref (b 0)), (1, .int p0), (2, .int p1), (3, .int p2)] := hl
  refine lv_iload_n hx hb dX4_addBox_0 rfl (lv_at hl 1 rfl) ?_
  refine lv_iconst (v := 0) hx hb dX4_addBox_1 (by decide) ?_
  refine lv_iconst (v := 2) hx hb dX4_addBox_2 (by decide) ?_
  refine k_p (va_runS (As := [.int p0, .int 0, .int 2]) (rest := []) ⟨hx, hb, hml, hown, hts⟩ (c_X4_in l G s.heap.size p0 0 2) (va_cwS 3 hts gX4_addBox_X4_in rfl rfl rfl ⟨by decide +kernel, by decide +kernel, by decide +kernel⟩ ⟨Nat.le_of_ble_eq_true rfl, Nat.le_of_ble_eq_true rfl⟩) ⟨GP.blind, GP.go (wc := []) hE hZ hP hD hS hA [] rfl (by decide) [.int p0, .int 0, .int 2]⟩ rfl rfl hl.1 rfl (lv_room (Nat.le_of_ble_eq_true rfl)) dX4_addBox_3 ⟨Nat.le_of_ble_eq_true rfl, Nat.le_of_ble_eq_true rfl⟩) ?_
  refine lv_if_eq (tgt := 33) hx hb dX4_addBox_6 (by decide) (fun c_6 => ?_) (fun c_6 => ?_)
  · refine lv_iconst (v := 0) hx hb dX4_addBox_33 (by decide) ?_
    refine lv_istore (lv' := [(4, .int 0), (0, .ref (b 0)), (1, .int p0), (2, .int p1), (3, .int p2)]) hx hb dX4_addBox_34 hl (by decide) rfl (fun ls hl => ?_)
    refine lv_aload_n hx hb dX4_addBox_36 rfl (lv_at hl 1 rfl) ?_
    refine lv_iload hx hb dX4_addBox_37 (lv_at hl 0 rfl) ?_
    refine lv_if_ne (tgt := 46) hx hb dX4_addBox_39 (by decide) (fun c_39 => absurd (by decide) c_39) (fun c_39 => ?_)
    refine lv_iconst (v := 1) hx hb dX4_addBox_42 (by decide) ?_
    refine lv_goto (tgt := 60) hx hb dX4_addBox_43 (by decide) ?_
    refine va_put (D := G.1) (ci := 4) (v := .int 1) (ty := .int) (C := RX4) (T := TX4) (N := 19) hx hb hts iw_X4_addBox_RX4 tyX4 tyX4_ok nmX4 hown hE.1 hP hD hS 0 rfl rfl 0 (by decide) (hts (.fieldLink RX4 41 "RackrailModel" "thrown" "I") (by decide +kernel)) (fun _ h9 => h9) rfl (by decide +kernel) rfl rfl (Nat.le_of_ble_eq_true rfl) dX4_addBox_60 (fun H locs hP hD hS => ?_)
    have hP : va_P G.1 vwCl [wcM b 1 mck mbn mai mtm mst msm mon mlt, wcI G (b 2) 20 mcl, wcI G (b 3) 20 mwt, wcI G (b 4) 20 mkn] H := hP
    have hD : va_D _ [wcM b 1 mck mbn mai mtm mst msm mon mlt, wcI G (b 2) 20 mcl, wcI G (b 3) 20 mwt, wcI G (b 4) 20 mkn] := hD
    refine lv_aload_n hx hb dX4_addBox_63 rfl (lv_at hl 1 rfl) ?_
    refine va_get (D := G.1) (ci := 4) (v := .int 1) (C := RX4) (T := TX4) (N := 19) hx hb hts iw_X4_addBox_RX4 hown hE.1 hP 0 rfl rfl 0 (by decide) (hts (.fieldLink RX4 41 "RackrailModel" "thrown" "I") (by decide +kernel)) (fun _ h9 => h9) rfl dX4_addBox_64 ?_
    refine lv_if_le (tgt := 72) hx hb dX4_addBox_67 (by decide) (fun c_67 => absurd c_67 (by decide)) (fun c_67 => ?_)
    refine lv_iconst (v := 0) hx hb dX4_addBox_70 (by decide) ?_
    have hq : f_X4_addBox mbn mcl mwt mkn p0 p1 p2 = (0, 1, mbn, mcl, mwt, mkn) := (by rw [f_X4_addBox, if_pos c_6])
    exact W.iret (v := 0) hx hb hr (fun t ht _ => ⟨by rw [hq], by rw [hq, ht]; exact hP, hS.F ht⟩) hS.2.2 dX4_addBox_71
  · refine lv_iload_n hx hb dX4_addBox_9 rfl (lv_at hl 2 rfl) ?_
    refine lv_iconst (v := 1) hx hb dX4_addBox_10 (by decide) ?_
    refine lv_bipush (v := 60) hx hb dX4_addBox_11 (by decide) ?_
    refine k_p (va_runS (As := [.int p1, .int 1, .int 60]) (rest := []) ⟨hx, hb, hml, hown, hts⟩ (c_X4_in l G s.heap.size p1 1 60) (va_cwS 3 hts gX4_addBox_X4_in rfl rfl rfl ⟨by decide +kernel, by decide +kernel, by decide +kernel⟩ ⟨Nat.le_of_ble_eq_true rfl, Nat.le_of_ble_eq_true rfl⟩) ⟨GP.blind, GP.go (wc := []) hE hZ hP hD hS hA [] rfl (by decide) [.int p1, .int 1, .int 60]⟩ rfl rfl hl.1 rfl (lv_room (Nat.le_of_ble_eq_true rfl)) dX4_addBox_13 ⟨Nat.le_of_ble_eq_true rfl, Nat.le_of_ble_eq_true rfl⟩) ?_
    refine lv_if_eq (tgt := 33) hx hb dX4_addBox_16 (by decide) (fun c_16 => ?_) (fun c_16 => ?_)
    · refine lv_iconst (v := 0) hx hb dX4_addBox_33 (by decide) ?_
      refine lv_istore (lv' := [(4, .int 0), (0, .ref (b 0)), (1, .int p0), (2, .int p1), (3, .int p2)]) hx hb dX4_addBox_34 hl (by decide) rfl (fun ls hl => ?_)
      refine lv_aload_n hx hb dX4_addBox_36 rfl (lv_at hl 1 rfl) ?_
      refine lv_iload hx hb dX4_addBox_37 (lv_at hl 0 rfl) ?_
      refine lv_if_ne (tgt := 46) hx hb dX4_addBox_39 (by decide) (fun c_39 => absurd (by decide) c_39) (fun c_39 => ?_)
      refine lv_iconst (v := 1) hx hb dX4_addBox_42 (by decide) ?_
      refine lv_goto (tgt := 60) hx hb dX4_addBox_43 (by decide) ?_
      refine va_put (D := G.1) (ci := 4) (v := .int 1) (ty := .int) (C := RX4) (T := TX4) (N := 19) hx hb hts iw_X4_addBox_RX4 tyX4 tyX4_ok nmX4 hown hE.1 hP hD hS 0 rfl rfl 0 (by decide) (hts (.fieldLink RX4 41 "RackrailModel" "thrown" "I") (by decide +kernel)) (fun _ h9 => h9) rfl (by decide +kernel) rfl rfl (Nat.le_of_ble_eq_true rfl) dX4_addBox_60 (fun H locs hP hD hS => ?_)
      have hP : va_P G.1 vwCl [wcM b 1 mck mbn mai mtm mst msm mon mlt, wcI G (b 2) 20 mcl, wcI G (b 3) 20 mwt, wcI G (b 4) 20 mkn] H := hP
      have hD : va_D _ [wcM b 1 mck mbn mai mtm mst msm mon mlt, wcI G (b 2) 20 mcl, wcI G (b 3) 20 mwt, wcI G (b 4) 20 mkn] := hD
      refine lv_aload_n hx hb dX4_addBox_63 rfl (lv_at hl 1 rfl) ?_
      refine va_get (D := G.1) (ci := 4) (v := .int 1) (C := RX4) (T := TX4) (N := 19) hx hb hts iw_X4_addBox_RX4 hown hE.1 hP 0 rfl rfl 0 (by decide) (hts (.fieldLink RX4 41 "RackrailModel" "thrown" "I") (by decide +kernel)) (fun _ h9 => h9) rfl dX4_addBox_64 ?_
      refine lv_if_le (tgt := 72) hx hb dX4_addBox_67 (by decide) (fun c_67 => absurd c_67 (by decide)) (fun c_67 => ?_)
      refine lv_iconst (v := 0) hx hb dX4_addBox_70 (by decide) ?_
      have hq : f_X4_addBox mbn mcl mwt mkn p0 p1 p2 = (0, 1, mbn, mcl, mwt, mkn) := (by rw [f_X4_addBox, if_neg c_6, if_pos c_16])
      exact W.iret (v := 0) hx hb hr (fun t ht _ => ⟨by rw [hq], by rw [hq, ht]; exact hP, hS.F ht⟩) hS.2.2 dX4_addBox_71
    · refine lv_iload_n hx hb dX4_addBox_19 rfl (lv_at hl 3 rfl) ?_
      refine lv_iconst (v := 0) hx hb dX4_addBox_20 (by decide) ?_
      refine lv_bipush (v := 9) hx hb dX4_addBox_21 (by decide) ?_
      refine k_p (va_runS (As := [.int p2, .int 0, .int 9]) (rest := []) ⟨hx, hb, hml, hown, hts⟩ (c_X4_in l G s.heap.size p2 0 9) (va_cwS 3 hts gX4_addBox_X4_in rfl rfl rfl ⟨by decide +kernel, by decide +kernel, by decide +kernel⟩ ⟨Nat.le_of_ble_eq_true rfl, Nat.le_of_ble_eq_true rfl⟩) ⟨GP.blind, GP.go (wc := []) hE hZ hP hD hS hA [] rfl (by decide) [.int p2, .int 0, .int 9]⟩ rfl rfl hl.1 rfl (lv_room (Nat.le_of_ble_eq_true rfl)) dX4_addBox_23 ⟨Nat.le_of_ble_eq_true rfl, Nat.le_of_ble_eq_true rfl⟩) ?_
      refine lv_if_eq (tgt := 33) hx hb dX4_addBox_26 (by decide) (fun c_26 => ?_) (fun c_26 => ?_)
      · refine lv_iconst (v := 0) hx hb dX4_addBox_33 (by decide) ?_
        refine lv_istore (lv' := [(4, .int 0), (0, .ref (b 0)), (1, .int p0), (2, .int p1), (3, .int p2)]) hx hb dX4_addBox_34 hl (by decide) rfl (fun ls hl => ?_)
        refine lv_aload_n hx hb dX4_addBox_36 rfl (lv_at hl 1 rfl) ?_
        refine lv_iload hx hb dX4_addBox_37 (lv_at hl 0 rfl) ?_
        refine lv_if_ne (tgt := 46) hx hb dX4_addBox_39 (by decide) (fun c_39 => absurd (by decide) c_39) (fun c_39 => ?_)
        refine lv_iconst (v := 1) hx hb dX4_addBox_42 (by decide) ?_
        refine lv_goto (tgt := 60) hx hb dX4_addBox_43 (by decide) ?_
        refine va_put (D := G.1) (ci := 4) (v := .int 1) (ty := .int) (C := RX4) (T := TX4) (N := 19) hx hb hts iw_X4_addBox_RX4 tyX4 tyX4_ok nmX4 hown hE.1 hP hD hS 0 rfl rfl 0 (by decide) (hts (.fieldLink RX4 41 "RackrailModel" "thrown" "I") (by decide +kernel)) (fun _ h9 => h9) rfl (by decide +kernel) rfl rfl (Nat.le_of_ble_eq_true rfl) dX4_addBox_60 (fun H locs hP hD hS => ?_)
        have hP : va_P G.1 vwCl [wcM b 1 mck mbn mai mtm mst msm mon mlt, wcI G (b 2) 20 mcl, wcI G (b 3) 20 mwt, wcI G (b 4) 20 mkn] H := hP
        have hD : va_D _ [wcM b 1 mck mbn mai mtm mst msm mon mlt, wcI G (b 2) 20 mcl, wcI G (b 3) 20 mwt, wcI G (b 4) 20 mkn] := hD
        refine lv_aload_n hx hb dX4_addBox_63 rfl (lv_at hl 1 rfl) ?_
        refine va_get (D := G.1) (ci := 4) (v := .int 1) (C := RX4) (T := TX4) (N := 19) hx hb hts iw_X4_addBox_RX4 hown hE.1 hP 0 rfl rfl 0 (by decide) (hts (.fieldLink RX4 41 "RackrailModel" "thrown" "I") (by decide +kernel)) (fun _ h9 => h9) rfl dX4_addBox_64 ?_
        refine lv_if_le (tgt := 72) hx hb dX4_addBox_67 (by decide) (fun c_67 => absurd c_67 (by decide)) (fun c_67 => ?_)
        refine lv_iconst (v := 0) hx hb dX4_addBox_70 (by decide) ?_
        have hq : f_X4_addBox mbn mcl mwt mkn p0 p1 p2 = (0, 1, mbn, mcl, mwt, mkn) := (by rw [f_X4_addBox, if_neg c_6, if_neg c_16, if_pos c_26])
        exact W.iret (v := 0) hx hb hr (fun t ht _ => ⟨by rw [hq], by rw [hq, ht]; exact hP, hS.F ht⟩) hS.2.2 dX4_addBox_71
      · refine lv_iconst (v := 1) hx hb dX4_addBox_29 (by decide) ?_
        refine lv_goto (tgt := 34) hx hb dX4_addBox_30 (by decide) ?_
        refine lv_istore (lv' := [(4, .int 1), (0, .ref (b 0)), (1, .int p0), (2, .int p1), (3, .int p2)]) hx hb dX4_addBox_34 hl (by decide) rfl (fun ls hl => ?_)
        refine lv_aload_n hx hb dX4_addBox_36 rfl (lv_at hl 1 rfl) ?_
        refine lv_iload hx hb dX4_addBox_37 (lv_at hl 0 rfl) ?_
        refine lv_if_ne (tgt := 46) hx hb dX4_addBox_39 (by decide) (fun c_39 => ?_) (fun c_39 => absurd c_39 (by decide))
        refine lv_aload_n hx hb dX4_addBox_46 rfl (lv_at hl 1 rfl) ?_
        refine va_get (D := G.1) (ci := 4) (v := .int mbn) (C := RX4) (T := TX4) (N := 19) hx hb hts iw_X4_addBox_RX4 hown hE.1 hP 0 rfl rfl 3 (by decide) (hts (.fieldLink RX4 49 "RackrailModel" "boxMany" "I") (by decide +kernel)) (fun _ h9 => h9) rfl dX4_addBox_47 ?_
        refine lv_bipush (v := 20) hx hb dX4_addBox_50 (by decide) ?_
        refine lv_icmp_ne (tgt := 59) hx hb dX4_addBox_52 (by decide) (fun c_52 => ?_) (fun c_52 => ?_)
        · refine lv_iconst (v := 0) hx hb dX4_addBox_59 (by decide) ?_
          refine va_put (D := G.1) (ci := 4) (v := .int 0) (ty := .int) (C := RX4) (T := TX4) (N := 19) hx hb hts iw_X4_addBox_RX4 tyX4 tyX4_ok nmX4 hown hE.1 hP hD hS 0 rfl rfl 0 (by decide) (hts (.fieldLink RX4 41 "RackrailModel" "thrown" "I") (by decide +kernel)) (fun _ h9 => h9) rfl (by decide +kernel) rfl rfl (Nat.le_of_ble_eq_true rfl) dX4_addBox_60 (fun H locs hP hD hS => ?_)
          have hP : va_P G.1 vwCl [wcM b 0 mck mbn mai mtm mst msm mon mlt, wcI G (b 2) 20 mcl, wcI G (b 3) 20 mwt, wcI G (b 4) 20 mkn] H := hP
          have hD : va_D _ [wcM b 0 mck mbn mai mtm mst msm mon mlt, wcI G (b 2) 20 mcl, wcI G (b 3) 20 mwt, wcI G (b 4) 20 mkn] := hD
          refine lv_aload_n hx hb dX4_addBox_63 rfl (lv_at hl 1 rfl) ?_
          refine va_get (D := G.1) (ci := 4) (v := .int 0) (C := RX4) (T := TX4) (N := 19) hx hb hts iw_X4_addBox_RX4 hown hE.1 hP 0 rfl rfl 0 (by decide) (hts (.fieldLink RX4 41 "RackrailModel" "thrown" "I") (by decide +kernel)) (fun _ h9 => h9) rfl dX4_addBox_64 ?_
          refine lv_if_le (tgt := 72) hx hb dX4_addBox_67 (by decide) (fun c_67 => ?_) (fun c_67 => absurd (by decide) c_67)
          refine lv_aload_n hx hb dX4_addBox_72 rfl (lv_at hl 1 rfl) ?_
          refine va_get (D := G.1) (ci := 4) (v := .ref (b 2)) (C := RX4) (T := TX4) (N := 19) hx hb hts iw_X4_addBox_RX4 hown hE.1 hP 0 rfl rfl 4 (by decide) (hts (.fieldLink RX4 13 "RackrailModel" "boxClimates" "[I") (by decide +kernel)) (fun _ h9 => h9) rfl dX4_addBox_73 ?_
          refine lv_aload_n hx hb dX4_addBox_76 rfl (lv_at hl 1 rfl) ?_
          refine va_get (D := G.1) (ci := 4) (v := .int mbn) (C := RX4) (T := TX4) (N := 19) hx hb hts iw_X4_addBox_RX4 hown hE.1 hP 0 rfl rfl 3 (by decide) (hts (.fieldLink RX4 49 "RackrailModel" "boxMany" "I") (by decide +kernel)) (fun _ h9 => h9) rfl dX4_addBox_77 ?_
          refine lv_iload_n hx hb dX4_addBox_80 rfl (lv_at hl 2 rfl) ?_
          refine va_iast hx hb hE.1 hP hD hS 1 0 rfl rfl (in_fullB hmn c_52) dX4_addBox_81 (fun H locs hP hD hS => ?_)
          have hP : va_P G.1 vwCl [wcM b 0 mck mbn mai mtm mst msm mon mlt, wcI G (b 2) 20 (upd mcl mbn.toNatClampNeg p0), wcI G (b 3) 20 mwt, wcI G (b 4) 20 mkn] H := hP
          have hD : va_D _ [wcM b 0 mck mbn mai mtm mst msm mon mlt, wcI G (b 2) 20 (upd mcl mbn.toNatClampNeg p0), wcI G (b 3) 20 mwt, wcI G (b 4) 20 mkn] := hD
          refine lv_aload_n hx hb dX4_addBox_82 rfl (lv_at hl 1 rfl) ?_
          refine va_get (D := G.1) (ci := 4) (v := .ref (b 3)) (C := RX4) (T := TX4) (N := 19) hx hb hts iw_X4_addBox_RX4 hown hE.1 hP 0 rfl rfl 5 (by decide) (hts (.fieldLink RX4 16 "RackrailModel" "weights" "[I") (by decide +kernel)) (fun _ h9 => h9) rfl dX4_addBox_83 ?_
          refine lv_aload_n hx hb dX4_addBox_86 rfl (lv_at hl 1 rfl) ?_
          refine va_get (D := G.1) (ci := 4) (v := .int mbn) (C := RX4) (T := TX4) (N := 19) hx hb hts iw_X4_addBox_RX4 hown hE.1 hP 0 rfl rfl 3 (by decide) (hts (.fieldLink RX4 49 "RackrailModel" "boxMany" "I") (by decide +kernel)) (fun _ h9 => h9) rfl dX4_addBox_87 ?_
          refine lv_iload_n hx hb dX4_addBox_90 rfl (lv_at hl 3 rfl) ?_
          refine va_iast hx hb hE.1 hP hD hS 2 0 rfl rfl (in_fullB hmn c_52) dX4_addBox_91 (fun H locs hP hD hS => ?_)
          have hP : va_P G.1 vwCl [wcM b 0 mck mbn mai mtm mst msm mon mlt, wcI G (b 2) 20 (upd mcl mbn.toNatClampNeg p0), wcI G (b 3) 20 (upd mwt mbn.toNatClampNeg p1), wcI G (b 4) 20 mkn] H := hP
          have hD : va_D _ [wcM b 0 mck mbn mai mtm mst msm mon mlt, wcI G (b 2) 20 (upd mcl mbn.toNatClampNeg p0), wcI G (b 3) 20 (upd mwt mbn.toNatClampNeg p1), wcI G (b 4) 20 mkn] := hD
          refine lv_aload_n hx hb dX4_addBox_92 rfl (lv_at hl 1 rfl) ?_
          refine va_get (D := G.1) (ci := 4) (v := .ref (b 4)) (C := RX4) (T := TX4) (N := 19) hx hb hts iw_X4_addBox_RX4 hown hE.1 hP 0 rfl rfl 6 (by decide) (hts (.fieldLink RX4 19 "RackrailModel" "kins" "[I") (by decide +kernel)) (fun _ h9 => h9) rfl dX4_addBox_93 ?_
          refine lv_aload_n hx hb dX4_addBox_96 rfl (lv_at hl 1 rfl) ?_
          refine va_get (D := G.1) (ci := 4) (v := .int mbn) (C := RX4) (T := TX4) (N := 19) hx hb hts iw_X4_addBox_RX4 hown hE.1 hP 0 rfl rfl 3 (by decide) (hts (.fieldLink RX4 49 "RackrailModel" "boxMany" "I") (by decide +kernel)) (fun _ h9 => h9) rfl dX4_addBox_97 ?_
          refine lv_iload_n hx hb dX4_addBox_100 rfl (lv_at hl 4 rfl) ?_
          refine va_iast hx hb hE.1 hP hD hS 3 0 rfl rfl (in_fullB hmn c_52) dX4_addBox_101 (fun H locs hP hD hS => ?_)
          have hP : va_P G.1 vwCl [wcM b 0 mck mbn mai mtm mst msm mon mlt, wcI G (b 2) 20 (upd mcl mbn.toNatClampNeg p0), wcI G (b 3) 20 (upd mwt mbn.toNatClampNeg p1), wcI G (b 4) 20 (upd mkn mbn.toNatClampNeg p2)] H := hP
          have hD : va_D _ [wcM b 0 mck mbn mai mtm mst msm mon mlt, wcI G (b 2) 20 (upd mcl mbn.toNatClampNeg p0), wcI G (b 3) 20 (upd mwt mbn.toNatClampNeg p1), wcI G (b 4) 20 (upd mkn mbn.toNatClampNeg p2)] := hD
          refine lv_aload_n hx hb dX4_addBox_102 rfl (lv_at hl 1 rfl) ?_
          refine lv_dup hx hb dX4_addBox_103 rfl ?_
          refine va_get (D := G.1) (ci := 4) (v := .int mbn) (C := RX4) (T := TX4) (N := 19) hx hb hts iw_X4_addBox_RX4 hown hE.1 hP 0 rfl rfl 3 (by decide) (hts (.fieldLink RX4 49 "RackrailModel" "boxMany" "I") (by decide +kernel)) (fun _ h9 => h9) rfl dX4_addBox_104 ?_
          refine lv_iconst (v := 1) hx hb dX4_addBox_107 (by decide) ?_
          refine lv_iadd hx hb dX4_addBox_108 ?_
          refine va_put (D := G.1) (ci := 4) (v := .int (mbn + 1)) (ty := .int) (C := RX4) (T := TX4) (N := 19) hx hb hts iw_X4_addBox_RX4 tyX4 tyX4_ok nmX4 hown hE.1 hP hD hS 0 rfl rfl 3 (by decide) (hts (.fieldLink RX4 49 "RackrailModel" "boxMany" "I") (by decide +kernel)) (fun _ h9 => h9) rfl (by decide +kernel) rfl rfl (Nat.le_of_ble_eq_true rfl) dX4_addBox_109 (fun H locs hP hD hS => ?_)
          have hP : va_P G.1 vwCl [wcM b 0 mck (mbn + 1) mai mtm mst msm mon mlt, wcI G (b 2) 20 (upd mcl mbn.toNatClampNeg p0), wcI G (b 3) 20 (upd mwt mbn.toNatClampNeg p1), wcI G (b 4) 20 (upd mkn mbn.toNatClampNeg p2)] H := hP
          have hD : va_D _ [wcM b 0 mck (mbn + 1) mai mtm mst msm mon mlt, wcI G (b 2) 20 (upd mcl mbn.toNatClampNeg p0), wcI G (b 3) 20 (upd mwt mbn.toNatClampNeg p1), wcI G (b 4) 20 (upd mkn mbn.toNatClampNeg p2)] := hD
          refine lv_aload_n hx hb dX4_addBox_112 rfl (lv_at hl 1 rfl) ?_
          refine va_get (D := G.1) (ci := 4) (v := .int (mbn + 1)) (C := RX4) (T := TX4) (N := 19) hx hb hts iw_X4_addBox_RX4 hown hE.1 hP 0 rfl rfl 3 (by decide) (hts (.fieldLink RX4 49 "RackrailModel" "boxMany" "I") (by decide +kernel)) (fun _ h9 => h9) rfl dX4_addBox_113 ?_
          refine lv_iconst (v := 1) hx hb dX4_addBox_116 (by decide) ?_
          refine lv_isub hx hb dX4_addBox_117 ?_
          have hq : f_X4_addBox mbn mcl mwt mkn p0 p1 p2 = ((mbn + 1) - 1, 0, mbn + 1, upd mcl mbn.toNatClampNeg p0, upd mwt mbn.toNatClampNeg p1, upd mkn mbn.toNatClampNeg p2) := (by rw [f_X4_addBox, if_neg c_6, if_neg c_16, if_neg c_26, if_neg c_52])
          exact W.iret (v := (mbn + 1) - 1) hx hb hr (fun t ht _ => ⟨by rw [hq], by rw [hq, ht]; exact hP, hS.F ht⟩) hS.2.2 dX4_addBox_118
        · refine lv_iconst (v := 2) hx hb dX4_addBox_55 (by decide) ?_
          refine lv_goto (tgt := 60) hx hb dX4_addBox_56 (by decide) ?_
          refine va_put (D := G.1) (ci := 4) (v := .int 2) (ty := .int) (C := RX4) (T := TX4) (N := 19) hx hb hts iw_X4_addBox_RX4 tyX4 tyX4_ok nmX4 hown hE.1 hP hD hS 0 rfl rfl 0 (by decide) (hts (.fieldLink RX4 41 "RackrailModel" "thrown" "I") (by decide +kernel)) (fun _ h9 => h9) rfl (by decide +kernel) rfl rfl (Nat.le_of_ble_eq_true rfl) dX4_addBox_60 (fun H locs hP hD hS => ?_)
          have hP : va_P G.1 vwCl [wcM b 2 mck mbn mai mtm mst msm mon mlt, wcI G (b 2) 20 mcl, wcI G (b 3) 20 mwt, wcI G (b 4) 20 mkn] H := hP
          have hD : va_D _ [wcM b 2 mck mbn mai mtm mst msm mon mlt, wcI G (b 2) 20 mcl, wcI G (b 3) 20 mwt, wcI G (b 4) 20 mkn] := hD
          refine lv_aload_n hx hb dX4_addBox_63 rfl (lv_at hl 1 rfl) ?_
          refine va_get (D := G.1) (ci := 4) (v := .int 2) (C := RX4) (T := TX4) (N := 19) hx hb hts iw_X4_addBox_RX4 hown hE.1 hP 0 rfl rfl 0 (by decide) (hts (.fieldLink RX4 41 "RackrailModel" "thrown" "I") (by decide +kernel)) (fun _ h9 => h9) rfl dX4_addBox_64 ?_
          refine lv_if_le (tgt := 72) hx hb dX4_addBox_67 (by decide) (fun c_67 => absurd c_67 (by decide)) (fun c_67 => ?_)
          refine lv_iconst (v := 0) hx hb dX4_addBox_70 (by decide) ?_
          have hq : f_X4_addBox mbn mcl mwt mkn p0 p1 p2 = (0, 2, mbn, mcl, mwt, mkn) := (by rw [f_X4_addBox, if_neg c_6, if_neg c_16, if_neg c_26, if_pos c_52])
          exact W.iret (v := 0) hx hb hr (fun t ht _ => ⟨by rw [hq], by rw [hq, ht]; exact hP, hS.F ht⟩) hS.2.2 dX4_addBox_71

/-! X4_weighs -/
def f_X4_weighs_L (mwt : Nat → Int32) (mli : Nat → Int32) (p0 : Int32) : Nat → Nat → Int32 → Int32
  | 0, j, sum => sum
  | r + 1, j, sum => if (mli (nI (6 * p0.toNatClampNeg + j)).toNatClampNeg) ≤ 0 then f_X4_weighs_L mwt mli p0 r (j + 1) (sum + 0)
    else f_X4_weighs_L mwt mli p0 r (j + 1) (sum + (mwt ((mli (nI (6 * p0.toNatClampNeg + j)).toNatClampNeg) - 1).toNatClampNeg))
def f_X4_weighs (mwt : Nat → Int32) (mli : Nat → Int32) (p0 : Int32) : Int32 :=
  f_X4_weighs_L mwt mli p0 6 0 0
theorem iw_X4_weighs_RX4 : ∀ w ∈ u_ws RX4 TX4 19, w ∈ wsX4_weighs := by decide +kernel
set_option maxHeartbeats 4000000 in
set_option maxRecDepth 100000 in
theorem c_X4_weighs (l : Launch) (G : GT) (b : Nat → Nat) (sz : Nat) (mth : Int32) (mck : Int32) (mbn : Int32) (mai : Int32) (mtm : Int32) (mst : Int32) (msm : Int32) (mon : Int32) (mlt : Int32) (mwt : Nat → Int32) (mli : Nat → Int32) (p0 : Int32) (hli : ∀ k : Nat, k < 36 → okN 20 (mli k)) (hp : vp_in p0 6) : Met l yX4_weighs wsX4_weighs ({ frames := 0, cells := 0, slots := 0, locals := 0 }) (GP G [.ref (b 0), .int p0] [wcM b mth mck mbn mai mtm mst msm mon mlt, wcI G (b 3) 20 mwt, wcI G (b 5) 36 mli] sz) (PQo (.returned (some (.int (f_X4_weighs mwt mli p0))))) 0 0 (fun _ => False) := by
  refine bodyM (cc := cX4_weighs) (maxL := 4) (ret := (some .int)) (by decide) rfl (Nat.le_of_ble_eq_true rfl) ?_
  intro p e s m below meth c ls C
  obtain ⟨hx, hb, hr, hts, hown, hlocks, hml, hsz, hP, hE, hD, hZ, hA, hS, hl⟩ := C
  subst hsz
  have hl : lv_has ls 4 [(0, .ref (b 0)), (1, .int p0)] := hl
  obtain ⟨hp1, hp2⟩ := nI_ofi hp (by decide)
  have hs6 : 6 * p0 = nI (6 * p0.toNatClampNeg + 0) := (congrArg (fun z => 6 * z) hp1).trans (pk_mul 6 _)
  have hb6 : 6 * p0 + 6 = nI (6 * p0.toNatClampNeg + 6) := (congrArg (fun z => z + 6) hs6).trans (nI_add _ 6)
  refine lv_iconst (v := 0) hx hb dX4_weighs_0 (by decide) ?_
  refine lv_istore_n (lv' := [(2, .int 0), (0, .ref (b 0)), (1, .int p0)]) hx hb dX4_weighs_1 rfl hl (by decide) rfl (fun ls hl => ?_)
  refine lv_bipush (v := 6) hx hb dX4_weighs_2 (by decide) ?_
  refine lv_iload_n hx hb dX4_weighs_4 rfl (lv_at hl 2 rfl) ?_
  refine lv_imul hx hb dX4_weighs_5 ?_
  refine lv_istore_n (lv' := [(3, .int (6 * p0)), (2, .int 0), (0, .ref (b 0)), (1, .int p0)]) hx hb dX4_weighs_6 rfl hl (by decide) rfl (fun ls hl => ?_)
  rw [hs6] at hl
  refine k_loopP (α := Int32) (fun (r j : Nat) (x : Int32) (ls : Array Slot) => j + r = 6 ∧ f_X4_weighs mwt mli p0 = f_X4_weighs_L mwt mli p0 r j x ∧ lv_has ls 4 [(3, .int (nI (6 * p0.toNatClampNeg + j))), (2, .int x), (0, .ref (b 0)), (1, .int p0)]) 6 0 0 ⟨by omega, (by rw [f_X4_weighs]), lv_sub hl [0, 1, 2, 3] rfl⟩ ?_ ?_
  · intro j x ls hI
    obtain ⟨sum, rfl⟩ : ∃ y, y = x := ⟨_, rfl⟩
    obtain ⟨hj, hf, hl⟩ := hI
    have hl : lv_has ls 4 [(3, .int (nI (6 * p0.toNatClampNeg + j))), (2, .int sum), (0, .ref (b 0)), (1, .int p0)] := hl
    have hf : f_X4_weighs mwt mli p0 = f_X4_weighs_L mwt mli p0 0 j sum := hf
    refine lv_iload_n hx hb dX4_weighs_7 rfl (lv_at hl 0 rfl) ?_
    refine lv_bipush (v := 6) hx hb dX4_weighs_8 (by decide) ?_
    refine lv_iload_n hx hb dX4_weighs_10 rfl (lv_at hl 3 rfl) ?_
    refine lv_imul hx hb dX4_weighs_11 ?_
    refine lv_bipush (v := 6) hx hb dX4_weighs_12 (by decide) ?_
    refine lv_iadd hx hb dX4_weighs_14 ?_
    refine lv_icmp_ge (tgt := 53) hx hb dX4_weighs_15 (by decide) (fun c_15 => ?_) (fun c_15 => absurd (lp_a hb6 (by omega) (by omega)) c_15)
    refine lv_iload_n hx hb dX4_weighs_53 rfl (lv_at hl 1 rfl) ?_
    have hq : f_X4_weighs mwt mli p0 = sum := (hf.trans (by rw [f_X4_weighs_L]))
    exact W.iret (v := sum) hx hb hr (fun t ht _ => ⟨by rw [hq], ht⟩) (fun _ h => nomatch h) dX4_weighs_54
  · intro r ih j x ls hI
    obtain ⟨sum, rfl⟩ : ∃ y, y = x := ⟨_, rfl⟩
    obtain ⟨hj, hf, hl⟩ := hI
    have hl : lv_has ls 4 [(3, .int (nI (6 * p0.toNatClampNeg + j))), (2, .int sum), (0, .ref (b 0)), (1, .int p0)] := hl
    have hf : f_X4_weighs mwt mli p0 = f_X4_weighs_L mwt mli p0 (r + 1) j sum := hf
    refine lv_iload_n hx hb dX4_weighs_7 rfl (lv_at hl 0 rfl) ?_
    refine lv_bipush (v := 6) hx hb dX4_weighs_8 (by decide) ?_
    refine lv_iload_n hx hb dX4_weighs_10 rfl (lv_at hl 3 rfl) ?_
    refine lv_imul hx hb dX4_weighs_11 ?_
    refine lv_bipush (v := 6) hx hb dX4_weighs_12 (by decide) ?_
    refine lv_iadd hx hb dX4_weighs_14 ?_
    refine lv_icmp_ge (tgt := 53) hx hb dX4_weighs_15 (by decide) (fun c_15 => absurd c_15 (lp_b (r := r) hb6 (by omega) (by omega))) (fun c_15 => ?_)
    refine lv_iload_n hx hb dX4_weighs_18 rfl (lv_at hl 1 rfl) ?_
    refine lv_aload_n hx hb dX4_weighs_19 rfl (lv_at hl 2 rfl) ?_
    refine va_get (D := G.1) (ci := 4) (v := .ref (b 5)) (C := RX4) (T := TX4) (N := 19) hx hb hts iw_X4_weighs_RX4 hown hE.1 hP 0 rfl rfl 7 (by decide) (hts (.fieldLink RX4 22 "RackrailModel" "lies" "[I") (by decide +kernel)) (fun _ h9 => h9) rfl dX4_weighs_20 ?_
    refine lv_iload_n hx hb dX4_weighs_23 rfl (lv_at hl 0 rfl) ?_
    refine va_iald hx hb hE.1 hP 2 0 rfl rfl (vp_in_nI (by omega) (by decide)) dX4_weighs_24 ?_
    refine lv_if_le (tgt := 44) hx hb dX4_weighs_25 (by decide) (fun c_25 => ?_) (fun c_25 => ?_)
    · refine lv_iconst (v := 0) hx hb dX4_weighs_44 (by decide) ?_
      refine lv_iadd hx hb dX4_weighs_45 ?_
      refine lv_istore_n (lv' := [(2, .int (sum + 0)), (3, .int (nI (6 * p0.toNatClampNeg + j))), (0, .ref (b 0)), (1, .int p0)]) hx hb dX4_weighs_46 rfl hl (by decide) rfl (fun ls hl => ?_)
      refine lv_iinc (v := nI (6 * p0.toNatClampNeg + (j + 1))) (lv' := [(3, .int (nI (6 * p0.toNatClampNeg + (j + 1)))), (2, .int (sum + 0)), (0, .ref (b 0)), (1, .int p0)]) hx hb dX4_weighs_47 hl (k := 1) rfl (inc1 _) (by decide) rfl (fun ls hl => ?_)
      refine lv_goto (tgt := 7) hx hb dX4_weighs_50 (by decide) ?_
      exact ih (j + 1) (sum + 0) _ ⟨by omega, (hf.trans (by rw [f_X4_weighs_L, if_pos c_25])), lv_sub hl [0, 1, 2, 3] rfl⟩
    · refine lv_aload_n hx hb dX4_weighs_28 rfl (lv_at hl 2 rfl) ?_
      refine va_get (D := G.1) (ci := 4) (v := .ref (b 3)) (C := RX4) (T := TX4) (N := 19) hx hb hts iw_X4_weighs_RX4 hown hE.1 hP 0 rfl rfl 5 (by decide) (hts (.fieldLink RX4 16 "RackrailModel" "weights" "[I") (by decide +kernel)) (fun _ h9 => h9) rfl dX4_weighs_29 ?_
      refine lv_aload_n hx hb dX4_weighs_32 rfl (lv_at hl 2 rfl) ?_
      refine va_get (D := G.1) (ci := 4) (v := .ref (b 5)) (C := RX4) (T := TX4) (N := 19) hx hb hts iw_X4_weighs_RX4 hown hE.1 hP 0 rfl rfl 7 (by decide) (hts (.fieldLink RX4 22 "RackrailModel" "lies" "[I") (by decide +kernel)) (fun _ h9 => h9) rfl dX4_weighs_33 ?_
      refine lv_iload_n hx hb dX4_weighs_36 rfl (lv_at hl 0 rfl) ?_
      refine va_iald hx hb hE.1 hP 2 0 rfl rfl (vp_in_nI (by omega) (by decide)) dX4_weighs_37 ?_
      refine lv_iconst (v := 1) hx hb dX4_weighs_38 (by decide) ?_
      refine lv_isub hx hb dX4_weighs_39 ?_
      refine va_iald hx hb hE.1 hP 1 0 rfl rfl (in_li (hli _ (by rw [nI_clamp (by omega)]; omega)) c_25) dX4_weighs_40 ?_
      refine lv_goto (tgt := 45) hx hb dX4_weighs_41 (by decide) ?_
      refine lv_iadd hx hb dX4_weighs_45 ?_
      refine lv_istore_n (lv' := [(2, .int (sum + (mwt ((mli (nI (6 * p0.toNatClampNeg + j)).toNatClampNeg) - 1).toNatClampNeg))), (3, .int (nI (6 * p0.toNatClampNeg + j))), (0, .ref (b 0)), (1, .int p0)]) hx hb dX4_weighs_46 rfl hl (by decide) rfl (fun ls hl => ?_)
      refine lv_iinc (v := nI (6 * p0.toNatClampNeg + (j + 1))) (lv' := [(3, .int (nI (6 * p0.toNatClampNeg + (j + 1)))), (2, .int (sum + (mwt ((mli (nI (6 * p0.toNatClampNeg + j)).toNatClampNeg) - 1).toNatClampNeg))), (0, .ref (b 0)), (1, .int p0)]) hx hb dX4_weighs_47 hl (k := 1) rfl (inc1 _) (by decide) rfl (fun ls hl => ?_)
      refine lv_goto (tgt := 7) hx hb dX4_weighs_50 (by decide) ?_
      exact ih (j + 1) (sum + (mwt ((mli (nI (6 * p0.toNatClampNeg + j)).toNatClampNeg) - 1).toNatClampNeg)) _ ⟨by omega, (hf.trans (by rw [f_X4_weighs_L, if_neg c_25])), lv_sub hl [0, 1, 2, 3] rfl⟩

/-! X4_kin -/
def f_X4_kin_L (mkn : Nat → Int32) (mli : Nat → Int32) (p0 : Int32) (p1 : Int32) : Nat → Nat → Int32 → Int32
  | 0, j, cnt => cnt
  | r + 1, j, cnt => if (mli (nI (6 * p0.toNatClampNeg + j)).toNatClampNeg) ≤ 0 then f_X4_kin_L mkn mli p0 p1 r (j + 1) (cnt + 0)
    else if (mkn ((mli (nI (6 * p0.toNatClampNeg + j)).toNatClampNeg) - 1).toNatClampNeg) = p1 then f_X4_kin_L mkn mli p0 p1 r (j + 1) (cnt + 1)
    else f_X4_kin_L mkn mli p0 p1 r (j + 1) (cnt + 0)
def f_X4_kin (mkn : Nat → Int32) (mli : Nat → Int32) (p0 : Int32) (p1 : Int32) : Int32 :=
  f_X4_kin_L mkn mli p0 p1 6 0 0
theorem iw_X4_kin_RX4 : ∀ w ∈ u_ws RX4 TX4 19, w ∈ wsX4_kin := by decide +kernel
set_option maxHeartbeats 4000000 in
set_option maxRecDepth 100000 in
theorem c_X4_kin (l : Launch) (G : GT) (b : Nat → Nat) (sz : Nat) (mth : Int32) (mck : Int32) (mbn : Int32) (mai : Int32) (mtm : Int32) (mst : Int32) (msm : Int32) (mon : Int32) (mlt : Int32) (mkn : Nat → Int32) (mli : Nat → Int32) (p0 : Int32) (p1 : Int32) (hli : ∀ k : Nat, k < 36 → okN 20 (mli k)) (hp : vp_in p0 6) : Met l yX4_kin wsX4_kin ({ frames := 0, cells := 0, slots := 0, locals := 0 }) (GP G [.ref (b 0), .int p0, .int p1] [wcM b mth mck mbn mai mtm mst msm mon mlt, wcI G (b 4) 20 mkn, wcI G (b 5) 36 mli] sz) (PQo (.returned (some (.int (f_X4_kin mkn mli p0 p1))))) 0 0 (fun _ => False) := by
  refine bodyM (cc := cX4_kin) (maxL := 5) (ret := (some .int)) (by decide) rfl (Nat.le_of_ble_eq_true rfl) ?_
  intro p e s m below meth c ls C
  obtain ⟨hx, hb, hr, hts, hown, hlocks, hml, hsz, hP, hE, hD, hZ, hA, hS, hl⟩ := C
  subst hsz
  have hl : lv_has ls 5 [(0, .ref (b 0)), (1, .int p0), (2, .int p1)] := hl
  obtain ⟨hp1, hp2⟩ := nI_ofi hp (by decide)
  have hs6 : 6 * p0 = nI (6 * p0.toNatClampNeg + 0) := (congrArg (fun z => 6 * z) hp1).trans (pk_mul 6 _)
  have hb6 : 6 * p0 + 6 = nI (6 * p0.toNatClampNeg + 6) := (congrArg (fun z => z + 6) hs6).trans (nI_add _ 6)
  refine lv_iconst (v := 0) hx hb dX4_kin_0 (by decide) ?_
  refine lv_istore_n (lv' := [(3, .int 0), (0, .ref (b 0)), (1, .int p0), (2, .int p1)]) hx hb dX4_kin_1 rfl hl (by decide) rfl (fun ls hl => ?_)
  refine lv_bipush (v := 6) hx hb dX4_kin_2 (by decide) ?_
  refine lv_iload_n hx hb dX4_kin_4 rfl (lv_at hl 2 rfl) ?_
  refine lv_imul hx hb dX4_kin_5 ?_
  refine lv_istore (lv' := [(4, .int (6 * p0)), (3, .int 0), (0, .ref (b 0)), (1, .int p0), (2, .int p1)]) hx hb dX4_kin_6 hl (by decide) rfl (fun ls hl => ?_)
  rw [hs6] at hl
  refine k_loopP (α := Int32) (fun (r j : Nat) (x : Int32) (ls : Array Slot) => j + r = 6 ∧ f_X4_kin mkn mli p0 p1 = f_X4_kin_L mkn mli p0 p1 r j x ∧ lv_has ls 5 [(4, .int (nI (6 * p0.toNatClampNeg + j))), (3, .int x), (0, .ref (b 0)), (1, .int p0), (2, .int p1)]) 6 0 0 ⟨by omega, (by rw [f_X4_kin]), lv_sub hl [0, 1, 2, 3, 4] rfl⟩ ?_ ?_
  · intro j x ls hI
    obtain ⟨cnt, rfl⟩ : ∃ y, y = x := ⟨_, rfl⟩
    obtain ⟨hj, hf, hl⟩ := hI
    have hl : lv_has ls 5 [(4, .int (nI (6 * p0.toNatClampNeg + j))), (3, .int cnt), (0, .ref (b 0)), (1, .int p0), (2, .int p1)] := hl
    have hf : f_X4_kin mkn mli p0 p1 = f_X4_kin_L mkn mli p0 p1 0 j cnt := hf
    refine lv_iload hx hb dX4_kin_8 (lv_at hl 0 rfl) ?_
    refine lv_bipush (v := 6) hx hb dX4_kin_10 (by decide) ?_
    refine lv_iload_n hx hb dX4_kin_12 rfl (lv_at hl 3 rfl) ?_
    refine lv_imul hx hb dX4_kin_13 ?_
    refine lv_bipush (v := 6) hx hb dX4_kin_14 (by decide) ?_
    refine lv_iadd hx hb dX4_kin_16 ?_
    refine lv_icmp_ge (tgt := 62) hx hb dX4_kin_17 (by decide) (fun c_17 => ?_) (fun c_17 => absurd (lp_a hb6 (by omega) (by omega)) c_17)
    refine lv_iload_n hx hb dX4_kin_62 rfl (lv_at hl 1 rfl) ?_
    have hq : f_X4_kin mkn mli p0 p1 = cnt := (hf.trans (by rw [f_X4_kin_L]))
    exact W.iret (v := cnt) hx hb hr (fun t ht _ => ⟨by rw [hq], ht⟩) (fun _ h => nomatch h) dX4_kin_63
  · intro r ih j x ls hI
    obtain ⟨cnt, rfl⟩ : ∃ y, y = x := ⟨_, rfl⟩
    obtain ⟨hj, hf, hl⟩ := hI
    have hl : lv_has ls 5 [(4, .int (nI (6 * p0.toNatClampNeg + j))), (3, .int cnt), (0, .ref (b 0)), (1, .int p0), (2, .int p1)] := hl
    have hf : f_X4_kin mkn mli p0 p1 = f_X4_kin_L mkn mli p0 p1 (r + 1) j cnt := hf
    refine lv_iload hx hb dX4_kin_8 (lv_at hl 0 rfl) ?_
    refine lv_bipush (v := 6) hx hb dX4_kin_10 (by decide) ?_
    refine lv_iload_n hx hb dX4_kin_12 rfl (lv_at hl 3 rfl) ?_
    refine lv_imul hx hb dX4_kin_13 ?_
    refine lv_bipush (v := 6) hx hb dX4_kin_14 (by decide) ?_
    refine lv_iadd hx hb dX4_kin_16 ?_
    refine lv_icmp_ge (tgt := 62) hx hb dX4_kin_17 (by decide) (fun c_17 => absurd c_17 (lp_b (r := r) hb6 (by omega) (by omega))) (fun c_17 => ?_)
    refine lv_iload_n hx hb dX4_kin_20 rfl (lv_at hl 1 rfl) ?_
    refine lv_aload_n hx hb dX4_kin_21 rfl (lv_at hl 2 rfl) ?_
    refine va_get (D := G.1) (ci := 4) (v := .ref (b 5)) (C := RX4) (T := TX4) (N := 19) hx hb hts iw_X4_kin_RX4 hown hE.1 hP 0 rfl rfl 7 (by decide) (hts (.fieldLink RX4 22 "RackrailModel" "lies" "[I") (by decide +kernel)) (fun _ h9 => h9) rfl dX4_kin_22 ?_
    refine lv_iload hx hb dX4_kin_25 (lv_at hl 0 rfl) ?_
    refine va_iald hx hb hE.1 hP 2 0 rfl rfl (vp_in_nI (by omega) (by decide)) dX4_kin_27 ?_
    refine lv_if_le (tgt := 53) hx hb dX4_kin_28 (by decide) (fun c_28 => ?_) (fun c_28 => ?_)
    · refine lv_iconst (v := 0) hx hb dX4_kin_53 (by decide) ?_
      refine lv_iadd hx hb dX4_kin_54 ?_
      refine lv_istore_n (lv' := [(3, .int (cnt + 0)), (4, .int (nI (6 * p0.toNatClampNeg + j))), (0, .ref (b 0)), (1, .int p0), (2, .int p1)]) hx hb dX4_kin_55 rfl hl (by decide) rfl (fun ls hl => ?_)
      refine lv_iinc (v := nI (6 * p0.toNatClampNeg + (j + 1))) (lv' := [(4, .int (nI (6 * p0.toNatClampNeg + (j + 1)))), (3, .int (cnt + 0)), (0, .ref (b 0)), (1, .int p0), (2, .int p1)]) hx hb dX4_kin_56 hl (k := 1) rfl (inc1 _) (by decide) rfl (fun ls hl => ?_)
      refine lv_goto (tgt := 8) hx hb dX4_kin_59 (by decide) ?_
      exact ih (j + 1) (cnt + 0) _ ⟨by omega, (hf.trans (by rw [f_X4_kin_L, if_pos c_28])), lv_sub hl [0, 1, 2, 3, 4] rfl⟩
    · refine lv_aload_n hx hb dX4_kin_31 rfl (lv_at hl 2 rfl) ?_
      refine va_get (D := G.1) (ci := 4) (v := .ref (b 4)) (C := RX4) (T := TX4) (N := 19) hx hb hts iw_X4_kin_RX4 hown hE.1 hP 0 rfl rfl 6 (by decide) (hts (.fieldLink RX4 19 "RackrailModel" "kins" "[I") (by decide +kernel)) (fun _ h9 => h9) rfl dX4_kin_32 ?_
      refine lv_aload_n hx hb dX4_kin_35 rfl (lv_at hl 2 rfl) ?_
      refine va_get (D := G.1) (ci := 4) (v := .ref (b 5)) (C := RX4) (T := TX4) (N := 19) hx hb hts iw_X4_kin_RX4 hown hE.1 hP 0 rfl rfl 7 (by decide) (hts (.fieldLink RX4 22 "RackrailModel" "lies" "[I") (by decide +kernel)) (fun _ h9 => h9) rfl dX4_kin_36 ?_
      refine lv_iload hx hb dX4_kin_39 (lv_at hl 0 rfl) ?_
      refine va_iald hx hb hE.1 hP 2 0 rfl rfl (vp_in_nI (by omega) (by decide)) dX4_kin_41 ?_
      refine lv_iconst (v := 1) hx hb dX4_kin_42 (by decide) ?_
      refine lv_isub hx hb dX4_kin_43 ?_
      refine va_iald hx hb hE.1 hP 1 0 rfl rfl (in_li (hli _ (by rw [nI_clamp (by omega)]; omega)) c_28) dX4_kin_44 ?_
      refine lv_iload_n hx hb dX4_kin_45 rfl (lv_at hl 4 rfl) ?_
      refine lv_icmp_ne (tgt := 53) hx hb dX4_kin_46 (by decide) (fun c_46 => ?_) (fun c_46 => ?_)
      · refine lv_iconst (v := 0) hx hb dX4_kin_53 (by decide) ?_
        refine lv_iadd hx hb dX4_kin_54 ?_
        refine lv_istore_n (lv' := [(3, .int (cnt + 0)), (4, .int (nI (6 * p0.toNatClampNeg + j))), (0, .ref (b 0)), (1, .int p0), (2, .int p1)]) hx hb dX4_kin_55 rfl hl (by decide) rfl (fun ls hl => ?_)
        refine lv_iinc (v := nI (6 * p0.toNatClampNeg + (j + 1))) (lv' := [(4, .int (nI (6 * p0.toNatClampNeg + (j + 1)))), (3, .int (cnt + 0)), (0, .ref (b 0)), (1, .int p0), (2, .int p1)]) hx hb dX4_kin_56 hl (k := 1) rfl (inc1 _) (by decide) rfl (fun ls hl => ?_)
        refine lv_goto (tgt := 8) hx hb dX4_kin_59 (by decide) ?_
        exact ih (j + 1) (cnt + 0) _ ⟨by omega, (hf.trans (by rw [f_X4_kin_L, if_neg c_28, if_neg c_46])), lv_sub hl [0, 1, 2, 3, 4] rfl⟩
      · refine lv_iconst (v := 1) hx hb dX4_kin_49 (by decide) ?_
        refine lv_goto (tgt := 54) hx hb dX4_kin_50 (by decide) ?_
        refine lv_iadd hx hb dX4_kin_54 ?_
        refine lv_istore_n (lv' := [(3, .int (cnt + 1)), (4, .int (nI (6 * p0.toNatClampNeg + j))), (0, .ref (b 0)), (1, .int p0), (2, .int p1)]) hx hb dX4_kin_55 rfl hl (by decide) rfl (fun ls hl => ?_)
        refine lv_iinc (v := nI (6 * p0.toNatClampNeg + (j + 1))) (lv' := [(4, .int (nI (6 * p0.toNatClampNeg + (j + 1)))), (3, .int (cnt + 1)), (0, .ref (b 0)), (1, .int p0), (2, .int p1)]) hx hb dX4_kin_56 hl (k := 1) rfl (inc1 _) (by decide) rfl (fun ls hl => ?_)
        refine lv_goto (tgt := 8) hx hb dX4_kin_59 (by decide) ?_
        exact ih (j + 1) (cnt + 1) _ ⟨by omega, (hf.trans (by rw [f_X4_kin_L, if_neg c_28, if_pos c_46])), lv_sub hl [0, 1, 2, 3, 4] rfl⟩

/-! X4_best -/
def f_X4_best_L (msc : Nat → Int32) (mcl : Nat → Int32) (mwt : Nat → Int32) (mkn : Nat → Int32) (mli : Nat → Int32) (p0 : Int32) : Nat → Nat → Int32 → Int32 → Int32
  | 0, j, its, bmk => its
  | r + 1, j, its, bmk => if (mli (nI j).toNatClampNeg) = 0 then (if (msc ((nI j) / 6).toNatClampNeg) = (mcl p0.toNatClampNeg) then (if 100 < ((f_X4_weighs mwt mli ((nI j) / 6)) + (mwt p0.toNatClampNeg)) then f_X4_best_L msc mcl mwt mkn mli p0 r (j + 1) its bmk
        else if its = (-1) then f_X4_best_L msc mcl mwt mkn mli p0 r (j + 1) (nI j) (f_X4_kin mkn mli ((nI j) / 6) (mkn p0.toNatClampNeg))
        else if (f_X4_kin mkn mli ((nI j) / 6) (mkn p0.toNatClampNeg)) ≤ bmk then f_X4_best_L msc mcl mwt mkn mli p0 r (j + 1) its bmk
        else f_X4_best_L msc mcl mwt mkn mli p0 r (j + 1) (nI j) (f_X4_kin mkn mli ((nI j) / 6) (mkn p0.toNatClampNeg)))
      else f_X4_best_L msc mcl mwt mkn mli p0 r (j + 1) its bmk)
    else f_X4_best_L msc mcl mwt mkn mli p0 r (j + 1) its bmk
def f_X4_best (msc : Nat → Int32) (mcl : Nat → Int32) (mwt : Nat → Int32) (mkn : Nat → Int32) (mli : Nat → Int32) (p0 : Int32) : Int32 :=
  f_X4_best_L msc mcl mwt mkn mli p0 36 0 (-1) 0
theorem best_L {msc mcl mwt mkn mli : Nat → Int32} {p0 : Int32} : ∀ (r j : Nat) (its mst : Int32), j + r = 36 → (its = -1 ∨ vp_in its 36) → (f_X4_best_L msc mcl mwt mkn mli p0 r j its mst = -1 ∨ vp_in (f_X4_best_L msc mcl mwt mkn mli p0 r j its mst) 36) := by
  intro r
  induction r with
  | zero => intro j its mst _ h; rw [f_X4_best_L]; exact h
  | succ r ih =>
    intro j its mst hj h
    rw [f_X4_best_L]
    (repeat' split) <;> first | exact ih _ _ _ (by omega) h | exact ih _ _ _ (by omega) (Or.inr (vp_in_nI (by omega) (by decide)))
theorem in_best {msc mcl mwt mkn mli : Nat → Int32} {p0 : Int32} (h : ¬ f_X4_best msc mcl mwt mkn mli p0 = -1) : vp_in (f_X4_best msc mcl mwt mkn mli p0) 36 :=
  (best_L 36 0 (-1) 0 (by omega) (Or.inl rfl)).resolve_left h
theorem iw_X4_best_RX4 : ∀ w ∈ u_ws RX4 TX4 19, w ∈ wsX4_best := by decide +kernel
set_option maxHeartbeats 4000000 in
set_option maxRecDepth 100000 in
theorem c_X4_best (l : Launch) (G : GT) (b : Nat → Nat) (sz : Nat) (mth : Int32) (mck : Int32) (mbn : Int32) (mai : Int32) (mtm : Int32) (mst : Int32) (msm : Int32) (mon : Int32) (mlt : Int32) (msc : Nat → Int32) (mcl : Nat → Int32) (mwt : Nat → Int32) (mkn : Nat → Int32) (mli : Nat → Int32) (p0 : Int32) (hli : ∀ k : Nat, k < 36 → okN 20 (mli k)) (hpb : vp_in p0 20) : Met l yX4_best wsX4_best ({ frames := 1, cells := 0, slots := 0, locals := 24 }) (GP G [.ref (b 0), .int p0] [wcM b mth mck mbn mai mtm mst msm mon mlt, wcI G (b 1) 6 msc, wcI G (b 2) 20 mcl, wcI G (b 3) 20 mwt, wcI G (b 4) 20 mkn, wcI G (b 5) 36 mli] sz) (PQo (.returned (some (.int (f_X4_best msc mcl mwt mkn mli p0))))) 0 0 (fun _ => False) := by
  refine bodyM (cc := cX4_best) (maxL := 7) (ret := (some .int)) (by decide) rfl (Nat.le_of_ble_eq_true rfl) ?_
  intro p e s m below meth c ls C
  obtain ⟨hx, hb, hr, hts, hown, hlocks, hml, hsz, hP, hE, hD, hZ, hA, hS, hl⟩ := C
  subst hsz
  have hl : lv_has ls 7 [(0, .ref (b 0)), (1, .int p0)] := hl
  refine lv_iconst (v := (-1)) hx hb dX4_best_0 (by decide) ?_
  refine lv_istore_n (lv' := [(2, .int (-1)), (0, .ref (b 0)), (1, .int p0)]) hx hb dX4_best_1 rfl hl (by decide) rfl (fun ls hl => ?_)
  refine lv_iconst (v := 0) hx hb dX4_best_2 (by decide) ?_
  refine lv_istore_n (lv' := [(3, .int 0), (2, .int (-1)), (0, .ref (b 0)), (1, .int p0)]) hx hb dX4_best_3 rfl hl (by decide) rfl (fun ls hl => ?_)
  refine lv_iconst (v := 0) hx hb dX4_best_4 (by decide) ?_
  refine lv_istore (lv' := [(4, .int 0), (3, .int 0), (2, .int (-1)), (0, .ref (b 0)), (1, .int p0)]) hx hb dX4_best_5 hl (by decide) rfl (fun ls hl => ?_)
  refine k_loopP (α := Int32 × Int32) (fun (r j : Nat) (x : Int32 × Int32) (ls : Array Slot) => j + r = 36 ∧ f_X4_best msc mcl mwt mkn mli p0 = f_X4_best_L msc mcl mwt mkn mli p0 r j x.1 x.2 ∧ lv_has ls 7 [(4, .int (nI j)), (2, .int x.1), (3, .int x.2), (0, .ref (b 0)), (1, .int p0)]) 36 0 ((-1), 0) ⟨by omega, (by rw [f_X4_best]), lv_sub hl [0, 2, 1, 3, 4] rfl⟩ ?_ ?_
  · intro j x ls hI
    obtain ⟨its, bmk⟩ := x
    obtain ⟨hj, hf, hl⟩ := hI
    have hl : lv_has ls 7 [(4, .int (nI j)), (2, .int its), (3, .int bmk), (0, .ref (b 0)), (1, .int p0)] := hl
    have hf : f_X4_best msc mcl mwt mkn mli p0 = f_X4_best_L msc mcl mwt mkn mli p0 0 j its bmk := hf
    refine lv_iload hx hb dX4_best_7 (lv_at hl 0 rfl) ?_
    refine lv_bipush (v := 36) hx hb dX4_best_9 (by decide) ?_
    refine lv_icmp_ge (tgt := 120) hx hb dX4_best_11 (by decide) (fun c_11 => ?_) (fun c_11 => absurd (lp_a n36_eq (by omega) (by omega)) c_11)
    refine lv_iload_n hx hb dX4_best_120 rfl (lv_at hl 1 rfl) ?_
    have hq : f_X4_best msc mcl mwt mkn mli p0 = its := (hf.trans (by rw [f_X4_best_L]))
    exact W.iret (v := its) hx hb hr (fun t ht _ => ⟨by rw [hq], ht⟩) (fun _ h => nomatch h) dX4_best_121
  · intro r ih j x ls hI
    obtain ⟨its, bmk⟩ := x
    obtain ⟨hj, hf, hl⟩ := hI
    have hl : lv_has ls 7 [(4, .int (nI j)), (2, .int its), (3, .int bmk), (0, .ref (b 0)), (1, .int p0)] := hl
    have hf : f_X4_best msc mcl mwt mkn mli p0 = f_X4_best_L msc mcl mwt mkn mli p0 (r + 1) j its bmk := hf
    refine lv_iload hx hb dX4_best_7 (lv_at hl 0 rfl) ?_
    refine lv_bipush (v := 36) hx hb dX4_best_9 (by decide) ?_
    refine lv_icmp_ge (tgt := 120) hx hb dX4_best_11 (by decide) (fun c_11 => absurd c_11 (lp_b (r := r) n36_eq (by omega) (by omega))) (fun c_11 => ?_)
    refine lv_iload hx hb dX4_best_14 (lv_at hl 0 rfl) ?_
    refine lv_bipush (v := 6) hx hb dX4_best_16 (by decide) ?_
    refine lv_idiv hx hb dX4_best_18 (by decide) ?_
    refine lv_istore (lv' := [(5, .int ((nI j) / 6)), (4, .int (nI j)), (2, .int its), (3, .int bmk), (0, .ref (b 0)), (1, .int p0)]) hx hb dX4_best_19 hl (by decide) rfl (fun ls hl => ?_)
    refine lv_aload_n hx hb dX4_best_21 rfl (lv_at hl 4 rfl) ?_
    refine va_get (D := G.1) (ci := 4) (v := .ref (b 5)) (C := RX4) (T := TX4) (N := 19) hx hb hts iw_X4_best_RX4 hown hE.1 hP 0 rfl rfl 7 (by decide) (hts (.fieldLink RX4 22 "RackrailModel" "lies" "[I") (by decide +kernel)) (fun _ h9 => h9) rfl dX4_best_22 ?_
    refine lv_iload hx hb dX4_best_25 (lv_at hl 1 rfl) ?_
    refine va_iald hx hb hE.1 hP 5 0 rfl rfl (vp_in_nI (by omega) (by decide)) dX4_best_27 ?_
    refine lv_if_ne (tgt := 69) hx hb dX4_best_28 (by decide) (fun c_28 => ?_) (fun c_28 => ?_)
    · refine lv_iconst (v := 0) hx hb dX4_best_69 (by decide) ?_
      refine lv_istore (lv' := [(6, .int 0), (5, .int ((nI j) / 6)), (4, .int (nI j)), (2, .int its), (3, .int bmk), (0, .ref (b 0)), (1, .int p0)]) hx hb dX4_best_70 hl (by decide) rfl (fun ls hl => ?_)
      refine lv_iload hx hb dX4_best_72 (lv_at hl 0 rfl) ?_
      refine lv_if_eq (tgt := 114) hx hb dX4_best_74 (by decide) (fun c_74 => ?_) (fun c_74 => absurd (by decide) c_74)
      refine lv_iinc (v := nI (j + 1)) (lv' := [(4, .int (nI (j + 1))), (6, .int 0), (5, .int ((nI j) / 6)), (2, .int its), (3, .int bmk), (0, .ref (b 0)), (1, .int p0)]) hx hb dX4_best_114 hl (k := 2) rfl (inc1 _) (by decide) rfl (fun ls hl => ?_)
      refine lv_goto (tgt := 7) hx hb dX4_best_117 (by decide) ?_
      exact ih (j + 1) (its, bmk) _ ⟨by omega, (hf.trans (by rw [f_X4_best_L, if_neg c_28])), lv_sub hl [0, 3, 4, 5, 6] rfl⟩
    · refine lv_aload_n hx hb dX4_best_31 rfl (lv_at hl 4 rfl) ?_
      refine va_get (D := G.1) (ci := 4) (v := .ref (b 1)) (C := RX4) (T := TX4) (N := 19) hx hb hts iw_X4_best_RX4 hown hE.1 hP 0 rfl rfl 2 (by decide) (hts (.fieldLink RX4 7 "RackrailModel" "climates" "[I") (by decide +kernel)) (fun _ h9 => h9) rfl dX4_best_32 ?_
      refine lv_iload hx hb dX4_best_35 (lv_at hl 0 rfl) ?_
      refine va_iald hx hb hE.1 hP 1 0 rfl rfl (in_div6 (by omega)) dX4_best_37 ?_
      refine lv_aload_n hx hb dX4_best_38 rfl (lv_at hl 4 rfl) ?_
      refine va_get (D := G.1) (ci := 4) (v := .ref (b 2)) (C := RX4) (T := TX4) (N := 19) hx hb hts iw_X4_best_RX4 hown hE.1 hP 0 rfl rfl 4 (by decide) (hts (.fieldLink RX4 13 "RackrailModel" "boxClimates" "[I") (by decide +kernel)) (fun _ h9 => h9) rfl dX4_best_39 ?_
      refine lv_iload_n hx hb dX4_best_42 rfl (lv_at hl 5 rfl) ?_
      refine va_iald hx hb hE.1 hP 2 0 rfl rfl (hpb) dX4_best_43 ?_
      refine lv_icmp_ne (tgt := 69) hx hb dX4_best_44 (by decide) (fun c_44 => ?_) (fun c_44 => ?_)
      · refine lv_iconst (v := 0) hx hb dX4_best_69 (by decide) ?_
        refine lv_istore (lv' := [(6, .int 0), (5, .int ((nI j) / 6)), (4, .int (nI j)), (2, .int its), (3, .int bmk), (0, .ref (b 0)), (1, .int p0)]) hx hb dX4_best_70 hl (by decide) rfl (fun ls hl => ?_)
        refine lv_iload hx hb dX4_best_72 (lv_at hl 0 rfl) ?_
        refine lv_if_eq (tgt := 114) hx hb dX4_best_74 (by decide) (fun c_74 => ?_) (fun c_74 => absurd (by decide) c_74)
        refine lv_iinc (v := nI (j + 1)) (lv' := [(4, .int (nI (j + 1))), (6, .int 0), (5, .int ((nI j) / 6)), (2, .int its), (3, .int bmk), (0, .ref (b 0)), (1, .int p0)]) hx hb dX4_best_114 hl (k := 2) rfl (inc1 _) (by decide) rfl (fun ls hl => ?_)
        refine lv_goto (tgt := 7) hx hb dX4_best_117 (by decide) ?_
        exact ih (j + 1) (its, bmk) _ ⟨by omega, (hf.trans (by rw [f_X4_best_L, if_pos c_28, if_neg c_44])), lv_sub hl [0, 3, 4, 5, 6] rfl⟩
      · refine lv_aload_n hx hb dX4_best_47 rfl (lv_at hl 4 rfl) ?_
        refine lv_iload hx hb dX4_best_48 (lv_at hl 0 rfl) ?_
        refine k_p (va_runV (As := [.int ((nI j) / 6)]) (rest := []) ⟨hx, hb, hml, hown, hts⟩ (c_X4_weighs l G b s.heap.size mth mck mbn mai mtm mst msm mon mlt mwt mli ((nI j) / 6) hli (in_div6 (by omega))) (cwV 1 hts gX4_best_X4_weighs rfl rfl rfl ⟨rfl, by decide +kernel, by decide +kernel, by decide +kernel⟩ ⟨Nat.le_of_ble_eq_true rfl, Nat.le_of_ble_eq_true rfl⟩) ⟨GP.blind, va_recv hE.1 hP (ci := 4) (q0 := 0) rfl rfl, GP.go (wc := [wcM b mth mck mbn mai mtm mst msm mon mlt, wcI G (b 3) 20 mwt, wcI G (b 5) 36 mli]) hE hZ hP hD hS hA [0, 3, 5] rfl (by decide) [.ref (b 0), .int ((nI j) / 6)]⟩ rfl rfl hl.1 rfl (lv_room (Nat.le_of_ble_eq_true rfl)) dX4_best_50 ⟨Nat.le_of_ble_eq_true rfl, Nat.le_of_ble_eq_true rfl⟩) ?_
        refine lv_aload_n hx hb dX4_best_53 rfl (lv_at hl 4 rfl) ?_
        refine va_get (D := G.1) (ci := 4) (v := .ref (b 3)) (C := RX4) (T := TX4) (N := 19) hx hb hts iw_X4_best_RX4 hown hE.1 hP 0 rfl rfl 5 (by decide) (hts (.fieldLink RX4 16 "RackrailModel" "weights" "[I") (by decide +kernel)) (fun _ h9 => h9) rfl dX4_best_54 ?_
        refine lv_iload_n hx hb dX4_best_57 rfl (lv_at hl 5 rfl) ?_
        refine va_iald hx hb hE.1 hP 3 0 rfl rfl (hpb) dX4_best_58 ?_
        refine lv_iadd hx hb dX4_best_59 ?_
        refine lv_bipush (v := 100) hx hb dX4_best_60 (by decide) ?_
        refine lv_icmp_gt (tgt := 69) hx hb dX4_best_62 (by decide) (fun c_62 => ?_) (fun c_62 => ?_)
        · refine lv_iconst (v := 0) hx hb dX4_best_69 (by decide) ?_
          refine lv_istore (lv' := [(6, .int 0), (5, .int ((nI j) / 6)), (4, .int (nI j)), (2, .int its), (3, .int bmk), (0, .ref (b 0)), (1, .int p0)]) hx hb dX4_best_70 hl (by decide) rfl (fun ls hl => ?_)
          refine lv_iload hx hb dX4_best_72 (lv_at hl 0 rfl) ?_
          refine lv_if_eq (tgt := 114) hx hb dX4_best_74 (by decide) (fun c_74 => ?_) (fun c_74 => absurd (by decide) c_74)
          refine lv_iinc (v := nI (j + 1)) (lv' := [(4, .int (nI (j + 1))), (6, .int 0), (5, .int ((nI j) / 6)), (2, .int its), (3, .int bmk), (0, .ref (b 0)), (1, .int p0)]) hx hb dX4_best_114 hl (k := 2) rfl (inc1 _) (by decide) rfl (fun ls hl => ?_)
          refine lv_goto (tgt := 7) hx hb dX4_best_117 (by decide) ?_
          exact ih (j + 1) (its, bmk) _ ⟨by omega, (hf.trans (by rw [f_X4_best_L, if_pos c_28, if_pos c_44, if_pos c_62])), lv_sub hl [0, 3, 4, 5, 6] rfl⟩
        · refine lv_iconst (v := 1) hx hb dX4_best_65 (by decide) ?_
          refine lv_goto (tgt := 70) hx hb dX4_best_66 (by decide) ?_
          refine lv_istore (lv' := [(6, .int 1), (5, .int ((nI j) / 6)), (4, .int (nI j)), (2, .int its), (3, .int bmk), (0, .ref (b 0)), (1, .int p0)]) hx hb dX4_best_70 hl (by decide) rfl (fun ls hl => ?_)
          refine lv_iload hx hb dX4_best_72 (lv_at hl 0 rfl) ?_
          refine lv_if_eq (tgt := 114) hx hb dX4_best_74 (by decide) (fun c_74 => absurd c_74 (by decide)) (fun c_74 => ?_)
          refine lv_iload_n hx hb dX4_best_77 rfl (lv_at hl 3 rfl) ?_
          refine lv_iconst (v := (-1)) hx hb dX4_best_78 (by decide) ?_
          refine lv_icmp_eq (tgt := 98) hx hb dX4_best_79 (by decide) (fun c_79 => ?_) (fun c_79 => ?_)
          · refine lv_iload hx hb dX4_best_98 (lv_at hl 2 rfl) ?_
            refine lv_istore_n (lv' := [(2, .int (nI j)), (6, .int 1), (5, .int ((nI j) / 6)), (4, .int (nI j)), (3, .int bmk), (0, .ref (b 0)), (1, .int p0)]) hx hb dX4_best_100 rfl hl (by decide) rfl (fun ls hl => ?_)
            refine lv_aload_n hx hb dX4_best_101 rfl (lv_at hl 5 rfl) ?_
            refine lv_iload hx hb dX4_best_102 (lv_at hl 2 rfl) ?_
            refine lv_aload_n hx hb dX4_best_104 rfl (lv_at hl 5 rfl) ?_
            refine va_get (D := G.1) (ci := 4) (v := .ref (b 4)) (C := RX4) (T := TX4) (N := 19) hx hb hts iw_X4_best_RX4 hown hE.1 hP 0 rfl rfl 6 (by decide) (hts (.fieldLink RX4 19 "RackrailModel" "kins" "[I") (by decide +kernel)) (fun _ h9 => h9) rfl dX4_best_105 ?_
            refine lv_iload_n hx hb dX4_best_108 rfl (lv_at hl 6 rfl) ?_
            refine va_iald hx hb hE.1 hP 4 0 rfl rfl (hpb) dX4_best_109 ?_
            refine k_p (va_runV (As := [.int ((nI j) / 6), .int (mkn p0.toNatClampNeg)]) (rest := []) ⟨hx, hb, hml, hown, hts⟩ (c_X4_kin l G b s.heap.size mth mck mbn mai mtm mst msm mon mlt mkn mli ((nI j) / 6) (mkn p0.toNatClampNeg) hli (in_div6 (by omega))) (cwV 2 hts gX4_best_X4_kin rfl rfl rfl ⟨rfl, by decide +kernel, by decide +kernel, by decide +kernel⟩ ⟨Nat.le_of_ble_eq_true rfl, Nat.le_of_ble_eq_true rfl⟩) ⟨GP.blind, va_recv hE.1 hP (ci := 4) (q0 := 0) rfl rfl, GP.go (wc := [wcM b mth mck mbn mai mtm mst msm mon mlt, wcI G (b 4) 20 mkn, wcI G (b 5) 36 mli]) hE hZ hP hD hS hA [0, 4, 5] rfl (by decide) [.ref (b 0), .int ((nI j) / 6), .int (mkn p0.toNatClampNeg)]⟩ rfl rfl hl.1 rfl (lv_room (Nat.le_of_ble_eq_true rfl)) dX4_best_110 ⟨Nat.le_of_ble_eq_true rfl, Nat.le_of_ble_eq_true rfl⟩) ?_
            refine lv_istore_n (lv' := [(3, .int (f_X4_kin mkn mli ((nI j) / 6) (mkn p0.toNatClampNeg))), (2, .int (nI j)), (6, .int 1), (5, .int ((nI j) / 6)), (4, .int (nI j)), (0, .ref (b 0)), (1, .int p0)]) hx hb dX4_best_113 rfl hl (by decide) rfl (fun ls hl => ?_)
            refine lv_iinc (v := nI (j + 1)) (lv' := [(4, .int (nI (j + 1))), (3, .int (f_X4_kin mkn mli ((nI j) / 6) (mkn p0.toNatClampNeg))), (2, .int (nI j)), (6, .int 1), (5, .int ((nI j) / 6)), (0, .ref (b 0)), (1, .int p0)]) hx hb dX4_best_114 hl (k := 4) rfl (inc1 _) (by decide) rfl (fun ls hl => ?_)
            refine lv_goto (tgt := 7) hx hb dX4_best_117 (by decide) ?_
            exact ih (j + 1) (nI j, f_X4_kin mkn mli ((nI j) / 6) (mkn p0.toNatClampNeg)) _ ⟨by omega, (hf.trans (by rw [f_X4_best_L, if_pos c_28, if_pos c_44, if_neg c_62, if_pos c_79])), lv_sub hl [0, 2, 1, 5, 6] rfl⟩
          · refine lv_aload_n hx hb dX4_best_82 rfl (lv_at hl 5 rfl) ?_
            refine lv_iload hx hb dX4_best_83 (lv_at hl 1 rfl) ?_
            refine lv_aload_n hx hb dX4_best_85 rfl (lv_at hl 5 rfl) ?_
            refine va_get (D := G.1) (ci := 4) (v := .ref (b 4)) (C := RX4) (T := TX4) (N := 19) hx hb hts iw_X4_best_RX4 hown hE.1 hP 0 rfl rfl 6 (by decide) (hts (.fieldLink RX4 19 "RackrailModel" "kins" "[I") (by decide +kernel)) (fun _ h9 => h9) rfl dX4_best_86 ?_
            refine lv_iload_n hx hb dX4_best_89 rfl (lv_at hl 6 rfl) ?_
            refine va_iald hx hb hE.1 hP 4 0 rfl rfl (hpb) dX4_best_90 ?_
            refine k_p (va_runV (As := [.int ((nI j) / 6), .int (mkn p0.toNatClampNeg)]) (rest := []) ⟨hx, hb, hml, hown, hts⟩ (c_X4_kin l G b s.heap.size mth mck mbn mai mtm mst msm mon mlt mkn mli ((nI j) / 6) (mkn p0.toNatClampNeg) hli (in_div6 (by omega))) (cwV 2 hts gX4_best_X4_kin rfl rfl rfl ⟨rfl, by decide +kernel, by decide +kernel, by decide +kernel⟩ ⟨Nat.le_of_ble_eq_true rfl, Nat.le_of_ble_eq_true rfl⟩) ⟨GP.blind, va_recv hE.1 hP (ci := 4) (q0 := 0) rfl rfl, GP.go (wc := [wcM b mth mck mbn mai mtm mst msm mon mlt, wcI G (b 4) 20 mkn, wcI G (b 5) 36 mli]) hE hZ hP hD hS hA [0, 4, 5] rfl (by decide) [.ref (b 0), .int ((nI j) / 6), .int (mkn p0.toNatClampNeg)]⟩ rfl rfl hl.1 rfl (lv_room (Nat.le_of_ble_eq_true rfl)) dX4_best_91 ⟨Nat.le_of_ble_eq_true rfl, Nat.le_of_ble_eq_true rfl⟩) ?_
            refine lv_iload_n hx hb dX4_best_94 rfl (lv_at hl 4 rfl) ?_
            refine lv_icmp_le (tgt := 114) hx hb dX4_best_95 (by decide) (fun c_95 => ?_) (fun c_95 => ?_)
            · refine lv_iinc (v := nI (j + 1)) (lv' := [(4, .int (nI (j + 1))), (6, .int 1), (5, .int ((nI j) / 6)), (2, .int its), (3, .int bmk), (0, .ref (b 0)), (1, .int p0)]) hx hb dX4_best_114 hl (k := 2) rfl (inc1 _) (by decide) rfl (fun ls hl => ?_)
              refine lv_goto (tgt := 7) hx hb dX4_best_117 (by decide) ?_
              exact ih (j + 1) (its, bmk) _ ⟨by omega, (hf.trans (by rw [f_X4_best_L, if_pos c_28, if_pos c_44, if_neg c_62, if_neg c_79, if_pos c_95])), lv_sub hl [0, 3, 4, 5, 6] rfl⟩
            · refine lv_iload hx hb dX4_best_98 (lv_at hl 2 rfl) ?_
              refine lv_istore_n (lv' := [(2, .int (nI j)), (6, .int 1), (5, .int ((nI j) / 6)), (4, .int (nI j)), (3, .int bmk), (0, .ref (b 0)), (1, .int p0)]) hx hb dX4_best_100 rfl hl (by decide) rfl (fun ls hl => ?_)
              refine lv_aload_n hx hb dX4_best_101 rfl (lv_at hl 5 rfl) ?_
              refine lv_iload hx hb dX4_best_102 (lv_at hl 2 rfl) ?_
              refine lv_aload_n hx hb dX4_best_104 rfl (lv_at hl 5 rfl) ?_
              refine va_get (D := G.1) (ci := 4) (v := .ref (b 4)) (C := RX4) (T := TX4) (N := 19) hx hb hts iw_X4_best_RX4 hown hE.1 hP 0 rfl rfl 6 (by decide) (hts (.fieldLink RX4 19 "RackrailModel" "kins" "[I") (by decide +kernel)) (fun _ h9 => h9) rfl dX4_best_105 ?_
              refine lv_iload_n hx hb dX4_best_108 rfl (lv_at hl 6 rfl) ?_
              refine va_iald hx hb hE.1 hP 4 0 rfl rfl (hpb) dX4_best_109 ?_
              refine k_p (va_runV (As := [.int ((nI j) / 6), .int (mkn p0.toNatClampNeg)]) (rest := []) ⟨hx, hb, hml, hown, hts⟩ (c_X4_kin l G b s.heap.size mth mck mbn mai mtm mst msm mon mlt mkn mli ((nI j) / 6) (mkn p0.toNatClampNeg) hli (in_div6 (by omega))) (cwV 2 hts gX4_best_X4_kin rfl rfl rfl ⟨rfl, by decide +kernel, by decide +kernel, by decide +kernel⟩ ⟨Nat.le_of_ble_eq_true rfl, Nat.le_of_ble_eq_true rfl⟩) ⟨GP.blind, va_recv hE.1 hP (ci := 4) (q0 := 0) rfl rfl, GP.go (wc := [wcM b mth mck mbn mai mtm mst msm mon mlt, wcI G (b 4) 20 mkn, wcI G (b 5) 36 mli]) hE hZ hP hD hS hA [0, 4, 5] rfl (by decide) [.ref (b 0), .int ((nI j) / 6), .int (mkn p0.toNatClampNeg)]⟩ rfl rfl hl.1 rfl (lv_room (Nat.le_of_ble_eq_true rfl)) dX4_best_110 ⟨Nat.le_of_ble_eq_true rfl, Nat.le_of_ble_eq_true rfl⟩) ?_
              refine lv_istore_n (lv' := [(3, .int (f_X4_kin mkn mli ((nI j) / 6) (mkn p0.toNatClampNeg))), (2, .int (nI j)), (6, .int 1), (5, .int ((nI j) / 6)), (4, .int (nI j)), (0, .ref (b 0)), (1, .int p0)]) hx hb dX4_best_113 rfl hl (by decide) rfl (fun ls hl => ?_)
              refine lv_iinc (v := nI (j + 1)) (lv' := [(4, .int (nI (j + 1))), (3, .int (f_X4_kin mkn mli ((nI j) / 6) (mkn p0.toNatClampNeg))), (2, .int (nI j)), (6, .int 1), (5, .int ((nI j) / 6)), (0, .ref (b 0)), (1, .int p0)]) hx hb dX4_best_114 hl (k := 4) rfl (inc1 _) (by decide) rfl (fun ls hl => ?_)
              refine lv_goto (tgt := 7) hx hb dX4_best_117 (by decide) ?_
              exact ih (j + 1) (nI j, f_X4_kin mkn mli ((nI j) / 6) (mkn p0.toNatClampNeg)) _ ⟨by omega, (hf.trans (by rw [f_X4_best_L, if_pos c_28, if_pos c_44, if_neg c_62, if_neg c_79, if_neg c_95])), lv_sub hl [0, 2, 1, 5, 6] rfl⟩

/-! X4_bestSpot -/
def f_X4_bestSpot (mbn : Int32) (msc : Nat → Int32) (mcl : Nat → Int32) (mwt : Nat → Int32) (mkn : Nat → Int32) (mli : Nat → Int32) (p0 : Int32) : Int32 × Int32 :=
  if (f_X4_isBox mbn p0) = 0 then (0, 1)
    else if (f_X4_spot mli p0) = (-1) then (if (f_X4_best msc mcl mwt mkn mli p0) = (-1) then ((-1), 0)
      else (f_X4_told (f_X4_best msc mcl mwt mkn mli p0), 0))
    else (0, 2)
theorem iw_X4_bestSpot_RX4 : ∀ w ∈ u_ws RX4 TX4 19, w ∈ wsX4_bestSpot := by decide +kernel
set_option maxHeartbeats 4000000 in
set_option maxRecDepth 100000 in
theorem c_X4_bestSpot (l : Launch) (G : GT) (b : Nat → Nat) (sz : Nat) (mth : Int32) (mck : Int32) (mbn : Int32) (mai : Int32) (mtm : Int32) (mst : Int32) (msm : Int32) (mon : Int32) (mlt : Int32) (msc : Nat → Int32) (mcl : Nat → Int32) (mwt : Nat → Int32) (mkn : Nat → Int32) (mli : Nat → Int32) (p0 : Int32) (hmn : okN 20 mbn) (hli : ∀ k : Nat, k < 36 → okN 20 (mli k)) : Met l yX4_bestSpot wsX4_bestSpot ({ frames := 2, cells := 0, slots := 0, locals := 50 }) (GP G [.ref (b 0), .int p0] [wcM b mth mck mbn mai mtm mst msm mon mlt, wcI G (b 1) 6 msc, wcI G (b 2) 20 mcl, wcI G (b 3) 20 mwt, wcI G (b 4) 20 mkn, wcI G (b 5) 36 mli] sz) (MQo G (.returned (some (.int ((f_X4_bestSpot mbn msc mcl mwt mkn mli p0).1)))) [wcM b ((f_X4_bestSpot mbn msc mcl mwt mkn mli p0).2) mck mbn mai mtm mst msm mon mlt, wcI G (b 1) 6 msc, wcI G (b 2) 20 mcl, wcI G (b 3) 20 mwt, wcI G (b 4) 20 mkn, wcI G (b 5) 36 mli] (va_A [wcM b mth mck mbn mai mtm mst msm mon mlt, wcI G (b 1) 6 msc, wcI G (b 2) 20 mcl, wcI G (b 3) 20 mwt, wcI G (b 4) 20 mkn, wcI G (b 5) 36 mli] sz)) 0 0 (va_A [wcM b mth mck mbn mai mtm mst msm mon mlt, wcI G (b 1) 6 msc, wcI G (b 2) 20 mcl, wcI G (b 3) 20 mwt, wcI G (b 4) 20 mkn, wcI G (b 5) 36 mli] sz) := by
  refine bodyM (cc := cX4_bestSpot) (maxL := 3) (ret := (some .int)) (by decide) rfl (Nat.le_of_ble_eq_true rfl) ?_
  intro p e s m below meth c ls C
  obtain ⟨hx, hb, hr, hts, hown, hlocks, hml, hsz, hP, hE, hD, hZ, hA, hS, hl⟩ := C
  subst hsz
  have hl : lv_has ls 3 [(0, .ref (b 0)), (1, .int p0)] := hl
  refine lv_aload_n hx hb dX4_bestSpot_0 rfl (lv_at hl 0 rfl) ?_
  refine lv_aload_n hx hb dX4_bestSpot_1 rfl (lv_at hl 0 rfl) ?_
  refine lv_iload_n hx hb dX4_bestSpot_2 rfl (lv_at hl 1 rfl) ?_
  refine k_p (va_runV (As := [.int p0]) (rest := [.ref (b 0)]) ⟨hx, hb, hml, hown, hts⟩ (c_X4_isBox l G b s.heap.size mth mck mbn mai mtm mst msm mon mlt p0) (cwV 1 hts gX4_bestSpot_X4_isBox rfl rfl rfl ⟨rfl, by decide +kernel, by decide +kernel, by decide +kernel⟩ ⟨Nat.le_of_ble_eq_true rfl, Nat.le_of_ble_eq_true rfl⟩) ⟨GP.blind, va_recv hE.1 hP (ci := 4) (q0 := 0) rfl rfl, GP.go (wc := [wcM b mth mck mbn mai mtm mst msm mon mlt]) hE hZ hP hD hS hA [0] rfl (by decide) [.ref (b 0), .int p0]⟩ rfl rfl hl.1 rfl (lv_room (Nat.le_of_ble_eq_true rfl)) dX4_bestSpot_3 ⟨Nat.le_of_ble_eq_true rfl, Nat.le_of_ble_eq_true rfl⟩) ?_
  refine lv_if_ne (tgt := 13) hx hb dX4_bestSpot_6 (by decide) (fun c_6 => ?_) (fun c_6 => ?_)
  · refine lv_aload_n hx hb dX4_bestSpot_13 rfl (lv_at hl 0 rfl) ?_
    refine lv_iload_n hx hb dX4_bestSpot_14 rfl (lv_at hl 1 rfl) ?_
    refine k_p (va_runV (As := [.int p0]) (rest := [.ref (b 0)]) ⟨hx, hb, hml, hown, hts⟩ (c_X4_spot l G b s.heap.size mth mck mbn mai mtm mst msm mon mlt mli p0) (cwV 1 hts gX4_bestSpot_X4_spot rfl rfl rfl ⟨rfl, by decide +kernel, by decide +kernel, by decide +kernel⟩ ⟨Nat.le_of_ble_eq_true rfl, Nat.le_of_ble_eq_true rfl⟩) ⟨GP.blind, va_recv hE.1 hP (ci := 4) (q0 := 0) rfl rfl, GP.go (wc := [wcM b mth mck mbn mai mtm mst msm mon mlt, wcI G (b 5) 36 mli]) hE hZ hP hD hS hA [0, 5] rfl (by decide) [.ref (b 0), .int p0]⟩ rfl rfl hl.1 rfl (lv_room (Nat.le_of_ble_eq_true rfl)) dX4_bestSpot_15 ⟨Nat.le_of_ble_eq_true rfl, Nat.le_of_ble_eq_true rfl⟩) ?_
    refine lv_iconst (v := (-1)) hx hb dX4_bestSpot_18 (by decide) ?_
    refine lv_icmp_eq (tgt := 26) hx hb dX4_bestSpot_19 (by decide) (fun c_19 => ?_) (fun c_19 => ?_)
    · refine lv_iconst (v := 0) hx hb dX4_bestSpot_26 (by decide) ?_
      refine va_put (D := G.1) (ci := 4) (v := .int 0) (ty := .int) (C := RX4) (T := TX4) (N := 19) hx hb hts iw_X4_bestSpot_RX4 tyX4 tyX4_ok nmX4 hown hE.1 hP hD hS 0 rfl rfl 0 (by decide) (hts (.fieldLink RX4 41 "RackrailModel" "thrown" "I") (by decide +kernel)) (fun _ h9 => h9) rfl (by decide +kernel) rfl rfl (Nat.le_of_ble_eq_true rfl) dX4_bestSpot_27 (fun H locs hP hD hS => ?_)
      have hP : va_P G.1 vwCl [wcM b 0 mck mbn mai mtm mst msm mon mlt, wcI G (b 1) 6 msc, wcI G (b 2) 20 mcl, wcI G (b 3) 20 mwt, wcI G (b 4) 20 mkn, wcI G (b 5) 36 mli] H := hP
      have hD : va_D _ [wcM b 0 mck mbn mai mtm mst msm mon mlt, wcI G (b 1) 6 msc, wcI G (b 2) 20 mcl, wcI G (b 3) 20 mwt, wcI G (b 4) 20 mkn, wcI G (b 5) 36 mli] := hD
      refine lv_aload_n hx hb dX4_bestSpot_30 rfl (lv_at hl 0 rfl) ?_
      refine va_get (D := G.1) (ci := 4) (v := .int 0) (C := RX4) (T := TX4) (N := 19) hx hb hts iw_X4_bestSpot_RX4 hown hE.1 hP 0 rfl rfl 0 (by decide) (hts (.fieldLink RX4 41 "RackrailModel" "thrown" "I") (by decide +kernel)) (fun _ h9 => h9) rfl dX4_bestSpot_31 ?_
      refine lv_if_le (tgt := 39) hx hb dX4_bestSpot_34 (by decide) (fun c_34 => ?_) (fun c_34 => absurd (by decide) c_34)
      refine lv_aload_n hx hb dX4_bestSpot_39 rfl (lv_at hl 0 rfl) ?_
      refine lv_iload_n hx hb dX4_bestSpot_40 rfl (lv_at hl 1 rfl) ?_
      refine k_p (va_runV (As := [.int p0]) (rest := []) ⟨hx, hb, hml, hown, hts⟩ (c_X4_best l G b H.size 0 mck mbn mai mtm mst msm mon mlt msc mcl mwt mkn mli p0 hli (in_boxM hmn c_6)) (cwV 1 hts gX4_bestSpot_X4_best rfl rfl rfl ⟨rfl, by decide +kernel, by decide +kernel, by decide +kernel⟩ ⟨Nat.le_of_ble_eq_true rfl, Nat.le_of_ble_eq_true rfl⟩) ⟨GP.blind, va_recv hE.1 hP (ci := 4) (q0 := 0) rfl rfl, GP.go (wc := [wcM b 0 mck mbn mai mtm mst msm mon mlt, wcI G (b 1) 6 msc, wcI G (b 2) 20 mcl, wcI G (b 3) 20 mwt, wcI G (b 4) 20 mkn, wcI G (b 5) 36 mli]) hE hZ hP hD hS hA [0, 1, 2, 3, 4, 5] rfl (by decide) [.ref (b 0), .int p0]⟩ rfl rfl hl.1 rfl (lv_room (Nat.le_of_ble_eq_true rfl)) dX4_bestSpot_41 ⟨Nat.le_of_ble_eq_true rfl, Nat.le_of_ble_eq_true rfl⟩) ?_
      refine lv_istore_n (lv' := [(2, .int (f_X4_best msc mcl mwt mkn mli p0)), (0, .ref (b 0)), (1, .int p0)]) hx hb dX4_bestSpot_44 rfl hl (by decide) rfl (fun ls hl => ?_)
      refine lv_iload_n hx hb dX4_bestSpot_45 rfl (lv_at hl 0 rfl) ?_
      refine lv_iconst (v := (-1)) hx hb dX4_bestSpot_46 (by decide) ?_
      refine lv_icmp_ne (tgt := 54) hx hb dX4_bestSpot_47 (by decide) (fun c_47 => ?_) (fun c_47 => ?_)
      · refine lv_iload_n hx hb dX4_bestSpot_54 rfl (lv_at hl 0 rfl) ?_
        refine k_p (va_runS (As := [.int (f_X4_best msc mcl mwt mkn mli p0)]) (rest := []) ⟨hx, hb, hml, hown, hts⟩ (c_X4_told l G H.size (f_X4_best msc mcl mwt mkn mli p0)) (va_cwS 1 hts gX4_bestSpot_X4_told rfl rfl rfl ⟨by decide +kernel, by decide +kernel, by decide +kernel⟩ ⟨Nat.le_of_ble_eq_true rfl, Nat.le_of_ble_eq_true rfl⟩) ⟨GP.blind, GP.go (wc := []) hE hZ hP hD hS hA [] rfl (by decide) [.int (f_X4_best msc mcl mwt mkn mli p0)]⟩ rfl rfl hl.1 rfl (lv_room (Nat.le_of_ble_eq_true rfl)) dX4_bestSpot_55 ⟨Nat.le_of_ble_eq_true rfl, Nat.le_of_ble_eq_true rfl⟩) ?_
        have hq : f_X4_bestSpot mbn msc mcl mwt mkn mli p0 = (f_X4_told (f_X4_best msc mcl mwt mkn mli p0), 0) := (by rw [f_X4_bestSpot, if_neg c_6, if_pos c_19, if_neg c_47])
        exact W.iret (v := f_X4_told (f_X4_best msc mcl mwt mkn mli p0)) hx hb hr (fun t ht _ => ⟨by rw [hq], by rw [hq, ht]; exact hP, hS.F ht⟩) hS.2.2 dX4_bestSpot_58
      · refine lv_iconst (v := (-1)) hx hb dX4_bestSpot_50 (by decide) ?_
        refine lv_goto (tgt := 58) hx hb dX4_bestSpot_51 (by decide) ?_
        have hq : f_X4_bestSpot mbn msc mcl mwt mkn mli p0 = ((-1), 0) := (by rw [f_X4_bestSpot, if_neg c_6, if_pos c_19, if_pos c_47])
        exact W.iret (v := (-1)) hx hb hr (fun t ht _ => ⟨by rw [hq], by rw [hq, ht]; exact hP, hS.F ht⟩) hS.2.2 dX4_bestSpot_58
    · refine lv_iconst (v := 2) hx hb dX4_bestSpot_22 (by decide) ?_
      refine lv_goto (tgt := 27) hx hb dX4_bestSpot_23 (by decide) ?_
      refine va_put (D := G.1) (ci := 4) (v := .int 2) (ty := .int) (C := RX4) (T := TX4) (N := 19) hx hb hts iw_X4_bestSpot_RX4 tyX4 tyX4_ok nmX4 hown hE.1 hP hD hS 0 rfl rfl 0 (by decide) (hts (.fieldLink RX4 41 "RackrailModel" "thrown" "I") (by decide +kernel)) (fun _ h9 => h9) rfl (by decide +kernel) rfl rfl (Nat.le_of_ble_eq_true rfl) dX4_bestSpot_27 (fun H locs hP hD hS => ?_)
      have hP : va_P G.1 vwCl [wcM b 2 mck mbn mai mtm mst msm mon mlt, wcI G (b 1) 6 msc, wcI G (b 2) 20 mcl, wcI G (b 3) 20 mwt, wcI G (b 4) 20 mkn, wcI G (b 5) 36 mli] H := hP
      have hD : va_D _ [wcM b 2 mck mbn mai mtm mst msm mon mlt, wcI G (b 1) 6 msc, wcI G (b 2) 20 mcl, wcI G (b 3) 20 mwt, wcI G (b 4) 20 mkn, wcI G (b 5) 36 mli] := hD
      refine lv_aload_n hx hb dX4_bestSpot_30 rfl (lv_at hl 0 rfl) ?_
      refine va_get (D := G.1) (ci := 4) (v := .int 2) (C := RX4) (T := TX4) (N := 19) hx hb hts iw_X4_bestSpot_RX4 hown hE.1 hP 0 rfl rfl 0 (by decide) (hts (.fieldLink RX4 41 "RackrailModel" "thrown" "I") (by decide +kernel)) (fun _ h9 => h9) rfl dX4_bestSpot_31 ?_
      refine lv_if_le (tgt := 39) hx hb dX4_bestSpot_34 (by decide) (fun c_34 => absurd c_34 (by decide)) (fun c_34 => ?_)
      refine lv_iconst (v := 0) hx hb dX4_bestSpot_37 (by decide) ?_
      have hq : f_X4_bestSpot mbn msc mcl mwt mkn mli p0 = (0, 2) := (by rw [f_X4_bestSpot, if_neg c_6, if_neg c_19])
      exact W.iret (v := 0) hx hb hr (fun t ht _ => ⟨by rw [hq], by rw [hq, ht]; exact hP, hS.F ht⟩) hS.2.2 dX4_bestSpot_38
  · refine lv_iconst (v := 1) hx hb dX4_bestSpot_9 (by decide) ?_
    refine lv_goto (tgt := 27) hx hb dX4_bestSpot_10 (by decide) ?_
    refine va_put (D := G.1) (ci := 4) (v := .int 1) (ty := .int) (C := RX4) (T := TX4) (N := 19) hx hb hts iw_X4_bestSpot_RX4 tyX4 tyX4_ok nmX4 hown hE.1 hP hD hS 0 rfl rfl 0 (by decide) (hts (.fieldLink RX4 41 "RackrailModel" "thrown" "I") (by decide +kernel)) (fun _ h9 => h9) rfl (by decide +kernel) rfl rfl (Nat.le_of_ble_eq_true rfl) dX4_bestSpot_27 (fun H locs hP hD hS => ?_)
    have hP : va_P G.1 vwCl [wcM b 1 mck mbn mai mtm mst msm mon mlt, wcI G (b 1) 6 msc, wcI G (b 2) 20 mcl, wcI G (b 3) 20 mwt, wcI G (b 4) 20 mkn, wcI G (b 5) 36 mli] H := hP
    have hD : va_D _ [wcM b 1 mck mbn mai mtm mst msm mon mlt, wcI G (b 1) 6 msc, wcI G (b 2) 20 mcl, wcI G (b 3) 20 mwt, wcI G (b 4) 20 mkn, wcI G (b 5) 36 mli] := hD
    refine lv_aload_n hx hb dX4_bestSpot_30 rfl (lv_at hl 0 rfl) ?_
    refine va_get (D := G.1) (ci := 4) (v := .int 1) (C := RX4) (T := TX4) (N := 19) hx hb hts iw_X4_bestSpot_RX4 hown hE.1 hP 0 rfl rfl 0 (by decide) (hts (.fieldLink RX4 41 "RackrailModel" "thrown" "I") (by decide +kernel)) (fun _ h9 => h9) rfl dX4_bestSpot_31 ?_
    refine lv_if_le (tgt := 39) hx hb dX4_bestSpot_34 (by decide) (fun c_34 => absurd c_34 (by decide)) (fun c_34 => ?_)
    refine lv_iconst (v := 0) hx hb dX4_bestSpot_37 (by decide) ?_
    have hq : f_X4_bestSpot mbn msc mcl mwt mkn mli p0 = (0, 1) := (by rw [f_X4_bestSpot, if_pos c_6])
    exact W.iret (v := 0) hx hb hr (fun t ht _ => ⟨by rw [hq], by rw [hq, ht]; exact hP, hS.F ht⟩) hS.2.2 dX4_bestSpot_38

/-! X4_lay -/
def f_X4_lay (mbn : Int32) (msc : Nat → Int32) (mcl : Nat → Int32) (mwt : Nat → Int32) (mkn : Nat → Int32) (mli : Nat → Int32) (p0 : Int32) : Int32 × Int32 × (Nat → Int32) :=
  if (f_X4_isBox mbn p0) = 0 then (0, 1, mli)
    else if (f_X4_spot mli p0) = (-1) then (if (f_X4_best msc mcl mwt mkn mli p0) = (-1) then (0, 2, mli)
      else (f_X4_told (f_X4_best msc mcl mwt mkn mli p0), 0, upd mli (f_X4_best msc mcl mwt mkn mli p0).toNatClampNeg (p0 + 1)))
    else (0, 2, mli)
theorem iw_X4_lay_RX4 : ∀ w ∈ u_ws RX4 TX4 19, w ∈ wsX4_lay := by decide +kernel
set_option maxHeartbeats 4000000 in
set_option maxRecDepth 100000 in
theorem c_X4_lay (l : Launch) (G : GT) (b : Nat → Nat) (sz : Nat) (mth : Int32) (mck : Int32) (mbn : Int32) (mai : Int32) (mtm : Int32) (mst : Int32) (msm : Int32) (mon : Int32) (mlt : Int32) (msc : Nat → Int32) (mcl : Nat → Int32) (mwt : Nat → Int32) (mkn : Nat → Int32) (mli : Nat → Int32) (p0 : Int32) (hmn : okN 20 mbn) (hli : ∀ k : Nat, k < 36 → okN 20 (mli k)) : Met l yX4_lay wsX4_lay ({ frames := 2, cells := 0, slots := 0, locals := 50 }) (GP G [.ref (b 0), .int p0] [wcM b mth mck mbn mai mtm mst msm mon mlt, wcI G (b 1) 6 msc, wcI G (b 2) 20 mcl, wcI G (b 3) 20 mwt, wcI G (b 4) 20 mkn, wcI G (b 5) 36 mli] sz) (MQo G (.returned (some (.int ((f_X4_lay mbn msc mcl mwt mkn mli p0).1)))) [wcM b ((f_X4_lay mbn msc mcl mwt mkn mli p0).2.1) mck mbn mai mtm mst msm mon mlt, wcI G (b 1) 6 msc, wcI G (b 2) 20 mcl, wcI G (b 3) 20 mwt, wcI G (b 4) 20 mkn, wcI G (b 5) 36 ((f_X4_lay mbn msc mcl mwt mkn mli p0).2.2)] (va_A [wcM b mth mck mbn mai mtm mst msm mon mlt, wcI G (b 1) 6 msc, wcI G (b 2) 20 mcl, wcI G (b 3) 20 mwt, wcI G (b 4) 20 mkn, wcI G (b 5) 36 mli] sz)) 0 0 (va_A [wcM b mth mck mbn mai mtm mst msm mon mlt, wcI G (b 1) 6 msc, wcI G (b 2) 20 mcl, wcI G (b 3) 20 mwt, wcI G (b 4) 20 mkn, wcI G (b 5) 36 mli] sz) := by
  refine bodyM (cc := cX4_lay) (maxL := 3) (ret := (some .int)) (by decide) rfl (Nat.le_of_ble_eq_true rfl) ?_
  intro p e s m below meth c ls C
  obtain ⟨hx, hb, hr, hts, hown, hlocks, hml, hsz, hP, hE, hD, hZ, hA, hS, hl⟩ := C
  subst hsz
  have hl : lv_has ls 3 [(0, .ref (b 0)), (1, .int p0)] := hl
  refine lv_aload_n hx hb dX4_lay_0 rfl (lv_at hl 0 rfl) ?_
  refine lv_aload_n hx hb dX4_lay_1 rfl (lv_at hl 0 rfl) ?_
  refine lv_iload_n hx hb dX4_lay_2 rfl (lv_at hl 1 rfl) ?_
  refine k_p (va_runV (As := [.int p0]) (rest := [.ref (b 0)]) ⟨hx, hb, hml, hown, hts⟩ (c_X4_isBox l G b s.heap.size mth mck mbn mai mtm mst msm mon mlt p0) (cwV 1 hts gX4_lay_X4_isBox rfl rfl rfl ⟨rfl, by decide +kernel, by decide +kernel, by decide +kernel⟩ ⟨Nat.le_of_ble_eq_true rfl, Nat.le_of_ble_eq_true rfl⟩) ⟨GP.blind, va_recv hE.1 hP (ci := 4) (q0 := 0) rfl rfl, GP.go (wc := [wcM b mth mck mbn mai mtm mst msm mon mlt]) hE hZ hP hD hS hA [0] rfl (by decide) [.ref (b 0), .int p0]⟩ rfl rfl hl.1 rfl (lv_room (Nat.le_of_ble_eq_true rfl)) dX4_lay_3 ⟨Nat.le_of_ble_eq_true rfl, Nat.le_of_ble_eq_true rfl⟩) ?_
  refine lv_if_ne (tgt := 13) hx hb dX4_lay_6 (by decide) (fun c_6 => ?_) (fun c_6 => ?_)
  · refine lv_aload_n hx hb dX4_lay_13 rfl (lv_at hl 0 rfl) ?_
    refine lv_iload_n hx hb dX4_lay_14 rfl (lv_at hl 1 rfl) ?_
    refine k_p (va_runV (As := [.int p0]) (rest := [.ref (b 0)]) ⟨hx, hb, hml, hown, hts⟩ (c_X4_spot l G b s.heap.size mth mck mbn mai mtm mst msm mon mlt mli p0) (cwV 1 hts gX4_lay_X4_spot rfl rfl rfl ⟨rfl, by decide +kernel, by decide +kernel, by decide +kernel⟩ ⟨Nat.le_of_ble_eq_true rfl, Nat.le_of_ble_eq_true rfl⟩) ⟨GP.blind, va_recv hE.1 hP (ci := 4) (q0 := 0) rfl rfl, GP.go (wc := [wcM b mth mck mbn mai mtm mst msm mon mlt, wcI G (b 5) 36 mli]) hE hZ hP hD hS hA [0, 5] rfl (by decide) [.ref (b 0), .int p0]⟩ rfl rfl hl.1 rfl (lv_room (Nat.le_of_ble_eq_true rfl)) dX4_lay_15 ⟨Nat.le_of_ble_eq_true rfl, Nat.le_of_ble_eq_true rfl⟩) ?_
    refine lv_iconst (v := (-1)) hx hb dX4_lay_18 (by decide) ?_
    refine lv_icmp_ne (tgt := 31) hx hb dX4_lay_19 (by decide) (fun c_19 => ?_) (fun c_19 => ?_)
    · refine lv_iconst (v := 2) hx hb dX4_lay_31 (by decide) ?_
      refine lv_goto (tgt := 36) hx hb dX4_lay_32 (by decide) ?_
      refine va_put (D := G.1) (ci := 4) (v := .int 2) (ty := .int) (C := RX4) (T := TX4) (N := 19) hx hb hts iw_X4_lay_RX4 tyX4 tyX4_ok nmX4 hown hE.1 hP hD hS 0 rfl rfl 0 (by decide) (hts (.fieldLink RX4 41 "RackrailModel" "thrown" "I") (by decide +kernel)) (fun _ h9 => h9) rfl (by decide +kernel) rfl rfl (Nat.le_of_ble_eq_true rfl) dX4_lay_36 (fun H locs hP hD hS => ?_)
      have hP : va_P G.1 vwCl [wcM b 2 mck mbn mai mtm mst msm mon mlt, wcI G (b 1) 6 msc, wcI G (b 2) 20 mcl, wcI G (b 3) 20 mwt, wcI G (b 4) 20 mkn, wcI G (b 5) 36 mli] H := hP
      have hD : va_D _ [wcM b 2 mck mbn mai mtm mst msm mon mlt, wcI G (b 1) 6 msc, wcI G (b 2) 20 mcl, wcI G (b 3) 20 mwt, wcI G (b 4) 20 mkn, wcI G (b 5) 36 mli] := hD
      refine lv_aload_n hx hb dX4_lay_39 rfl (lv_at hl 0 rfl) ?_
      refine va_get (D := G.1) (ci := 4) (v := .int 2) (C := RX4) (T := TX4) (N := 19) hx hb hts iw_X4_lay_RX4 hown hE.1 hP 0 rfl rfl 0 (by decide) (hts (.fieldLink RX4 41 "RackrailModel" "thrown" "I") (by decide +kernel)) (fun _ h9 => h9) rfl dX4_lay_40 ?_
      refine lv_if_le (tgt := 48) hx hb dX4_lay_43 (by decide) (fun c_43 => absurd c_43 (by decide)) (fun c_43 => ?_)
      refine lv_iconst (v := 0) hx hb dX4_lay_46 (by decide) ?_
      have hq : f_X4_lay mbn msc mcl mwt mkn mli p0 = (0, 2, mli) := (by rw [f_X4_lay, if_neg c_6, if_neg c_19])
      exact W.iret (v := 0) hx hb hr (fun t ht _ => ⟨by rw [hq], by rw [hq, ht]; exact hP, hS.F ht⟩) hS.2.2 dX4_lay_47
    · refine lv_aload_n hx hb dX4_lay_22 rfl (lv_at hl 0 rfl) ?_
      refine lv_iload_n hx hb dX4_lay_23 rfl (lv_at hl 1 rfl) ?_
      refine k_p (va_runV (As := [.int p0]) (rest := [.ref (b 0)]) ⟨hx, hb, hml, hown, hts⟩ (c_X4_best l G b s.heap.size mth mck mbn mai mtm mst msm mon mlt msc mcl mwt mkn mli p0 hli (in_boxM hmn c_6)) (cwV 1 hts gX4_lay_X4_best rfl rfl rfl ⟨rfl, by decide +kernel, by decide +kernel, by decide +kernel⟩ ⟨Nat.le_of_ble_eq_true rfl, Nat.le_of_ble_eq_true rfl⟩) ⟨GP.blind, va_recv hE.1 hP (ci := 4) (q0 := 0) rfl rfl, GP.go (wc := [wcM b mth mck mbn mai mtm mst msm mon mlt, wcI G (b 1) 6 msc, wcI G (b 2) 20 mcl, wcI G (b 3) 20 mwt, wcI G (b 4) 20 mkn, wcI G (b 5) 36 mli]) hE hZ hP hD hS hA [0, 1, 2, 3, 4, 5] rfl (by decide) [.ref (b 0), .int p0]⟩ rfl rfl hl.1 rfl (lv_room (Nat.le_of_ble_eq_true rfl)) dX4_lay_24 ⟨Nat.le_of_ble_eq_true rfl, Nat.le_of_ble_eq_true rfl⟩) ?_
      refine lv_iconst (v := (-1)) hx hb dX4_lay_27 (by decide) ?_
      refine lv_icmp_ne (tgt := 35) hx hb dX4_lay_28 (by decide) (fun c_28 => ?_) (fun c_28 => ?_)
      · refine lv_iconst (v := 0) hx hb dX4_lay_35 (by decide) ?_
        refine va_put (D := G.1) (ci := 4) (v := .int 0) (ty := .int) (C := RX4) (T := TX4) (N := 19) hx hb hts iw_X4_lay_RX4 tyX4 tyX4_ok nmX4 hown hE.1 hP hD hS 0 rfl rfl 0 (by decide) (hts (.fieldLink RX4 41 "RackrailModel" "thrown" "I") (by decide +kernel)) (fun _ h9 => h9) rfl (by decide +kernel) rfl rfl (Nat.le_of_ble_eq_true rfl) dX4_lay_36 (fun H locs hP hD hS => ?_)
        have hP : va_P G.1 vwCl [wcM b 0 mck mbn mai mtm mst msm mon mlt, wcI G (b 1) 6 msc, wcI G (b 2) 20 mcl, wcI G (b 3) 20 mwt, wcI G (b 4) 20 mkn, wcI G (b 5) 36 mli] H := hP
        have hD : va_D _ [wcM b 0 mck mbn mai mtm mst msm mon mlt, wcI G (b 1) 6 msc, wcI G (b 2) 20 mcl, wcI G (b 3) 20 mwt, wcI G (b 4) 20 mkn, wcI G (b 5) 36 mli] := hD
        refine lv_aload_n hx hb dX4_lay_39 rfl (lv_at hl 0 rfl) ?_
        refine va_get (D := G.1) (ci := 4) (v := .int 0) (C := RX4) (T := TX4) (N := 19) hx hb hts iw_X4_lay_RX4 hown hE.1 hP 0 rfl rfl 0 (by decide) (hts (.fieldLink RX4 41 "RackrailModel" "thrown" "I") (by decide +kernel)) (fun _ h9 => h9) rfl dX4_lay_40 ?_
        refine lv_if_le (tgt := 48) hx hb dX4_lay_43 (by decide) (fun c_43 => ?_) (fun c_43 => absurd (by decide) c_43)
        refine lv_aload_n hx hb dX4_lay_48 rfl (lv_at hl 0 rfl) ?_
        refine lv_iload_n hx hb dX4_lay_49 rfl (lv_at hl 1 rfl) ?_
        refine k_p (va_runV (As := [.int p0]) (rest := []) ⟨hx, hb, hml, hown, hts⟩ (c_X4_best l G b H.size 0 mck mbn mai mtm mst msm mon mlt msc mcl mwt mkn mli p0 hli (in_boxM hmn c_6)) (cwV 1 hts gX4_lay_X4_best rfl rfl rfl ⟨rfl, by decide +kernel, by decide +kernel, by decide +kernel⟩ ⟨Nat.le_of_ble_eq_true rfl, Nat.le_of_ble_eq_true rfl⟩) ⟨GP.blind, va_recv hE.1 hP (ci := 4) (q0 := 0) rfl rfl, GP.go (wc := [wcM b 0 mck mbn mai mtm mst msm mon mlt, wcI G (b 1) 6 msc, wcI G (b 2) 20 mcl, wcI G (b 3) 20 mwt, wcI G (b 4) 20 mkn, wcI G (b 5) 36 mli]) hE hZ hP hD hS hA [0, 1, 2, 3, 4, 5] rfl (by decide) [.ref (b 0), .int p0]⟩ rfl rfl hl.1 rfl (lv_room (Nat.le_of_ble_eq_true rfl)) dX4_lay_50 ⟨Nat.le_of_ble_eq_true rfl, Nat.le_of_ble_eq_true rfl⟩) ?_
        refine lv_istore_n (lv' := [(2, .int (f_X4_best msc mcl mwt mkn mli p0)), (0, .ref (b 0)), (1, .int p0)]) hx hb dX4_lay_53 rfl hl (by decide) rfl (fun ls hl => ?_)
        refine lv_aload_n hx hb dX4_lay_54 rfl (lv_at hl 1 rfl) ?_
        refine va_get (D := G.1) (ci := 4) (v := .ref (b 5)) (C := RX4) (T := TX4) (N := 19) hx hb hts iw_X4_lay_RX4 hown hE.1 hP 0 rfl rfl 7 (by decide) (hts (.fieldLink RX4 22 "RackrailModel" "lies" "[I") (by decide +kernel)) (fun _ h9 => h9) rfl dX4_lay_55 ?_
        refine lv_iload_n hx hb dX4_lay_58 rfl (lv_at hl 0 rfl) ?_
        refine lv_iload_n hx hb dX4_lay_59 rfl (lv_at hl 2 rfl) ?_
        refine lv_iconst (v := 1) hx hb dX4_lay_60 (by decide) ?_
        refine lv_iadd hx hb dX4_lay_61 ?_
        refine va_iast hx hb hE.1 hP hD hS 5 0 rfl rfl (in_best c_28) dX4_lay_62 (fun H locs hP hD hS => ?_)
        have hP : va_P G.1 vwCl [wcM b 0 mck mbn mai mtm mst msm mon mlt, wcI G (b 1) 6 msc, wcI G (b 2) 20 mcl, wcI G (b 3) 20 mwt, wcI G (b 4) 20 mkn, wcI G (b 5) 36 (upd mli (f_X4_best msc mcl mwt mkn mli p0).toNatClampNeg (p0 + 1))] H := hP
        have hD : va_D _ [wcM b 0 mck mbn mai mtm mst msm mon mlt, wcI G (b 1) 6 msc, wcI G (b 2) 20 mcl, wcI G (b 3) 20 mwt, wcI G (b 4) 20 mkn, wcI G (b 5) 36 (upd mli (f_X4_best msc mcl mwt mkn mli p0).toNatClampNeg (p0 + 1))] := hD
        refine lv_iload_n hx hb dX4_lay_63 rfl (lv_at hl 0 rfl) ?_
        refine k_p (va_runS (As := [.int (f_X4_best msc mcl mwt mkn mli p0)]) (rest := []) ⟨hx, hb, hml, hown, hts⟩ (c_X4_told l G H.size (f_X4_best msc mcl mwt mkn mli p0)) (va_cwS 1 hts gX4_lay_X4_told rfl rfl rfl ⟨by decide +kernel, by decide +kernel, by decide +kernel⟩ ⟨Nat.le_of_ble_eq_true rfl, Nat.le_of_ble_eq_true rfl⟩) ⟨GP.blind, GP.go (wc := []) hE hZ hP hD hS hA [] rfl (by decide) [.int (f_X4_best msc mcl mwt mkn mli p0)]⟩ rfl rfl hl.1 rfl (lv_room (Nat.le_of_ble_eq_true rfl)) dX4_lay_64 ⟨Nat.le_of_ble_eq_true rfl, Nat.le_of_ble_eq_true rfl⟩) ?_
        have hq : f_X4_lay mbn msc mcl mwt mkn mli p0 = (f_X4_told (f_X4_best msc mcl mwt mkn mli p0), 0, upd mli (f_X4_best msc mcl mwt mkn mli p0).toNatClampNeg (p0 + 1)) := (by rw [f_X4_lay, if_neg c_6, if_pos c_19, if_neg c_28])
        exact W.iret (v := f_X4_told (f_X4_best msc mcl mwt mkn mli p0)) hx hb hr (fun t ht _ => ⟨by rw [hq], by rw [hq, ht]; exact hP, hS.F ht⟩) hS.2.2 dX4_lay_67
      · refine lv_iconst (v := 2) hx hb dX4_lay_31 (by decide) ?_
        refine lv_goto (tgt := 36) hx hb dX4_lay_32 (by decide) ?_
        refine va_put (D := G.1) (ci := 4) (v := .int 2) (ty := .int) (C := RX4) (T := TX4) (N := 19) hx hb hts iw_X4_lay_RX4 tyX4 tyX4_ok nmX4 hown hE.1 hP hD hS 0 rfl rfl 0 (by decide) (hts (.fieldLink RX4 41 "RackrailModel" "thrown" "I") (by decide +kernel)) (fun _ h9 => h9) rfl (by decide +kernel) rfl rfl (Nat.le_of_ble_eq_true rfl) dX4_lay_36 (fun H locs hP hD hS => ?_)
        have hP : va_P G.1 vwCl [wcM b 2 mck mbn mai mtm mst msm mon mlt, wcI G (b 1) 6 msc, wcI G (b 2) 20 mcl, wcI G (b 3) 20 mwt, wcI G (b 4) 20 mkn, wcI G (b 5) 36 mli] H := hP
        have hD : va_D _ [wcM b 2 mck mbn mai mtm mst msm mon mlt, wcI G (b 1) 6 msc, wcI G (b 2) 20 mcl, wcI G (b 3) 20 mwt, wcI G (b 4) 20 mkn, wcI G (b 5) 36 mli] := hD
        refine lv_aload_n hx hb dX4_lay_39 rfl (lv_at hl 0 rfl) ?_
        refine va_get (D := G.1) (ci := 4) (v := .int 2) (C := RX4) (T := TX4) (N := 19) hx hb hts iw_X4_lay_RX4 hown hE.1 hP 0 rfl rfl 0 (by decide) (hts (.fieldLink RX4 41 "RackrailModel" "thrown" "I") (by decide +kernel)) (fun _ h9 => h9) rfl dX4_lay_40 ?_
        refine lv_if_le (tgt := 48) hx hb dX4_lay_43 (by decide) (fun c_43 => absurd c_43 (by decide)) (fun c_43 => ?_)
        refine lv_iconst (v := 0) hx hb dX4_lay_46 (by decide) ?_
        have hq : f_X4_lay mbn msc mcl mwt mkn mli p0 = (0, 2, mli) := (by rw [f_X4_lay, if_neg c_6, if_pos c_19, if_pos c_28])
        exact W.iret (v := 0) hx hb hr (fun t ht _ => ⟨by rw [hq], by rw [hq, ht]; exact hP, hS.F ht⟩) hS.2.2 dX4_lay_47
  · refine lv_iconst (v := 1) hx hb dX4_lay_9 (by decide) ?_
    refine lv_goto (tgt := 36) hx hb dX4_lay_10 (by decide) ?_
    refine va_put (D := G.1) (ci := 4) (v := .int 1) (ty := .int) (C := RX4) (T := TX4) (N := 19) hx hb hts iw_X4_lay_RX4 tyX4 tyX4_ok nmX4 hown hE.1 hP hD hS 0 rfl rfl 0 (by decide) (hts (.fieldLink RX4 41 "RackrailModel" "thrown" "I") (by decide +kernel)) (fun _ h9 => h9) rfl (by decide +kernel) rfl rfl (Nat.le_of_ble_eq_true rfl) dX4_lay_36 (fun H locs hP hD hS => ?_)
    have hP : va_P G.1 vwCl [wcM b 1 mck mbn mai mtm mst msm mon mlt, wcI G (b 1) 6 msc, wcI G (b 2) 20 mcl, wcI G (b 3) 20 mwt, wcI G (b 4) 20 mkn, wcI G (b 5) 36 mli] H := hP
    have hD : va_D _ [wcM b 1 mck mbn mai mtm mst msm mon mlt, wcI G (b 1) 6 msc, wcI G (b 2) 20 mcl, wcI G (b 3) 20 mwt, wcI G (b 4) 20 mkn, wcI G (b 5) 36 mli] := hD
    refine lv_aload_n hx hb dX4_lay_39 rfl (lv_at hl 0 rfl) ?_
    refine va_get (D := G.1) (ci := 4) (v := .int 1) (C := RX4) (T := TX4) (N := 19) hx hb hts iw_X4_lay_RX4 hown hE.1 hP 0 rfl rfl 0 (by decide) (hts (.fieldLink RX4 41 "RackrailModel" "thrown" "I") (by decide +kernel)) (fun _ h9 => h9) rfl dX4_lay_40 ?_
    refine lv_if_le (tgt := 48) hx hb dX4_lay_43 (by decide) (fun c_43 => absurd c_43 (by decide)) (fun c_43 => ?_)
    refine lv_iconst (v := 0) hx hb dX4_lay_46 (by decide) ?_
    have hq : f_X4_lay mbn msc mcl mwt mkn mli p0 = (0, 1, mli) := (by rw [f_X4_lay, if_pos c_6])
    exact W.iret (v := 0) hx hb hr (fun t ht _ => ⟨by rw [hq], by rw [hq, ht]; exact hP, hS.F ht⟩) hS.2.2 dX4_lay_47

/-! X4_spotOf -/
def f_X4_spotOf (mbn : Int32) (mli : Nat → Int32) (p0 : Int32) : Int32 × Int32 :=
  if (f_X4_isBox mbn p0) = 0 then (0, 1)
    else if (f_X4_spot mli p0) = (-1) then ((-1), 0)
    else (f_X4_told (f_X4_spot mli p0), 0)
theorem iw_X4_spotOf_RX4 : ∀ w ∈ u_ws RX4 TX4 19, w ∈ wsX4_spotOf := by decide +kernel
set_option maxHeartbeats 4000000 in
set_option maxRecDepth 100000 in
theorem c_X4_spotOf (l : Launch) (G : GT) (b : Nat → Nat) (sz : Nat) (mth : Int32) (mck : Int32) (mbn : Int32) (mai : Int32) (mtm : Int32) (mst : Int32) (msm : Int32) (mon : Int32) (mlt : Int32) (mli : Nat → Int32) (p0 : Int32) : Met l yX4_spotOf wsX4_spotOf ({ frames := 2, cells := 0, slots := 0, locals := 43 }) (GP G [.ref (b 0), .int p0] [wcM b mth mck mbn mai mtm mst msm mon mlt, wcI G (b 5) 36 mli] sz) (MQo G (.returned (some (.int ((f_X4_spotOf mbn mli p0).1)))) [wcM b ((f_X4_spotOf mbn mli p0).2) mck mbn mai mtm mst msm mon mlt, wcI G (b 5) 36 mli] (va_A [wcM b mth mck mbn mai mtm mst msm mon mlt, wcI G (b 5) 36 mli] sz)) 0 0 (va_A [wcM b mth mck mbn mai mtm mst msm mon mlt, wcI G (b 5) 36 mli] sz) := by
  refine bodyM (cc := cX4_spotOf) (maxL := 2) (ret := (some .int)) (by decide) rfl (Nat.le_of_ble_eq_true rfl) ?_
  intro p e s m below meth c ls C
  obtain ⟨hx, hb, hr, hts, hown, hlocks, hml, hsz, hP, hE, hD, hZ, hA, hS, hl⟩ := C
  subst hsz
  have hl : lv_has ls 2 [(0, .ref (b 0)), (1, .int p0)] := hl
  refine lv_aload_n hx hb dX4_spotOf_0 rfl (lv_at hl 0 rfl) ?_
  refine lv_aload_n hx hb dX4_spotOf_1 rfl (lv_at hl 0 rfl) ?_
  refine lv_iload_n hx hb dX4_spotOf_2 rfl (lv_at hl 1 rfl) ?_
  refine k_p (va_runV (As := [.int p0]) (rest := [.ref (b 0)]) ⟨hx, hb, hml, hown, hts⟩ (c_X4_isBox l G b s.heap.size mth mck mbn mai mtm mst msm mon mlt p0) (cwV 1 hts gX4_spotOf_X4_isBox rfl rfl rfl ⟨rfl, by decide +kernel, by decide +kernel, by decide +kernel⟩ ⟨Nat.le_of_ble_eq_true rfl, Nat.le_of_ble_eq_true rfl⟩) ⟨GP.blind, va_recv hE.1 hP (ci := 4) (q0 := 0) rfl rfl, GP.go (wc := [wcM b mth mck mbn mai mtm mst msm mon mlt]) hE hZ hP hD hS hA [0] rfl (by decide) [.ref (b 0), .int p0]⟩ rfl rfl hl.1 rfl (lv_room (Nat.le_of_ble_eq_true rfl)) dX4_spotOf_3 ⟨Nat.le_of_ble_eq_true rfl, Nat.le_of_ble_eq_true rfl⟩) ?_
  refine lv_if_eq (tgt := 13) hx hb dX4_spotOf_6 (by decide) (fun c_6 => ?_) (fun c_6 => ?_)
  · refine lv_iconst (v := 1) hx hb dX4_spotOf_13 (by decide) ?_
    refine va_put (D := G.1) (ci := 4) (v := .int 1) (ty := .int) (C := RX4) (T := TX4) (N := 19) hx hb hts iw_X4_spotOf_RX4 tyX4 tyX4_ok nmX4 hown hE.1 hP hD hS 0 rfl rfl 0 (by decide) (hts (.fieldLink RX4 41 "RackrailModel" "thrown" "I") (by decide +kernel)) (fun _ h9 => h9) rfl (by decide +kernel) rfl rfl (Nat.le_of_ble_eq_true rfl) dX4_spotOf_14 (fun H locs hP hD hS => ?_)
    have hP : va_P G.1 vwCl [wcM b 1 mck mbn mai mtm mst msm mon mlt, wcI G (b 5) 36 mli] H := hP
    have hD : va_D _ [wcM b 1 mck mbn mai mtm mst msm mon mlt, wcI G (b 5) 36 mli] := hD
    refine lv_aload_n hx hb dX4_spotOf_17 rfl (lv_at hl 0 rfl) ?_
    refine va_get (D := G.1) (ci := 4) (v := .int 1) (C := RX4) (T := TX4) (N := 19) hx hb hts iw_X4_spotOf_RX4 hown hE.1 hP 0 rfl rfl 0 (by decide) (hts (.fieldLink RX4 41 "RackrailModel" "thrown" "I") (by decide +kernel)) (fun _ h9 => h9) rfl dX4_spotOf_18 ?_
    refine lv_if_le (tgt := 26) hx hb dX4_spotOf_21 (by decide) (fun c_21 => absurd c_21 (by decide)) (fun c_21 => ?_)
    refine lv_iconst (v := 0) hx hb dX4_spotOf_24 (by decide) ?_
    have hq : f_X4_spotOf mbn mli p0 = (0, 1) := (by rw [f_X4_spotOf, if_pos c_6])
    exact W.iret (v := 0) hx hb hr (fun t ht _ => ⟨by rw [hq], by rw [hq, ht]; exact hP, hS.F ht⟩) hS.2.2 dX4_spotOf_25
  · refine lv_iconst (v := 0) hx hb dX4_spotOf_9 (by decide) ?_
    refine lv_goto (tgt := 14) hx hb dX4_spotOf_10 (by decide) ?_
    refine va_put (D := G.1) (ci := 4) (v := .int 0) (ty := .int) (C := RX4) (T := TX4) (N := 19) hx hb hts iw_X4_spotOf_RX4 tyX4 tyX4_ok nmX4 hown hE.1 hP hD hS 0 rfl rfl 0 (by decide) (hts (.fieldLink RX4 41 "RackrailModel" "thrown" "I") (by decide +kernel)) (fun _ h9 => h9) rfl (by decide +kernel) rfl rfl (Nat.le_of_ble_eq_true rfl) dX4_spotOf_14 (fun H locs hP hD hS => ?_)
    have hP : va_P G.1 vwCl [wcM b 0 mck mbn mai mtm mst msm mon mlt, wcI G (b 5) 36 mli] H := hP
    have hD : va_D _ [wcM b 0 mck mbn mai mtm mst msm mon mlt, wcI G (b 5) 36 mli] := hD
    refine lv_aload_n hx hb dX4_spotOf_17 rfl (lv_at hl 0 rfl) ?_
    refine va_get (D := G.1) (ci := 4) (v := .int 0) (C := RX4) (T := TX4) (N := 19) hx hb hts iw_X4_spotOf_RX4 hown hE.1 hP 0 rfl rfl 0 (by decide) (hts (.fieldLink RX4 41 "RackrailModel" "thrown" "I") (by decide +kernel)) (fun _ h9 => h9) rfl dX4_spotOf_18 ?_
    refine lv_if_le (tgt := 26) hx hb dX4_spotOf_21 (by decide) (fun c_21 => ?_) (fun c_21 => absurd (by decide) c_21)
    refine lv_aload_n hx hb dX4_spotOf_26 rfl (lv_at hl 0 rfl) ?_
    refine lv_iload_n hx hb dX4_spotOf_27 rfl (lv_at hl 1 rfl) ?_
    refine k_p (va_runV (As := [.int p0]) (rest := []) ⟨hx, hb, hml, hown, hts⟩ (c_X4_spot l G b H.size 0 mck mbn mai mtm mst msm mon mlt mli p0) (cwV 1 hts gX4_spotOf_X4_spot rfl rfl rfl ⟨rfl, by decide +kernel, by decide +kernel, by decide +kernel⟩ ⟨Nat.le_of_ble_eq_true rfl, Nat.le_of_ble_eq_true rfl⟩) ⟨GP.blind, va_recv hE.1 hP (ci := 4) (q0 := 0) rfl rfl, GP.go (wc := [wcM b 0 mck mbn mai mtm mst msm mon mlt, wcI G (b 5) 36 mli]) hE hZ hP hD hS hA [0, 1] rfl (by decide) [.ref (b 0), .int p0]⟩ rfl rfl hl.1 rfl (lv_room (Nat.le_of_ble_eq_true rfl)) dX4_spotOf_28 ⟨Nat.le_of_ble_eq_true rfl, Nat.le_of_ble_eq_true rfl⟩) ?_
    refine lv_iconst (v := (-1)) hx hb dX4_spotOf_31 (by decide) ?_
    refine lv_icmp_ne (tgt := 39) hx hb dX4_spotOf_32 (by decide) (fun c_32 => ?_) (fun c_32 => ?_)
    · refine lv_aload_n hx hb dX4_spotOf_39 rfl (lv_at hl 0 rfl) ?_
      refine lv_iload_n hx hb dX4_spotOf_40 rfl (lv_at hl 1 rfl) ?_
      refine k_p (va_runV (As := [.int p0]) (rest := []) ⟨hx, hb, hml, hown, hts⟩ (c_X4_spot l G b H.size 0 mck mbn mai mtm mst msm mon mlt mli p0) (cwV 1 hts gX4_spotOf_X4_spot rfl rfl rfl ⟨rfl, by decide +kernel, by decide +kernel, by decide +kernel⟩ ⟨Nat.le_of_ble_eq_true rfl, Nat.le_of_ble_eq_true rfl⟩) ⟨GP.blind, va_recv hE.1 hP (ci := 4) (q0 := 0) rfl rfl, GP.go (wc := [wcM b 0 mck mbn mai mtm mst msm mon mlt, wcI G (b 5) 36 mli]) hE hZ hP hD hS hA [0, 1] rfl (by decide) [.ref (b 0), .int p0]⟩ rfl rfl hl.1 rfl (lv_room (Nat.le_of_ble_eq_true rfl)) dX4_spotOf_41 ⟨Nat.le_of_ble_eq_true rfl, Nat.le_of_ble_eq_true rfl⟩) ?_
      refine k_p (va_runS (As := [.int (f_X4_spot mli p0)]) (rest := []) ⟨hx, hb, hml, hown, hts⟩ (c_X4_told l G H.size (f_X4_spot mli p0)) (va_cwS 1 hts gX4_spotOf_X4_told rfl rfl rfl ⟨by decide +kernel, by decide +kernel, by decide +kernel⟩ ⟨Nat.le_of_ble_eq_true rfl, Nat.le_of_ble_eq_true rfl⟩) ⟨GP.blind, GP.go (wc := []) hE hZ hP hD hS hA [] rfl (by decide) [.int (f_X4_spot mli p0)]⟩ rfl rfl hl.1 rfl (lv_room (Nat.le_of_ble_eq_true rfl)) dX4_spotOf_44 ⟨Nat.le_of_ble_eq_true rfl, Nat.le_of_ble_eq_true rfl⟩) ?_
      have hq : f_X4_spotOf mbn mli p0 = (f_X4_told (f_X4_spot mli p0), 0) := (by rw [f_X4_spotOf, if_neg c_6, if_neg c_32])
      exact W.iret (v := f_X4_told (f_X4_spot mli p0)) hx hb hr (fun t ht _ => ⟨by rw [hq], by rw [hq, ht]; exact hP, hS.F ht⟩) hS.2.2 dX4_spotOf_47
    · refine lv_iconst (v := (-1)) hx hb dX4_spotOf_35 (by decide) ?_
      refine lv_goto (tgt := 47) hx hb dX4_spotOf_36 (by decide) ?_
      have hq : f_X4_spotOf mbn mli p0 = ((-1), 0) := (by rw [f_X4_spotOf, if_neg c_6, if_pos c_32])
      exact W.iret (v := (-1)) hx hb hr (fun t ht _ => ⟨by rw [hq], by rw [hq, ht]; exact hP, hS.F ht⟩) hS.2.2 dX4_spotOf_47

/-! X4_boxAt -/
def f_X4_boxAt (mli : Nat → Int32) (p0 : Int32) : Int32 × Int32 :=
  if (f_X4_row p0) = (-1) then ((f_X4_fails 1).1, (f_X4_fails 1).2)
    else ((mli (f_X4_row p0).toNatClampNeg) - 1, 0)
theorem iw_X4_boxAt_RX4 : ∀ w ∈ u_ws RX4 TX4 19, w ∈ wsX4_boxAt := by decide +kernel
set_option maxHeartbeats 4000000 in
set_option maxRecDepth 100000 in
theorem c_X4_boxAt (l : Launch) (G : GT) (b : Nat → Nat) (sz : Nat) (mth : Int32) (mck : Int32) (mbn : Int32) (mai : Int32) (mtm : Int32) (mst : Int32) (msm : Int32) (mon : Int32) (mlt : Int32) (mli : Nat → Int32) (p0 : Int32) : Met l yX4_boxAt wsX4_boxAt ({ frames := 2, cells := 0, slots := 0, locals := 43 }) (GP G [.ref (b 0), .int p0] [wcM b mth mck mbn mai mtm mst msm mon mlt, wcI G (b 5) 36 mli] sz) (MQo G (.returned (some (.int ((f_X4_boxAt mli p0).1)))) [wcM b ((f_X4_boxAt mli p0).2) mck mbn mai mtm mst msm mon mlt, wcI G (b 5) 36 mli] (va_A [wcM b mth mck mbn mai mtm mst msm mon mlt, wcI G (b 5) 36 mli] sz)) 0 0 (va_A [wcM b mth mck mbn mai mtm mst msm mon mlt, wcI G (b 5) 36 mli] sz) := by
  refine bodyM (cc := cX4_boxAt) (maxL := 2) (ret := (some .int)) (by decide) rfl (Nat.le_of_ble_eq_true rfl) ?_
  intro p e s m below meth c ls C
  obtain ⟨hx, hb, hr, hts, hown, hlocks, hml, hsz, hP, hE, hD, hZ, hA, hS, hl⟩ := C
  subst hsz
  have hl : lv_has ls 2 [(0, .ref (b 0)), (1, .int p0)] := hl
  refine lv_aload_n hx hb dX4_boxAt_0 rfl (lv_at hl 0 rfl) ?_
  refine lv_iconst (v := 0) hx hb dX4_boxAt_1 (by decide) ?_
  refine va_put (D := G.1) (ci := 4) (v := .int 0) (ty := .int) (C := RX4) (T := TX4) (N := 19) hx hb hts iw_X4_boxAt_RX4 tyX4 tyX4_ok nmX4 hown hE.1 hP hD hS 0 rfl rfl 0 (by decide) (hts (.fieldLink RX4 41 "RackrailModel" "thrown" "I") (by decide +kernel)) (fun _ h9 => h9) rfl (by decide +kernel) rfl rfl (Nat.le_of_ble_eq_true rfl) dX4_boxAt_2 (fun H locs hP hD hS => ?_)
  have hP : va_P G.1 vwCl [wcM b 0 mck mbn mai mtm mst msm mon mlt, wcI G (b 5) 36 mli] H := hP
  have hD : va_D _ [wcM b 0 mck mbn mai mtm mst msm mon mlt, wcI G (b 5) 36 mli] := hD
  refine lv_iload_n hx hb dX4_boxAt_5 rfl (lv_at hl 1 rfl) ?_
  refine k_p (va_runS (As := [.int p0]) (rest := []) ⟨hx, hb, hml, hown, hts⟩ (c_X4_row l G H.size p0) (va_cwS 1 hts gX4_boxAt_X4_row rfl rfl rfl ⟨by decide +kernel, by decide +kernel, by decide +kernel⟩ ⟨Nat.le_of_ble_eq_true rfl, Nat.le_of_ble_eq_true rfl⟩) ⟨GP.blind, GP.go (wc := []) hE hZ hP hD hS hA [] rfl (by decide) [.int p0]⟩ rfl rfl hl.1 rfl (lv_room (Nat.le_of_ble_eq_true rfl)) dX4_boxAt_6 ⟨Nat.le_of_ble_eq_true rfl, Nat.le_of_ble_eq_true rfl⟩) ?_
  refine lv_iconst (v := (-1)) hx hb dX4_boxAt_9 (by decide) ?_
  refine lv_icmp_ne (tgt := 21) hx hb dX4_boxAt_10 (by decide) (fun c_10 => ?_) (fun c_10 => ?_)
  · refine lv_aload_n hx hb dX4_boxAt_21 rfl (lv_at hl 0 rfl) ?_
    refine va_get (D := G.1) (ci := 4) (v := .ref (b 5)) (C := RX4) (T := TX4) (N := 19) hx hb hts iw_X4_boxAt_RX4 hown hE.1 hP 0 rfl rfl 7 (by decide) (hts (.fieldLink RX4 22 "RackrailModel" "lies" "[I") (by decide +kernel)) (fun _ h9 => h9) rfl dX4_boxAt_22 ?_
    refine lv_iload_n hx hb dX4_boxAt_25 rfl (lv_at hl 1 rfl) ?_
    refine k_p (va_runS (As := [.int p0]) (rest := [.ref (b 5)]) ⟨hx, hb, hml, hown, hts⟩ (c_X4_row l G H.size p0) (va_cwS 1 hts gX4_boxAt_X4_row rfl rfl rfl ⟨by decide +kernel, by decide +kernel, by decide +kernel⟩ ⟨Nat.le_of_ble_eq_true rfl, Nat.le_of_ble_eq_true rfl⟩) ⟨GP.blind, GP.go (wc := []) hE hZ hP hD hS hA [] rfl (by decide) [.int p0]⟩ rfl rfl hl.1 rfl (lv_room (Nat.le_of_ble_eq_true rfl)) dX4_boxAt_26 ⟨Nat.le_of_ble_eq_true rfl, Nat.le_of_ble_eq_true rfl⟩) ?_
    refine va_iald hx hb hE.1 hP 1 0 rfl rfl (in_row c_10) dX4_boxAt_29 ?_
    refine lv_iconst (v := 1) hx hb dX4_boxAt_30 (by decide) ?_
    refine lv_isub hx hb dX4_boxAt_31 ?_
    have hq : f_X4_boxAt mli p0 = ((mli (f_X4_row p0).toNatClampNeg) - 1, 0) := (by rw [f_X4_boxAt, if_neg c_10])
    exact W.iret (v := (mli (f_X4_row p0).toNatClampNeg) - 1) hx hb hr (fun t ht _ => ⟨by rw [hq], by rw [hq, ht]; exact hP, hS.F ht⟩) hS.2.2 dX4_boxAt_32
  · refine lv_aload_n hx hb dX4_boxAt_13 rfl (lv_at hl 0 rfl) ?_
    refine lv_iconst (v := 1) hx hb dX4_boxAt_14 (by decide) ?_
    refine k_m (wc := [wcM b 0 mck mbn mai mtm mst msm mon mlt]) (w1 := [wcM b ((f_X4_fails 1).2) mck mbn mai mtm mst msm mon mlt]) (wn := [wcM b ((f_X4_fails 1).2) mck mbn mai mtm mst msm mon mlt, wcI G (b 5) 36 mli]) (va_runV (As := [.int 1]) (rest := []) ⟨hx, hb, hml, hown, hts⟩ (c_X4_fails l G b H.size 0 mck mbn mai mtm mst msm mon mlt 1) (cwV 1 hts gX4_boxAt_X4_fails rfl rfl rfl ⟨rfl, by decide +kernel, by decide +kernel, by decide +kernel⟩ ⟨Nat.le_of_ble_eq_true rfl, Nat.le_of_ble_eq_true rfl⟩) ⟨GP.blind, va_recv hE.1 hP (ci := 4) (q0 := 0) rfl rfl, GP.go (wc := [wcM b 0 mck mbn mai mtm mst msm mon mlt]) hE hZ hP hD hS hA [0] rfl (by decide) [.ref (b 0), .int 1]⟩ rfl rfl hl.1 rfl (lv_room (Nat.le_of_ble_eq_true rfl)) dX4_boxAt_15 ⟨Nat.le_of_ble_eq_true rfl, Nat.le_of_ble_eq_true rfl⟩) hP hD hS hA [0] rfl rfl rfl rfl (fun H locs hP hD hS => ?_)
    refine lv_goto (tgt := 32) hx hb dX4_boxAt_18 (by decide) ?_
    have hq : f_X4_boxAt mli p0 = ((f_X4_fails 1).1, (f_X4_fails 1).2) := (by rw [f_X4_boxAt, if_pos c_10])
    exact W.iret (v := (f_X4_fails 1).1) hx hb hr (fun t ht _ => ⟨by rw [hq], by rw [hq, ht]; exact hP, hS.F ht⟩) hS.2.2 dX4_boxAt_32

/-! X4_weight -/
def f_X4_weight (mwt : Nat → Int32) (mli : Nat → Int32) (p0 : Int32) : Int32 × Int32 :=
  if (f_X4_isShelf p0) = 0 then ((f_X4_fails 1).1, (f_X4_fails 1).2)
    else (f_X4_weighs mwt mli p0, 0)
theorem iw_X4_weight_RX4 : ∀ w ∈ u_ws RX4 TX4 19, w ∈ wsX4_weight := by decide +kernel
set_option maxHeartbeats 4000000 in
set_option maxRecDepth 100000 in
theorem c_X4_weight (l : Launch) (G : GT) (b : Nat → Nat) (sz : Nat) (mth : Int32) (mck : Int32) (mbn : Int32) (mai : Int32) (mtm : Int32) (mst : Int32) (msm : Int32) (mon : Int32) (mlt : Int32) (mwt : Nat → Int32) (mli : Nat → Int32) (p0 : Int32) (hli : ∀ k : Nat, k < 36 → okN 20 (mli k)) : Met l yX4_weight wsX4_weight ({ frames := 2, cells := 0, slots := 0, locals := 42 }) (GP G [.ref (b 0), .int p0] [wcM b mth mck mbn mai mtm mst msm mon mlt, wcI G (b 3) 20 mwt, wcI G (b 5) 36 mli] sz) (MQo G (.returned (some (.int ((f_X4_weight mwt mli p0).1)))) [wcM b ((f_X4_weight mwt mli p0).2) mck mbn mai mtm mst msm mon mlt, wcI G (b 3) 20 mwt, wcI G (b 5) 36 mli] (va_A [wcM b mth mck mbn mai mtm mst msm mon mlt, wcI G (b 3) 20 mwt, wcI G (b 5) 36 mli] sz)) 0 0 (va_A [wcM b mth mck mbn mai mtm mst msm mon mlt, wcI G (b 3) 20 mwt, wcI G (b 5) 36 mli] sz) := by
  refine bodyM (cc := cX4_weight) (maxL := 2) (ret := (some .int)) (by decide) rfl (Nat.le_of_ble_eq_true rfl) ?_
  intro p e s m below meth c ls C
  obtain ⟨hx, hb, hr, hts, hown, hlocks, hml, hsz, hP, hE, hD, hZ, hA, hS, hl⟩ := C
  subst hsz
  have hl : lv_has ls 2 [(0, .ref (b 0)), (1, .int p0)] := hl
  refine lv_aload_n hx hb dX4_weight_0 rfl (lv_at hl 0 rfl) ?_
  refine lv_iconst (v := 0) hx hb dX4_weight_1 (by decide) ?_
  refine va_put (D := G.1) (ci := 4) (v := .int 0) (ty := .int) (C := RX4) (T := TX4) (N := 19) hx hb hts iw_X4_weight_RX4 tyX4 tyX4_ok nmX4 hown hE.1 hP hD hS 0 rfl rfl 0 (by decide) (hts (.fieldLink RX4 41 "RackrailModel" "thrown" "I") (by decide +kernel)) (fun _ h9 => h9) rfl (by decide +kernel) rfl rfl (Nat.le_of_ble_eq_true rfl) dX4_weight_2 (fun H locs hP hD hS => ?_)
  have hP : va_P G.1 vwCl [wcM b 0 mck mbn mai mtm mst msm mon mlt, wcI G (b 3) 20 mwt, wcI G (b 5) 36 mli] H := hP
  have hD : va_D _ [wcM b 0 mck mbn mai mtm mst msm mon mlt, wcI G (b 3) 20 mwt, wcI G (b 5) 36 mli] := hD
  refine lv_iload_n hx hb dX4_weight_5 rfl (lv_at hl 1 rfl) ?_
  refine k_p (va_runS (As := [.int p0]) (rest := []) ⟨hx, hb, hml, hown, hts⟩ (c_X4_isShelf l G H.size p0) (va_cwS 1 hts gX4_weight_X4_isShelf rfl rfl rfl ⟨by decide +kernel, by decide +kernel, by decide +kernel⟩ ⟨Nat.le_of_ble_eq_true rfl, Nat.le_of_ble_eq_true rfl⟩) ⟨GP.blind, GP.go (wc := []) hE hZ hP hD hS hA [] rfl (by decide) [.int p0]⟩ rfl rfl hl.1 rfl (lv_room (Nat.le_of_ble_eq_true rfl)) dX4_weight_6 ⟨Nat.le_of_ble_eq_true rfl, Nat.le_of_ble_eq_true rfl⟩) ?_
  refine lv_if_eq (tgt := 20) hx hb dX4_weight_9 (by decide) (fun c_9 => ?_) (fun c_9 => ?_)
  · refine lv_aload_n hx hb dX4_weight_20 rfl (lv_at hl 0 rfl) ?_
    refine lv_iconst (v := 1) hx hb dX4_weight_21 (by decide) ?_
    refine k_m (wc := [wcM b 0 mck mbn mai mtm mst msm mon mlt]) (w1 := [wcM b ((f_X4_fails 1).2) mck mbn mai mtm mst msm mon mlt]) (wn := [wcM b ((f_X4_fails 1).2) mck mbn mai mtm mst msm mon mlt, wcI G (b 3) 20 mwt, wcI G (b 5) 36 mli]) (va_runV (As := [.int 1]) (rest := []) ⟨hx, hb, hml, hown, hts⟩ (c_X4_fails l G b H.size 0 mck mbn mai mtm mst msm mon mlt 1) (cwV 1 hts gX4_weight_X4_fails rfl rfl rfl ⟨rfl, by decide +kernel, by decide +kernel, by decide +kernel⟩ ⟨Nat.le_of_ble_eq_true rfl, Nat.le_of_ble_eq_true rfl⟩) ⟨GP.blind, va_recv hE.1 hP (ci := 4) (q0 := 0) rfl rfl, GP.go (wc := [wcM b 0 mck mbn mai mtm mst msm mon mlt]) hE hZ hP hD hS hA [0] rfl (by decide) [.ref (b 0), .int 1]⟩ rfl rfl hl.1 rfl (lv_room (Nat.le_of_ble_eq_true rfl)) dX4_weight_22 ⟨Nat.le_of_ble_eq_true rfl, Nat.le_of_ble_eq_true rfl⟩) hP hD hS hA [0] rfl rfl rfl rfl (fun H locs hP hD hS => ?_)
    have hq : f_X4_weight mwt mli p0 = ((f_X4_fails 1).1, (f_X4_fails 1).2) := (by rw [f_X4_weight, if_pos c_9])
    exact W.iret (v := (f_X4_fails 1).1) hx hb hr (fun t ht _ => ⟨by rw [hq], by rw [hq, ht]; exact hP, hS.F ht⟩) hS.2.2 dX4_weight_25
  · refine lv_aload_n hx hb dX4_weight_12 rfl (lv_at hl 0 rfl) ?_
    refine lv_iload_n hx hb dX4_weight_13 rfl (lv_at hl 1 rfl) ?_
    refine k_p (va_runV (As := [.int p0]) (rest := []) ⟨hx, hb, hml, hown, hts⟩ (c_X4_weighs l G b H.size 0 mck mbn mai mtm mst msm mon mlt mwt mli p0 hli (in_shelfM c_9)) (cwV 1 hts gX4_weight_X4_weighs rfl rfl rfl ⟨rfl, by decide +kernel, by decide +kernel, by decide +kernel⟩ ⟨Nat.le_of_ble_eq_true rfl, Nat.le_of_ble_eq_true rfl⟩) ⟨GP.blind, va_recv hE.1 hP (ci := 4) (q0 := 0) rfl rfl, GP.go (wc := [wcM b 0 mck mbn mai mtm mst msm mon mlt, wcI G (b 3) 20 mwt, wcI G (b 5) 36 mli]) hE hZ hP hD hS hA [0, 1, 2] rfl (by decide) [.ref (b 0), .int p0]⟩ rfl rfl hl.1 rfl (lv_room (Nat.le_of_ble_eq_true rfl)) dX4_weight_14 ⟨Nat.le_of_ble_eq_true rfl, Nat.le_of_ble_eq_true rfl⟩) ?_
    refine lv_goto (tgt := 25) hx hb dX4_weight_17 (by decide) ?_
    have hq : f_X4_weight mwt mli p0 = (f_X4_weighs mwt mli p0, 0) := (by rw [f_X4_weight, if_neg c_9])
    exact W.iret (v := f_X4_weighs mwt mli p0) hx hb hr (fun t ht _ => ⟨by rw [hq], by rw [hq, ht]; exact hP, hS.F ht⟩) hS.2.2 dX4_weight_25

/-! X4_wrong -/
def f_X4_wrong_L (msc : Nat → Int32) (mcl : Nat → Int32) (mli : Nat → Int32) : Nat → Nat → Int32 → Int32 × Int32
  | 0, j, cnt => (cnt, 0)
  | r + 1, j, cnt => if (mli (nI j).toNatClampNeg) ≤ 0 then f_X4_wrong_L msc mcl mli r (j + 1) (cnt + 0)
    else if (mcl ((mli (nI j).toNatClampNeg) - 1).toNatClampNeg) = (msc ((nI j) / 6).toNatClampNeg) then f_X4_wrong_L msc mcl mli r (j + 1) (cnt + 0)
    else f_X4_wrong_L msc mcl mli r (j + 1) (cnt + 1)
def f_X4_wrong (msc : Nat → Int32) (mcl : Nat → Int32) (mli : Nat → Int32) : Int32 × Int32 :=
  f_X4_wrong_L msc mcl mli 36 0 0
theorem iw_X4_wrong_RX4 : ∀ w ∈ u_ws RX4 TX4 19, w ∈ wsX4_wrong := by decide +kernel
set_option maxHeartbeats 4000000 in
set_option maxRecDepth 100000 in
theorem c_X4_wrong (l : Launch) (G : GT) (b : Nat → Nat) (sz : Nat) (mth : Int32) (mck : Int32) (mbn : Int32) (mai : Int32) (mtm : Int32) (mst : Int32) (msm : Int32) (mon : Int32) (mlt : Int32) (msc : Nat → Int32) (mcl : Nat → Int32) (mli : Nat → Int32) (hli : ∀ k : Nat, k < 36 → okN 20 (mli k)) : Met l yX4_wrong wsX4_wrong ({ frames := 0, cells := 0, slots := 0, locals := 0 }) (GP G [.ref (b 0)] [wcM b mth mck mbn mai mtm mst msm mon mlt, wcI G (b 1) 6 msc, wcI G (b 2) 20 mcl, wcI G (b 5) 36 mli] sz) (MQo G (.returned (some (.int ((f_X4_wrong msc mcl mli).1)))) [wcM b ((f_X4_wrong msc mcl mli).2) mck mbn mai mtm mst msm mon mlt, wcI G (b 1) 6 msc, wcI G (b 2) 20 mcl, wcI G (b 5) 36 mli] (va_A [wcM b mth mck mbn mai mtm mst msm mon mlt, wcI G (b 1) 6 msc, wcI G (b 2) 20 mcl, wcI G (b 5) 36 mli] sz)) 0 0 (va_A [wcM b mth mck mbn mai mtm mst msm mon mlt, wcI G (b 1) 6 msc, wcI G (b 2) 20 mcl, wcI G (b 5) 36 mli] sz) := by
  refine bodyM (cc := cX4_wrong) (maxL := 3) (ret := (some .int)) (by decide) rfl (Nat.le_of_ble_eq_true rfl) ?_
  intro p e s m below meth c ls C
  obtain ⟨hx, hb, hr, hts, hown, hlocks, hml, hsz, hP, hE, hD, hZ, hA, hS, hl⟩ := C
  subst hsz
  have hl : lv_has ls 3 [(0, .ref (b 0))] := hl
  refine lv_aload_n hx hb dX4_wrong_0 rfl (lv_at hl 0 rfl) ?_
  refine lv_iconst (v := 0) hx hb dX4_wrong_1 (by decide) ?_
  refine va_put (D := G.1) (ci := 4) (v := .int 0) (ty := .int) (C := RX4) (T := TX4) (N := 19) hx hb hts iw_X4_wrong_RX4 tyX4 tyX4_ok nmX4 hown hE.1 hP hD hS 0 rfl rfl 0 (by decide) (hts (.fieldLink RX4 41 "RackrailModel" "thrown" "I") (by decide +kernel)) (fun _ h9 => h9) rfl (by decide +kernel) rfl rfl (Nat.le_of_ble_eq_true rfl) dX4_wrong_2 (fun H locs hP hD hS => ?_)
  have hP : va_P G.1 vwCl [wcM b 0 mck mbn mai mtm mst msm mon mlt, wcI G (b 1) 6 msc, wcI G (b 2) 20 mcl, wcI G (b 5) 36 mli] H := hP
  have hD : va_D _ [wcM b 0 mck mbn mai mtm mst msm mon mlt, wcI G (b 1) 6 msc, wcI G (b 2) 20 mcl, wcI G (b 5) 36 mli] := hD
  refine lv_iconst (v := 0) hx hb dX4_wrong_5 (by decide) ?_
  refine lv_istore_n (lv' := [(1, .int 0), (0, .ref (b 0))]) hx hb dX4_wrong_6 rfl hl (by decide) rfl (fun ls hl => ?_)
  refine lv_iconst (v := 0) hx hb dX4_wrong_7 (by decide) ?_
  refine lv_istore_n (lv' := [(2, .int 0), (1, .int 0), (0, .ref (b 0))]) hx hb dX4_wrong_8 rfl hl (by decide) rfl (fun ls hl => ?_)
  refine k_loopP (α := Int32) (fun (r j : Nat) (x : Int32) (ls : Array Slot) => j + r = 36 ∧ f_X4_wrong msc mcl mli = f_X4_wrong_L msc mcl mli r j x ∧ lv_has ls 3 [(2, .int (nI j)), (1, .int x), (0, .ref (b 0))]) 36 0 0 ⟨by omega, (by rw [f_X4_wrong]), lv_sub hl [0, 1, 2] rfl⟩ ?_ ?_
  · intro j x ls hI
    obtain ⟨cnt, rfl⟩ : ∃ y, y = x := ⟨_, rfl⟩
    obtain ⟨hj, hf, hl⟩ := hI
    have hl : lv_has ls 3 [(2, .int (nI j)), (1, .int cnt), (0, .ref (b 0))] := hl
    have hf : f_X4_wrong msc mcl mli = f_X4_wrong_L msc mcl mli 0 j cnt := hf
    refine lv_iload_n hx hb dX4_wrong_9 rfl (lv_at hl 0 rfl) ?_
    refine lv_bipush (v := 36) hx hb dX4_wrong_10 (by decide) ?_
    refine lv_icmp_ge (tgt := 63) hx hb dX4_wrong_12 (by decide) (fun c_12 => ?_) (fun c_12 => absurd (lp_a n36_eq (by omega) (by omega)) c_12)
    refine lv_iload_n hx hb dX4_wrong_63 rfl (lv_at hl 1 rfl) ?_
    have hq : f_X4_wrong msc mcl mli = (cnt, 0) := (hf.trans (by rw [f_X4_wrong_L]))
    exact W.iret (v := cnt) hx hb hr (fun t ht _ => ⟨by rw [hq], by rw [hq, ht]; exact hP, hS.F ht⟩) hS.2.2 dX4_wrong_64
  · intro r ih j x ls hI
    obtain ⟨cnt, rfl⟩ : ∃ y, y = x := ⟨_, rfl⟩
    obtain ⟨hj, hf, hl⟩ := hI
    have hl : lv_has ls 3 [(2, .int (nI j)), (1, .int cnt), (0, .ref (b 0))] := hl
    have hf : f_X4_wrong msc mcl mli = f_X4_wrong_L msc mcl mli (r + 1) j cnt := hf
    refine lv_iload_n hx hb dX4_wrong_9 rfl (lv_at hl 0 rfl) ?_
    refine lv_bipush (v := 36) hx hb dX4_wrong_10 (by decide) ?_
    refine lv_icmp_ge (tgt := 63) hx hb dX4_wrong_12 (by decide) (fun c_12 => absurd c_12 (lp_b (r := r) n36_eq (by omega) (by omega))) (fun c_12 => ?_)
    refine lv_iload_n hx hb dX4_wrong_15 rfl (lv_at hl 1 rfl) ?_
    refine lv_aload_n hx hb dX4_wrong_16 rfl (lv_at hl 2 rfl) ?_
    refine va_get (D := G.1) (ci := 4) (v := .ref (b 5)) (C := RX4) (T := TX4) (N := 19) hx hb hts iw_X4_wrong_RX4 hown hE.1 hP 0 rfl rfl 7 (by decide) (hts (.fieldLink RX4 22 "RackrailModel" "lies" "[I") (by decide +kernel)) (fun _ h9 => h9) rfl dX4_wrong_17 ?_
    refine lv_iload_n hx hb dX4_wrong_20 rfl (lv_at hl 0 rfl) ?_
    refine va_iald hx hb hE.1 hP 3 0 rfl rfl (vp_in_nI (by omega) (by decide)) dX4_wrong_21 ?_
    refine lv_if_le (tgt := 54) hx hb dX4_wrong_22 (by decide) (fun c_22 => ?_) (fun c_22 => ?_)
    · refine lv_iconst (v := 0) hx hb dX4_wrong_54 (by decide) ?_
      refine lv_iadd hx hb dX4_wrong_55 ?_
      refine lv_istore_n (lv' := [(1, .int (cnt + 0)), (2, .int (nI j)), (0, .ref (b 0))]) hx hb dX4_wrong_56 rfl hl (by decide) rfl (fun ls hl => ?_)
      refine lv_iinc (v := nI (j + 1)) (lv' := [(2, .int (nI (j + 1))), (1, .int (cnt + 0)), (0, .ref (b 0))]) hx hb dX4_wrong_57 hl (k := 1) rfl (inc1 _) (by decide) rfl (fun ls hl => ?_)
      refine lv_goto (tgt := 9) hx hb dX4_wrong_60 (by decide) ?_
      exact ih (j + 1) (cnt + 0) _ ⟨by omega, (hf.trans (by rw [f_X4_wrong_L, if_pos c_22])), lv_sub hl [0, 1, 2] rfl⟩
    · refine lv_aload_n hx hb dX4_wrong_25 rfl (lv_at hl 2 rfl) ?_
      refine va_get (D := G.1) (ci := 4) (v := .ref (b 2)) (C := RX4) (T := TX4) (N := 19) hx hb hts iw_X4_wrong_RX4 hown hE.1 hP 0 rfl rfl 4 (by decide) (hts (.fieldLink RX4 13 "RackrailModel" "boxClimates" "[I") (by decide +kernel)) (fun _ h9 => h9) rfl dX4_wrong_26 ?_
      refine lv_aload_n hx hb dX4_wrong_29 rfl (lv_at hl 2 rfl) ?_
      refine va_get (D := G.1) (ci := 4) (v := .ref (b 5)) (C := RX4) (T := TX4) (N := 19) hx hb hts iw_X4_wrong_RX4 hown hE.1 hP 0 rfl rfl 7 (by decide) (hts (.fieldLink RX4 22 "RackrailModel" "lies" "[I") (by decide +kernel)) (fun _ h9 => h9) rfl dX4_wrong_30 ?_
      refine lv_iload_n hx hb dX4_wrong_33 rfl (lv_at hl 0 rfl) ?_
      refine va_iald hx hb hE.1 hP 3 0 rfl rfl (vp_in_nI (by omega) (by decide)) dX4_wrong_34 ?_
      refine lv_iconst (v := 1) hx hb dX4_wrong_35 (by decide) ?_
      refine lv_isub hx hb dX4_wrong_36 ?_
      refine va_iald hx hb hE.1 hP 2 0 rfl rfl (in_li (hli _ (by rw [nI_clamp (by omega)]; omega)) c_22) dX4_wrong_37 ?_
      refine lv_aload_n hx hb dX4_wrong_38 rfl (lv_at hl 2 rfl) ?_
      refine va_get (D := G.1) (ci := 4) (v := .ref (b 1)) (C := RX4) (T := TX4) (N := 19) hx hb hts iw_X4_wrong_RX4 hown hE.1 hP 0 rfl rfl 2 (by decide) (hts (.fieldLink RX4 7 "RackrailModel" "climates" "[I") (by decide +kernel)) (fun _ h9 => h9) rfl dX4_wrong_39 ?_
      refine lv_iload_n hx hb dX4_wrong_42 rfl (lv_at hl 0 rfl) ?_
      refine lv_bipush (v := 6) hx hb dX4_wrong_43 (by decide) ?_
      refine lv_idiv hx hb dX4_wrong_45 (by decide) ?_
      refine va_iald hx hb hE.1 hP 1 0 rfl rfl (in_div6 (by omega)) dX4_wrong_46 ?_
      refine lv_icmp_eq (tgt := 54) hx hb dX4_wrong_47 (by decide) (fun c_47 => ?_) (fun c_47 => ?_)
      · refine lv_iconst (v := 0) hx hb dX4_wrong_54 (by decide) ?_
        refine lv_iadd hx hb dX4_wrong_55 ?_
        refine lv_istore_n (lv' := [(1, .int (cnt + 0)), (2, .int (nI j)), (0, .ref (b 0))]) hx hb dX4_wrong_56 rfl hl (by decide) rfl (fun ls hl => ?_)
        refine lv_iinc (v := nI (j + 1)) (lv' := [(2, .int (nI (j + 1))), (1, .int (cnt + 0)), (0, .ref (b 0))]) hx hb dX4_wrong_57 hl (k := 1) rfl (inc1 _) (by decide) rfl (fun ls hl => ?_)
        refine lv_goto (tgt := 9) hx hb dX4_wrong_60 (by decide) ?_
        exact ih (j + 1) (cnt + 0) _ ⟨by omega, (hf.trans (by rw [f_X4_wrong_L, if_neg c_22, if_pos c_47])), lv_sub hl [0, 1, 2] rfl⟩
      · refine lv_iconst (v := 1) hx hb dX4_wrong_50 (by decide) ?_
        refine lv_goto (tgt := 55) hx hb dX4_wrong_51 (by decide) ?_
        refine lv_iadd hx hb dX4_wrong_55 ?_
        refine lv_istore_n (lv' := [(1, .int (cnt + 1)), (2, .int (nI j)), (0, .ref (b 0))]) hx hb dX4_wrong_56 rfl hl (by decide) rfl (fun ls hl => ?_)
        refine lv_iinc (v := nI (j + 1)) (lv' := [(2, .int (nI (j + 1))), (1, .int (cnt + 1)), (0, .ref (b 0))]) hx hb dX4_wrong_57 hl (k := 1) rfl (inc1 _) (by decide) rfl (fun ls hl => ?_)
        refine lv_goto (tgt := 9) hx hb dX4_wrong_60 (by decide) ?_
        exact ih (j + 1) (cnt + 1) _ ⟨by omega, (hf.trans (by rw [f_X4_wrong_L, if_neg c_22, if_neg c_47])), lv_sub hl [0, 1, 2] rfl⟩

