/-! X1_openAisle -/
def f_X1_openAisle (gp : Int32) (tg : Int32) : Int32 :=
  if gp = tg then gp
    else (-1)
theorem iw_X1_openAisle_RX1 : ∀ w ∈ u_ws RX1 TX1 7, w ∈ wsX1_openAisle := by decide +kernel
set_option maxHeartbeats 4000000 in
set_option maxRecDepth 100000 in
theorem c_X1_openAisle (l : Launch) (G : GT) (a : Nat → Nat) (sz : Nat) (gp : Int32) (tg : Int32) (st : Int32) (sm : Int32) : Met l yX1_openAisle wsX1_openAisle ({ frames := 0, cells := 0, slots := 0, locals := 0 }) (GP G [.ref (a 7)] [wcR a gp tg st sm] sz) (PQo (.returned (some (.int (f_X1_openAisle gp tg))))) 0 0 (fun _ => False) := by
  refine bodyM (cc := cX1_openAisle) (maxL := 1) (ret := (some .int)) (by decide) rfl (Nat.le_of_ble_eq_true rfl) ?_
  intro p e s m below meth c ls C
  obtain ⟨hx, hb, hr, hts, hown, hlocks, hml, hsz, hP, hE, hD, hA, hS, hl⟩ := C
  subst hsz
  have hl : lv_has ls 1 [(0, .ref (a 7))] := hl
  refine lv_aload_n hx hb dX1_openAisle_0 rfl (lv_at hl 0 rfl) ?_
  refine va_get (D := G.1) (ci := 1) (v := .int gp) (C := RX1) (T := TX1) (N := 7) hx hb hts iw_X1_openAisle_RX1 hown hE.1 hP 0 rfl rfl 3 (by decide) (hts (.fieldLink RX1 22 "Rackrail$Rail" "gap" "I") (by decide +kernel)) (fun _ h9 => h9) rfl dX1_openAisle_1 ?_
  refine lv_aload_n hx hb dX1_openAisle_4 rfl (lv_at hl 0 rfl) ?_
  refine va_get (D := G.1) (ci := 1) (v := .int tg) (C := RX1) (T := TX1) (N := 7) hx hb hts iw_X1_openAisle_RX1 hown hE.1 hP 0 rfl rfl 4 (by decide) (hts (.fieldLink RX1 26 "Rackrail$Rail" "target" "I") (by decide +kernel)) (fun _ h9 => h9) rfl dX1_openAisle_5 ?_
  refine lv_icmp_ne (tgt := 18) hx hb dX1_openAisle_8 (by decide) (fun c_8 => ?_) (fun c_8 => ?_)
  · refine lv_iconst (v := (-1)) hx hb dX1_openAisle_18 (by decide) ?_
    have hq : f_X1_openAisle gp tg = (-1) := (by rw [f_X1_openAisle, if_neg c_8])
    exact W.iret (v := (-1)) hx hb hr (fun t ht _ => ⟨by rw [hq], ht⟩) (fun _ h => nomatch h) dX1_openAisle_19
  · refine lv_aload_n hx hb dX1_openAisle_11 rfl (lv_at hl 0 rfl) ?_
    refine va_get (D := G.1) (ci := 1) (v := .int gp) (C := RX1) (T := TX1) (N := 7) hx hb hts iw_X1_openAisle_RX1 hown hE.1 hP 0 rfl rfl 3 (by decide) (hts (.fieldLink RX1 22 "Rackrail$Rail" "gap" "I") (by decide +kernel)) (fun _ h9 => h9) rfl dX1_openAisle_12 ?_
    refine lv_goto (tgt := 19) hx hb dX1_openAisle_15 (by decide) ?_
    have hq : f_X1_openAisle gp tg = gp := (by rw [f_X1_openAisle, if_pos c_8])
    exact W.iret (v := gp) hx hb hr (fun t ht _ => ⟨by rw [hq], ht⟩) (fun _ h => nomatch h) dX1_openAisle_19

/-! X1_openAisleByMoves -/
def f_X1_openAisleByMoves_L (tg : Int32) (mv : Nat → Int32) : Nat → Nat → Int32 → Int32
  | 0, j, al => if al = tg then al
    else (-1)
  | r + 1, j, al => if ((mv (nI j).toNatClampNeg) - (mv (nI j).toNatClampNeg) / 2 * 2) = 1 then f_X1_openAisleByMoves_L tg mv r (j + 1) (al + 1)
    else f_X1_openAisleByMoves_L tg mv r (j + 1) al
def f_X1_openAisleByMoves (tg : Int32) (mv : Nat → Int32) : Int32 :=
  f_X1_openAisleByMoves_L tg mv 6 0 0
theorem iw_X1_openAisleByMoves_RX1 : ∀ w ∈ u_ws RX1 TX1 7, w ∈ wsX1_openAisleByMoves := by decide +kernel
set_option maxHeartbeats 4000000 in
set_option maxRecDepth 100000 in
theorem c_X1_openAisleByMoves (l : Launch) (G : GT) (a : Nat → Nat) (sz : Nat) (gp : Int32) (tg : Int32) (st : Int32) (sm : Int32) (mv : Nat → Int32) : Met l yX1_openAisleByMoves wsX1_openAisleByMoves ({ frames := 0, cells := 0, slots := 0, locals := 0 }) (GP G [.ref (a 7)] [wcR a gp tg st sm, wcI G (a 10) 6 mv] sz) (PQo (.returned (some (.int (f_X1_openAisleByMoves tg mv))))) 0 0 (fun _ => False) := by
  refine bodyM (cc := cX1_openAisleByMoves) (maxL := 3) (ret := (some .int)) (by decide) rfl (Nat.le_of_ble_eq_true rfl) ?_
  intro p e s m below meth c ls C
  obtain ⟨hx, hb, hr, hts, hown, hlocks, hml, hsz, hP, hE, hD, hA, hS, hl⟩ := C
  subst hsz
  have hl : lv_has ls 3 [(0, .ref (a 7))] := hl
  refine lv_iconst (v := 0) hx hb dX1_openAisleByMoves_0 (by decide) ?_
  refine lv_istore_n (lv' := [(1, .int 0), (0, .ref (a 7))]) hx hb dX1_openAisleByMoves_1 rfl hl (by decide) rfl (fun ls hl => ?_)
  refine lv_iconst (v := 0) hx hb dX1_openAisleByMoves_2 (by decide) ?_
  refine lv_istore_n (lv' := [(2, .int 0), (1, .int 0), (0, .ref (a 7))]) hx hb dX1_openAisleByMoves_3 rfl hl (by decide) rfl (fun ls hl => ?_)
  refine k_loopP (α := Int32) (fun (r j : Nat) (x : Int32) (ls : Array Slot) => j + r = 6 ∧ f_X1_openAisleByMoves tg mv = f_X1_openAisleByMoves_L tg mv r j x ∧ lv_has ls 3 [(2, .int (nI j)), (1, .int x), (0, .ref (a 7))]) 6 0 0 ⟨by omega, (by rw [f_X1_openAisleByMoves]), lv_sub hl [0, 1, 2] rfl⟩ ?_ ?_
  · intro j x ls hI
    obtain ⟨al, rfl⟩ : ∃ y, y = x := ⟨_, rfl⟩
    obtain ⟨hj, hf, hl⟩ := hI
    have hl : lv_has ls 3 [(2, .int (nI j)), (1, .int al), (0, .ref (a 7))] := hl
    have hf : f_X1_openAisleByMoves tg mv = f_X1_openAisleByMoves_L tg mv 0 j al := hf
    refine lv_iload_n hx hb dX1_openAisleByMoves_4 rfl (lv_at hl 0 rfl) ?_
    refine lv_bipush (v := 6) hx hb dX1_openAisleByMoves_5 (by decide) ?_
    refine lv_icmp_ge (tgt := 31) hx hb dX1_openAisleByMoves_7 (by decide) (fun c_7 => ?_) (fun c_7 => absurd (lp_a n6_eq (by omega) (by omega)) c_7)
    refine lv_iload_n hx hb dX1_openAisleByMoves_31 rfl (lv_at hl 1 rfl) ?_
    refine lv_aload_n hx hb dX1_openAisleByMoves_32 rfl (lv_at hl 2 rfl) ?_
    refine va_get (D := G.1) (ci := 1) (v := .int tg) (C := RX1) (T := TX1) (N := 7) hx hb hts iw_X1_openAisleByMoves_RX1 hown hE.1 hP 0 rfl rfl 4 (by decide) (hts (.fieldLink RX1 26 "Rackrail$Rail" "target" "I") (by decide +kernel)) (fun _ h9 => h9) rfl dX1_openAisleByMoves_33 ?_
    refine lv_icmp_ne (tgt := 43) hx hb dX1_openAisleByMoves_36 (by decide) (fun c_36 => ?_) (fun c_36 => ?_)
    · refine lv_iconst (v := (-1)) hx hb dX1_openAisleByMoves_43 (by decide) ?_
      have hq : f_X1_openAisleByMoves tg mv = (-1) := (hf.trans (by rw [f_X1_openAisleByMoves_L, if_neg c_36]))
      exact W.iret (v := (-1)) hx hb hr (fun t ht _ => ⟨by rw [hq], ht⟩) (fun _ h => nomatch h) dX1_openAisleByMoves_44
    · refine lv_iload_n hx hb dX1_openAisleByMoves_39 rfl (lv_at hl 1 rfl) ?_
      refine lv_goto (tgt := 44) hx hb dX1_openAisleByMoves_40 (by decide) ?_
      have hq : f_X1_openAisleByMoves tg mv = al := (hf.trans (by rw [f_X1_openAisleByMoves_L, if_pos c_36]))
      exact W.iret (v := al) hx hb hr (fun t ht _ => ⟨by rw [hq], ht⟩) (fun _ h => nomatch h) dX1_openAisleByMoves_44
  · intro r ih j x ls hI
    obtain ⟨al, rfl⟩ : ∃ y, y = x := ⟨_, rfl⟩
    obtain ⟨hj, hf, hl⟩ := hI
    have hl : lv_has ls 3 [(2, .int (nI j)), (1, .int al), (0, .ref (a 7))] := hl
    have hf : f_X1_openAisleByMoves tg mv = f_X1_openAisleByMoves_L tg mv (r + 1) j al := hf
    refine lv_iload_n hx hb dX1_openAisleByMoves_4 rfl (lv_at hl 0 rfl) ?_
    refine lv_bipush (v := 6) hx hb dX1_openAisleByMoves_5 (by decide) ?_
    refine lv_icmp_ge (tgt := 31) hx hb dX1_openAisleByMoves_7 (by decide) (fun c_7 => absurd c_7 (lp_b (r := r) n6_eq (by omega) (by omega))) (fun c_7 => ?_)
    refine lv_aload_n hx hb dX1_openAisleByMoves_10 rfl (lv_at hl 2 rfl) ?_
    refine va_get (D := G.1) (ci := 1) (v := .ref (a 10)) (C := RX1) (T := TX1) (N := 7) hx hb hts iw_X1_openAisleByMoves_RX1 hown hE.1 hP 0 rfl rfl 2 (by decide) (hts (.fieldLink RX1 18 "Rackrail$Rail" "moves" "[I") (by decide +kernel)) (fun _ h9 => h9) rfl dX1_openAisleByMoves_11 ?_
    refine lv_iload_n hx hb dX1_openAisleByMoves_14 rfl (lv_at hl 0 rfl) ?_
    refine va_iald hx hb hE.1 hP 1 0 rfl rfl (vp_in_nI (by omega) (by decide)) dX1_openAisleByMoves_15 ?_
    refine lv_iconst (v := 2) hx hb dX1_openAisleByMoves_16 (by decide) ?_
    refine lv_irem hx hb dX1_openAisleByMoves_17 (by decide) ?_
    refine lv_iconst (v := 1) hx hb dX1_openAisleByMoves_18 (by decide) ?_
    refine lv_icmp_ne (tgt := 25) hx hb dX1_openAisleByMoves_19 (by decide) (fun c_19 => ?_) (fun c_19 => ?_)
    · refine lv_iinc (v := nI (j + 1)) (lv' := [(2, .int (nI (j + 1))), (1, .int al), (0, .ref (a 7))]) hx hb dX1_openAisleByMoves_25 hl (k := 0) rfl (inc1 _) (by decide) rfl (fun ls hl => ?_)
      refine lv_goto (tgt := 4) hx hb dX1_openAisleByMoves_28 (by decide) ?_
      exact ih (j + 1) al _ ⟨by omega, (hf.trans (by rw [f_X1_openAisleByMoves_L, if_neg c_19])), lv_sub hl [0, 1, 2] rfl⟩
    · refine lv_iinc (v := al + 1) (lv' := [(1, .int (al + 1)), (2, .int (nI j)), (0, .ref (a 7))]) hx hb dX1_openAisleByMoves_22 hl (k := 1) rfl rfl (by decide) rfl (fun ls hl => ?_)
      refine lv_iinc (v := nI (j + 1)) (lv' := [(2, .int (nI (j + 1))), (1, .int (al + 1)), (0, .ref (a 7))]) hx hb dX1_openAisleByMoves_25 hl (k := 1) rfl (inc1 _) (by decide) rfl (fun ls hl => ?_)
      refine lv_goto (tgt := 4) hx hb dX1_openAisleByMoves_28 (by decide) ?_
      exact ih (j + 1) (al + 1) _ ⟨by omega, (hf.trans (by rw [f_X1_openAisleByMoves_L, if_pos c_19])), lv_sub hl [0, 1, 2] rfl⟩

/-! X1_countInside -/
def f_X1_countInside_L (ins : Nat → Int32) : Nat → Nat → Int32 → Int32
  | 0, j, fnd => fnd
  | r + 1, j, fnd => if (ins (nI j).toNatClampNeg) = 0 then f_X1_countInside_L ins r (j + 1) fnd
    else f_X1_countInside_L ins r (j + 1) (fnd + 1)
def f_X1_countInside (ins : Nat → Int32) : Int32 :=
  f_X1_countInside_L ins 4 0 0
theorem iw_X1_countInside_RX1 : ∀ w ∈ u_ws RX1 TX1 7, w ∈ wsX1_countInside := by decide +kernel
set_option maxHeartbeats 4000000 in
set_option maxRecDepth 100000 in
theorem c_X1_countInside (l : Launch) (G : GT) (a : Nat → Nat) (sz : Nat) (gp : Int32) (tg : Int32) (st : Int32) (sm : Int32) (ins : Nat → Int32) : Met l yX1_countInside wsX1_countInside ({ frames := 0, cells := 0, slots := 0, locals := 0 }) (GP G [.ref (a 7)] [wcR a gp tg st sm, wcZ G (a 9) 4 ins] sz) (PQo (.returned (some (.int (f_X1_countInside ins))))) 0 0 (fun _ => False) := by
  refine bodyM (cc := cX1_countInside) (maxL := 3) (ret := (some .int)) (by decide) rfl (Nat.le_of_ble_eq_true rfl) ?_
  intro p e s m below meth c ls C
  obtain ⟨hx, hb, hr, hts, hown, hlocks, hml, hsz, hP, hE, hD, hA, hS, hl⟩ := C
  subst hsz
  have hl : lv_has ls 3 [(0, .ref (a 7))] := hl
  refine lv_iconst (v := 0) hx hb dX1_countInside_0 (by decide) ?_
  refine lv_istore_n (lv' := [(1, .int 0), (0, .ref (a 7))]) hx hb dX1_countInside_1 rfl hl (by decide) rfl (fun ls hl => ?_)
  refine lv_iconst (v := 0) hx hb dX1_countInside_2 (by decide) ?_
  refine lv_istore_n (lv' := [(2, .int 0), (1, .int 0), (0, .ref (a 7))]) hx hb dX1_countInside_3 rfl hl (by decide) rfl (fun ls hl => ?_)
  refine k_loopP (α := Int32) (fun (r j : Nat) (x : Int32) (ls : Array Slot) => j + r = 4 ∧ f_X1_countInside ins = f_X1_countInside_L ins r j x ∧ lv_has ls 3 [(2, .int (nI j)), (1, .int x), (0, .ref (a 7))]) 4 0 0 ⟨by omega, (by rw [f_X1_countInside]), lv_sub hl [0, 1, 2] rfl⟩ ?_ ?_
  · intro j x ls hI
    obtain ⟨fnd, rfl⟩ : ∃ y, y = x := ⟨_, rfl⟩
    obtain ⟨hj, hf, hl⟩ := hI
    have hl : lv_has ls 3 [(2, .int (nI j)), (1, .int fnd), (0, .ref (a 7))] := hl
    have hf : f_X1_countInside ins = f_X1_countInside_L ins 0 j fnd := hf
    refine lv_iload_n hx hb dX1_countInside_4 rfl (lv_at hl 0 rfl) ?_
    refine lv_iconst (v := 4) hx hb dX1_countInside_5 (by decide) ?_
    refine lv_icmp_ge (tgt := 27) hx hb dX1_countInside_6 (by decide) (fun c_6 => ?_) (fun c_6 => absurd (lp_a n4_eq (by omega) (by omega)) c_6)
    refine lv_iload_n hx hb dX1_countInside_27 rfl (lv_at hl 1 rfl) ?_
    have hq : f_X1_countInside ins = fnd := (hf.trans (by rw [f_X1_countInside_L]))
    exact W.iret (v := fnd) hx hb hr (fun t ht _ => ⟨by rw [hq], ht⟩) (fun _ h => nomatch h) dX1_countInside_28
  · intro r ih j x ls hI
    obtain ⟨fnd, rfl⟩ : ∃ y, y = x := ⟨_, rfl⟩
    obtain ⟨hj, hf, hl⟩ := hI
    have hl : lv_has ls 3 [(2, .int (nI j)), (1, .int fnd), (0, .ref (a 7))] := hl
    have hf : f_X1_countInside ins = f_X1_countInside_L ins (r + 1) j fnd := hf
    refine lv_iload_n hx hb dX1_countInside_4 rfl (lv_at hl 0 rfl) ?_
    refine lv_iconst (v := 4) hx hb dX1_countInside_5 (by decide) ?_
    refine lv_icmp_ge (tgt := 27) hx hb dX1_countInside_6 (by decide) (fun c_6 => absurd c_6 (lp_b (r := r) n4_eq (by omega) (by omega))) (fun c_6 => ?_)
    refine lv_aload_n hx hb dX1_countInside_9 rfl (lv_at hl 2 rfl) ?_
    refine va_get (D := G.1) (ci := 1) (v := .ref (a 9)) (C := RX1) (T := TX1) (N := 7) hx hb hts iw_X1_countInside_RX1 hown hE.1 hP 0 rfl rfl 1 (by decide) (hts (.fieldLink RX1 15 "Rackrail$Rail" "inside" "[Z") (by decide +kernel)) (fun _ h9 => h9) rfl dX1_countInside_10 ?_
    refine lv_iload_n hx hb dX1_countInside_13 rfl (lv_at hl 0 rfl) ?_
    refine va_zald hx hb hE.1 hP 1 1 rfl rfl (vp_in_nI (by omega) (by decide)) dX1_countInside_14 ?_
    refine lv_if_eq (tgt := 21) hx hb dX1_countInside_15 (by decide) (fun c_15 => ?_) (fun c_15 => ?_)
    · refine lv_iinc (v := nI (j + 1)) (lv' := [(2, .int (nI (j + 1))), (1, .int fnd), (0, .ref (a 7))]) hx hb dX1_countInside_21 hl (k := 0) rfl (inc1 _) (by decide) rfl (fun ls hl => ?_)
      refine lv_goto (tgt := 4) hx hb dX1_countInside_24 (by decide) ?_
      exact ih (j + 1) fnd _ ⟨by omega, (hf.trans (by rw [f_X1_countInside_L, if_pos c_15])), lv_sub hl [0, 1, 2] rfl⟩
    · refine lv_iinc (v := fnd + 1) (lv' := [(1, .int (fnd + 1)), (2, .int (nI j)), (0, .ref (a 7))]) hx hb dX1_countInside_18 hl (k := 1) rfl rfl (by decide) rfl (fun ls hl => ?_)
      refine lv_iinc (v := nI (j + 1)) (lv' := [(2, .int (nI (j + 1))), (1, .int (fnd + 1)), (0, .ref (a 7))]) hx hb dX1_countInside_21 hl (k := 1) rfl (inc1 _) (by decide) rfl (fun ls hl => ?_)
      refine lv_goto (tgt := 4) hx hb dX1_countInside_24 (by decide) ?_
      exact ih (j + 1) (fnd + 1) _ ⟨by omega, (hf.trans (by rw [f_X1_countInside_L, if_neg c_15])), lv_sub hl [0, 1, 2] rfl⟩

/-! X1_hasDoubt -/
def f_X1_hasDoubt (db : Nat → Int32) (p0 : Int32) : Int32 :=
  if (f_X3_isBelow p0 7) = 0 then 0
    else if (db p0.toNatClampNeg) = 0 then 0
    else 1
theorem b_X1_hasDoubt (db : Nat → Int32) (p0 : Int32) : f_X1_hasDoubt db p0 = 0 ∨ f_X1_hasDoubt db p0 = 1 := by
  rw [f_X1_hasDoubt]
  (repeat' split) <;> first | exact Or.inl rfl | exact Or.inr rfl | exact b_X3_isBelow _ _
theorem iw_X1_hasDoubt_RX1 : ∀ w ∈ u_ws RX1 TX1 7, w ∈ wsX1_hasDoubt := by decide +kernel
set_option maxHeartbeats 4000000 in
set_option maxRecDepth 100000 in
theorem c_X1_hasDoubt (l : Launch) (G : GT) (a : Nat → Nat) (sz : Nat) (gp : Int32) (tg : Int32) (st : Int32) (sm : Int32) (db : Nat → Int32) (p0 : Int32) : Met l yX1_hasDoubt wsX1_hasDoubt ({ frames := 1, cells := 0, slots := 0, locals := 21 }) (GP G [.ref (a 7), .int p0] [wcR a gp tg st sm, wcZ G (a 8) 7 db] sz) (PQo (.returned (some (.int (f_X1_hasDoubt db p0))))) 0 0 (fun _ => False) := by
  refine bodyM (cc := cX1_hasDoubt) (maxL := 2) (ret := (some .boolean)) (by decide) rfl (Nat.le_of_ble_eq_true rfl) ?_
  intro p e s m below meth c ls C
  obtain ⟨hx, hb, hr, hts, hown, hlocks, hml, hsz, hP, hE, hD, hA, hS, hl⟩ := C
  subst hsz
  have hl : lv_has ls 2 [(0, .ref (a 7)), (1, .int p0)] := hl
  refine lv_iload_n hx hb dX1_hasDoubt_0 rfl (lv_at hl 1 rfl) ?_
  refine lv_bipush (v := 7) hx hb dX1_hasDoubt_1 (by decide) ?_
  refine k_p (va_runSN (As := [.int p0, .int 7]) (rest := []) ⟨hx, hb, hml, hown, hts⟩ (c_X3_isBelow l G s.heap.size p0 7) ⟨va_cnB (host := "Rackrail") 2 hts gX1_hasDoubt_X3_isBelow_n63 rfl rfl rfl (hE.2.1 (RX1, 63, yX3_isBelow) (by decide)) (hts (.initialized RX3) (by decide +kernel)) ⟨by decide +kernel, by decide +kernel, by decide +kernel⟩ ⟨Nat.le_of_ble_eq_true rfl, Nat.le_of_ble_eq_true rfl⟩, hts (.static yX3_isBelow) (by decide +kernel), trivial⟩ ⟨GP.blind, GP.go (wc := []) hE hP hD hS hA [] rfl (by decide) [.int p0, .int 7]⟩ rfl rfl hl.1 rfl (lv_room (Nat.le_of_ble_eq_true rfl)) dX1_hasDoubt_3 ⟨Nat.le_of_ble_eq_true rfl, Nat.le_of_ble_eq_true rfl⟩) ?_
  refine lv_if_eq (tgt := 22) hx hb dX1_hasDoubt_6 (by decide) (fun c_6 => ?_) (fun c_6 => ?_)
  · refine lv_iconst (v := 0) hx hb dX1_hasDoubt_22 (by decide) ?_
    have hq : f_X1_hasDoubt db p0 = 0 := (by rw [f_X1_hasDoubt, if_pos c_6])
    exact W.zret (v := 0) hx hb hr rfl (fun t ht _ => ⟨by rw [hq], ht⟩) (fun _ h => nomatch h) dX1_hasDoubt_23
  · refine lv_aload_n hx hb dX1_hasDoubt_9 rfl (lv_at hl 0 rfl) ?_
    refine va_get (D := G.1) (ci := 1) (v := .ref (a 8)) (C := RX1) (T := TX1) (N := 7) hx hb hts iw_X1_hasDoubt_RX1 hown hE.1 hP 0 rfl rfl 0 (by decide) (hts (.fieldLink RX1 9 "Rackrail$Rail" "doubts" "[Z") (by decide +kernel)) (fun _ h9 => h9) rfl dX1_hasDoubt_10 ?_
    refine lv_iload_n hx hb dX1_hasDoubt_13 rfl (lv_at hl 1 rfl) ?_
    refine va_zald hx hb hE.1 hP 1 1 rfl rfl (in_below rfl (by decide) c_6) dX1_hasDoubt_14 ?_
    refine lv_if_eq (tgt := 22) hx hb dX1_hasDoubt_15 (by decide) (fun c_15 => ?_) (fun c_15 => ?_)
    · refine lv_iconst (v := 0) hx hb dX1_hasDoubt_22 (by decide) ?_
      have hq : f_X1_hasDoubt db p0 = 0 := (by rw [f_X1_hasDoubt, if_neg c_6, if_pos c_15])
      exact W.zret (v := 0) hx hb hr rfl (fun t ht _ => ⟨by rw [hq], ht⟩) (fun _ h => nomatch h) dX1_hasDoubt_23
    · refine lv_iconst (v := 1) hx hb dX1_hasDoubt_18 (by decide) ?_
      refine lv_goto (tgt := 23) hx hb dX1_hasDoubt_19 (by decide) ?_
      have hq : f_X1_hasDoubt db p0 = 1 := (by rw [f_X1_hasDoubt, if_neg c_6, if_neg c_15])
      exact W.zret (v := 1) hx hb hr rfl (fun t ht _ => ⟨by rw [hq], ht⟩) (fun _ h => nomatch h) dX1_hasDoubt_23

/-! X1_mayOpen -/
def f_X1_mayOpen (gp : Int32) (tg : Int32) (st : Int32) (sm : Int32) (db : Nat → Int32) (ins : Nat → Int32) : Int32 :=
  if (f_X1_openAisle gp tg) = (-1) then 0
    else if (f_X1_countInside ins) = 0 then (if (f_X1_hasDoubt db (f_X1_openAisle gp tg)) = 0 then (if st = 0 then (if sm = 0 then 1
          else 0)
        else 0)
      else 0)
    else 0
theorem b_X1_mayOpen (gp : Int32) (tg : Int32) (st : Int32) (sm : Int32) (db : Nat → Int32) (ins : Nat → Int32) : f_X1_mayOpen gp tg st sm db ins = 0 ∨ f_X1_mayOpen gp tg st sm db ins = 1 := by
  rw [f_X1_mayOpen]
  (repeat' split) <;> first | exact Or.inl rfl | exact Or.inr rfl | exact b_X1_hasDoubt _ _
theorem iw_X1_mayOpen_RX1 : ∀ w ∈ u_ws RX1 TX1 7, w ∈ wsX1_mayOpen := by decide +kernel
set_option maxHeartbeats 4000000 in
set_option maxRecDepth 100000 in
theorem c_X1_mayOpen (l : Launch) (G : GT) (a : Nat → Nat) (sz : Nat) (gp : Int32) (tg : Int32) (st : Int32) (sm : Int32) (db : Nat → Int32) (ins : Nat → Int32) : Met l yX1_mayOpen wsX1_mayOpen ({ frames := 2, cells := 0, slots := 0, locals := 42 }) (GP G [.ref (a 7)] [wcR a gp tg st sm, wcZ G (a 8) 7 db, wcZ G (a 9) 4 ins] sz) (PQo (.returned (some (.int (f_X1_mayOpen gp tg st sm db ins))))) 0 0 (fun _ => False) := by
  refine bodyM (cc := cX1_mayOpen) (maxL := 2) (ret := (some .boolean)) (by decide) rfl (Nat.le_of_ble_eq_true rfl) ?_
  intro p e s m below meth c ls C
  obtain ⟨hx, hb, hr, hts, hown, hlocks, hml, hsz, hP, hE, hD, hA, hS, hl⟩ := C
  subst hsz
  have hl : lv_has ls 2 [(0, .ref (a 7))] := hl
  refine lv_aload_n hx hb dX1_mayOpen_0 rfl (lv_at hl 0 rfl) ?_
  refine k_p (va_runV (As := []) (rest := []) ⟨hx, hb, hml, hown, hts⟩ (c_X1_openAisle l G a s.heap.size gp tg st sm) (cwV 0 hts gX1_mayOpen_X1_openAisle rfl rfl rfl ⟨rfl, by decide +kernel, by decide +kernel, by decide +kernel⟩ ⟨Nat.le_of_ble_eq_true rfl, Nat.le_of_ble_eq_true rfl⟩) ⟨GP.blind, va_recv hE.1 hP (ci := 1) (q0 := 0) rfl rfl, GP.go (wc := [wcR a gp tg st sm]) hE hP hD hS hA [0] rfl (by decide) [.ref (a 7)]⟩ rfl rfl hl.1 rfl (lv_room (Nat.le_of_ble_eq_true rfl)) dX1_mayOpen_1 ⟨Nat.le_of_ble_eq_true rfl, Nat.le_of_ble_eq_true rfl⟩) ?_
  refine lv_istore_n (lv' := [(1, .int (f_X1_openAisle gp tg)), (0, .ref (a 7))]) hx hb dX1_mayOpen_4 rfl hl (by decide) rfl (fun ls hl => ?_)
  refine lv_iload_n hx hb dX1_mayOpen_5 rfl (lv_at hl 0 rfl) ?_
  refine lv_iconst (v := (-1)) hx hb dX1_mayOpen_6 (by decide) ?_
  refine lv_icmp_eq (tgt := 43) hx hb dX1_mayOpen_7 (by decide) (fun c_7 => ?_) (fun c_7 => ?_)
  · refine lv_iconst (v := 0) hx hb dX1_mayOpen_43 (by decide) ?_
    have hq : f_X1_mayOpen gp tg st sm db ins = 0 := (by rw [f_X1_mayOpen, if_pos c_7])
    exact W.zret (v := 0) hx hb hr rfl (fun t ht _ => ⟨by rw [hq], ht⟩) (fun _ h => nomatch h) dX1_mayOpen_44
  · refine lv_aload_n hx hb dX1_mayOpen_10 rfl (lv_at hl 1 rfl) ?_
    refine k_p (va_runV (As := []) (rest := []) ⟨hx, hb, hml, hown, hts⟩ (c_X1_countInside l G a s.heap.size gp tg st sm ins) (cwV 0 hts gX1_mayOpen_X1_countInside rfl rfl rfl ⟨rfl, by decide +kernel, by decide +kernel, by decide +kernel⟩ ⟨Nat.le_of_ble_eq_true rfl, Nat.le_of_ble_eq_true rfl⟩) ⟨GP.blind, va_recv hE.1 hP (ci := 1) (q0 := 0) rfl rfl, GP.go (wc := [wcR a gp tg st sm, wcZ G (a 9) 4 ins]) hE hP hD hS hA [0, 2] rfl (by decide) [.ref (a 7)]⟩ rfl rfl hl.1 rfl (lv_room (Nat.le_of_ble_eq_true rfl)) dX1_mayOpen_11 ⟨Nat.le_of_ble_eq_true rfl, Nat.le_of_ble_eq_true rfl⟩) ?_
    refine lv_if_ne (tgt := 43) hx hb dX1_mayOpen_14 (by decide) (fun c_14 => ?_) (fun c_14 => ?_)
    · refine lv_iconst (v := 0) hx hb dX1_mayOpen_43 (by decide) ?_
      have hq : f_X1_mayOpen gp tg st sm db ins = 0 := (by rw [f_X1_mayOpen, if_neg c_7, if_neg c_14])
      exact W.zret (v := 0) hx hb hr rfl (fun t ht _ => ⟨by rw [hq], ht⟩) (fun _ h => nomatch h) dX1_mayOpen_44
    · refine lv_aload_n hx hb dX1_mayOpen_17 rfl (lv_at hl 1 rfl) ?_
      refine lv_iload_n hx hb dX1_mayOpen_18 rfl (lv_at hl 0 rfl) ?_
      refine k_p (va_runV (As := [.int (f_X1_openAisle gp tg)]) (rest := []) ⟨hx, hb, hml, hown, hts⟩ (c_X1_hasDoubt l G a s.heap.size gp tg st sm db (f_X1_openAisle gp tg)) (cwV 1 hts gX1_mayOpen_X1_hasDoubt rfl rfl rfl ⟨rfl, by decide +kernel, by decide +kernel, by decide +kernel⟩ ⟨Nat.le_of_ble_eq_true rfl, Nat.le_of_ble_eq_true rfl⟩) ⟨GP.blind, va_recv hE.1 hP (ci := 1) (q0 := 0) rfl rfl, GP.go (wc := [wcR a gp tg st sm, wcZ G (a 8) 7 db]) hE hP hD hS hA [0, 1] rfl (by decide) [.ref (a 7), .int (f_X1_openAisle gp tg)]⟩ rfl rfl hl.1 rfl (lv_room (Nat.le_of_ble_eq_true rfl)) dX1_mayOpen_19 ⟨Nat.le_of_ble_eq_true rfl, Nat.le_of_ble_eq_true rfl⟩) ?_
      refine lv_if_ne (tgt := 43) hx hb dX1_mayOpen_22 (by decide) (fun c_22 => ?_) (fun c_22 => ?_)
      · refine lv_iconst (v := 0) hx hb dX1_mayOpen_43 (by decide) ?_
        have hq : f_X1_mayOpen gp tg st sm db ins = 0 := (by rw [f_X1_mayOpen, if_neg c_7, if_pos c_14, if_neg c_22])
        exact W.zret (v := 0) hx hb hr rfl (fun t ht _ => ⟨by rw [hq], ht⟩) (fun _ h => nomatch h) dX1_mayOpen_44
      · refine lv_aload_n hx hb dX1_mayOpen_25 rfl (lv_at hl 1 rfl) ?_
        refine va_get (D := G.1) (ci := 1) (v := .int st) (C := RX1) (T := TX1) (N := 7) hx hb hts iw_X1_mayOpen_RX1 hown hE.1 hP 0 rfl rfl 5 (by decide) (hts (.fieldLink RX1 29 "Rackrail$Rail" "stalled" "Z") (by decide +kernel)) (fun _ h9 => h9) rfl dX1_mayOpen_26 ?_
        refine lv_if_ne (tgt := 43) hx hb dX1_mayOpen_29 (by decide) (fun c_29 => ?_) (fun c_29 => ?_)
        · refine lv_iconst (v := 0) hx hb dX1_mayOpen_43 (by decide) ?_
          have hq : f_X1_mayOpen gp tg st sm db ins = 0 := (by rw [f_X1_mayOpen, if_neg c_7, if_pos c_14, if_pos c_22, if_neg c_29])
          exact W.zret (v := 0) hx hb hr rfl (fun t ht _ => ⟨by rw [hq], ht⟩) (fun _ h => nomatch h) dX1_mayOpen_44
        · refine lv_aload_n hx hb dX1_mayOpen_32 rfl (lv_at hl 1 rfl) ?_
          refine va_get (D := G.1) (ci := 1) (v := .int sm) (C := RX1) (T := TX1) (N := 7) hx hb hts iw_X1_mayOpen_RX1 hown hE.1 hP 0 rfl rfl 6 (by decide) (hts (.fieldLink RX1 33 "Rackrail$Rail" "smoky" "Z") (by decide +kernel)) (fun _ h9 => h9) rfl dX1_mayOpen_33 ?_
          refine lv_if_ne (tgt := 43) hx hb dX1_mayOpen_36 (by decide) (fun c_36 => ?_) (fun c_36 => ?_)
          · refine lv_iconst (v := 0) hx hb dX1_mayOpen_43 (by decide) ?_
            have hq : f_X1_mayOpen gp tg st sm db ins = 0 := (by rw [f_X1_mayOpen, if_neg c_7, if_pos c_14, if_pos c_22, if_pos c_29, if_neg c_36])
            exact W.zret (v := 0) hx hb hr rfl (fun t ht _ => ⟨by rw [hq], ht⟩) (fun _ h => nomatch h) dX1_mayOpen_44
          · refine lv_iconst (v := 1) hx hb dX1_mayOpen_39 (by decide) ?_
            refine lv_goto (tgt := 44) hx hb dX1_mayOpen_40 (by decide) ?_
            have hq : f_X1_mayOpen gp tg st sm db ins = 1 := (by rw [f_X1_mayOpen, if_neg c_7, if_pos c_14, if_pos c_22, if_pos c_29, if_pos c_36])
            exact W.zret (v := 1) hx hb hr rfl (fun t ht _ => ⟨by rw [hq], ht⟩) (fun _ h => nomatch h) dX1_mayOpen_44

/-! X1_mayGoIn -/
def f_X1_mayGoIn (gp : Int32) (tg : Int32) (sm : Int32) : Int32 :=
  if (f_X1_openAisle gp tg) = (-1) then 0
    else if sm = 0 then 1
    else 0
theorem b_X1_mayGoIn (gp : Int32) (tg : Int32) (sm : Int32) : f_X1_mayGoIn gp tg sm = 0 ∨ f_X1_mayGoIn gp tg sm = 1 := by
  rw [f_X1_mayGoIn]
  (repeat' split) <;> first | exact Or.inl rfl | exact Or.inr rfl
theorem iw_X1_mayGoIn_RX1 : ∀ w ∈ u_ws RX1 TX1 7, w ∈ wsX1_mayGoIn := by decide +kernel
set_option maxHeartbeats 4000000 in
set_option maxRecDepth 100000 in
theorem c_X1_mayGoIn (l : Launch) (G : GT) (a : Nat → Nat) (sz : Nat) (gp : Int32) (tg : Int32) (st : Int32) (sm : Int32) : Met l yX1_mayGoIn wsX1_mayGoIn ({ frames := 1, cells := 0, slots := 0, locals := 20 }) (GP G [.ref (a 7)] [wcR a gp tg st sm] sz) (PQo (.returned (some (.int (f_X1_mayGoIn gp tg sm))))) 0 0 (fun _ => False) := by
  refine bodyM (cc := cX1_mayGoIn) (maxL := 1) (ret := (some .boolean)) (by decide) rfl (Nat.le_of_ble_eq_true rfl) ?_
  intro p e s m below meth c ls C
  obtain ⟨hx, hb, hr, hts, hown, hlocks, hml, hsz, hP, hE, hD, hA, hS, hl⟩ := C
  subst hsz
  have hl : lv_has ls 1 [(0, .ref (a 7))] := hl
  refine lv_aload_n hx hb dX1_mayGoIn_0 rfl (lv_at hl 0 rfl) ?_
  refine k_p (va_runV (As := []) (rest := []) ⟨hx, hb, hml, hown, hts⟩ (c_X1_openAisle l G a s.heap.size gp tg st sm) (cwV 0 hts gX1_mayGoIn_X1_openAisle rfl rfl rfl ⟨rfl, by decide +kernel, by decide +kernel, by decide +kernel⟩ ⟨Nat.le_of_ble_eq_true rfl, Nat.le_of_ble_eq_true rfl⟩) ⟨GP.blind, va_recv hE.1 hP (ci := 1) (q0 := 0) rfl rfl, GP.go (wc := [wcR a gp tg st sm]) hE hP hD hS hA [0] rfl (by decide) [.ref (a 7)]⟩ rfl rfl hl.1 rfl (lv_room (Nat.le_of_ble_eq_true rfl)) dX1_mayGoIn_1 ⟨Nat.le_of_ble_eq_true rfl, Nat.le_of_ble_eq_true rfl⟩) ?_
  refine lv_iconst (v := (-1)) hx hb dX1_mayGoIn_4 (by decide) ?_
  refine lv_icmp_eq (tgt := 19) hx hb dX1_mayGoIn_5 (by decide) (fun c_5 => ?_) (fun c_5 => ?_)
  · refine lv_iconst (v := 0) hx hb dX1_mayGoIn_19 (by decide) ?_
    have hq : f_X1_mayGoIn gp tg sm = 0 := (by rw [f_X1_mayGoIn, if_pos c_5])
    exact W.zret (v := 0) hx hb hr rfl (fun t ht _ => ⟨by rw [hq], ht⟩) (fun _ h => nomatch h) dX1_mayGoIn_20
  · refine lv_aload_n hx hb dX1_mayGoIn_8 rfl (lv_at hl 0 rfl) ?_
    refine va_get (D := G.1) (ci := 1) (v := .int sm) (C := RX1) (T := TX1) (N := 7) hx hb hts iw_X1_mayGoIn_RX1 hown hE.1 hP 0 rfl rfl 6 (by decide) (hts (.fieldLink RX1 33 "Rackrail$Rail" "smoky" "Z") (by decide +kernel)) (fun _ h9 => h9) rfl dX1_mayGoIn_9 ?_
    refine lv_if_ne (tgt := 19) hx hb dX1_mayGoIn_12 (by decide) (fun c_12 => ?_) (fun c_12 => ?_)
    · refine lv_iconst (v := 0) hx hb dX1_mayGoIn_19 (by decide) ?_
      have hq : f_X1_mayGoIn gp tg sm = 0 := (by rw [f_X1_mayGoIn, if_neg c_5, if_neg c_12])
      exact W.zret (v := 0) hx hb hr rfl (fun t ht _ => ⟨by rw [hq], ht⟩) (fun _ h => nomatch h) dX1_mayGoIn_20
    · refine lv_iconst (v := 1) hx hb dX1_mayGoIn_15 (by decide) ?_
      refine lv_goto (tgt := 20) hx hb dX1_mayGoIn_16 (by decide) ?_
      have hq : f_X1_mayGoIn gp tg sm = 1 := (by rw [f_X1_mayGoIn, if_neg c_5, if_pos c_12])
      exact W.zret (v := 1) hx hb hr rfl (fun t ht _ => ⟨by rw [hq], ht⟩) (fun _ h => nomatch h) dX1_mayGoIn_20

/-! X1_aimAt -/
def f_X1_aimAt (p0 : Int32) : Int32 :=
  p0
theorem iw_X1_aimAt_RX1 : ∀ w ∈ u_ws RX1 TX1 7, w ∈ wsX1_aimAt := by decide +kernel
set_option maxHeartbeats 4000000 in
set_option maxRecDepth 100000 in
theorem c_X1_aimAt (l : Launch) (G : GT) (a : Nat → Nat) (sz : Nat) (gp : Int32) (tg : Int32) (st : Int32) (sm : Int32) (p0 : Int32) : Met l yX1_aimAt wsX1_aimAt ({ frames := 0, cells := 0, slots := 0, locals := 0 }) (GP G [.ref (a 7), .int p0] [wcR a gp tg st sm] sz) (MQo G (.returned none) [wcR a gp (f_X1_aimAt p0) st sm] (va_A [wcR a gp tg st sm] sz)) 0 0 (va_A [wcR a gp tg st sm] sz) := by
  refine bodyM (cc := cX1_aimAt) (maxL := 2) (ret := none) (by decide) rfl (Nat.le_of_ble_eq_true rfl) ?_
  intro p e s m below meth c ls C
  obtain ⟨hx, hb, hr, hts, hown, hlocks, hml, hsz, hP, hE, hD, hA, hS, hl⟩ := C
  subst hsz
  have hl : lv_has ls 2 [(0, .ref (a 7)), (1, .int p0)] := hl
  refine lv_aload_n hx hb dX1_aimAt_0 rfl (lv_at hl 0 rfl) ?_
  refine lv_iload_n hx hb dX1_aimAt_1 rfl (lv_at hl 1 rfl) ?_
  refine va_put (D := G.1) (ci := 1) (v := .int p0) (ty := .int) (C := RX1) (T := TX1) (N := 7) hx hb hts iw_X1_aimAt_RX1 tyX1 tyX1_ok nmX1 hown hE.1 hP hD hS 0 rfl rfl 4 (by decide) (hts (.fieldLink RX1 26 "Rackrail$Rail" "target" "I") (by decide +kernel)) (fun _ h9 => h9) rfl (by decide +kernel) rfl rfl (Nat.le_of_ble_eq_true rfl) dX1_aimAt_2 (fun H locs hP hD hS => ?_)
  have hP : va_P G.1 vwCl [wcR a gp p0 st sm] H := hP
  have hD : va_D _ [wcR a gp p0 st sm] := hD
  have hq : f_X1_aimAt p0 = p0 := (by rw [f_X1_aimAt])
  exact W.vret hx hb hr (fun t ht _ => ⟨rfl, by rw [hq, ht]; exact hP, hS.F ht⟩) hS.2.2 dX1_aimAt_5

/-! X1_movesToCome -/
def f_X1_movesToCome (gp : Int32) (tg : Int32) : Int32 :=
  if 0 ≤ (tg - gp) then (tg - gp) else 0 - (tg - gp)
theorem iw_X1_movesToCome_RX1 : ∀ w ∈ u_ws RX1 TX1 7, w ∈ wsX1_movesToCome := by decide +kernel
set_option maxHeartbeats 4000000 in
set_option maxRecDepth 100000 in
theorem c_X1_movesToCome (l : Launch) (G : GT) (a : Nat → Nat) (sz : Nat) (gp : Int32) (tg : Int32) (st : Int32) (sm : Int32) : Met l yX1_movesToCome wsX1_movesToCome ({ frames := 1, cells := 0, slots := 0, locals := 20 }) (GP G [.ref (a 7)] [wcR a gp tg st sm] sz) (PQo (.returned (some (.int (f_X1_movesToCome gp tg))))) 0 0 (fun _ => False) := by
  refine bodyM (cc := cX1_movesToCome) (maxL := 1) (ret := (some .int)) (by decide) rfl (Nat.le_of_ble_eq_true rfl) ?_
  intro p e s m below meth c ls C
  obtain ⟨hx, hb, hr, hts, hown, hlocks, hml, hsz, hP, hE, hD, hA, hS, hl⟩ := C
  subst hsz
  have hl : lv_has ls 1 [(0, .ref (a 7))] := hl
  refine lv_aload_n hx hb dX1_movesToCome_0 rfl (lv_at hl 0 rfl) ?_
  refine va_get (D := G.1) (ci := 1) (v := .int tg) (C := RX1) (T := TX1) (N := 7) hx hb hts iw_X1_movesToCome_RX1 hown hE.1 hP 0 rfl rfl 4 (by decide) (hts (.fieldLink RX1 26 "Rackrail$Rail" "target" "I") (by decide +kernel)) (fun _ h9 => h9) rfl dX1_movesToCome_1 ?_
  refine lv_aload_n hx hb dX1_movesToCome_4 rfl (lv_at hl 0 rfl) ?_
  refine va_get (D := G.1) (ci := 1) (v := .int gp) (C := RX1) (T := TX1) (N := 7) hx hb hts iw_X1_movesToCome_RX1 hown hE.1 hP 0 rfl rfl 3 (by decide) (hts (.fieldLink RX1 22 "Rackrail$Rail" "gap" "I") (by decide +kernel)) (fun _ h9 => h9) rfl dX1_movesToCome_5 ?_
  refine lv_isub hx hb dX1_movesToCome_8 ?_
  refine va_mabs hx hb (hml.trans hl.1.symm) hown (hts (.methodLink RX1 47 Lib.Math.abs.name) (by decide +kernel)) (hts (.static Lib.Math.abs.name) (by decide +kernel)) (hts (.initialized "java/lang/Math") (by decide +kernel)) (hts (.code Lib.Math.abs.name Lib.Math.abs.code 1 (some .int)) (by decide +kernel)) (Nat.le_of_ble_eq_true rfl) (Nat.le_of_ble_eq_true rfl) (Nat.le_of_ble_eq_true rfl) (Nat.le_of_ble_eq_true rfl) dX1_movesToCome_9 ?_
  have hq : f_X1_movesToCome gp tg = (if 0 ≤ (tg - gp) then (tg - gp) else 0 - (tg - gp)) := (by rw [f_X1_movesToCome])
  exact W.iret (v := if 0 ≤ (tg - gp) then (tg - gp) else 0 - (tg - gp)) hx hb hr (fun t ht _ => ⟨by rw [hq], ht⟩) (fun _ h => nomatch h) dX1_movesToCome_12

/-! X1_moveOne -/
def f_X1_moveOne (gp : Int32) (tg : Int32) (mv : Nat → Int32) : Int32 × (Nat → Int32) :=
  if tg ≤ gp then (if (f_X3_isBelow (gp - 1) 6) = 0 then (gp, mv)
      else (gp - 1, upd mv (gp - 1).toNatClampNeg ((mv (gp - 1).toNatClampNeg) + 1)))
    else if (f_X3_isBelow gp 6) = 0 then (gp, mv)
    else (gp + 1, upd mv gp.toNatClampNeg ((mv gp.toNatClampNeg) + 1))
theorem iw_X1_moveOne_RX1 : ∀ w ∈ u_ws RX1 TX1 7, w ∈ wsX1_moveOne := by decide +kernel
set_option maxHeartbeats 4000000 in
set_option maxRecDepth 100000 in
theorem c_X1_moveOne (l : Launch) (G : GT) (a : Nat → Nat) (sz : Nat) (gp : Int32) (tg : Int32) (st : Int32) (sm : Int32) (mv : Nat → Int32) : Met l yX1_moveOne wsX1_moveOne ({ frames := 1, cells := 0, slots := 0, locals := 21 }) (GP G [.ref (a 7)] [wcR a gp tg st sm, wcI G (a 10) 6 mv] sz) (MQo G (.returned none) [wcR a ((f_X1_moveOne gp tg mv).1) tg st sm, wcI G (a 10) 6 ((f_X1_moveOne gp tg mv).2)] (va_A [wcR a gp tg st sm, wcI G (a 10) 6 mv] sz)) 0 0 (va_A [wcR a gp tg st sm, wcI G (a 10) 6 mv] sz) := by
  refine bodyM (cc := cX1_moveOne) (maxL := 3) (ret := none) (by decide) rfl (Nat.le_of_ble_eq_true rfl) ?_
  intro p e s m below meth c ls C
  obtain ⟨hx, hb, hr, hts, hown, hlocks, hml, hsz, hP, hE, hD, hA, hS, hl⟩ := C
  subst hsz
  have hl : lv_has ls 3 [(0, .ref (a 7))] := hl
  refine lv_aload_n hx hb dX1_moveOne_0 rfl (lv_at hl 0 rfl) ?_
  refine va_get (D := G.1) (ci := 1) (v := .int gp) (C := RX1) (T := TX1) (N := 7) hx hb hts iw_X1_moveOne_RX1 hown hE.1 hP 0 rfl rfl 3 (by decide) (hts (.fieldLink RX1 22 "Rackrail$Rail" "gap" "I") (by decide +kernel)) (fun _ h9 => h9) rfl dX1_moveOne_1 ?_
  refine lv_aload_n hx hb dX1_moveOne_4 rfl (lv_at hl 0 rfl) ?_
  refine va_get (D := G.1) (ci := 1) (v := .int tg) (C := RX1) (T := TX1) (N := 7) hx hb hts iw_X1_moveOne_RX1 hown hE.1 hP 0 rfl rfl 4 (by decide) (hts (.fieldLink RX1 26 "Rackrail$Rail" "target" "I") (by decide +kernel)) (fun _ h9 => h9) rfl dX1_moveOne_5 ?_
  refine lv_icmp_ge (tgt := 15) hx hb dX1_moveOne_8 (by decide) (fun c_8 => ?_) (fun c_8 => ?_)
  · refine lv_iconst (v := 0) hx hb dX1_moveOne_15 (by decide) ?_
    refine lv_istore_n (lv' := [(1, .int 0), (0, .ref (a 7))]) hx hb dX1_moveOne_16 rfl hl (by decide) rfl (fun ls hl => ?_)
    refine lv_iload_n hx hb dX1_moveOne_17 rfl (lv_at hl 0 rfl) ?_
    refine lv_if_eq (tgt := 28) hx hb dX1_moveOne_18 (by decide) (fun c_18 => ?_) (fun c_18 => absurd (by decide) c_18)
    refine lv_aload_n hx hb dX1_moveOne_28 rfl (lv_at hl 1 rfl) ?_
    refine va_get (D := G.1) (ci := 1) (v := .int gp) (C := RX1) (T := TX1) (N := 7) hx hb hts iw_X1_moveOne_RX1 hown hE.1 hP 0 rfl rfl 3 (by decide) (hts (.fieldLink RX1 22 "Rackrail$Rail" "gap" "I") (by decide +kernel)) (fun _ h9 => h9) rfl dX1_moveOne_29 ?_
    refine lv_iconst (v := 1) hx hb dX1_moveOne_32 (by decide) ?_
    refine lv_isub hx hb dX1_moveOne_33 ?_
    refine lv_istore_n (lv' := [(2, .int (gp - 1)), (1, .int 0), (0, .ref (a 7))]) hx hb dX1_moveOne_34 rfl hl (by decide) rfl (fun ls hl => ?_)
    refine lv_iload_n hx hb dX1_moveOne_35 rfl (lv_at hl 0 rfl) ?_
    refine lv_bipush (v := 6) hx hb dX1_moveOne_36 (by decide) ?_
    refine k_p (va_runSN (As := [.int (gp - 1), .int 6]) (rest := []) ⟨hx, hb, hml, hown, hts⟩ (c_X3_isBelow l G s.heap.size (gp - 1) 6) ⟨va_cnB (host := "Rackrail") 2 hts gX1_moveOne_X3_isBelow_n63 rfl rfl rfl (hE.2.1 (RX1, 63, yX3_isBelow) (by decide)) (hts (.initialized RX3) (by decide +kernel)) ⟨by decide +kernel, by decide +kernel, by decide +kernel⟩ ⟨Nat.le_of_ble_eq_true rfl, Nat.le_of_ble_eq_true rfl⟩, hts (.static yX3_isBelow) (by decide +kernel), trivial⟩ ⟨GP.blind, GP.go (wc := []) hE hP hD hS hA [] rfl (by decide) [.int (gp - 1), .int 6]⟩ rfl rfl hl.1 rfl (lv_room (Nat.le_of_ble_eq_true rfl)) dX1_moveOne_38 ⟨Nat.le_of_ble_eq_true rfl, Nat.le_of_ble_eq_true rfl⟩) ?_
    refine lv_if_eq (tgt := 77) hx hb dX1_moveOne_41 (by decide) (fun c_41 => ?_) (fun c_41 => ?_)
    · have hq : f_X1_moveOne gp tg mv = (gp, mv) := (by rw [f_X1_moveOne, if_pos c_8, if_pos c_41])
      exact W.vret hx hb hr (fun t ht _ => ⟨rfl, by rw [hq, ht]; exact hP, hS.F ht⟩) hS.2.2 dX1_moveOne_77
    · refine lv_aload_n hx hb dX1_moveOne_44 rfl (lv_at hl 2 rfl) ?_
      refine va_get (D := G.1) (ci := 1) (v := .ref (a 10)) (C := RX1) (T := TX1) (N := 7) hx hb hts iw_X1_moveOne_RX1 hown hE.1 hP 0 rfl rfl 2 (by decide) (hts (.fieldLink RX1 18 "Rackrail$Rail" "moves" "[I") (by decide +kernel)) (fun _ h9 => h9) rfl dX1_moveOne_45 ?_
      refine lv_iload_n hx hb dX1_moveOne_48 rfl (lv_at hl 0 rfl) ?_
      refine lv_dup2_11 hx hb dX1_moveOne_49 rfl rfl ?_
      refine va_iald hx hb hE.1 hP 1 0 rfl rfl (in_below rfl (by decide) c_41) dX1_moveOne_50 ?_
      refine lv_iconst (v := 1) hx hb dX1_moveOne_51 (by decide) ?_
      refine lv_iadd hx hb dX1_moveOne_52 ?_
      refine va_iast hx hb hE.1 hP hD hS 1 0 rfl rfl (in_below rfl (by decide) c_41) dX1_moveOne_53 (fun H locs hP hD hS => ?_)
      have hP : va_P G.1 vwCl [wcR a gp tg st sm, wcI G (a 10) 6 (upd mv (gp - 1).toNatClampNeg ((mv (gp - 1).toNatClampNeg) + 1))] H := hP
      have hD : va_D _ [wcR a gp tg st sm, wcI G (a 10) 6 (upd mv (gp - 1).toNatClampNeg ((mv (gp - 1).toNatClampNeg) + 1))] := hD
      refine lv_aload_n hx hb dX1_moveOne_54 rfl (lv_at hl 2 rfl) ?_
      refine lv_iload_n hx hb dX1_moveOne_55 rfl (lv_at hl 1 rfl) ?_
      refine lv_if_eq (tgt := 68) hx hb dX1_moveOne_56 (by decide) (fun c_56 => ?_) (fun c_56 => absurd (by decide) c_56)
      refine lv_aload_n hx hb dX1_moveOne_68 rfl (lv_at hl 2 rfl) ?_
      refine va_get (D := G.1) (ci := 1) (v := .int gp) (C := RX1) (T := TX1) (N := 7) hx hb hts iw_X1_moveOne_RX1 hown hE.1 hP 0 rfl rfl 3 (by decide) (hts (.fieldLink RX1 22 "Rackrail$Rail" "gap" "I") (by decide +kernel)) (fun _ h9 => h9) rfl dX1_moveOne_69 ?_
      refine lv_iconst (v := 1) hx hb dX1_moveOne_72 (by decide) ?_
      refine lv_isub hx hb dX1_moveOne_73 ?_
      refine va_put (D := G.1) (ci := 1) (v := .int (gp - 1)) (ty := .int) (C := RX1) (T := TX1) (N := 7) hx hb hts iw_X1_moveOne_RX1 tyX1 tyX1_ok nmX1 hown hE.1 hP hD hS 0 rfl rfl 3 (by decide) (hts (.fieldLink RX1 22 "Rackrail$Rail" "gap" "I") (by decide +kernel)) (fun _ h9 => h9) rfl (by decide +kernel) rfl rfl (Nat.le_of_ble_eq_true rfl) dX1_moveOne_74 (fun H locs hP hD hS => ?_)
      have hP : va_P G.1 vwCl [wcR a (gp - 1) tg st sm, wcI G (a 10) 6 (upd mv (gp - 1).toNatClampNeg ((mv (gp - 1).toNatClampNeg) + 1))] H := hP
      have hD : va_D _ [wcR a (gp - 1) tg st sm, wcI G (a 10) 6 (upd mv (gp - 1).toNatClampNeg ((mv (gp - 1).toNatClampNeg) + 1))] := hD
      have hq : f_X1_moveOne gp tg mv = (gp - 1, upd mv (gp - 1).toNatClampNeg ((mv (gp - 1).toNatClampNeg) + 1)) := (by rw [f_X1_moveOne, if_pos c_8, if_neg c_41])
      exact W.vret hx hb hr (fun t ht _ => ⟨rfl, by rw [hq, ht]; exact hP, hS.F ht⟩) hS.2.2 dX1_moveOne_77
  · refine lv_iconst (v := 1) hx hb dX1_moveOne_11 (by decide) ?_
    refine lv_goto (tgt := 16) hx hb dX1_moveOne_12 (by decide) ?_
    refine lv_istore_n (lv' := [(1, .int 1), (0, .ref (a 7))]) hx hb dX1_moveOne_16 rfl hl (by decide) rfl (fun ls hl => ?_)
    refine lv_iload_n hx hb dX1_moveOne_17 rfl (lv_at hl 0 rfl) ?_
    refine lv_if_eq (tgt := 28) hx hb dX1_moveOne_18 (by decide) (fun c_18 => absurd c_18 (by decide)) (fun c_18 => ?_)
    refine lv_aload_n hx hb dX1_moveOne_21 rfl (lv_at hl 1 rfl) ?_
    refine va_get (D := G.1) (ci := 1) (v := .int gp) (C := RX1) (T := TX1) (N := 7) hx hb hts iw_X1_moveOne_RX1 hown hE.1 hP 0 rfl rfl 3 (by decide) (hts (.fieldLink RX1 22 "Rackrail$Rail" "gap" "I") (by decide +kernel)) (fun _ h9 => h9) rfl dX1_moveOne_22 ?_
    refine lv_goto (tgt := 34) hx hb dX1_moveOne_25 (by decide) ?_
    refine lv_istore_n (lv' := [(2, .int gp), (1, .int 1), (0, .ref (a 7))]) hx hb dX1_moveOne_34 rfl hl (by decide) rfl (fun ls hl => ?_)
    refine lv_iload_n hx hb dX1_moveOne_35 rfl (lv_at hl 0 rfl) ?_
    refine lv_bipush (v := 6) hx hb dX1_moveOne_36 (by decide) ?_
    refine k_p (va_runSN (As := [.int gp, .int 6]) (rest := []) ⟨hx, hb, hml, hown, hts⟩ (c_X3_isBelow l G s.heap.size gp 6) ⟨va_cnB (host := "Rackrail") 2 hts gX1_moveOne_X3_isBelow_n63 rfl rfl rfl (hE.2.1 (RX1, 63, yX3_isBelow) (by decide)) (hts (.initialized RX3) (by decide +kernel)) ⟨by decide +kernel, by decide +kernel, by decide +kernel⟩ ⟨Nat.le_of_ble_eq_true rfl, Nat.le_of_ble_eq_true rfl⟩, hts (.static yX3_isBelow) (by decide +kernel), trivial⟩ ⟨GP.blind, GP.go (wc := []) hE hP hD hS hA [] rfl (by decide) [.int gp, .int 6]⟩ rfl rfl hl.1 rfl (lv_room (Nat.le_of_ble_eq_true rfl)) dX1_moveOne_38 ⟨Nat.le_of_ble_eq_true rfl, Nat.le_of_ble_eq_true rfl⟩) ?_
    refine lv_if_eq (tgt := 77) hx hb dX1_moveOne_41 (by decide) (fun c_41 => ?_) (fun c_41 => ?_)
    · have hq : f_X1_moveOne gp tg mv = (gp, mv) := (by rw [f_X1_moveOne, if_neg c_8, if_pos c_41])
      exact W.vret hx hb hr (fun t ht _ => ⟨rfl, by rw [hq, ht]; exact hP, hS.F ht⟩) hS.2.2 dX1_moveOne_77
    · refine lv_aload_n hx hb dX1_moveOne_44 rfl (lv_at hl 2 rfl) ?_
      refine va_get (D := G.1) (ci := 1) (v := .ref (a 10)) (C := RX1) (T := TX1) (N := 7) hx hb hts iw_X1_moveOne_RX1 hown hE.1 hP 0 rfl rfl 2 (by decide) (hts (.fieldLink RX1 18 "Rackrail$Rail" "moves" "[I") (by decide +kernel)) (fun _ h9 => h9) rfl dX1_moveOne_45 ?_
      refine lv_iload_n hx hb dX1_moveOne_48 rfl (lv_at hl 0 rfl) ?_
      refine lv_dup2_11 hx hb dX1_moveOne_49 rfl rfl ?_
      refine va_iald hx hb hE.1 hP 1 0 rfl rfl (in_below rfl (by decide) c_41) dX1_moveOne_50 ?_
      refine lv_iconst (v := 1) hx hb dX1_moveOne_51 (by decide) ?_
      refine lv_iadd hx hb dX1_moveOne_52 ?_
      refine va_iast hx hb hE.1 hP hD hS 1 0 rfl rfl (in_below rfl (by decide) c_41) dX1_moveOne_53 (fun H locs hP hD hS => ?_)
      have hP : va_P G.1 vwCl [wcR a gp tg st sm, wcI G (a 10) 6 (upd mv gp.toNatClampNeg ((mv gp.toNatClampNeg) + 1))] H := hP
      have hD : va_D _ [wcR a gp tg st sm, wcI G (a 10) 6 (upd mv gp.toNatClampNeg ((mv gp.toNatClampNeg) + 1))] := hD
      refine lv_aload_n hx hb dX1_moveOne_54 rfl (lv_at hl 2 rfl) ?_
      refine lv_iload_n hx hb dX1_moveOne_55 rfl (lv_at hl 1 rfl) ?_
      refine lv_if_eq (tgt := 68) hx hb dX1_moveOne_56 (by decide) (fun c_56 => absurd c_56 (by decide)) (fun c_56 => ?_)
      refine lv_aload_n hx hb dX1_moveOne_59 rfl (lv_at hl 2 rfl) ?_
      refine va_get (D := G.1) (ci := 1) (v := .int gp) (C := RX1) (T := TX1) (N := 7) hx hb hts iw_X1_moveOne_RX1 hown hE.1 hP 0 rfl rfl 3 (by decide) (hts (.fieldLink RX1 22 "Rackrail$Rail" "gap" "I") (by decide +kernel)) (fun _ h9 => h9) rfl dX1_moveOne_60 ?_
      refine lv_iconst (v := 1) hx hb dX1_moveOne_63 (by decide) ?_
      refine lv_iadd hx hb dX1_moveOne_64 ?_
      refine lv_goto (tgt := 74) hx hb dX1_moveOne_65 (by decide) ?_
      refine va_put (D := G.1) (ci := 1) (v := .int (gp + 1)) (ty := .int) (C := RX1) (T := TX1) (N := 7) hx hb hts iw_X1_moveOne_RX1 tyX1 tyX1_ok nmX1 hown hE.1 hP hD hS 0 rfl rfl 3 (by decide) (hts (.fieldLink RX1 22 "Rackrail$Rail" "gap" "I") (by decide +kernel)) (fun _ h9 => h9) rfl (by decide +kernel) rfl rfl (Nat.le_of_ble_eq_true rfl) dX1_moveOne_74 (fun H locs hP hD hS => ?_)
      have hP : va_P G.1 vwCl [wcR a (gp + 1) tg st sm, wcI G (a 10) 6 (upd mv gp.toNatClampNeg ((mv gp.toNatClampNeg) + 1))] H := hP
      have hD : va_D _ [wcR a (gp + 1) tg st sm, wcI G (a 10) 6 (upd mv gp.toNatClampNeg ((mv gp.toNatClampNeg) + 1))] := hD
      have hq : f_X1_moveOne gp tg mv = (gp + 1, upd mv gp.toNatClampNeg ((mv gp.toNatClampNeg) + 1)) := (by rw [f_X1_moveOne, if_neg c_8, if_neg c_41])
      exact W.vret hx hb hr (fun t ht _ => ⟨rfl, by rw [hq, ht]; exact hP, hS.F ht⟩) hS.2.2 dX1_moveOne_77

/-! X1_moveFor -/
def f_X1_moveFor_L (tg : Int32) : Nat → Nat → Int32 → (Nat → Int32) → Int32 × (Nat → Int32)
  | 0, j, gp1, mv1 => (gp1, mv1)
  | r + 1, j, gp1, mv1 => f_X1_moveFor_L tg r (j + 1) ((f_X1_moveOne gp1 tg mv1).1) ((f_X1_moveOne gp1 tg mv1).2)
def f_X1_moveFor (gp : Int32) (tg : Int32) (st : Int32) (sm : Int32) (mv : Nat → Int32) (p0 : Int32) : Int32 × (Nat → Int32) :=
  if st = 0 then (if sm = 0 then f_X1_moveFor_L tg ((if f_X1_movesToCome gp tg < p0 then f_X1_movesToCome gp tg else p0).toNatClampNeg) 0 gp mv
      else (gp, mv))
    else (gp, mv)
theorem pass_hst {gp tg p0 : Int32} (hmv : okN 6 (f_X1_movesToCome gp tg)) (h1 : ¬ p0 < 1) (h2 : p0 ≤ 100) : okN 100 (if f_X1_movesToCome gp tg < p0 then f_X1_movesToCome gp tg else p0) := by
  obtain ⟨q, hq, e⟩ := hmv
  have h0 : ¬ p0 < 0 := fun z => h1 (Int32.lt_trans z (by decide))
  obtain ⟨j, hj, rfl⟩ := nI_of h0
  have h3 : j ≤ 100 := (nI_leI hj (by decide)).mp h2
  by_cases c : f_X1_movesToCome gp tg < nI j
  · rw [if_pos c]; exact ⟨q, by omega, e⟩
  · rw [if_neg c]; exact ⟨j, h3, rfl⟩
theorem iw_X1_moveFor_RX1 : ∀ w ∈ u_ws RX1 TX1 7, w ∈ wsX1_moveFor := by decide +kernel
set_option maxHeartbeats 4000000 in
set_option maxRecDepth 100000 in
theorem c_X1_moveFor (l : Launch) (G : GT) (a : Nat → Nat) (sz : Nat) (gp : Int32) (tg : Int32) (st : Int32) (sm : Int32) (mv : Nat → Int32) (p0 : Int32) (hst : okN 100 (if f_X1_movesToCome gp tg < p0 then f_X1_movesToCome gp tg else p0)) : Met l yX1_moveFor wsX1_moveFor ({ frames := 2, cells := 0, slots := 0, locals := 43 }) (GP G [.ref (a 7), .int p0] [wcR a gp tg st sm, wcI G (a 10) 6 mv] sz) (MQo G (.returned none) [wcR a ((f_X1_moveFor gp tg st sm mv p0).1) tg st sm, wcI G (a 10) 6 ((f_X1_moveFor gp tg st sm mv p0).2)] (va_A [wcR a gp tg st sm, wcI G (a 10) 6 mv] sz)) 0 0 (va_A [wcR a gp tg st sm, wcI G (a 10) 6 mv] sz) := by
  refine bodyM (cc := cX1_moveFor) (maxL := 4) (ret := none) (by decide) rfl (Nat.le_of_ble_eq_true rfl) ?_
  intro p e s m below meth c ls C
  obtain ⟨hx, hb, hr, hts, hown, hlocks, hml, hsz, hP, hE, hD, hA, hS, hl⟩ := C
  subst hsz
  have hl : lv_has ls 4 [(0, .ref (a 7)), (1, .int p0)] := hl
  obtain ⟨n, hn, hst2⟩ := id hst
  have hcl : (if f_X1_movesToCome gp tg < p0 then f_X1_movesToCome gp tg else p0).toNatClampNeg = n := by rw [hst2]; exact nI_clamp (by omega)
  refine lv_aload_n hx hb dX1_moveFor_0 rfl (lv_at hl 0 rfl) ?_
  refine va_get (D := G.1) (ci := 1) (v := .int st) (C := RX1) (T := TX1) (N := 7) hx hb hts iw_X1_moveFor_RX1 hown hE.1 hP 0 rfl rfl 5 (by decide) (hts (.fieldLink RX1 29 "Rackrail$Rail" "stalled" "Z") (by decide +kernel)) (fun _ h9 => h9) rfl dX1_moveFor_1 ?_
  refine lv_if_ne (tgt := 14) hx hb dX1_moveFor_4 (by decide) (fun c_4 => ?_) (fun c_4 => ?_)
  · have hq : f_X1_moveFor gp tg st sm mv p0 = (gp, mv) := (by rw [f_X1_moveFor, if_neg c_4])
    exact W.vret hx hb hr (fun t ht _ => ⟨rfl, by rw [hq, ht]; exact hP, hS.F ht⟩) hS.2.2 dX1_moveFor_14
  · refine lv_aload_n hx hb dX1_moveFor_7 rfl (lv_at hl 0 rfl) ?_
    refine va_get (D := G.1) (ci := 1) (v := .int sm) (C := RX1) (T := TX1) (N := 7) hx hb hts iw_X1_moveFor_RX1 hown hE.1 hP 0 rfl rfl 6 (by decide) (hts (.fieldLink RX1 33 "Rackrail$Rail" "smoky" "Z") (by decide +kernel)) (fun _ h9 => h9) rfl dX1_moveFor_8 ?_
    refine lv_if_eq (tgt := 15) hx hb dX1_moveFor_11 (by decide) (fun c_11 => ?_) (fun c_11 => ?_)
    · refine lv_iload_n hx hb dX1_moveFor_15 rfl (lv_at hl 1 rfl) ?_
      refine lv_aload_n hx hb dX1_moveFor_16 rfl (lv_at hl 0 rfl) ?_
      refine k_p (va_runV (As := []) (rest := [.int p0]) ⟨hx, hb, hml, hown, hts⟩ (c_X1_movesToCome l G a s.heap.size gp tg st sm) (cwV 0 hts gX1_moveFor_X1_movesToCome rfl rfl rfl ⟨rfl, by decide +kernel, by decide +kernel, by decide +kernel⟩ ⟨Nat.le_of_ble_eq_true rfl, Nat.le_of_ble_eq_true rfl⟩) ⟨GP.blind, va_recv hE.1 hP (ci := 1) (q0 := 0) rfl rfl, GP.go (wc := [wcR a gp tg st sm]) hE hP hD hS hA [0] rfl (by decide) [.ref (a 7)]⟩ rfl rfl hl.1 rfl (lv_room (Nat.le_of_ble_eq_true rfl)) dX1_moveFor_17 ⟨Nat.le_of_ble_eq_true rfl, Nat.le_of_ble_eq_true rfl⟩) ?_
      refine va_mmin hx hb (hml.trans hl.1.symm) hown (hts (.methodLink RX1 56 Lib.Math.min.name) (by decide +kernel)) (hts (.static Lib.Math.min.name) (by decide +kernel)) (hts (.initialized "java/lang/Math") (by decide +kernel)) (hts (.code Lib.Math.min.name Lib.Math.min.code 2 (some .int)) (by decide +kernel)) (Nat.le_of_ble_eq_true rfl) (Nat.le_of_ble_eq_true rfl) (Nat.le_of_ble_eq_true rfl) (Nat.le_of_ble_eq_true rfl) dX1_moveFor_20 ?_
      refine lv_istore_n (lv' := [(2, .int (if (f_X1_movesToCome gp tg) < p0 then (f_X1_movesToCome gp tg) else p0)), (0, .ref (a 7)), (1, .int p0)]) hx hb dX1_moveFor_23 rfl hl (by decide) rfl (fun ls hl => ?_)
      refine lv_iconst (v := 0) hx hb dX1_moveFor_24 (by decide) ?_
      refine lv_istore_n (lv' := [(3, .int 0), (2, .int (if (f_X1_movesToCome gp tg) < p0 then (f_X1_movesToCome gp tg) else p0)), (0, .ref (a 7)), (1, .int p0)]) hx hb dX1_moveFor_25 rfl hl (by decide) rfl (fun ls hl => ?_)
      refine k_loopM (α := Int32 × (Nat → Int32)) (fun (r j : Nat) (x : Int32 × (Nat → Int32)) (H : Heap) (locs : List Loc) (ls : Array Slot) => j + r = n ∧ f_X1_moveFor gp tg st sm mv p0 = f_X1_moveFor_L tg r j x.1 x.2 ∧ lv_has ls 4 [(3, .int (nI j)), (2, .int (if (f_X1_movesToCome gp tg) < p0 then (f_X1_movesToCome gp tg) else p0)), (0, .ref (a 7)), (1, .int p0)] ∧ va_P G.1 vwCl [wcR a x.1 tg st sm, wcI G (a 10) 6 x.2] H ∧ va_D (va_A [wcR a gp tg st sm, wcI G (a 10) 6 mv] s.heap.size) [wcR a x.1 tg st sm, wcI G (a 10) 6 x.2] ∧ va_S (va_A [wcR a gp tg st sm, wcI G (a 10) 6 mv] s.heap.size) s.heap H locs) n 0 (gp, mv) ⟨by omega, (by rw [f_X1_moveFor, if_pos c_4, if_pos c_11, hcl]), lv_sub hl [0, 1, 2, 3] rfl, hP, hD, hS⟩ ?_ ?_
      · intro j x H locs ls hI
        obtain ⟨gp1, mv1⟩ := x
        obtain ⟨hj, hf, hl, hP, hD, hS⟩ := hI
        have hl : lv_has ls 4 [(3, .int (nI j)), (2, .int (if (f_X1_movesToCome gp tg) < p0 then (f_X1_movesToCome gp tg) else p0)), (0, .ref (a 7)), (1, .int p0)] := hl
        have hf : f_X1_moveFor gp tg st sm mv p0 = f_X1_moveFor_L tg 0 j gp1 mv1 := hf
        have hP : va_P G.1 vwCl [wcR a gp1 tg st sm, wcI G (a 10) 6 mv1] H := hP
        have hD : va_D _ [wcR a gp1 tg st sm, wcI G (a 10) 6 mv1] := hD
        refine lv_iload_n hx hb dX1_moveFor_26 rfl (lv_at hl 0 rfl) ?_
        refine lv_iload_n hx hb dX1_moveFor_27 rfl (lv_at hl 1 rfl) ?_
        refine lv_icmp_ge (tgt := 41) hx hb dX1_moveFor_28 (by decide) (fun c_28 => ?_) (fun c_28 => absurd (lp_a hst2 (by omega) (by omega)) c_28)
        have hq : f_X1_moveFor gp tg st sm mv p0 = (gp1, mv1) := (hf.trans (by rw [f_X1_moveFor_L]))
        exact W.vret hx hb hr (fun t ht _ => ⟨rfl, by rw [hq, ht]; exact hP, hS.F ht⟩) hS.2.2 dX1_moveFor_41
      · intro r ih j x H locs ls hI
        obtain ⟨gp1, mv1⟩ := x
        obtain ⟨hj, hf, hl, hP, hD, hS⟩ := hI
        have hl : lv_has ls 4 [(3, .int (nI j)), (2, .int (if (f_X1_movesToCome gp tg) < p0 then (f_X1_movesToCome gp tg) else p0)), (0, .ref (a 7)), (1, .int p0)] := hl
        have hf : f_X1_moveFor gp tg st sm mv p0 = f_X1_moveFor_L tg (r + 1) j gp1 mv1 := hf
        have hP : va_P G.1 vwCl [wcR a gp1 tg st sm, wcI G (a 10) 6 mv1] H := hP
        have hD : va_D _ [wcR a gp1 tg st sm, wcI G (a 10) 6 mv1] := hD
        refine lv_iload_n hx hb dX1_moveFor_26 rfl (lv_at hl 0 rfl) ?_
        refine lv_iload_n hx hb dX1_moveFor_27 rfl (lv_at hl 1 rfl) ?_
        refine lv_icmp_ge (tgt := 41) hx hb dX1_moveFor_28 (by decide) (fun c_28 => absurd c_28 (lp_b (r := r) hst2 (by omega) (by omega))) (fun c_28 => ?_)
        refine lv_aload_n hx hb dX1_moveFor_31 rfl (lv_at hl 2 rfl) ?_
        refine k_m (wc := [wcR a gp1 tg st sm, wcI G (a 10) 6 mv1]) (w1 := [wcR a ((f_X1_moveOne gp1 tg mv1).1) tg st sm, wcI G (a 10) 6 ((f_X1_moveOne gp1 tg mv1).2)]) (wn := [wcR a ((f_X1_moveOne gp1 tg mv1).1) tg st sm, wcI G (a 10) 6 ((f_X1_moveOne gp1 tg mv1).2)]) (va_runV (As := []) (rest := []) ⟨hx, hb, hml, hown, hts⟩ (c_X1_moveOne l G a H.size gp1 tg st sm mv1) (cwV 0 hts gX1_moveFor_X1_moveOne rfl rfl rfl ⟨rfl, by decide +kernel, by decide +kernel, by decide +kernel⟩ ⟨Nat.le_of_ble_eq_true rfl, Nat.le_of_ble_eq_true rfl⟩) ⟨GP.blind, va_recv hE.1 hP (ci := 1) (q0 := 0) rfl rfl, GP.go (wc := [wcR a gp1 tg st sm, wcI G (a 10) 6 mv1]) hE hP hD hS hA [0, 1] rfl (by decide) [.ref (a 7)]⟩ rfl rfl hl.1 rfl (lv_room (Nat.le_of_ble_eq_true rfl)) dX1_moveFor_32 ⟨Nat.le_of_ble_eq_true rfl, Nat.le_of_ble_eq_true rfl⟩) hP hD hS hA [0, 1] rfl rfl rfl rfl (fun H locs hP hD hS => ?_)
        refine lv_iinc (v := nI (j + 1)) (lv' := [(3, .int (nI (j + 1))), (2, .int (if (f_X1_movesToCome gp tg) < p0 then (f_X1_movesToCome gp tg) else p0)), (0, .ref (a 7)), (1, .int p0)]) hx hb dX1_moveFor_35 hl (k := 0) rfl (inc1 _) (by decide) rfl (fun ls hl => ?_)
        refine lv_goto (tgt := 26) hx hb dX1_moveFor_38 (by decide) ?_
        exact ih (j + 1) ((f_X1_moveOne gp1 tg mv1).1, (f_X1_moveOne gp1 tg mv1).2) _ _ _ ⟨by omega, (hf.trans (by rw [f_X1_moveFor_L])), lv_sub hl [0, 1, 2, 3] rfl, hP, hD, hS⟩
    · have hq : f_X1_moveFor gp tg st sm mv p0 = (gp, mv) := (by rw [f_X1_moveFor, if_pos c_4, if_neg c_11])
      exact W.vret hx hb hr (fun t ht _ => ⟨rfl, by rw [hq, ht]; exact hP, hS.F ht⟩) hS.2.2 dX1_moveFor_14

/-! X1_setDoubt -/
def f_X1_setDoubt (db : Nat → Int32) (p0 : Int32) (p1 : Int32) : (Nat → Int32) :=
  if (f_X3_isBelow p0 7) = 0 then db
    else upd db p0.toNatClampNeg (vp_nar .boolean p1)
theorem iw_X1_setDoubt_RX1 : ∀ w ∈ u_ws RX1 TX1 7, w ∈ wsX1_setDoubt := by decide +kernel
set_option maxHeartbeats 4000000 in
set_option maxRecDepth 100000 in
theorem c_X1_setDoubt (l : Launch) (G : GT) (a : Nat → Nat) (sz : Nat) (gp : Int32) (tg : Int32) (st : Int32) (sm : Int32) (db : Nat → Int32) (p0 : Int32) (p1 : Int32) : Met l yX1_setDoubt wsX1_setDoubt ({ frames := 1, cells := 0, slots := 0, locals := 21 }) (GP G [.ref (a 7), .int p0, .int p1] [wcR a gp tg st sm, wcZ G (a 8) 7 db] sz) (MQo G (.returned none) [wcR a gp tg st sm, wcZ G (a 8) 7 (f_X1_setDoubt db p0 p1)] (va_A [wcR a gp tg st sm, wcZ G (a 8) 7 db] sz)) 0 0 (va_A [wcR a gp tg st sm, wcZ G (a 8) 7 db] sz) := by
  refine bodyM (cc := cX1_setDoubt) (maxL := 3) (ret := none) (by decide) rfl (Nat.le_of_ble_eq_true rfl) ?_
  intro p e s m below meth c ls C
  obtain ⟨hx, hb, hr, hts, hown, hlocks, hml, hsz, hP, hE, hD, hA, hS, hl⟩ := C
  subst hsz
  have hl : lv_has ls 3 [(0, .ref (a 7)), (1, .int p0), (2, .int p1)] := hl
  refine lv_iload_n hx hb dX1_setDoubt_0 rfl (lv_at hl 1 rfl) ?_
  refine lv_bipush (v := 7) hx hb dX1_setDoubt_1 (by decide) ?_
  refine k_p (va_runSN (As := [.int p0, .int 7]) (rest := []) ⟨hx, hb, hml, hown, hts⟩ (c_X3_isBelow l G s.heap.size p0 7) ⟨va_cnB (host := "Rackrail") 2 hts gX1_setDoubt_X3_isBelow_n63 rfl rfl rfl (hE.2.1 (RX1, 63, yX3_isBelow) (by decide)) (hts (.initialized RX3) (by decide +kernel)) ⟨by decide +kernel, by decide +kernel, by decide +kernel⟩ ⟨Nat.le_of_ble_eq_true rfl, Nat.le_of_ble_eq_true rfl⟩, hts (.static yX3_isBelow) (by decide +kernel), trivial⟩ ⟨GP.blind, GP.go (wc := []) hE hP hD hS hA [] rfl (by decide) [.int p0, .int 7]⟩ rfl rfl hl.1 rfl (lv_room (Nat.le_of_ble_eq_true rfl)) dX1_setDoubt_3 ⟨Nat.le_of_ble_eq_true rfl, Nat.le_of_ble_eq_true rfl⟩) ?_
  refine lv_if_eq (tgt := 16) hx hb dX1_setDoubt_6 (by decide) (fun c_6 => ?_) (fun c_6 => ?_)
  · have hq : f_X1_setDoubt db p0 p1 = db := (by rw [f_X1_setDoubt, if_pos c_6])
    exact W.vret hx hb hr (fun t ht _ => ⟨rfl, by rw [hq, ht]; exact hP, hS.F ht⟩) hS.2.2 dX1_setDoubt_16
  · refine lv_aload_n hx hb dX1_setDoubt_9 rfl (lv_at hl 0 rfl) ?_
    refine va_get (D := G.1) (ci := 1) (v := .ref (a 8)) (C := RX1) (T := TX1) (N := 7) hx hb hts iw_X1_setDoubt_RX1 hown hE.1 hP 0 rfl rfl 0 (by decide) (hts (.fieldLink RX1 9 "Rackrail$Rail" "doubts" "[Z") (by decide +kernel)) (fun _ h9 => h9) rfl dX1_setDoubt_10 ?_
    refine lv_iload_n hx hb dX1_setDoubt_13 rfl (lv_at hl 1 rfl) ?_
    refine lv_iload_n hx hb dX1_setDoubt_14 rfl (lv_at hl 2 rfl) ?_
    refine va_zast hx hb hE.1 hP hD hS 1 1 rfl rfl (in_below rfl (by decide) c_6) dX1_setDoubt_15 (fun H locs hP hD hS => ?_)
    have hP : va_P G.1 vwCl [wcR a gp tg st sm, wcZ G (a 8) 7 (upd db p0.toNatClampNeg (vp_nar .boolean p1))] H := hP
    have hD : va_D _ [wcR a gp tg st sm, wcZ G (a 8) 7 (upd db p0.toNatClampNeg (vp_nar .boolean p1))] := hD
    have hq : f_X1_setDoubt db p0 p1 = upd db p0.toNatClampNeg (vp_nar .boolean p1) := (by rw [f_X1_setDoubt, if_neg c_6])
    exact W.vret hx hb hr (fun t ht _ => ⟨rfl, by rw [hq, ht]; exact hP, hS.F ht⟩) hS.2.2 dX1_setDoubt_16

/-! X1_changeStall -/
def f_X1_changeStall (st : Int32) (p0 : Int32) : Int32 × Int32 :=
  if st = p0 then (0, p0)
    else (1, p0)
theorem b_changeStall (st p0 : Int32) : (f_X1_changeStall st p0).1 = 0 ∨ (f_X1_changeStall st p0).1 = 1 := by
  rw [f_X1_changeStall]
  (repeat' split) <;> first | exact Or.inl rfl | exact Or.inr rfl
theorem iw_X1_changeStall_RX1 : ∀ w ∈ u_ws RX1 TX1 7, w ∈ wsX1_changeStall := by decide +kernel
set_option maxHeartbeats 4000000 in
set_option maxRecDepth 100000 in
theorem c_X1_changeStall (l : Launch) (G : GT) (a : Nat → Nat) (sz : Nat) (gp : Int32) (tg : Int32) (st : Int32) (sm : Int32) (p0 : Int32) (hp : p0 = 0 ∨ p0 = 1) : Met l yX1_changeStall wsX1_changeStall ({ frames := 0, cells := 0, slots := 0, locals := 0 }) (GP G [.ref (a 7), .int p0] [wcR a gp tg st sm] sz) (MQo G (.returned (some (.int ((f_X1_changeStall st p0).1)))) [wcR a gp tg ((f_X1_changeStall st p0).2) sm] (va_A [wcR a gp tg st sm] sz)) 0 0 (va_A [wcR a gp tg st sm] sz) := by
  refine bodyM (cc := cX1_changeStall) (maxL := 3) (ret := (some .boolean)) (by decide) rfl (Nat.le_of_ble_eq_true rfl) ?_
  intro p e s m below meth c ls C
  obtain ⟨hx, hb, hr, hts, hown, hlocks, hml, hsz, hP, hE, hD, hA, hS, hl⟩ := C
  subst hsz
  have hl : lv_has ls 3 [(0, .ref (a 7)), (1, .int p0)] := hl
  refine lv_aload_n hx hb dX1_changeStall_0 rfl (lv_at hl 0 rfl) ?_
  refine va_get (D := G.1) (ci := 1) (v := .int st) (C := RX1) (T := TX1) (N := 7) hx hb hts iw_X1_changeStall_RX1 hown hE.1 hP 0 rfl rfl 5 (by decide) (hts (.fieldLink RX1 29 "Rackrail$Rail" "stalled" "Z") (by decide +kernel)) (fun _ h9 => h9) rfl dX1_changeStall_1 ?_
  refine lv_iload_n hx hb dX1_changeStall_4 rfl (lv_at hl 1 rfl) ?_
  refine lv_icmp_eq (tgt := 12) hx hb dX1_changeStall_5 (by decide) (fun c_5 => ?_) (fun c_5 => ?_)
  · refine lv_iconst (v := 0) hx hb dX1_changeStall_12 (by decide) ?_
    refine lv_istore_n (lv' := [(2, .int 0), (0, .ref (a 7)), (1, .int p0)]) hx hb dX1_changeStall_13 rfl hl (by decide) rfl (fun ls hl => ?_)
    refine lv_aload_n hx hb dX1_changeStall_14 rfl (lv_at hl 1 rfl) ?_
    refine lv_iload_n hx hb dX1_changeStall_15 rfl (lv_at hl 2 rfl) ?_
    refine va_put (D := G.1) (ci := 1) (v := .int p0) (ty := .boolean) (C := RX1) (T := TX1) (N := 7) hx hb hts iw_X1_changeStall_RX1 tyX1 tyX1_ok nmX1 hown hE.1 hP hD hS 0 rfl rfl 5 (by decide) (hts (.fieldLink RX1 29 "Rackrail$Rail" "stalled" "Z") (by decide +kernel)) (fun _ h9 => h9) rfl (by decide +kernel) (bool_nar (hp)) (bool_fits (hp)) (Nat.le_of_ble_eq_true rfl) dX1_changeStall_16 (fun H locs hP hD hS => ?_)
    have hP : va_P G.1 vwCl [wcR a gp tg p0 sm] H := hP
    have hD : va_D _ [wcR a gp tg p0 sm] := hD
    refine lv_iload_n hx hb dX1_changeStall_19 rfl (lv_at hl 0 rfl) ?_
    have hq : f_X1_changeStall st p0 = (0, p0) := (by rw [f_X1_changeStall, if_pos c_5])
    exact W.zret (v := 0) hx hb hr rfl (fun t ht _ => ⟨by rw [hq], by rw [hq, ht]; exact hP, hS.F ht⟩) hS.2.2 dX1_changeStall_20
  · refine lv_iconst (v := 1) hx hb dX1_changeStall_8 (by decide) ?_
    refine lv_goto (tgt := 13) hx hb dX1_changeStall_9 (by decide) ?_
    refine lv_istore_n (lv' := [(2, .int 1), (0, .ref (a 7)), (1, .int p0)]) hx hb dX1_changeStall_13 rfl hl (by decide) rfl (fun ls hl => ?_)
    refine lv_aload_n hx hb dX1_changeStall_14 rfl (lv_at hl 1 rfl) ?_
    refine lv_iload_n hx hb dX1_changeStall_15 rfl (lv_at hl 2 rfl) ?_
    refine va_put (D := G.1) (ci := 1) (v := .int p0) (ty := .boolean) (C := RX1) (T := TX1) (N := 7) hx hb hts iw_X1_changeStall_RX1 tyX1 tyX1_ok nmX1 hown hE.1 hP hD hS 0 rfl rfl 5 (by decide) (hts (.fieldLink RX1 29 "Rackrail$Rail" "stalled" "Z") (by decide +kernel)) (fun _ h9 => h9) rfl (by decide +kernel) (bool_nar (hp)) (bool_fits (hp)) (Nat.le_of_ble_eq_true rfl) dX1_changeStall_16 (fun H locs hP hD hS => ?_)
    have hP : va_P G.1 vwCl [wcR a gp tg p0 sm] H := hP
    have hD : va_D _ [wcR a gp tg p0 sm] := hD
    refine lv_iload_n hx hb dX1_changeStall_19 rfl (lv_at hl 0 rfl) ?_
    have hq : f_X1_changeStall st p0 = (1, p0) := (by rw [f_X1_changeStall, if_neg c_5])
    exact W.zret (v := 1) hx hb hr rfl (fun t ht _ => ⟨by rw [hq], by rw [hq, ht]; exact hP, hS.F ht⟩) hS.2.2 dX1_changeStall_20

/-! X1_changeSmoke -/
def f_X1_changeSmoke (p0 : Int32) : Int32 :=
  p0
theorem iw_X1_changeSmoke_RX1 : ∀ w ∈ u_ws RX1 TX1 7, w ∈ wsX1_changeSmoke := by decide +kernel
set_option maxHeartbeats 4000000 in
set_option maxRecDepth 100000 in
theorem c_X1_changeSmoke (l : Launch) (G : GT) (a : Nat → Nat) (sz : Nat) (gp : Int32) (tg : Int32) (st : Int32) (sm : Int32) (p0 : Int32) (hp : p0 = 0 ∨ p0 = 1) : Met l yX1_changeSmoke wsX1_changeSmoke ({ frames := 0, cells := 0, slots := 0, locals := 0 }) (GP G [.ref (a 7), .int p0] [wcR a gp tg st sm] sz) (MQo G (.returned none) [wcR a gp tg st (f_X1_changeSmoke p0)] (va_A [wcR a gp tg st sm] sz)) 0 0 (va_A [wcR a gp tg st sm] sz) := by
  refine bodyM (cc := cX1_changeSmoke) (maxL := 2) (ret := none) (by decide) rfl (Nat.le_of_ble_eq_true rfl) ?_
  intro p e s m below meth c ls C
  obtain ⟨hx, hb, hr, hts, hown, hlocks, hml, hsz, hP, hE, hD, hA, hS, hl⟩ := C
  subst hsz
  have hl : lv_has ls 2 [(0, .ref (a 7)), (1, .int p0)] := hl
  refine lv_aload_n hx hb dX1_changeSmoke_0 rfl (lv_at hl 0 rfl) ?_
  refine lv_iload_n hx hb dX1_changeSmoke_1 rfl (lv_at hl 1 rfl) ?_
  refine va_put (D := G.1) (ci := 1) (v := .int p0) (ty := .boolean) (C := RX1) (T := TX1) (N := 7) hx hb hts iw_X1_changeSmoke_RX1 tyX1 tyX1_ok nmX1 hown hE.1 hP hD hS 0 rfl rfl 6 (by decide) (hts (.fieldLink RX1 33 "Rackrail$Rail" "smoky" "Z") (by decide +kernel)) (fun _ h9 => h9) rfl (by decide +kernel) (bool_nar (hp)) (bool_fits (hp)) (Nat.le_of_ble_eq_true rfl) dX1_changeSmoke_2 (fun H locs hP hD hS => ?_)
  have hP : va_P G.1 vwCl [wcR a gp tg st p0] H := hP
  have hD : va_D _ [wcR a gp tg st p0] := hD
  have hq : f_X1_changeSmoke p0 = p0 := (by rw [f_X1_changeSmoke])
  exact W.vret hx hb hr (fun t ht _ => ⟨rfl, by rw [hq, ht]; exact hP, hS.F ht⟩) hS.2.2 dX1_changeSmoke_5

/-! X1_isInside -/
def f_X1_isInside (ins : Nat → Int32) (p0 : Int32) : Int32 :=
  if (f_X3_isBelow p0 4) = 0 then 0
    else if (ins p0.toNatClampNeg) = 0 then 0
    else 1
theorem b_X1_isInside (ins : Nat → Int32) (p0 : Int32) : f_X1_isInside ins p0 = 0 ∨ f_X1_isInside ins p0 = 1 := by
  rw [f_X1_isInside]
  (repeat' split) <;> first | exact Or.inl rfl | exact Or.inr rfl | exact b_X3_isBelow _ _
theorem iw_X1_isInside_RX1 : ∀ w ∈ u_ws RX1 TX1 7, w ∈ wsX1_isInside := by decide +kernel
set_option maxHeartbeats 4000000 in
set_option maxRecDepth 100000 in
theorem c_X1_isInside (l : Launch) (G : GT) (a : Nat → Nat) (sz : Nat) (gp : Int32) (tg : Int32) (st : Int32) (sm : Int32) (ins : Nat → Int32) (p0 : Int32) : Met l yX1_isInside wsX1_isInside ({ frames := 1, cells := 0, slots := 0, locals := 21 }) (GP G [.ref (a 7), .int p0] [wcR a gp tg st sm, wcZ G (a 9) 4 ins] sz) (PQo (.returned (some (.int (f_X1_isInside ins p0))))) 0 0 (fun _ => False) := by
  refine bodyM (cc := cX1_isInside) (maxL := 2) (ret := (some .boolean)) (by decide) rfl (Nat.le_of_ble_eq_true rfl) ?_
  intro p e s m below meth c ls C
  obtain ⟨hx, hb, hr, hts, hown, hlocks, hml, hsz, hP, hE, hD, hA, hS, hl⟩ := C
  subst hsz
  have hl : lv_has ls 2 [(0, .ref (a 7)), (1, .int p0)] := hl
  refine lv_iload_n hx hb dX1_isInside_0 rfl (lv_at hl 1 rfl) ?_
  refine lv_iconst (v := 4) hx hb dX1_isInside_1 (by decide) ?_
  refine k_p (va_runSN (As := [.int p0, .int 4]) (rest := []) ⟨hx, hb, hml, hown, hts⟩ (c_X3_isBelow l G s.heap.size p0 4) ⟨va_cnB (host := "Rackrail") 2 hts gX1_isInside_X3_isBelow_n63 rfl rfl rfl (hE.2.1 (RX1, 63, yX3_isBelow) (by decide)) (hts (.initialized RX3) (by decide +kernel)) ⟨by decide +kernel, by decide +kernel, by decide +kernel⟩ ⟨Nat.le_of_ble_eq_true rfl, Nat.le_of_ble_eq_true rfl⟩, hts (.static yX3_isBelow) (by decide +kernel), trivial⟩ ⟨GP.blind, GP.go (wc := []) hE hP hD hS hA [] rfl (by decide) [.int p0, .int 4]⟩ rfl rfl hl.1 rfl (lv_room (Nat.le_of_ble_eq_true rfl)) dX1_isInside_2 ⟨Nat.le_of_ble_eq_true rfl, Nat.le_of_ble_eq_true rfl⟩) ?_
  refine lv_if_eq (tgt := 21) hx hb dX1_isInside_5 (by decide) (fun c_5 => ?_) (fun c_5 => ?_)
  · refine lv_iconst (v := 0) hx hb dX1_isInside_21 (by decide) ?_
    have hq : f_X1_isInside ins p0 = 0 := (by rw [f_X1_isInside, if_pos c_5])
    exact W.zret (v := 0) hx hb hr rfl (fun t ht _ => ⟨by rw [hq], ht⟩) (fun _ h => nomatch h) dX1_isInside_22
  · refine lv_aload_n hx hb dX1_isInside_8 rfl (lv_at hl 0 rfl) ?_
    refine va_get (D := G.1) (ci := 1) (v := .ref (a 9)) (C := RX1) (T := TX1) (N := 7) hx hb hts iw_X1_isInside_RX1 hown hE.1 hP 0 rfl rfl 1 (by decide) (hts (.fieldLink RX1 15 "Rackrail$Rail" "inside" "[Z") (by decide +kernel)) (fun _ h9 => h9) rfl dX1_isInside_9 ?_
    refine lv_iload_n hx hb dX1_isInside_12 rfl (lv_at hl 1 rfl) ?_
    refine va_zald hx hb hE.1 hP 1 1 rfl rfl (in_below rfl (by decide) c_5) dX1_isInside_13 ?_
    refine lv_if_eq (tgt := 21) hx hb dX1_isInside_14 (by decide) (fun c_14 => ?_) (fun c_14 => ?_)
    · refine lv_iconst (v := 0) hx hb dX1_isInside_21 (by decide) ?_
      have hq : f_X1_isInside ins p0 = 0 := (by rw [f_X1_isInside, if_neg c_5, if_pos c_14])
      exact W.zret (v := 0) hx hb hr rfl (fun t ht _ => ⟨by rw [hq], ht⟩) (fun _ h => nomatch h) dX1_isInside_22
    · refine lv_iconst (v := 1) hx hb dX1_isInside_17 (by decide) ?_
      refine lv_goto (tgt := 22) hx hb dX1_isInside_18 (by decide) ?_
      have hq : f_X1_isInside ins p0 = 1 := (by rw [f_X1_isInside, if_neg c_5, if_neg c_14])
      exact W.zret (v := 1) hx hb hr rfl (fun t ht _ => ⟨by rw [hq], ht⟩) (fun _ h => nomatch h) dX1_isInside_22

/-! X1_setInside -/
def f_X1_setInside (ins : Nat → Int32) (p0 : Int32) (p1 : Int32) : (Nat → Int32) :=
  if (f_X3_isBelow p0 4) = 0 then ins
    else upd ins p0.toNatClampNeg (vp_nar .boolean p1)
theorem iw_X1_setInside_RX1 : ∀ w ∈ u_ws RX1 TX1 7, w ∈ wsX1_setInside := by decide +kernel
set_option maxHeartbeats 4000000 in
set_option maxRecDepth 100000 in
theorem c_X1_setInside (l : Launch) (G : GT) (a : Nat → Nat) (sz : Nat) (gp : Int32) (tg : Int32) (st : Int32) (sm : Int32) (ins : Nat → Int32) (p0 : Int32) (p1 : Int32) : Met l yX1_setInside wsX1_setInside ({ frames := 1, cells := 0, slots := 0, locals := 21 }) (GP G [.ref (a 7), .int p0, .int p1] [wcR a gp tg st sm, wcZ G (a 9) 4 ins] sz) (MQo G (.returned none) [wcR a gp tg st sm, wcZ G (a 9) 4 (f_X1_setInside ins p0 p1)] (va_A [wcR a gp tg st sm, wcZ G (a 9) 4 ins] sz)) 0 0 (va_A [wcR a gp tg st sm, wcZ G (a 9) 4 ins] sz) := by
  refine bodyM (cc := cX1_setInside) (maxL := 3) (ret := none) (by decide) rfl (Nat.le_of_ble_eq_true rfl) ?_
  intro p e s m below meth c ls C
  obtain ⟨hx, hb, hr, hts, hown, hlocks, hml, hsz, hP, hE, hD, hA, hS, hl⟩ := C
  subst hsz
  have hl : lv_has ls 3 [(0, .ref (a 7)), (1, .int p0), (2, .int p1)] := hl
  refine lv_iload_n hx hb dX1_setInside_0 rfl (lv_at hl 1 rfl) ?_
  refine lv_iconst (v := 4) hx hb dX1_setInside_1 (by decide) ?_
  refine k_p (va_runSN (As := [.int p0, .int 4]) (rest := []) ⟨hx, hb, hml, hown, hts⟩ (c_X3_isBelow l G s.heap.size p0 4) ⟨va_cnB (host := "Rackrail") 2 hts gX1_setInside_X3_isBelow_n63 rfl rfl rfl (hE.2.1 (RX1, 63, yX3_isBelow) (by decide)) (hts (.initialized RX3) (by decide +kernel)) ⟨by decide +kernel, by decide +kernel, by decide +kernel⟩ ⟨Nat.le_of_ble_eq_true rfl, Nat.le_of_ble_eq_true rfl⟩, hts (.static yX3_isBelow) (by decide +kernel), trivial⟩ ⟨GP.blind, GP.go (wc := []) hE hP hD hS hA [] rfl (by decide) [.int p0, .int 4]⟩ rfl rfl hl.1 rfl (lv_room (Nat.le_of_ble_eq_true rfl)) dX1_setInside_2 ⟨Nat.le_of_ble_eq_true rfl, Nat.le_of_ble_eq_true rfl⟩) ?_
  refine lv_if_eq (tgt := 15) hx hb dX1_setInside_5 (by decide) (fun c_5 => ?_) (fun c_5 => ?_)
  · have hq : f_X1_setInside ins p0 p1 = ins := (by rw [f_X1_setInside, if_pos c_5])
    exact W.vret hx hb hr (fun t ht _ => ⟨rfl, by rw [hq, ht]; exact hP, hS.F ht⟩) hS.2.2 dX1_setInside_15
  · refine lv_aload_n hx hb dX1_setInside_8 rfl (lv_at hl 0 rfl) ?_
    refine va_get (D := G.1) (ci := 1) (v := .ref (a 9)) (C := RX1) (T := TX1) (N := 7) hx hb hts iw_X1_setInside_RX1 hown hE.1 hP 0 rfl rfl 1 (by decide) (hts (.fieldLink RX1 15 "Rackrail$Rail" "inside" "[Z") (by decide +kernel)) (fun _ h9 => h9) rfl dX1_setInside_9 ?_
    refine lv_iload_n hx hb dX1_setInside_12 rfl (lv_at hl 1 rfl) ?_
    refine lv_iload_n hx hb dX1_setInside_13 rfl (lv_at hl 2 rfl) ?_
    refine va_zast hx hb hE.1 hP hD hS 1 1 rfl rfl (in_below rfl (by decide) c_5) dX1_setInside_14 (fun H locs hP hD hS => ?_)
    have hP : va_P G.1 vwCl [wcR a gp tg st sm, wcZ G (a 9) 4 (upd ins p0.toNatClampNeg (vp_nar .boolean p1))] H := hP
    have hD : va_D _ [wcR a gp tg st sm, wcZ G (a 9) 4 (upd ins p0.toNatClampNeg (vp_nar .boolean p1))] := hD
    have hq : f_X1_setInside ins p0 p1 = upd ins p0.toNatClampNeg (vp_nar .boolean p1) := (by rw [f_X1_setInside, if_neg c_5])
    exact W.vret hx hb hr (fun t ht _ => ⟨rfl, by rw [hq, ht]; exact hP, hS.F ht⟩) hS.2.2 dX1_setInside_15

/-! X1_sendAllOut -/
def f_X1_sendAllOut_L (ins : Nat → Int32) : Nat → Nat → (Nat → Int32) → Int32 × (Nat → Int32)
  | 0, j, ins1 => (f_X1_countInside ins, ins1)
  | r + 1, j, ins1 => f_X1_sendAllOut_L ins r (j + 1) (upd ins1 (nI j).toNatClampNeg 0)
def f_X1_sendAllOut (ins : Nat → Int32) : Int32 × (Nat → Int32) :=
  f_X1_sendAllOut_L ins 4 0 ins
theorem iw_X1_sendAllOut_RX1 : ∀ w ∈ u_ws RX1 TX1 7, w ∈ wsX1_sendAllOut := by decide +kernel
set_option maxHeartbeats 4000000 in
set_option maxRecDepth 100000 in
theorem c_X1_sendAllOut (l : Launch) (G : GT) (a : Nat → Nat) (sz : Nat) (gp : Int32) (tg : Int32) (st : Int32) (sm : Int32) (ins : Nat → Int32) : Met l yX1_sendAllOut wsX1_sendAllOut ({ frames := 1, cells := 0, slots := 0, locals := 22 }) (GP G [.ref (a 7)] [wcR a gp tg st sm, wcZ G (a 9) 4 ins] sz) (MQo G (.returned (some (.int ((f_X1_sendAllOut ins).1)))) [wcR a gp tg st sm, wcZ G (a 9) 4 ((f_X1_sendAllOut ins).2)] (va_A [wcR a gp tg st sm, wcZ G (a 9) 4 ins] sz)) 0 0 (va_A [wcR a gp tg st sm, wcZ G (a 9) 4 ins] sz) := by
  refine bodyM (cc := cX1_sendAllOut) (maxL := 3) (ret := (some .int)) (by decide) rfl (Nat.le_of_ble_eq_true rfl) ?_
  intro p e s m below meth c ls C
  obtain ⟨hx, hb, hr, hts, hown, hlocks, hml, hsz, hP, hE, hD, hA, hS, hl⟩ := C
  subst hsz
  have hl : lv_has ls 3 [(0, .ref (a 7))] := hl
  refine lv_aload_n hx hb dX1_sendAllOut_0 rfl (lv_at hl 0 rfl) ?_
  refine k_p (va_runV (As := []) (rest := []) ⟨hx, hb, hml, hown, hts⟩ (c_X1_countInside l G a s.heap.size gp tg st sm ins) (cwV 0 hts gX1_sendAllOut_X1_countInside rfl rfl rfl ⟨rfl, by decide +kernel, by decide +kernel, by decide +kernel⟩ ⟨Nat.le_of_ble_eq_true rfl, Nat.le_of_ble_eq_true rfl⟩) ⟨GP.blind, va_recv hE.1 hP (ci := 1) (q0 := 0) rfl rfl, GP.go (wc := [wcR a gp tg st sm, wcZ G (a 9) 4 ins]) hE hP hD hS hA [0, 1] rfl (by decide) [.ref (a 7)]⟩ rfl rfl hl.1 rfl (lv_room (Nat.le_of_ble_eq_true rfl)) dX1_sendAllOut_1 ⟨Nat.le_of_ble_eq_true rfl, Nat.le_of_ble_eq_true rfl⟩) ?_
  refine lv_istore_n (lv' := [(1, .int (f_X1_countInside ins)), (0, .ref (a 7))]) hx hb dX1_sendAllOut_4 rfl hl (by decide) rfl (fun ls hl => ?_)
  refine lv_iconst (v := 0) hx hb dX1_sendAllOut_5 (by decide) ?_
  refine lv_istore_n (lv' := [(2, .int 0), (1, .int (f_X1_countInside ins)), (0, .ref (a 7))]) hx hb dX1_sendAllOut_6 rfl hl (by decide) rfl (fun ls hl => ?_)
  refine k_loopM (α := (Nat → Int32)) (fun (r j : Nat) (x : (Nat → Int32)) (H : Heap) (locs : List Loc) (ls : Array Slot) => j + r = 4 ∧ f_X1_sendAllOut ins = f_X1_sendAllOut_L ins r j x ∧ lv_has ls 3 [(2, .int (nI j)), (1, .int (f_X1_countInside ins)), (0, .ref (a 7))] ∧ va_P G.1 vwCl [wcR a gp tg st sm, wcZ G (a 9) 4 x] H ∧ va_D (va_A [wcR a gp tg st sm, wcZ G (a 9) 4 ins] s.heap.size) [wcR a gp tg st sm, wcZ G (a 9) 4 x] ∧ va_S (va_A [wcR a gp tg st sm, wcZ G (a 9) 4 ins] s.heap.size) s.heap H locs) 4 0 ins ⟨by omega, (by rw [f_X1_sendAllOut]), lv_sub hl [0, 1, 2] rfl, hP, hD, hS⟩ ?_ ?_
  · intro j x H locs ls hI
    obtain ⟨ins1, rfl⟩ : ∃ y, y = x := ⟨_, rfl⟩
    obtain ⟨hj, hf, hl, hP, hD, hS⟩ := hI
    have hl : lv_has ls 3 [(2, .int (nI j)), (1, .int (f_X1_countInside ins)), (0, .ref (a 7))] := hl
    have hf : f_X1_sendAllOut ins = f_X1_sendAllOut_L ins 0 j ins1 := hf
    have hP : va_P G.1 vwCl [wcR a gp tg st sm, wcZ G (a 9) 4 ins1] H := hP
    have hD : va_D _ [wcR a gp tg st sm, wcZ G (a 9) 4 ins1] := hD
    refine lv_iload_n hx hb dX1_sendAllOut_7 rfl (lv_at hl 0 rfl) ?_
    refine lv_iconst (v := 4) hx hb dX1_sendAllOut_8 (by decide) ?_
    refine lv_icmp_ge (tgt := 25) hx hb dX1_sendAllOut_9 (by decide) (fun c_9 => ?_) (fun c_9 => absurd (lp_a n4_eq (by omega) (by omega)) c_9)
    refine lv_iload_n hx hb dX1_sendAllOut_25 rfl (lv_at hl 1 rfl) ?_
    have hq : f_X1_sendAllOut ins = (f_X1_countInside ins, ins1) := (hf.trans (by rw [f_X1_sendAllOut_L]))
    exact W.iret (v := f_X1_countInside ins) hx hb hr (fun t ht _ => ⟨by rw [hq], by rw [hq, ht]; exact hP, hS.F ht⟩) hS.2.2 dX1_sendAllOut_26
  · intro r ih j x H locs ls hI
    obtain ⟨ins1, rfl⟩ : ∃ y, y = x := ⟨_, rfl⟩
    obtain ⟨hj, hf, hl, hP, hD, hS⟩ := hI
    have hl : lv_has ls 3 [(2, .int (nI j)), (1, .int (f_X1_countInside ins)), (0, .ref (a 7))] := hl
    have hf : f_X1_sendAllOut ins = f_X1_sendAllOut_L ins (r + 1) j ins1 := hf
    have hP : va_P G.1 vwCl [wcR a gp tg st sm, wcZ G (a 9) 4 ins1] H := hP
    have hD : va_D _ [wcR a gp tg st sm, wcZ G (a 9) 4 ins1] := hD
    refine lv_iload_n hx hb dX1_sendAllOut_7 rfl (lv_at hl 0 rfl) ?_
    refine lv_iconst (v := 4) hx hb dX1_sendAllOut_8 (by decide) ?_
    refine lv_icmp_ge (tgt := 25) hx hb dX1_sendAllOut_9 (by decide) (fun c_9 => absurd c_9 (lp_b (r := r) n4_eq (by omega) (by omega))) (fun c_9 => ?_)
    refine lv_aload_n hx hb dX1_sendAllOut_12 rfl (lv_at hl 2 rfl) ?_
    refine va_get (D := G.1) (ci := 1) (v := .ref (a 9)) (C := RX1) (T := TX1) (N := 7) hx hb hts iw_X1_sendAllOut_RX1 hown hE.1 hP 0 rfl rfl 1 (by decide) (hts (.fieldLink RX1 15 "Rackrail$Rail" "inside" "[Z") (by decide +kernel)) (fun _ h9 => h9) rfl dX1_sendAllOut_13 ?_
    refine lv_iload_n hx hb dX1_sendAllOut_16 rfl (lv_at hl 0 rfl) ?_
    refine lv_iconst (v := 0) hx hb dX1_sendAllOut_17 (by decide) ?_
    refine va_zast hx hb hE.1 hP hD hS 1 1 rfl rfl (vp_in_nI (by omega) (by decide)) dX1_sendAllOut_18 (fun H locs hP hD hS => ?_)
    have hP : va_P G.1 vwCl [wcR a gp tg st sm, wcZ G (a 9) 4 (upd ins1 (nI j).toNatClampNeg 0)] H := hP
    have hD : va_D _ [wcR a gp tg st sm, wcZ G (a 9) 4 (upd ins1 (nI j).toNatClampNeg 0)] := hD
    refine lv_iinc (v := nI (j + 1)) (lv' := [(2, .int (nI (j + 1))), (1, .int (f_X1_countInside ins)), (0, .ref (a 7))]) hx hb dX1_sendAllOut_19 hl (k := 0) rfl (inc1 _) (by decide) rfl (fun ls hl => ?_)
    refine lv_goto (tgt := 7) hx hb dX1_sendAllOut_22 (by decide) ?_
    exact ih (j + 1) (upd ins1 (nI j).toNatClampNeg 0) _ _ _ ⟨by omega, (hf.trans (by rw [f_X1_sendAllOut_L])), lv_sub hl [0, 1, 2] rfl, hP, hD, hS⟩

