/-! what each call does to both: boxes and orders -/
section STEPS2
variable {ck cn gp tg mtm st sm oc : Int32} {sp mli db ins mv ob od dn : Nat → Int32}
theorem CI.hcn (h : CI ck cn sp mli gp tg mtm st sm db ins mv oc ob od) : okN 20 cn := by
  obtain ⟨n, no, g, t, c, hn, rfl, -⟩ := h
  exact ⟨n, hn, rfl⟩
theorem CI.hoc (h : CI ck cn sp mli gp tg mtm st sm db ins mv oc ob od) : okN 30 oc := by
  obtain ⟨n, no, g, t, c, -, -, hno, rfl, -⟩ := h
  exact ⟨no, hno, rfl⟩
theorem CI.hmv (h : CI ck cn sp mli gp tg mtm st sm db ins mv oc ob od) : okN 6 (f_X1_movesToCome gp tg) := by
  obtain ⟨n, no, g, t, c, -, -, -, -, hg, rfl, ht, rfl, -⟩ := h
  exact ⟨dst g t, by unfold dst; omega, moves_eq hg ht⟩
theorem CI.hli (h : CI ck cn sp mli gp tg mtm st sm db ins mv oc ob od) : ∀ k : Nat, k < 36 → okN 20 (mli k) := by
  obtain ⟨n, no, g, t, c, hn, -, -, -, -, -, -, -, -, -, -, hR, -⟩ := h
  exact hR.okN hn
theorem CI.hai (h : CI ck cn sp mli gp tg mtm st sm db ins mv oc ob od) : vp_in tg 7 := by
  obtain ⟨n, no, g, t, c, -, -, -, -, -, -, ht, rfl, -⟩ := h
  exact vp_in_nI (by omega) (by decide)
theorem CI.hdb (h : CI ck cn sp mli gp tg mtm st sm db ins mv oc ob od) : ∀ k : Nat, k < 7 → db k = 0 ∨ db k = 1 := by
  obtain ⟨n, no, g, t, c, -, -, -, -, -, -, -, -, -, -, -, -, -, -, -, -, hdb, -⟩ := h
  exact hdb
theorem has_no {n : Nat} (hn : n ≤ 20) {x : Int32} (h : ¬ vp_in x n) : f_X2_has (nI n) x = 0 ∧ f_X4_isBox (nI n) x = 0 := ⟨(has_iff hn).mpr h, (isBox_iff hn).mpr h⟩
theorem has_yes {n b : Nat} (hn : n ≤ 20) (hb : b < n) : ¬ f_X2_has (nI n) (nI b) = 0 ∧ ¬ f_X4_isBox (nI n) (nI b) = 0 := ⟨fun z => (has_iff hn).mp z (vp_in_nI hb (by omega)), fun z => (isBox_iff hn).mp z (vp_in_nI hb (by omega))⟩
theorem S_bestSpot (h : CI ck cn sp mli gp tg mtm st sm db ins mv oc ob od) (sc cl wt kn : Nat → Int32) (ov : Nat → Int64) (p0 : Int32) :
    (f_X4_bestSpot cn sc cl wt kn mli p0).2 = (f_L_bestSpot cn sc cl wt kn sp ov p0).1 ∧ ((f_L_bestSpot cn sc cl wt kn sp ov p0).1 = 0 → (f_L_bestSpot cn sc cl wt kn sp ov p0).2 0 = (f_X4_bestSpot cn sc cl wt kn mli p0).1.toInt64) := by
  obtain ⟨n, no, g, t, c, hn, rfl, hno, rfl, hg, rfl, ht, rfl, rfl, hc, rfl, hR, hO, hV, hst, hsm, hdb, hins, hin⟩ := h
  rw [f_L_bestSpot, f_X4_bestSpot, k_X3_bestSpot, f_X3_bestSpot, k_X3_requireBox, k_X3_requireOut]
  rcases vp_dec (x := p0) (n := n) (by omega) with c1 | ⟨b, hb, rfl⟩
  · obtain ⟨m1, m2⟩ := has_no hn c1
    simp [m1, m2]
  · obtain ⟨m1, m2⟩ := has_yes hn hb
    rw [whereIs_eq hn hb]
    rcases spot_cases hR hn hb with ⟨a1, a2⟩ | ⟨k, hk, a1, -, a2⟩
    · rcases best_cases hR hn sc cl wt kn hb with ⟨e1, e2⟩ | ⟨k, hk, e1, e2⟩
      · simp [m1, m2, a1, a2, e1, e2, ov0, ov0']
      · simp [m1, m2, a1, a2, e1, e2, ov0, ov0', told_eq hk, nI_nm1 (n := k) (by omega)]
    · simp [m1, m2, a1, a2, TT_nm1 hk, nI_nm1 (n := k) (by omega)]
theorem S_lay (h : CI ck cn sp mli gp tg mtm st sm db ins mv oc ob od) (sc cl wt kn : Nat → Int32) (ov : Nat → Int64) (p0 : Int32) :
    (f_X4_lay cn sc cl wt kn mli p0).2.1 = (f_L_lay cn sc cl wt kn sp ov p0).1 ∧ ((f_L_lay cn sc cl wt kn sp ov p0).1 = 0 → (f_L_lay cn sc cl wt kn sp ov p0).2.2 0 = (f_X4_lay cn sc cl wt kn mli p0).1.toInt64) ∧
    CI ck cn (f_L_lay cn sc cl wt kn sp ov p0).2.1 (f_X4_lay cn sc cl wt kn mli p0).2.2 gp tg mtm st sm db ins mv oc ob od := by
  have h0 := h
  obtain ⟨n, no, g, t, c, hn, rfl, hno, rfl, hg, rfl, ht, rfl, rfl, hc, rfl, hR, hO, hV, hst, hsm, hdb, hins, hin⟩ := h
  rw [f_L_lay, f_X4_lay, k_X3_lay, f_X3_lay, k_X3_requireBox, k_X3_requireOut]
  rcases vp_dec (x := p0) (n := n) (by omega) with c1 | ⟨b, hb, rfl⟩
  · obtain ⟨m1, m2⟩ := has_no hn c1
    simp [m1, m2, h0]
  · obtain ⟨m1, m2⟩ := has_yes hn hb
    rw [whereIs_eq hn hb]
    rcases spot_cases hR hn hb with ⟨a1, a2⟩ | ⟨k, hk, a1, -, a2⟩
    · rcases best_cases hR hn sc cl wt kn hb with ⟨e1, e2⟩ | ⟨k, hk, e1, e2⟩
      · simp [m1, m2, a1, a2, e1, e2, h0]
      · have hf := best_free hk e2
        simp [m1, m2, a1, a2, e1, e2, ov0, ov0', told_eq hk, nI_nm1 (n := k) (by omega), TT_nm1 hk, f_X2_put, nI_1, nI_clamp (n := b) (by omega), nI_clamp (n := k) (by omega)]
        exact ⟨n, no, g, t, c, hn, rfl, hno, rfl, hg, rfl, ht, rfl, rfl, hc, rfl, hR.put hn hb a1 hk hf, hO, hV, hst, hsm, hdb, hins, hin⟩
    · simp [m1, m2, a1, a2, TT_nm1 hk, nI_nm1 (n := k) (by omega), h0]
theorem S_spotOf (h : CI ck cn sp mli gp tg mtm st sm db ins mv oc ob od) (ov : Nat → Int64) (p0 : Int32) :
    (f_X4_spotOf cn mli p0).2 = (f_L_spotOf cn sp ov p0).1 ∧ ((f_L_spotOf cn sp ov p0).1 = 0 → (f_L_spotOf cn sp ov p0).2 0 = (f_X4_spotOf cn mli p0).1.toInt64) := by
  obtain ⟨n, no, g, t, c, hn, rfl, hno, rfl, hg, rfl, ht, rfl, rfl, hc, rfl, hR, hO, hV, hst, hsm, hdb, hins, hin⟩ := h
  rw [f_L_spotOf, f_X4_spotOf, k_X3_spotOf, f_X3_spotOf, k_X3_requireBox]
  rcases vp_dec (x := p0) (n := n) (by omega) with c1 | ⟨b, hb, rfl⟩
  · obtain ⟨m1, m2⟩ := has_no hn c1
    simp [m1, m2]
  · obtain ⟨m1, m2⟩ := has_yes hn hb
    rw [whereIs_eq hn hb]
    rcases spot_cases hR hn hb with ⟨a1, a2⟩ | ⟨k, hk, a1, -, a2⟩
    · simp [m1, m2, a1, a2, ov0, ov0']
    · simp [m1, m2, a1, a2, ov0, ov0', told_eq hk, nI_nm1 (n := k) (by omega)]
theorem S_boxAt (h : CI ck cn sp mli gp tg mtm st sm db ins mv oc ob od) (ov : Nat → Int64) (p0 : Int32) :
    (f_X4_boxAt mli p0).2 = (f_L_boxAt cn sp ov p0).1 ∧ ((f_L_boxAt cn sp ov p0).1 = 0 → (f_L_boxAt cn sp ov p0).2 0 = (f_X4_boxAt mli p0).1.toInt64) := by
  obtain ⟨n, no, g, t, c, hn, rfl, hno, rfl, hg, rfl, ht, rfl, rfl, hc, rfl, hR, hO, hV, hst, hsm, hdb, hins, hin⟩ := h
  rw [f_L_boxAt, f_X4_boxAt, k_X3_boxAt, f_X3_boxAt, k_X3_requireSpot]
  rcases spot_num p0 with ⟨a1, a2⟩ | ⟨k, hk, rfl, a1, a2⟩
  · simp [a1, a2, f_X4_fails]
  · simp [a1, a2, nI_nm1 (n := k) (by omega), ov0, ov0', boxIn_eq hR hn hk, nI_clamp (n := k) (by omega)]
theorem S_weight (h : CI ck cn sp mli gp tg mtm st sm db ins mv oc ob od) (wt : Nat → Int32) (ov : Nat → Int64) (p0 : Int32) :
    (f_X4_weight wt mli p0).2 = (f_L_weight cn wt sp ov p0).1 ∧ ((f_L_weight cn wt sp ov p0).1 = 0 → (f_L_weight cn wt sp ov p0).2 0 = (f_X4_weight wt mli p0).1.toInt64) := by
  obtain ⟨n, no, g, t, c, hn, rfl, hno, rfl, hg, rfl, ht, rfl, rfl, hc, rfl, hR, hO, hV, hst, hsm, hdb, hins, hin⟩ := h
  rw [f_L_weight, f_X4_weight, k_X3_weight, f_X3_weight, k_X3_requireShelf]
  by_cases c1 : f_X3_isBelow p0 6 = 0
  · simp [c1, (shelf_iff p0).mpr c1, f_X4_fails]
  · have m1 : ¬ f_X4_isShelf p0 = 0 := fun z => c1 ((shelf_iff p0).mp z)
    obtain ⟨s, hs, rfl⟩ := vp_in_of (in_below (N := 6) rfl (by decide) c1) (by decide)
    simp [c1, m1, ov0, ov0', weigh_eq hR hn hs wt]
theorem S_wrong (h : CI ck cn sp mli gp tg mtm st sm db ins mv oc ob od) (sc cl : Nat → Int32) : f_X3_wrong cn sc cl sp = (f_X4_wrong sc cl mli).1 := by
  obtain ⟨n, no, g, t, c, hn, rfl, hno, rfl, hg, rfl, ht, rfl, rfl, hc, rfl, hR, hO, hV, hst, hsm, hdb, hins, hin⟩ := h
  rw [f_X3_wrong, wrong_eq hR hn]
theorem oFull_iff {n : Nat} (hn : n ≤ 30) : f_X0_isFull (nI n) = 0 ↔ ¬ nI n = 30 := by
  rw [f_X0_isFull]
  rcases Nat.lt_or_ge n 30 with q | q
  · rw [if_pos (show nI n < 30 from nI_lt (b := 30) q (by decide))]
    exact ⟨fun _ z => by have := (nI_eq (b := 30) (by omega) (by decide)).mp z; omega, fun _ => rfl⟩
  · have : n = 30 := by omega
    subst this
    exact ⟨fun z => absurd z (by decide), fun z => absurd rfl z⟩
theorem S_order (h : CI ck cn sp mli gp tg mtm st sm db ins mv oc ob od) (dn : Nat → Int32) (ov : Nat → Int64) (p0 p1 : Int32) :
    (f_X4_order cn oc ob od dn p0 p1).2.1 = (f_L_order cn oc ob od dn ov p0 p1).1 ∧ (f_X4_order cn oc ob od dn p0 p1).2.2.1 = (f_L_order cn oc ob od dn ov p0 p1).2.1 ∧ (f_X4_order cn oc ob od dn p0 p1).2.2.2.1 = (f_L_order cn oc ob od dn ov p0 p1).2.2.1 ∧ (f_X4_order cn oc ob od dn p0 p1).2.2.2.2 = (f_L_order cn oc ob od dn ov p0 p1).2.2.2.1 ∧
    ((f_L_order cn oc ob od dn ov p0 p1).1 = 0 → (f_L_order cn oc ob od dn ov p0 p1).2.2.2.2 0 = (f_X4_order cn oc ob od dn p0 p1).1.toInt64) ∧
    CI ck cn sp mli gp tg mtm st sm db ins mv (f_L_order cn oc ob od dn ov p0 p1).2.1 (f_L_order cn oc ob od dn ov p0 p1).2.2.1 (f_L_order cn oc ob od dn ov p0 p1).2.2.2.1 := by
  have h0 := h
  obtain ⟨n, no, g, t, c, hn, rfl, hno, rfl, hg, rfl, ht, rfl, rfl, hc, rfl, hR, hO, hV, hst, hsm, hdb, hins, hin⟩ := h
  rw [f_L_order, f_X4_order, k_X3_order, f_X3_order, k_X3_requireBox, hasOpen_eq]
  rcases vp_dec (x := p0) (n := n) (by omega) with c1 | ⟨b, hb, rfl⟩
  · obtain ⟨m1, m2⟩ := has_no hn c1
    simp [m1, m2, h0]
  · obtain ⟨m1, m2⟩ := has_yes hn hb
    by_cases c2 : p1 < 0
    · have m3 : f_X4_in p1 0 10000 = 0 := range_iff.mpr (Or.inl c2)
      simp [m1, m2, c2, m3, h0]
    · by_cases c3 : p1 ≤ 10000
      · have m3 : ¬ f_X4_in p1 0 10000 = 0 := fun z => (range_iff.mp z).elim c2 (fun q => q c3)
        obtain ⟨d, hd, rfl⟩ := nI_of2 (n := 10000) (by decide) c2 c3
        by_cases c4 : f_X4_hasOpen (nI no) ob dn (nI b) = 0
        · by_cases c5 : no = 30
          · have m5 : ¬ f_X0_isFull (nI no) = 0 := fun z => (oFull_iff hno).mp z (by rw [c5]; rfl)
            have m6 : (nI no = 30) = True := eq_true (by rw [c5]; rfl)
            simp [m1, m2, c2, c3, m3, c4, m5, m6, h0]
          · have m6 : ¬ nI no = 30 := fun z => c5 ((nI_eq (b := 30) (by omega) (by decide)).mp z)
            have m5 : f_X0_isFull (nI no) = 0 := (oFull_iff hno).mpr m6
            simp [m1, m2, c2, c3, m3, c4, m5, m6, f_X0_enter, ov0, ov0', nI_1, nI_pred, nI_clamp (n := no) (by omega)]
            refine ⟨n, no + 1, g, t, c, hn, rfl, by omega, rfl, hg, rfl, ht, rfl, rfl, hc, rfl, hR, fun j hj => ?_, hV, hst, hsm, hdb, hins, hin⟩
            by_cases e : j = no
            · rw [e, pk_us, pk_us]
              exact ⟨⟨b, hb, rfl⟩, d, hd, rfl⟩
            · rw [pk_un e, pk_un e]
              exact hO j (by omega)
        · simp [m1, m2, c2, c3, m3, c4, h0]
      · have m3 : f_X4_in p1 0 10000 = 0 := range_iff.mpr (Or.inr c3)
        simp [m1, m2, c2, c3, m3, h0]
theorem S_nextAisle (h : CI ck cn sp mli gp tg mtm st sm db ins mv oc ob od) (dn : Nat → Int32) : f_X3_nextAisle cn sp oc ob od dn = (f_X4_nextAisle oc mli ob od dn).1 := by
  obtain ⟨n, no, g, t, c, hn, rfl, hno, rfl, hg, rfl, ht, rfl, rfl, hc, rfl, hR, hO, hV, hst, hsm, hdb, hins, hin⟩ := h
  rw [f_X3_nextAisle, f_X4_nextAisle, first_eq hR hn hno hO (Or.inl ⟨rfl, rfl⟩)]
  rcases first_cases (mli := mli) (ob := ob) (od := od) (dn := dn) hno (-1) with e | ⟨i, hi, e, hs⟩
  · rw [if_pos e, e]
    have e2 : f_X0_boxOf (nI no) ob (-1) = -1 := by
      rw [f_X0_boxOf, if_pos]
      rw [f_X3_isBelow, if_pos (by decide)]
    rw [e2]
    show f_X2_aisleOfBox (nI n) sp (-1) = -1
    have e3 : f_X2_whereIs (nI n) sp (-1) = -1 := by
      rw [f_X2_whereIs, if_pos]
      rw [f_X2_has, f_X3_isBelow, if_pos (by decide)]
    rw [f_X2_aisleOfBox, if_pos e3]
  · rw [if_neg (by rw [e]; exact nI_nm1 (by omega)), e, nI_clamp (by omega)]
    obtain ⟨⟨b, hb, eb⟩, -⟩ := hO i hi
    have e2 : f_X0_boxOf (nI no) ob (nI i) = nI b := by
      rw [f_X0_boxOf, if_neg (fun z => (below_iff rfl (by omega)).mp z (vp_in_nI hi (by omega))), nI_clamp (by omega), eb]
    rw [e2, eb]
    rw [eb] at hs
    rcases aisle_cases hR hn hb with ⟨-, -, a⟩ | ⟨k, hk, -, -, -, a1, a2⟩
    · exact absurd a hs
    · rw [a1, a2]
theorem S_fetch (h : CI ck cn sp mli gp tg mtm st sm db ins mv oc ob od) (lt : Int32) (dn : Nat → Int32) (ov : Nat → Int64) (p0 : Int32) :
    (f_X4_fetch ck tg oc lt mli ins ob od dn p0).2.1 = (f_L_fetch ck cn sp gp tg ins oc lt ob od dn ov p0).1 ∧ (f_X4_fetch ck tg oc lt mli ins ob od dn p0).2.2.1 = (f_L_fetch ck cn sp gp tg ins oc lt ob od dn ov p0).2.2.1 ∧ (f_X4_fetch ck tg oc lt mli ins ob od dn p0).2.2.2.2 = (f_L_fetch ck cn sp gp tg ins oc lt ob od dn ov p0).2.2.2.1 ∧
    ((f_L_fetch ck cn sp gp tg ins oc lt ob od dn ov p0).1 = 0 → (f_L_fetch ck cn sp gp tg ins oc lt ob od dn ov p0).2.2.2.2 0 = (f_X4_fetch ck tg oc lt mli ins ob od dn p0).1.toInt64) ∧
    CI ck cn (f_L_fetch ck cn sp gp tg ins oc lt ob od dn ov p0).2.1 (f_X4_fetch ck tg oc lt mli ins ob od dn p0).2.2.2.1 gp tg mtm st sm db ins mv oc ob od := by
  have h0 := h
  obtain ⟨n, no, g, t, c, hn, rfl, hno, rfl, hg, rfl, ht, rfl, rfl, hc, rfl, hR, hO, hV, hst, hsm, hdb, hins, hin⟩ := h
  rw [f_L_fetch, f_X4_fetch, k_X3_fetch, f_X3_fetch, k_X3_requirePerson, k_X3_requireInside]
  by_cases c1 : f_X3_isBelow p0 4 = 0
  · simp [c1, (person_iff p0).mpr c1, h0]
  · have m1 : ¬ f_X4_isPerson p0 = 0 := fun z => c1 ((person_iff p0).mp z)
    obtain ⟨w, hw, rfl⟩ := vp_in_of (in_below (N := 4) rfl (by decide) c1) (by decide)
    by_cases c2 : ins w = 0
    · have m2 : f_X1_isInside ins (nI w) = 0 := by rw [f_X1_isInside, if_neg c1, nI_clamp (by omega), if_pos c2]
      simp [c1, m1, m2, c2, h0, nI_clamp (n := w) (by omega)]
    · have m2 : ¬ f_X1_isInside ins (nI w) = 0 := by rw [f_X1_isInside, if_neg c1, nI_clamp (by omega), if_neg c2]; decide
      have hgt : g = t := hin.resolve_left fun z => c2 (z w hw)
      subst hgt
      have hoa : f_X1_openAisle (nI g) (nI g) = nI g := by rw [f_X1_openAisle, if_pos rfl]
      rw [hoa, first_eq hR hn hno hO (Or.inr ⟨g, by omega, rfl, rfl⟩)]
      rcases first_cases (mli := mli) (ob := ob) (od := od) (dn := dn) hno (nI g) with e | ⟨i, hi, e, hs⟩
      · simp [c1, m1, m2, c2, e, h0, nI_clamp (n := w) (by omega)]
      · obtain ⟨⟨b, hb, eb⟩, -⟩ := hO i hi
        have hbl : ¬ f_X3_isBelow (nI i) (nI no) = 0 := fun z => (below_iff rfl (by omega)).mp z (vp_in_nI hi (by omega))
        have e2 : f_X0_boxOf (nI no) ob (nI i) = nI b := by rw [f_X0_boxOf, if_neg hbl, nI_clamp (by omega), eb]
        rw [eb] at hs
        obtain ⟨hh, -⟩ := has_yes hn hb
        rcases spot_cases hR hn hb with ⟨-, a⟩ | ⟨k, hk, a1, -, a2⟩
        · exact absurd a hs
        · have hCI : CI (nI c) (nI n) (upd sp b (-1)) (upd mli k 0) (nI g) (nI g) (nI (dst g g)) st sm db ins mv (nI no) ob od :=
            ⟨n, no, g, g, c, hn, rfl, hno, rfl, hg, rfl, ht, rfl, rfl, hc, rfl, hR.out hn hb hk a1, hO, hV, hst, hsm, hdb, hins, hin⟩
          by_cases c3 : nI c ≤ od i
          · simp [c1, m1, m2, c2, e, e2, eb, hbl, hh, nI_nm1 (n := i) (by omega), ov0, ov0', f_X0_finish, f_X2_put, a2, c3, nI_clamp (n := w) (by omega), nI_clamp (n := i) (by omega), nI_clamp (n := b) (by omega), nI_clamp (n := k) (by omega), hCI]
          · simp [c1, m1, m2, c2, e, e2, eb, hbl, hh, nI_nm1 (n := i) (by omega), ov0, ov0', f_X0_finish, f_X2_put, a2, c3, nI_clamp (n := w) (by omega), nI_clamp (n := i) (by omega), nI_clamp (n := b) (by omega), nI_clamp (n := k) (by omega), hCI]
end STEPS2
