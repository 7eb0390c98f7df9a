/-! what each call does to both: aisles and people, and what is given back -/
section STEPS3
variable {ck cn gp tg mtm st sm oc : Int32} {sp mli db ins mv ob od dn : Nat → Int32}
theorem open_eq {g t : Nat} (hg : g ≤ 6) (ht : t ≤ 6) : f_X1_openAisle (nI g) (nI t) = if g = t then nI t else -1 := by
  rw [f_X1_openAisle]
  by_cases e : g = t
  · rw [if_pos (by rw [e]), if_pos e, e]
  · rw [if_neg (fun z => e ((nI_eq (by omega) (by omega)).mp z)), if_neg e]
theorem dst_le {g t : Nat} (hg : g ≤ 6) (ht : t ≤ 6) : (nI (dst g t) ≤ 0 ↔ g = t) ∧ (0 < nI (dst g t) ↔ ¬ g = t) := by
  have h6 : dst g t ≤ 6 := by unfold dst; omega
  have h1 : nI (dst g t) ≤ 0 ↔ g = t := by
    rw [show (0 : Int32) = nI 0 from rfl, nI_leI (by omega) (by decide)]
    unfold dst; omega
  refine ⟨h1, ?_⟩
  rw [← h1, Int32.not_le]
theorem below7 {x : Int32} (h : ¬ f_X3_isBelow x 7 = 0) : ∃ a, a < 7 ∧ x = nI a := vp_in_of (in_below (N := 7) rfl (by decide) h) (by decide)
theorem below7' {a : Nat} (h : a < 7) : ¬ f_X3_isBelow (nI a) 7 = 0 := fun z => (below_iff (N := 7) rfl (by decide)).mp z (vp_in_nI h (by decide))
theorem below4 {x : Int32} (h : ¬ f_X3_isBelow x 4 = 0) : ∃ a, a < 4 ∧ x = nI a := vp_in_of (in_below (N := 4) rfl (by decide) h) (by decide)
theorem vp_nar1 : vp_nar .boolean 1 = 1 := rfl
theorem vp_nar0 : vp_nar .boolean 0 = 0 := rfl
/-- may an aisle be opened? -/
theorem may_cases {g t : Nat} (hg : g ≤ 6) (ht : t ≤ 6) (st sm : Int32) (db ins : Nat → Int32) :
    (f_X1_mayOpen (nI g) (nI t) st sm db ins = 1 ∧ g = t ∧ f_X1_countInside ins = 0 ∧ db t = 0 ∧ st = 0 ∧ sm = 0) ∨
    (f_X1_mayOpen (nI g) (nI t) st sm db ins = 0 ∧ ¬ (g = t ∧ f_X1_countInside ins = 0 ∧ db t = 0 ∧ st = 0 ∧ sm = 0)) := by
  rw [f_X1_mayOpen, open_eq hg ht]
  by_cases e : g = t
  · rw [if_pos e, if_neg (nI_nm1 (by omega))]
    by_cases c1 : f_X1_countInside ins = 0
    · rw [if_pos c1]
      have hd : f_X1_hasDoubt db (nI t) = if db t = 0 then 0 else 1 := by
        rw [f_X1_hasDoubt, if_neg (below7' (by omega)), nI_clamp (by omega)]
      rw [hd]
      by_cases c2 : db t = 0
      · rw [if_pos c2, if_pos rfl]
        by_cases c3 : st = 0
        · rw [if_pos c3]
          by_cases c4 : sm = 0
          · rw [if_pos c4]; exact Or.inl ⟨rfl, e, c1, c2, c3, c4⟩
          · rw [if_neg c4]; exact Or.inr ⟨rfl, fun z => c4 z.2.2.2.2⟩
        · rw [if_neg c3]; exact Or.inr ⟨rfl, fun z => c3 z.2.2.2.1⟩
      · rw [if_neg c2, if_neg (by decide)]; exact Or.inr ⟨rfl, fun z => c2 z.2.2.1⟩
    · rw [if_neg c1]; exact Or.inr ⟨rfl, fun z => c1 z.2.1⟩
  · rw [if_neg e, if_pos rfl]; exact Or.inr ⟨rfl, fun z => e z.1⟩
theorem inside_pos (ins : Nat → Int32) : (0 < f_X4_inside ins ↔ ¬ f_X1_countInside ins = 0) ∧ (f_X1_countInside ins = 0 ↔ ∀ k, k < 4 → ins k = 0) := by
  obtain ⟨d, hd, e, hz⟩ := count_cases ins
  rw [inside_eq, e]
  have h0 : nI d = 0 ↔ d = 0 := nI_eq (b := 0) (by omega) (by decide)
  have h1 : (0 < nI d) ↔ 0 < d := nI_ltI (a := 0) (by decide) (by omega)
  rw [h0, h1]
  exact ⟨by omega, hz⟩
/-- the model's open, when it may not be -/
theorem openM_no {g t : Nat} (hg : g ≤ 6) (ht : t ≤ 6) (st sm : Int32) (db ins : Nat → Int32) (p0 : Int32) (h : ¬ (g = t ∧ f_X1_countInside ins = 0 ∧ db t = 0 ∧ st = 0 ∧ sm = 0)) :
    f_X4_open (nI t) (nI (dst g t)) st sm db ins p0 = if f_X4_in p0 0 6 = 0 then (0, 1, nI t, nI (dst g t)) else (0, 2, nI t, nI (dst g t)) := by
  rw [f_X4_open, nI_clamp (by omega)]
  by_cases c1 : 0 < f_X4_inside ins
  · rw [if_pos c1]
  · rw [if_neg c1]
    have d1 : f_X1_countInside ins = 0 := Decidable.byContradiction fun z => c1 ((inside_pos ins).1.mpr z)
    by_cases c2 : 0 < nI (dst g t)
    · rw [if_pos c2]
    · rw [if_neg c2]
      have d2 : g = t := Decidable.byContradiction fun z => c2 ((dst_le hg ht).2.mpr z)
      by_cases c3 : db t = 0
      · rw [if_pos c3]
        by_cases c4 : st = 0
        · rw [if_pos c4]
          by_cases c5 : sm = 0
          · exact absurd ⟨d2, d1, c3, c4, c5⟩ h
          · rw [if_neg c5]
        · rw [if_neg c4]
      · rw [if_neg c3]
theorem openM_yes {t : Nat} (ht : t ≤ 6) {st sm : Int32} {db ins : Nat → Int32} (p0 : Int32) (h1 : f_X1_countInside ins = 0) (h2 : db t = 0) (h3 : st = 0) (h4 : sm = 0) :
    f_X4_open (nI t) (nI (dst t t)) st sm db ins p0 = if f_X4_in p0 0 6 = 0 then (0, 1, nI t, nI (dst t t)) else if p0 ≤ nI t then (nI t - p0, 0, p0, nI t - p0) else (p0 - nI t, 0, p0, p0 - nI t) := by
  rw [f_X4_open, nI_clamp (by omega), if_neg (fun z => (inside_pos ins).1.mp z h1), if_neg (fun z => (dst_le ht ht).2.mp z rfl), if_pos h2, if_pos h3, if_pos h4]
theorem S_open (h : CI ck cn sp mli gp tg mtm st sm db ins mv oc ob od) (ov : Nat → Int64) (p0 : Int32) :
    (f_X4_open tg mtm st sm db ins p0).2.1 = (f_L_open gp tg st sm db ins ov p0).1 ∧ (f_X4_open tg mtm st sm db ins p0).2.2.1 = (f_L_open gp tg st sm db ins ov p0).2.1 ∧
    ((f_L_open gp tg st sm db ins ov p0).1 = 0 → (f_L_open gp tg st sm db ins ov p0).2.2 0 = (f_X4_open tg mtm st sm db ins p0).1.toInt64) ∧
    CI ck cn sp mli gp (f_L_open gp tg st sm db ins ov p0).2.1 (f_X4_open tg mtm st sm db ins p0).2.2.2 st sm db ins mv oc ob od := by
  have h0 := h
  obtain ⟨n, no, g, t, c, hn, rfl, hno, rfl, hg, rfl, ht, rfl, rfl, hc, rfl, hR, hO, hV, hst, hsm, hdb, hins, hin⟩ := h
  rw [f_L_open, k_X3_open, f_X3_open, k_X3_requireAisle]
  by_cases c1 : f_X3_isBelow p0 7 = 0
  · have m1 := (aisle_iff p0).mpr c1
    rcases may_cases hg ht st sm db ins with ⟨-, e, a1, a2, a3, a4⟩ | ⟨-, a⟩
    · subst e
      rw [openM_yes ht p0 a1 a2 a3 a4]
      simp [c1, m1, h0]
    · rw [openM_no hg ht st sm db ins p0 a]
      simp [c1, m1, h0]
  · have m1 : ¬ f_X4_in p0 0 6 = 0 := fun z => c1 ((aisle_iff p0).mp z)
    obtain ⟨w, hw, rfl⟩ := below7 c1
    rcases may_cases hg ht st sm db ins with ⟨e0, e, a1, a2, a3, a4⟩ | ⟨e0, a⟩
    · subst e
      rw [openM_yes ht (nI w) a1 a2 a3 a4]
      have hCI : CI (nI c) (nI n) sp mli (nI g) (nI w) (nI (dst g w)) st sm db ins mv (nI no) ob od :=
        ⟨n, no, g, w, c, hn, rfl, hno, rfl, hg, rfl, by omega, rfl, rfl, hc, rfl, hR, hO, hV, hst, hsm, hdb, hins, Or.inl ((inside_pos ins).2.mp a1)⟩
      have hmv : f_X1_movesToCome (nI g) (nI w) = nI (dst g w) := moves_eq hg (by omega)
      by_cases c2 : nI w ≤ nI g
      · have q := (nI_leI (by omega) (by omega)).mp c2
        have e2 : nI g - nI w = nI (dst g w) := by rw [pk_sub q]; congr 1; unfold dst; omega
        simp [c1, m1, e0, c2, e2, hmv, f_X1_aimAt, ov0, ov0', hCI]
      · have q : g ≤ w := by
          rcases Nat.lt_or_ge g w with z | z
          · omega
          · exact absurd ((nI_leI (by omega) (by omega)).mpr z) c2
        have e2 : nI w - nI g = nI (dst g w) := by rw [pk_sub q]; congr 1; unfold dst; omega
        simp only [c1, m1, e0, c2, if_false, if_true]
        simp [e2, hmv, f_X1_aimAt, ov0, ov0', hCI]
    · rw [openM_no hg ht st sm db ins (nI w) a]
      simp [c1, m1, e0, h0]
theorem S_opened (h : CI ck cn sp mli gp tg mtm st sm db ins mv oc ob od) : f_X3_opened gp tg = (f_X4_opened tg mtm).1 := by
  obtain ⟨n, no, g, t, c, hn, rfl, hno, rfl, hg, rfl, ht, rfl, rfl, hc, rfl, hR, hO, hV, hst, hsm, hdb, hins, hin⟩ := h
  rw [f_X3_opened, open_eq hg ht, f_X4_opened]
  by_cases e : g = t
  · rw [if_pos e, if_pos ((dst_le hg ht).1.mpr e)]
  · rw [if_neg e, if_neg (fun z => e ((dst_le hg ht).1.mp z))]
theorem S_openedByMoves (h : CI ck cn sp mli gp tg mtm st sm db ins mv oc ob od) : f_X3_openedByMoves tg mv = (f_X4_openedByMoves tg mtm).1 := by
  have h2 := S_opened h
  obtain ⟨n, no, g, t, c, hn, rfl, hno, rfl, hg, rfl, ht, rfl, rfl, hc, rfl, hR, hO, hV, hst, hsm, hdb, hins, hin⟩ := h
  rw [f_X3_openedByMoves, byMoves_eq (by omega) hg hV, f_X4_openedByMoves]
  exact h2
theorem S_goIn (h : CI ck cn sp mli gp tg mtm st sm db ins mv oc ob od) (ov : Nat → Int64) (p0 : Int32) :
    (f_X4_goIn mtm sm ins p0).2.1 = (f_L_goIn gp tg sm ins ov p0).1 ∧ (f_X4_goIn mtm sm ins p0).2.2 = (f_L_goIn gp tg sm ins ov p0).2.1 ∧ ((f_L_goIn gp tg sm ins ov p0).1 = 0 → (f_L_goIn gp tg sm ins ov p0).2.2 0 = (f_X4_goIn mtm sm ins p0).1.toInt64) ∧
    CI ck cn sp mli gp tg mtm st sm db (f_L_goIn gp tg sm ins ov p0).2.1 mv oc ob od := by
  have h0 := h
  obtain ⟨n, no, g, t, c, hn, rfl, hno, rfl, hg, rfl, ht, rfl, rfl, hc, rfl, hR, hO, hV, hst, hsm, hdb, hins, hin⟩ := h
  rw [f_L_goIn, f_X4_goIn, k_X3_goIn, f_X3_goIn, k_X3_requirePerson]
  by_cases c1 : f_X3_isBelow p0 4 = 0
  · simp [c1, (person_iff p0).mpr c1, h0]
  · have m1 : ¬ f_X4_isPerson p0 = 0 := fun z => c1 ((person_iff p0).mp z)
    obtain ⟨w, hw, rfl⟩ := below4 c1
    have hI : f_X1_isInside ins (nI w) = if ins w = 0 then 0 else 1 := by rw [f_X1_isInside, if_neg c1, nI_clamp (by omega)]
    by_cases c2 : ins w = 0
    · rw [if_pos c2] at hI
      have hM : f_X1_mayGoIn (nI g) (nI t) sm = if g = t then (if sm = 0 then 1 else 0) else 0 := by
        rw [f_X1_mayGoIn, open_eq hg ht]
        by_cases e : g = t
        · rw [if_pos e, if_pos e, if_neg (nI_nm1 (by omega))]
        · rw [if_neg e, if_neg e, if_pos rfl]
      by_cases e : g = t
      · rw [if_pos e] at hM
        have d1 : ¬ 0 < nI (dst g t) := fun z => (dst_le hg ht).2.mp z e
        by_cases c3 : sm = 0
        · subst c3
          rw [if_pos rfl] at hM
          have hS : f_X1_setInside ins (nI w) 1 = upd ins w 1 := by rw [f_X1_setInside, if_neg c1, nI_clamp (by omega), vp_nar1]
          have hCI : CI (nI c) (nI n) sp mli (nI g) (nI t) (nI (dst g t)) st 0 db (upd ins w 1) mv (nI no) ob od :=
            ⟨n, no, g, t, c, hn, rfl, hno, rfl, hg, rfl, ht, rfl, rfl, hc, rfl, hR, hO, hV, hst, hsm, hdb, fun k hk => by
              by_cases z : k = w
              · rw [z, pk_us]; exact Or.inr rfl
              · rw [pk_un z]; exact hins k hk, Or.inr e⟩
          simp [c1, m1, hI, hM, c2, d1, hS, inside_eq, ov0, ov0', hCI, nI_clamp (n := w) (show w < 2 ^ 31 by omega)]
        · rw [if_neg c3] at hM
          simp [c1, m1, hI, hM, c2, c3, d1, h0, nI_clamp (n := w) (show w < 2 ^ 31 by omega)]
      · rw [if_neg e] at hM
        have d1 : 0 < nI (dst g t) := (dst_le hg ht).2.mpr e
        simp [c1, m1, hI, hM, c2, d1, h0, nI_clamp (n := w) (show w < 2 ^ 31 by omega)]
    · rw [if_neg c2] at hI
      simp [c1, m1, hI, c2, h0, nI_clamp (n := w) (show w < 2 ^ 31 by omega)]
theorem S_goOut (h : CI ck cn sp mli gp tg mtm st sm db ins mv oc ob od) (ov : Nat → Int64) (p0 : Int32) :
    (f_X4_goOut ins p0).2.1 = (f_L_goOut ins ov p0).1 ∧ (f_X4_goOut ins p0).2.2 = (f_L_goOut ins ov p0).2.1 ∧ ((f_L_goOut ins ov p0).1 = 0 → (f_L_goOut ins ov p0).2.2 0 = (f_X4_goOut ins p0).1.toInt64) ∧
    CI ck cn sp mli gp tg mtm st sm db (f_L_goOut ins ov p0).2.1 mv oc ob od := by
  have h0 := h
  obtain ⟨n, no, g, t, c, hn, rfl, hno, rfl, hg, rfl, ht, rfl, rfl, hc, rfl, hR, hO, hV, hst, hsm, hdb, hins, hin⟩ := h
  rw [f_L_goOut, f_X4_goOut, k_X3_goOut, f_X3_goOut, k_X3_requirePerson, k_X3_requireInside]
  by_cases c1 : f_X3_isBelow p0 4 = 0
  · simp [c1, (person_iff p0).mpr c1, h0]
  · have m1 : ¬ f_X4_isPerson p0 = 0 := fun z => c1 ((person_iff p0).mp z)
    obtain ⟨w, hw, rfl⟩ := below4 c1
    have hI : f_X1_isInside ins (nI w) = if ins w = 0 then 0 else 1 := by rw [f_X1_isInside, if_neg c1, nI_clamp (by omega)]
    by_cases c2 : ins w = 0
    · rw [if_pos c2] at hI
      simp [c1, m1, hI, c2, h0, nI_clamp (n := w) (show w < 2 ^ 31 by omega)]
    · rw [if_neg c2] at hI
      have hS : f_X1_setInside ins (nI w) 0 = upd ins w 0 := by rw [f_X1_setInside, if_neg c1, nI_clamp (by omega), vp_nar0]
      have hCI : CI (nI c) (nI n) sp mli (nI g) (nI t) (nI (dst g t)) st sm db (upd ins w 0) mv (nI no) ob od :=
        ⟨n, no, g, t, c, hn, rfl, hno, rfl, hg, rfl, ht, rfl, rfl, hc, rfl, hR, hO, hV, hst, hsm, hdb, fun k hk => by
          by_cases z : k = w
          · rw [z, pk_us]; exact Or.inl rfl
          · rw [pk_un z]; exact hins k hk, Or.inr (hin.resolve_left fun z => c2 (z w hw))⟩
      simp [c1, m1, hI, c2, hS, inside_eq, ov0, ov0', hCI, nI_clamp (n := w) (show w < 2 ^ 31 by omega)]
theorem doubt_CI (h : CI ck cn sp mli gp tg mtm st sm db ins mv oc ob od) (w : Nat) (v : Int32) (hv : v = 0 ∨ v = 1) : CI ck cn sp mli gp tg mtm st sm (upd db w v) ins mv oc ob od := by
  obtain ⟨n, no, g, t, c, hn, rfl, hno, rfl, hg, rfl, ht, rfl, rfl, hc, rfl, hR, hO, hV, hst, hsm, hdb, hins, hin⟩ := h
  exact ⟨n, no, g, t, c, hn, rfl, hno, rfl, hg, rfl, ht, rfl, rfl, hc, rfl, hR, hO, hV, hst, hsm, fun k hk => by
    by_cases z : k = w
    · rw [z, pk_us]; exact hv
    · rw [pk_un z]; exact hdb k hk, hins, hin⟩
theorem S_doubt (h : CI ck cn sp mli gp tg mtm st sm db ins mv oc ob od) (ov : Nat → Int64) (p0 : Int32) :
    (f_X4_doubt db p0).2.1 = (f_L_doubt db ov p0).1 ∧ (f_X4_doubt db p0).2.2 = (f_L_doubt db ov p0).2.1 ∧ ((f_L_doubt db ov p0).1 = 0 → (f_L_doubt db ov p0).2.2 0 = if (f_X4_doubt db p0).1 = 0 then 0 else 1) ∧
    CI ck cn sp mli gp tg mtm st sm (f_L_doubt db ov p0).2.1 ins mv oc ob od := by
  rw [f_L_doubt, f_X4_doubt, k_X3_doubt, f_X3_doubt, k_X3_requireAisle]
  by_cases c1 : f_X3_isBelow p0 7 = 0
  · simp [c1, (aisle_iff p0).mpr c1, h]
  · have m1 : ¬ f_X4_in p0 0 6 = 0 := fun z => c1 ((aisle_iff p0).mp z)
    obtain ⟨w, hw, rfl⟩ := below7 c1
    have hD : f_X1_hasDoubt db (nI w) = if db w = 0 then 0 else 1 := by rw [f_X1_hasDoubt, if_neg c1, nI_clamp (by omega)]
    have hS : f_X1_setDoubt db (nI w) 1 = upd db w 1 := by rw [f_X1_setDoubt, if_neg c1, nI_clamp (by omega), vp_nar1]
    have hCI := doubt_CI h w 1 (Or.inr rfl)
    by_cases c2 : db w = 0
    · rw [if_pos c2] at hD
      simp [c1, m1, hD, hS, c2, ov0, ov0', hCI, nI_clamp (n := w) (show w < 2 ^ 31 by omega)]
    · rw [if_neg c2] at hD
      simp [c1, m1, hD, hS, c2, ov0, ov0', hCI, nI_clamp (n := w) (show w < 2 ^ 31 by omega)]
theorem S_look (h : CI ck cn sp mli gp tg mtm st sm db ins mv oc ob od) (ov : Nat → Int64) :
    (f_X4_look tg mtm db).2.1 = (f_L_look gp tg db ov).1 ∧ (f_X4_look tg mtm db).2.2 = (f_L_look gp tg db ov).2.1 ∧ ((f_L_look gp tg db ov).1 = 0 → (f_L_look gp tg db ov).2.2 0 = if (f_X4_look tg mtm db).1 = 0 then 0 else 1) ∧
    CI ck cn sp mli gp tg mtm st sm (f_L_look gp tg db ov).2.1 ins mv oc ob od := by
  have h0 := h
  obtain ⟨n, no, g, t, c, hn, rfl, hno, rfl, hg, rfl, ht, rfl, rfl, hc, rfl, hR, hO, hV, hst, hsm, hdb, hins, hin⟩ := h
  rw [f_L_look, f_X4_look, k_X3_look, f_X3_look, open_eq hg ht]
  by_cases e : g = t
  · rw [if_pos e]
    have d1 := (dst_le hg ht).1.mpr e
    have n1 : ¬ nI t = -1 := nI_nm1 (by omega)
    have hD : f_X1_hasDoubt db (nI t) = if db t = 0 then 0 else 1 := by rw [f_X1_hasDoubt, if_neg (below7' (by omega)), nI_clamp (by omega)]
    have hS : f_X1_setDoubt db (nI t) 0 = upd db t 0 := by rw [f_X1_setDoubt, if_neg (below7' (by omega)), nI_clamp (by omega), vp_nar0]
    have hCI := doubt_CI h0 t 0 (Or.inl rfl)
    by_cases c2 : db t = 0
    · rw [if_pos c2] at hD
      simp [n1, d1, hD, hS, c2, ov0, ov0', hCI, nI_clamp (n := t) (show t < 2 ^ 31 by omega)]
    · rw [if_neg c2] at hD
      simp [n1, d1, hD, hS, c2, ov0, ov0', hCI, nI_clamp (n := t) (show t < 2 ^ 31 by omega)]
  · rw [if_neg e]
    have d1 : ¬ nI (dst g t) ≤ 0 := fun z => e ((dst_le hg ht).1.mp z)
    simp only [d1, if_true, if_false]
    simp [h0]
theorem S_stall (h : CI ck cn sp mli gp tg mtm st sm db ins mv oc ob od) (p0 : Int32) (hp : p0 = 0 ∨ p0 = 1) :
    (f_X3_stall st p0).1 = (f_X4_stall st p0).1 ∧ (f_X4_stall st p0).2.2 = (f_X3_stall st p0).2 ∧ CI ck cn sp mli gp tg mtm (f_X3_stall st p0).2 sm db ins mv oc ob od := by
  obtain ⟨n, no, g, t, c, hn, rfl, hno, rfl, hg, rfl, ht, rfl, rfl, hc, rfl, hR, hO, hV, hst, hsm, hdb, hins, hin⟩ := h
  have hCI : CI (nI c) (nI n) sp mli (nI g) (nI t) (nI (dst g t)) p0 sm db ins mv (nI no) ob od :=
    ⟨n, no, g, t, c, hn, rfl, hno, rfl, hg, rfl, ht, rfl, rfl, hc, rfl, hR, hO, hV, hp, hsm, hdb, hins, hin⟩
  rw [f_X3_stall, f_X4_stall, f_X1_changeStall]
  by_cases c1 : st = p0
  · rw [if_pos c1, if_pos c1]; exact ⟨rfl, rfl, hCI⟩
  · rw [if_neg c1, if_neg c1]; exact ⟨rfl, rfl, hCI⟩
theorem S_smoke (h : CI ck cn sp mli gp tg mtm st sm db ins mv oc ob od) (p0 : Int32) (hp : p0 = 0 ∨ p0 = 1) :
    (f_X3_smoke ins p0).1 = (f_X4_smoke ins p0).1 ∧ (f_X4_smoke ins p0).2.2.1 = (f_X3_smoke ins p0).2.1 ∧ (f_X4_smoke ins p0).2.2.2 = (f_X3_smoke ins p0).2.2 ∧ CI ck cn sp mli gp tg mtm st (f_X3_smoke ins p0).2.1 db (f_X3_smoke ins p0).2.2 mv oc ob od := by
  obtain ⟨n, no, g, t, c, hn, rfl, hno, rfl, hg, rfl, ht, rfl, rfl, hc, rfl, hR, hO, hV, hst, hsm, hdb, hins, hin⟩ := h
  rw [f_X3_smoke, f_X4_smoke, f_X1_changeSmoke]
  by_cases c1 : p0 = 0
  · subst c1
    rw [if_pos rfl, if_pos rfl, smoke_in 4 0 0 ins (by omega) hins]
    exact ⟨rfl, rfl, rfl, n, no, g, t, c, hn, rfl, hno, rfl, hg, rfl, ht, rfl, rfl, hc, rfl, hR, hO, hV, hst, Or.inl rfl, hdb, hins, hin⟩
  · rw [if_neg c1, if_neg c1, f_X1_sendAllOut]
    obtain ⟨e1, e2⟩ := smoke_out p0 c1 ins 4 0 (f_X4_inside ins) ins
    have hz := out_go ins 4 0 ins (by omega) (fun k hk => by omega)
    rw [e1]
    exact ⟨e2.trans (inside_eq ins).symm, rfl, rfl, n, no, g, t, c, hn, rfl, hno, rfl, hg, rfl, ht, rfl, rfl, hc, rfl, hR, hO, hV, hst, hp, hdb, fun k hk => Or.inl (hz k hk), Or.inl hz⟩
theorem S_pass (h : CI ck cn sp mli gp tg mtm st sm db ins mv oc ob od) (ov : Nat → Int64) (p0 : Int32) :
    (f_X4_pass ck mtm st sm p0).2.1 = (f_L_pass ck gp tg st sm mv ov p0).1 ∧ (f_X4_pass ck mtm st sm p0).2.2.1 = (f_L_pass ck gp tg st sm mv ov p0).2.1 ∧ ((f_L_pass ck gp tg st sm mv ov p0).1 = 0 → (f_L_pass ck gp tg st sm mv ov p0).2.2.2.2 0 = (f_X4_pass ck mtm st sm p0).1.toInt64) ∧
    CI (f_L_pass ck gp tg st sm mv ov p0).2.1 cn sp mli (f_L_pass ck gp tg st sm mv ov p0).2.2.1 tg (f_X4_pass ck mtm st sm p0).2.2.2 st sm db ins (f_L_pass ck gp tg st sm mv ov p0).2.2.2.1 oc ob od := by
  have h0 := h
  obtain ⟨n, no, g, t, c, hn, rfl, hno, rfl, hg, rfl, ht, rfl, rfl, hc, rfl, hR, hO, hV, hst, hsm, hdb, hins, hin⟩ := h
  rw [f_L_pass, k_X3_pass, f_X3_pass]
  by_cases c1 : p0 < 1
  · have m1 : f_X4_in p0 1 100 = 0 := range_iff.mpr (Or.inl c1)
    rw [f_X4_pass, if_pos m1]
    simp [c1, h0]
  · by_cases c2 : p0 ≤ 100
    · have m1 : ¬ f_X4_in p0 1 100 = 0 := fun z => (range_iff.mp z).elim c1 (fun q => q c2)
      have c0 : ¬ p0 < 0 := fun z => c1 (Int32.lt_trans z (by decide))
      obtain ⟨q, hq, rfl⟩ := nI_of2 (n := 100) (by decide) c0 c2
      rw [f_X4_pass, if_neg m1, nI_add]
      by_cases c3 : nI (c + q) ≤ 10000
      · have hcq : c + q ≤ 10000 := (nI_leI (b := 10000) (by omega) (by decide)).mp c3
        have hmove : (st = 0 ∧ sm = 0) ∨ ¬ (st = 0 ∧ sm = 0) := Decidable.em _
        rcases hmove with ⟨s1, s2⟩ | hno2
        · -- the shelves move
          have hmv := moves_eq hg ht
          have hd6 : dst g t ≤ 6 := by unfold dst; omega
          obtain ⟨r, hr, hr2⟩ : ∃ r, (if f_X1_movesToCome (nI g) (nI t) < nI q then f_X1_movesToCome (nI g) (nI t) else nI q) = nI r ∧ r = min (dst g t) q := by
            rw [hmv]
            by_cases z : nI (dst g t) < nI q
            · rw [if_pos z]
              have := (nI_ltI (by omega) (by omega)).mp z
              exact ⟨dst g t, rfl, by omega⟩
            · rw [if_neg z]
              have : ¬ dst g t < q := fun y => z ((nI_ltI (by omega) (by omega)).mpr y)
              exact ⟨q, rfl, by omega⟩
          obtain ⟨g2, mv2, e1, k1, k2, k3⟩ := move_go ht r 0 g c mv hg (by omega) hV
          have eF : f_X1_moveFor (nI g) (nI t) st sm mv (nI q) = (nI g2, mv2) := by
            rw [f_X1_moveFor, if_pos s1, if_pos s2, hr, nI_clamp (by omega), e1]
          have eT : (if nI (dst g t) ≤ nI q then (nI (c + q), (0 : Int32), nI (c + q), (0 : Int32)) else (nI (c + q), (0 : Int32), nI (c + q), nI (dst g t) - nI q)) = (nI (c + q), (0 : Int32), nI (c + q), nI (dst g2 t)) := by
            by_cases z : nI (dst g t) ≤ nI q
            · have := (nI_leI (by omega) (by omega)).mp z
              rw [if_pos z, show dst g2 t = 0 by omega]; rfl
            · have : ¬ dst g t ≤ q := fun y => z ((nI_leI (by omega) (by omega)).mpr y)
              rw [if_neg z, pk_sub (by omega), show dst g t - q = dst g2 t by omega]
          have hCI : CI (nI (c + q)) (nI n) sp mli (nI g2) (nI t) (nI (dst g2 t)) st sm db ins mv2 (nI no) ob od :=
            ⟨n, no, g2, t, c + q, hn, rfl, hno, rfl, k1, rfl, ht, rfl, rfl, hcq, rfl, hR, hO, k3.mono (by omega), hst, hsm, hdb, hins, hin.imp id (fun z => by rw [z] at k2; unfold dst at k2; omega)⟩
          rw [if_pos c3, if_pos s1, if_pos s2, eT, eF]
          simp [c1, c2, c3, ov0, ov0', hCI]
        · have eF : f_X1_moveFor (nI g) (nI t) st sm mv (nI q) = (nI g, mv) := by
            rw [f_X1_moveFor]
            by_cases s1 : st = 0
            · rw [if_pos s1, if_neg (fun z => hno2 ⟨s1, z⟩)]
            · rw [if_neg s1]
          have eM : (if st = 0 then (if sm = 0 then (if nI (dst g t) ≤ nI q then (nI (c + q), (0 : Int32), nI (c + q), (0 : Int32)) else (nI (c + q), (0 : Int32), nI (c + q), nI (dst g t) - nI q)) else (nI (c + q), (0 : Int32), nI (c + q), nI (dst g t))) else (nI (c + q), (0 : Int32), nI (c + q), nI (dst g t))) = (nI (c + q), (0 : Int32), nI (c + q), nI (dst g t)) := by
            by_cases s1 : st = 0
            · rw [if_pos s1, if_neg (fun z => hno2 ⟨s1, z⟩)]
            · rw [if_neg s1]
          have hCI : CI (nI (c + q)) (nI n) sp mli (nI g) (nI t) (nI (dst g t)) st sm db ins mv (nI no) ob od :=
            ⟨n, no, g, t, c + q, hn, rfl, hno, rfl, hg, rfl, ht, rfl, rfl, hcq, rfl, hR, hO, hV.mono (by omega), hst, hsm, hdb, hins, hin⟩
          rw [if_pos c3, eM, eF]
          simp [c1, c2, c3, ov0, ov0', hCI]
      · rw [if_neg c3]
        simp only [c1, c2, c3, if_true, if_false]
        simp [h0]
    · have m1 : f_X4_in p0 1 100 = 0 := range_iff.mpr (Or.inr c2)
      rw [f_X4_pass, if_pos m1]
      simp only [c1, c2, if_true, if_false]
      simp [h0]
theorem S_giveBack (h : CI ck cn sp mli gp tg mtm st sm db ins mv oc ob od) (sc cl : Nat → Int32) (ov : Nat → Int64) (p0 p1 p2 : Int32) :
    (f_X4_giveBack cn tg sc cl mli ins p0 p1 p2).2.1 = (f_L_giveBack cn sc cl sp gp tg ins ov p0 p1 p2).1 ∧ ((f_L_giveBack cn sc cl sp gp tg ins ov p0 p1 p2).1 = 0 → (f_L_giveBack cn sc cl sp gp tg ins ov p0 p1 p2).2.2 0 = if (f_X4_giveBack cn tg sc cl mli ins p0 p1 p2).1 = 0 then 0 else 1) ∧
    CI ck cn (f_L_giveBack cn sc cl sp gp tg ins ov p0 p1 p2).2.1 (f_X4_giveBack cn tg sc cl mli ins p0 p1 p2).2.2 gp tg mtm st sm db ins mv oc ob od := by
  have h0 := h
  obtain ⟨n, no, g, t, c, hn, rfl, hno, rfl, hg, rfl, ht, rfl, rfl, hc, rfl, hR, hO, hV, hst, hsm, hdb, hins, hin⟩ := h
  rw [f_L_giveBack, f_X4_giveBack, k_X3_giveBack, f_X3_giveBack, k_X3_requirePerson, k_X3_requireBox, k_X3_requireSpot, k_X3_requireInside, k_X3_requireOut]
  by_cases c1 : f_X3_isBelow p0 4 = 0
  · simp [c1, (person_iff p0).mpr c1, h0]
  · have m1 : ¬ f_X4_isPerson p0 = 0 := fun z => c1 ((person_iff p0).mp z)
    obtain ⟨w, hw, rfl⟩ := below4 c1
    rcases vp_dec (x := p1) (n := n) (by omega) with d1 | ⟨b, hb, rfl⟩
    · obtain ⟨m2, m3⟩ := has_no hn d1
      simp [c1, m1, m2, m3, h0]
    · obtain ⟨m2, m3⟩ := has_yes hn hb
      rcases spot_num p2 with ⟨a1, a2⟩ | ⟨k, hk, rfl, a1, a2⟩
      · simp [c1, m1, m2, m3, a1, a2, h0]
      · have hI : f_X1_isInside ins (nI w) = if ins w = 0 then 0 else 1 := by rw [f_X1_isInside, if_neg c1, nI_clamp (by omega)]
        have n2 : ¬ nI k = -1 := nI_nm1 (by omega)
        rw [whereIs_eq hn hb, a2]
        by_cases c2 : ins w = 0
        · rw [if_pos c2] at hI
          simp [c1, m1, m2, m3, a1, n2, hI, c2, f_X4_fails, h0, nI_clamp (n := w) (show w < 2 ^ 31 by omega)]
        · rw [if_neg c2] at hI
          have hgt : g = t := hin.resolve_left fun z => c2 (z w hw)
          subst hgt
          have hoa : f_X1_openAisle (nI g) (nI g) = nI g := by rw [f_X1_openAisle, if_pos rfl]
          rw [hoa, aisleT hk, aisleOf_eq hk]
          rcases spot_cases hR hn hb with ⟨e1, e2⟩ | ⟨k2, hk2, e1, -, e2⟩
          · by_cases c3 : nI (k / 6 + k / 3 % 2) = nI g
            · by_cases c4 : mli k = 0
              · have hf := (free_iff hR hn hk).mpr c4
                have hput : f_X2_put (nI n) sp (nI b) (nI (TT k)) = upd sp b (nI (TT k)) := by rw [f_X2_put, if_neg m2, nI_clamp (by omega)]
                have hRS := hR.put hn hb e1 hk c4
                have hCI : CI (nI c) (nI n) (upd sp b (nI (TT k))) (upd mli k (nI (b + 1))) (nI g) (nI g) (nI (dst g g)) st sm db ins mv (nI no) ob od :=
                  ⟨n, no, g, g, c, hn, rfl, hno, rfl, hg, rfl, ht, rfl, rfl, hc, rfl, hRS, hO, hV, hst, hsm, hdb, hins, hin⟩
                have hwr := isWrong_T (sp := upd sp b (nI (TT k))) hn hb hk pk_us sc cl
                have e6 : nI k / 6 = nI (k / 6) := div6 hk
                rw [hput, hwr, e6]
                by_cases c5 : cl b = sc (k / 6)
                · have c6 : sc (k / 6) = cl b := c5.symm
                  simp only [c1, m1, m2, m3, a1, n2, hI, c2, e1, e2, c3, c4, hf, c5, if_true, if_false, nI_clamp (n := w) (show w < 2 ^ 31 by omega), nI_clamp (n := k) (show k < 2 ^ 31 by omega), nI_clamp (n := b) (show b < 2 ^ 31 by omega), nI_clamp (n := k / 6) (show k / 6 < 2 ^ 31 by omega), nI_1]
                  simp [ov0, ov0', hCI]
                · have c6 : ¬ sc (k / 6) = cl b := fun z => c5 z.symm
                  simp only [c1, m1, m2, m3, a1, n2, hI, c2, e1, e2, c3, c4, hf, c5, c6, if_true, if_false, nI_clamp (n := w) (show w < 2 ^ 31 by omega), nI_clamp (n := k) (show k < 2 ^ 31 by omega), nI_clamp (n := b) (show b < 2 ^ 31 by omega), nI_clamp (n := k / 6) (show k / 6 < 2 ^ 31 by omega), nI_1]
                  simp [ov0, ov0', hCI]
              · have hf : ¬ f_X2_boxIn (nI n) sp (nI (TT k)) = -1 := fun z => c4 ((free_iff hR hn hk).mp z)
                simp [c1, m1, m2, m3, a1, n2, hI, c2, e1, e2, c3, c4, hf, f_X4_fails, h0, nI_clamp (n := w) (show w < 2 ^ 31 by omega), nI_clamp (n := k) (show k < 2 ^ 31 by omega)]
            · simp [c1, m1, m2, m3, a1, n2, hI, c2, e1, e2, c3, f_X4_fails, h0, nI_clamp (n := w) (show w < 2 ^ 31 by omega)]
          · have n3 : ¬ nI k2 = -1 := nI_nm1 (by omega)
            simp [c1, m1, m2, m3, a1, n2, hI, c2, e1, e2, n3, TT_nm1 hk2, f_X4_fails, h0, nI_clamp (n := w) (show w < 2 ^ 31 by omega)]
theorem S_waiting (oc : Int32) (dn : Nat → Int32) : f_X3_waiting oc dn = (f_X4_waiting oc dn).1 := by rw [f_X3_waiting, waiting_eq]
theorem S_late (lt : Int32) : f_X3_late lt = (f_X4_late lt).1 := rfl
end STEPS3
