/-! what each call answers where the law calls it -/
section ANS
variable {n no g c l b : Nat} {sp mli sc cl wt kn db ins mv ob od dn lo : Nat → Int32}
theorem has1 (hn : n ≤ 20) (hb : b < n) : ¬ f_X2_has (nI n) (nI b) = 0 := fun z => (has_iff hn).mp z (vp_in_nI hb (by omega))
theorem belowN {s N : Nat} (h : s < N) (hN : N < 2 ^ 31) : ¬ f_X3_isBelow (nI s) (nI N) = 0 := fun z => (below_iff (N := N) rfl hN).mp z (vp_in_nI h hN)
theorem kBox (hn : n ≤ 20) (hb : b < n) : k_X3_requireBox (nI n) (nI b) = 0 := by rw [k_X3_requireBox, if_neg (has1 hn hb)]
theorem kOut (hn : n ≤ 20) (hb : b < n) (e : sp b = -1) : k_X3_requireOut (nI n) sp (nI b) = 0 := by rw [k_X3_requireOut, whereIs_eq hn hb, if_pos e]
theorem kShelf {s : Nat} (hs : s < 6) : k_X3_requireShelf (nI s) = 0 := by rw [k_X3_requireShelf, if_neg (below6 hs)]
theorem kAisle {s : Nat} (hs : s < 7) : k_X3_requireAisle (nI s) = 0 := by rw [k_X3_requireAisle, if_neg (below7' hs)]
theorem isSpot_T {k : Nat} (hk : k < 36) : ¬ f_X3_isSpot (nI (TT k)) = 0 := by
  have h2 := TT_lt hk
  rw [f_X3_isSpot, if_neg (nI_pos (by omega)), shelfT hk, sideAt_eq (by omega), placeAt_eq (by omega), if_neg (show ¬ 6 ≤ nI (k / 6) from nI_ge (b := 6) (by omega) (by decide)), if_neg (show ¬ 2 ≤ nI (TT k / 10 % 10) from nI_ge (b := 2) (by unfold TT; omega) (by decide)), if_neg (show ¬ 3 ≤ nI (TT k % 10) from nI_ge (b := 3) (by unfold TT; omega) (by decide))]
  decide
theorem k_spotOf (hn : n ≤ 20) (hb : b < n) : k_X3_spotOf (nI n) (nI b) = 0 := by rw [k_X3_spotOf, if_pos (kBox hn hb)]
theorem spotOf_eq (hn : n ≤ 20) (hb : b < n) : f_X3_spotOf (nI n) sp (nI b) = sp b := by rw [f_X3_spotOf, if_pos (kBox hn hb), whereIs_eq hn hb]
theorem k_boxAt {k : Nat} (hk : k < 36) : k_X3_boxAt (nI (TT k)) = 0 := by rw [k_X3_boxAt, k_X3_requireSpot, if_neg (isSpot_T hk), if_pos rfl]
theorem boxAt_eq (h : RS n sp mli) (hn : n ≤ 20) {k : Nat} (hk : k < 36) : f_X3_boxAt (nI n) sp (nI (TT k)) = mli k - 1 := by rw [f_X3_boxAt, k_X3_requireSpot, if_neg (isSpot_T hk), if_pos rfl, boxIn_eq h hn hk]
theorem k_weight {s : Nat} (hs : s < 6) : k_X3_weight (nI s) = 0 := by rw [k_X3_weight, if_pos (kShelf hs)]
theorem weight_eq (h : RS n sp mli) (hn : n ≤ 20) {s : Nat} (hs : s < 6) : f_X3_weight (nI n) wt sp (nI s) = sumN (fun i => qW mli wt (6 * s + i)) 6 := by rw [f_X3_weight, if_pos (kShelf hs), weight_rows h hn hs]
theorem weight_eq1 {s : Nat} (hs : s < 6) : f_X3_weight (nI n) wt sp (nI s) = f_X2_weightOn (nI n) wt sp (nI s) := by rw [f_X3_weight, if_pos (kShelf hs)]
theorem k_setClimate {s v : Nat} (hs : s < 6) (hv : v < 3) : k_X3_setClimate (nI s) (nI v) = 0 := by
  rw [k_X3_setClimate, if_pos (kShelf hs), if_neg (show ¬ f_X3_isBelow (nI v) 3 = 0 from belowN (N := 3) hv (by decide))]
theorem setClimate_eq {s v : Nat} (hs : s < 6) (hv : v < 3) : f_X3_setClimate sc (nI s) (nI v) = (sc s, upd sc s (nI v)) := by
  rw [f_X3_setClimate, if_pos (kShelf hs), if_neg (show ¬ f_X3_isBelow (nI v) 3 = 0 from belowN (N := 3) hv (by decide)), climateOf_eq sc hs, f_X2_changeClimate, if_neg (below6 hs), nI_clamp (by omega)]
theorem full_no (hn : n < 20) : f_X2_isFull (nI n) = 0 := (isFull_iff (by omega)).mpr fun z => by
  have := (nI_eq (b := 20) (by omega) (by decide)).mp z
  omega
theorem k_addBox {x y z : Nat} (hn : n < 20) (hx : x < 3) (hy : 1 ≤ y) (hy2 : y ≤ 60) (hz : z < 10) : k_X3_addBox (nI n) (nI x) (nI y) (nI z) = 0 := by
  rw [k_X3_addBox, if_neg (show ¬ f_X3_isBelow (nI x) 3 = 0 from belowN (N := 3) hx (by decide)), if_neg (show ¬ nI y < 1 from nI_nlt (b := 1) hy (by omega)), if_pos (show nI y ≤ 60 from nI_le (b := 60) hy2 (by decide)), if_neg (show ¬ f_X3_isBelow (nI z) 10 = 0 from belowN (N := 10) hz (by decide)), if_pos (full_no hn)]
theorem addBox_eq {x y z : Nat} (hn : n < 20) (hx : x < 3) (hy : 1 ≤ y) (hy2 : y ≤ 60) (hz : z < 10) : f_X3_addBox (nI n) cl wt kn sp (nI x) (nI y) (nI z) = (nI n, nI (n + 1), upd cl n (nI x), upd wt n (nI y), upd kn n (nI z), upd sp n (-1)) := by
  rw [f_X3_addBox, if_neg (show ¬ f_X3_isBelow (nI x) 3 = 0 from belowN (N := 3) hx (by decide)), if_neg (show ¬ nI y < 1 from nI_nlt (b := 1) hy (by omega)), if_pos (show nI y ≤ 60 from nI_le (b := 60) hy2 (by decide)), if_neg (show ¬ f_X3_isBelow (nI z) 10 = 0 from belowN (N := 10) hz (by decide)), if_pos (full_no hn), f_X2_enter, if_pos (full_no hn), nI_clamp (by omega), nI_1]
theorem k_bestSpot (hn : n ≤ 20) (hb : b < n) (e : sp b = -1) : k_X3_bestSpot (nI n) sp (nI b) = 0 := by rw [k_X3_bestSpot, if_pos (kBox hn hb), if_pos (kOut hn hb e)]
theorem bestSpot_eq (hn : n ≤ 20) (hb : b < n) (e : sp b = -1) : f_X3_bestSpot (nI n) sc cl wt kn sp (nI b) = f_X2_bestSpotFor (nI n) sc cl wt kn sp (nI b) := by rw [f_X3_bestSpot, if_pos (kBox hn hb), if_pos (kOut hn hb e)]
theorem k_lay {k : Nat} (hn : n ≤ 20) (hb : b < n) (hk : k < 36) (e : sp b = -1) (es : f_X2_bestSpotFor (nI n) sc cl wt kn sp (nI b) = nI (TT k)) : k_X3_lay (nI n) sc cl wt kn sp (nI b) = 0 := by
  rw [k_X3_lay, if_pos (kBox hn hb), if_pos (kOut hn hb e), es, if_neg (TT_nm1 hk)]
theorem lay_eq {k : Nat} (hn : n ≤ 20) (hb : b < n) (hk : k < 36) (e : sp b = -1) (es : f_X2_bestSpotFor (nI n) sc cl wt kn sp (nI b) = nI (TT k)) : f_X3_lay (nI n) sc cl wt kn sp (nI b) = (nI (TT k), upd sp b (nI (TT k))) := by
  rw [f_X3_lay, if_pos (kBox hn hb), if_pos (kOut hn hb e), es, if_neg (TT_nm1 hk), f_X2_put, if_neg (has1 hn hb), nI_clamp (by omega)]
theorem oFull_no (hno : no < 30) : f_X0_isFull (nI no) = 0 := (oFull_iff (by omega)).mpr fun z => by
  have := (nI_eq (b := 30) (by omega) (by decide)).mp z
  omega
theorem k_order {d : Nat} (hn : n ≤ 20) (hb : b < n) (hno : no < 30) (hd : d ≤ 10000) (hz : ∀ i, i < no → dn i = 0 → ob i ≠ nI b) : k_X3_order (nI n) (nI no) ob dn (nI b) (nI d) = 0 := by
  rw [k_X3_order, if_pos (kBox hn hb), if_neg (nI_pos (by omega)), if_pos (show nI d ≤ 10000 from nI_le (b := 10000) hd (by decide)), if_pos (isOpenFor_no (by omega) hz), if_pos (oFull_no hno)]
theorem order_eq {d : Nat} (hn : n ≤ 20) (hb : b < n) (hno : no < 30) (hd : d ≤ 10000) (hz : ∀ i, i < no → dn i = 0 → ob i ≠ nI b) : f_X3_order (nI n) (nI no) ob od dn (nI b) (nI d) = (nI no, nI (no + 1), upd ob no (nI b), upd od no (nI d)) := by
  rw [f_X3_order, if_pos (kBox hn hb), if_neg (nI_pos (by omega)), if_pos (show nI d ≤ 10000 from nI_le (b := 10000) hd (by decide)), if_pos (isOpenFor_no (by omega) hz), if_pos (oFull_no hno), f_X0_enter, if_pos (oFull_no hno), nI_clamp (by omega), nI_1]
theorem opened_eq : f_X3_opened (nI g) (nI g) = nI g := by rw [f_X3_opened, f_X1_openAisle, if_pos rfl]
theorem opened_ne {t : Nat} (hg : g ≤ 6) (ht : t ≤ 6) (h : g ≠ t) : f_X3_opened (nI g) (nI t) = -1 := by rw [f_X3_opened, open_eq hg ht, if_neg h]
theorem moves_opened (hc : c < 2 ^ 31) (hg : g ≤ 6) (h : RV g mv c) : f_X3_openedByMoves (nI g) mv = nI g := by
  rw [f_X3_openedByMoves, byMoves_eq hc hg h, f_X1_openAisle, if_pos rfl]
theorem k_look (hg : g ≤ 6) : k_X3_look (nI g) (nI g) = 0 := by rw [k_X3_look, f_X1_openAisle, if_pos rfl, if_neg (nI_nm1 (by omega))]
theorem look_eq (hg : g ≤ 6) : f_X3_look (nI g) (nI g) db = (f_X1_hasDoubt db (nI g), upd db g 0) := by
  rw [f_X3_look, f_X1_openAisle, if_pos rfl, if_neg (nI_nm1 (by omega)), f_X1_setDoubt, if_neg (below7' (by omega)), nI_clamp (by omega), vp_nar0]
theorem inside0 (h : ∀ k, k < 4 → ins k = 0) : f_X1_countInside ins = 0 := by
  obtain ⟨d, -, e, h2⟩ := count_cases ins
  rw [e, h2.mpr h]; rfl
theorem may_open (hg : g ≤ 6) (h : ∀ k, k < 4 → ins k = 0) : f_X1_mayOpen (nI g) (nI g) 0 0 (upd db g 0) ins = 1 := by
  rw [f_X1_mayOpen, f_X1_openAisle, if_pos rfl, if_neg (nI_nm1 (by omega)), if_pos (inside0 h), if_pos, if_pos rfl, if_pos rfl]
  rw [f_X1_hasDoubt, if_neg (below7' (by omega)), nI_clamp (by omega), pk_us, if_pos rfl]
theorem k_open {t : Nat} (hg : g ≤ 6) (ht : t ≤ 6) (h : ∀ k, k < 4 → ins k = 0) : k_X3_open (nI g) (nI g) 0 0 (upd db g 0) ins (nI t) = 0 := by
  rw [k_X3_open, if_pos (kAisle (by omega)), may_open hg h, if_neg (by decide)]
theorem openTo_eq {t : Nat} (hg : g ≤ 6) (ht : t ≤ 6) (h : ∀ k, k < 4 → ins k = 0) : f_X3_open (nI g) (nI g) 0 0 (upd db g 0) ins (nI t) = (nI (dst g t), nI t) := by
  rw [f_X3_open, if_pos (kAisle (by omega)), may_open hg h, if_neg (by decide), f_X1_aimAt, moves_eq hg ht]
theorem hmv_of {t : Nat} (hg : g ≤ 6) (ht : t ≤ 6) : okN 6 (f_X1_movesToCome (nI g) (nI t)) := ⟨dst g t, by unfold dst; omega, moves_eq hg ht⟩
theorem k_pass {q : Nat} (h1 : 1 ≤ q) (h2 : q ≤ 100) (h3 : c + q ≤ 10000) : k_X3_pass (nI c) (nI q) = 0 := by
  rw [k_X3_pass, if_neg (show ¬ nI q < 1 from nI_nlt (b := 1) h1 (by omega)), if_pos (show nI q ≤ 100 from nI_le (b := 100) h2 (by decide)), nI_add, if_pos (show nI (c + q) ≤ 10000 from nI_le (b := 10000) h3 (by decide))]
theorem pass_eq {t q : Nat} (hg : g ≤ 6) (ht : t ≤ 6) (h1 : 1 ≤ q) (h2 : q ≤ 100) (h3 : c + q ≤ 10000) (hd : dst g t ≤ q) (hV : RV g mv c) :
    ∃ mv2, f_X3_pass (nI c) (nI g) (nI t) 0 0 mv (nI q) = (nI (c + q), nI (c + q), nI t, mv2) ∧ RV t mv2 (c + q) := by
  have hmv := moves_eq hg ht
  have hd6 : dst g t ≤ 6 := by unfold dst; omega
  have hr : (if f_X1_movesToCome (nI g) (nI t) < nI q then f_X1_movesToCome (nI g) (nI t) else nI q) = nI (dst g t) := by
    rw [hmv]
    by_cases z : nI (dst g t) < nI q
    · rw [if_pos z]
    · rw [if_neg z]
      have : ¬ dst g t < q := fun y => z ((nI_ltI (by omega) (by omega)).mpr y)
      congr 1; omega
  obtain ⟨g2, mv2, e1, k1, k2, k3⟩ := move_go ht (dst g t) 0 g c mv hg (Nat.le_refl _) hV
  have hgt : g2 = t := by unfold dst at k2; omega
  subst hgt
  refine ⟨mv2, ?_, k3.mono (by omega)⟩
  have eF : f_X1_moveFor (nI g) (nI g2) 0 0 mv (nI q) = (nI g2, mv2) := by
    rw [f_X1_moveFor, if_pos rfl, if_pos rfl, hr, nI_clamp (by omega), e1]
  rw [f_X3_pass, if_neg (show ¬ nI q < 1 from nI_nlt (b := 1) h1 (by omega)), if_pos (show nI q ≤ 100 from nI_le (b := 100) h2 (by decide)), nI_add, if_pos (show nI (c + q) ≤ 10000 from nI_le (b := 10000) h3 (by decide)), eF]
-- person 2 goes in, and out again
theorem isIn0 (h : ∀ k, k < 4 → ins k = 0) : f_X1_isInside ins 2 = 0 := by
  rw [f_X1_isInside, if_neg (show ¬ f_X3_isBelow 2 4 = 0 by decide), show (2 : Int32).toNatClampNeg = 2 from rfl, if_pos (h 2 (by decide))]
theorem isIn1 : f_X1_isInside (upd ins 2 1) 2 = 1 := by
  rw [f_X1_isInside, if_neg (show ¬ f_X3_isBelow 2 4 = 0 by decide), show (2 : Int32).toNatClampNeg = 2 from rfl, pk_us, if_neg (by decide)]
theorem setIn (v : Int32) (hv : vp_nar .boolean v = v) : f_X1_setInside ins 2 v = upd ins 2 v := by
  rw [f_X1_setInside, if_neg (show ¬ f_X3_isBelow 2 4 = 0 by decide), show (2 : Int32).toNatClampNeg = 2 from rfl, hv]
theorem inside1 (h : ∀ k, k < 4 → ins k = 0) : f_X1_countInside (upd ins 2 1) = 1 := by
  have e0 : upd ins 2 1 0 = 0 := by rw [pk_un (by decide)]; exact h 0 (by decide)
  have e1 : upd ins 2 1 1 = 0 := by rw [pk_un (by decide)]; exact h 1 (by decide)
  have e2 : upd ins 2 1 2 = 1 := pk_us
  have e3 : upd ins 2 1 3 = 0 := by rw [pk_un (by decide)]; exact h 3 (by decide)
  rw [f_X1_countInside, f_X1_countInside_L, nI_clamp (by decide), if_pos e0, f_X1_countInside_L, nI_clamp (by decide), if_pos e1, f_X1_countInside_L, nI_clamp (by decide), if_neg (by rw [e2]; decide), f_X1_countInside_L, nI_clamp (by decide), if_pos e3, f_X1_countInside_L]
  rfl
theorem ins_back (h : ∀ k, k < 4 → ins k = 0) : ∀ k, k < 4 → upd (upd ins 2 1) 2 0 k = 0 := by
  intro k hk
  by_cases e : k = 2
  · rw [e, pk_us]
  · rw [pk_un e, pk_un e]; exact h k hk
theorem k_pers2 : k_X3_requirePerson 2 = 0 := by decide
theorem k_in2 : k_X3_requireInside (upd ins 2 1) 2 = 0 := by rw [k_X3_requireInside, isIn1, if_neg (by decide)]
theorem may_in (hg : g ≤ 6) : f_X1_mayGoIn (nI g) (nI g) 0 = 1 := by rw [f_X1_mayGoIn, f_X1_openAisle, if_pos rfl, if_neg (nI_nm1 (by omega)), if_pos rfl]
theorem k_goIn (hg : g ≤ 6) (h : ∀ k, k < 4 → ins k = 0) : k_X3_goIn (nI g) (nI g) 0 ins 2 = 0 := by
  rw [k_X3_goIn, if_pos k_pers2, if_pos (isIn0 h), may_in hg, if_neg (by decide)]
theorem goIn_eq (hg : g ≤ 6) (h : ∀ k, k < 4 → ins k = 0) : f_X3_goIn (nI g) (nI g) 0 ins 2 = (1, upd ins 2 1) := by
  rw [f_X3_goIn, if_pos k_pers2, if_pos (isIn0 h), may_in hg, if_neg (by decide), setIn 1 vp_nar1, inside1 h]
theorem k_goOut : k_X3_goOut (upd ins 2 1) 2 = 0 := by rw [k_X3_goOut, if_pos k_pers2, if_pos k_in2]
theorem goOut_eq (h : ∀ k, k < 4 → ins k = 0) : f_X3_goOut (upd ins 2 1) 2 = (0, upd (upd ins 2 1) 2 0) := by
  rw [f_X3_goOut, if_pos k_pers2, if_pos k_in2, setIn 0 vp_nar0, inside0 (ins_back h)]
theorem k_fetch {i : Nat} (hno : no ≤ 30) (hi : i < no) (he : f_X0_earliest (nI no) ob od dn (nI n) sp (nI g) = nI i) : k_X3_fetch (nI n) sp (nI g) (nI g) (upd ins 2 1) (nI no) ob od dn 2 = 0 := by
  rw [k_X3_fetch, if_pos k_pers2, if_pos k_in2, f_X1_openAisle, if_pos rfl, he, if_neg (nI_nm1 (by omega))]
theorem fetch_eq {i : Nat} (hn : n ≤ 20) (hno : no ≤ 30) (hi : i < no) (hb : b < n) (eb : ob i = nI b) (he : f_X0_earliest (nI no) ob od dn (nI n) sp (nI g) = nI i) :
    ∃ l', (l' = l ∨ l' = l + 1) ∧ f_X3_fetch (nI c) (nI n) sp (nI g) (nI g) (upd ins 2 1) (nI no) (nI l) ob od dn 2 = (nI i, upd sp b (-1), nI l', upd dn i 1) := by
  have e : ∀ l', f_X0_finish (nI no) (nI l) od dn (nI i) (nI c) = (nI l', upd dn i 1) → f_X3_fetch (nI c) (nI n) sp (nI g) (nI g) (upd ins 2 1) (nI no) (nI l) ob od dn 2 = (nI i, upd sp b (-1), nI l', upd dn i 1) := by
    intro l' e
    rw [f_X3_fetch, if_pos k_pers2, if_pos k_in2, f_X1_openAisle, if_pos rfl, he, if_neg (nI_nm1 (by omega)), boxOf_eq hno hi, eb, e, f_X2_put, if_neg (has1 hn hb), nI_clamp (by omega)]
  have hbl : ¬ f_X3_isBelow (nI i) (nI no) = 0 := belowN hi (by omega)
  by_cases z : nI c ≤ od i
  · refine ⟨l, Or.inl rfl, e l ?_⟩
    rw [f_X0_finish, if_neg hbl, nI_clamp (by omega), if_pos z]
  · refine ⟨l + 1, Or.inr rfl, e (l + 1) ?_⟩
    rw [f_X0_finish, if_neg hbl, nI_clamp (by omega), if_neg z, nI_1]
theorem k_doubt {k : Nat} (hk : k < 7) : k_X3_doubt (nI k) = 0 := by rw [k_X3_doubt, if_pos (kAisle hk)]
theorem doubt_eq {k : Nat} (hk : k < 7) : f_X3_doubt db (nI k) = (if db k = 0 then 1 else 0, upd db k 1) := by
  have hD : f_X1_hasDoubt db (nI k) = if db k = 0 then 0 else 1 := by rw [f_X1_hasDoubt, if_neg (below7' hk), nI_clamp (by omega)]
  rw [f_X3_doubt, if_pos (kAisle hk), hD, f_X1_setDoubt, if_neg (below7' hk), nI_clamp (by omega), vp_nar1]
  by_cases e : db k = 0
  · rw [if_pos e, if_pos rfl, if_pos e]
  · rw [if_neg e, if_neg (by decide), if_neg e]
theorem stall01 : f_X3_stall 0 1 = (1, 1) := by decide
theorem stall11 : f_X3_stall 1 1 = (0, 1) := by decide
theorem stall10 : f_X3_stall 1 0 = (1, 0) := by decide
theorem out1 (r j : Nat) (m1 : Nat → Int32) : (f_X1_sendAllOut_L ins r j m1).1 = f_X1_countInside ins := by
  induction r generalizing j m1 with
  | zero => rw [f_X1_sendAllOut_L]
  | succ r ih => rw [f_X1_sendAllOut_L]; exact ih _ _
theorem smoke1_eq (h : ∀ k, k < 4 → ins k = 0) : f_X3_smoke ins 1 = (0, 1, (f_X1_sendAllOut ins).2) := by
  rw [f_X3_smoke, if_neg (by decide), f_X1_changeSmoke, f_X1_sendAllOut, out1, inside0 h]
theorem smoke0_eq : f_X3_smoke ins 0 = (0, 0, ins) := by rw [f_X3_smoke, if_pos rfl, f_X1_changeSmoke]
theorem out_all : ∀ k, k < 4 → (f_X1_sendAllOut ins).2 k = 0 := by
  rw [f_X1_sendAllOut]
  exact out_go ins 4 0 ins (by omega) (fun k hk => by omega)
end ANS
/-! the invariant between two turns -/
/-- the orders and the law's own book of them: done ones marked, one undone order a box at most, and 'ordered' says which boxes have one -/
def OP (n no : Nat) (ob dn lo : Nat → Int32) : Prop :=
  (∀ i, no ≤ i → dn i = 0) ∧ (∀ i j, i < no → j < no → dn i = 0 → dn j = 0 → ob i = ob j → i = j) ∧ (∀ b, b < n → (lo b = 0 ↔ ∀ i, i < no → dn i = 0 → ob i ≠ nI b)) ∧ (∀ b, n ≤ b → lo b = 0)
def IV (j n no g c l : Nat) (sp mli ob od dn mv ins lo : Nat → Int32) : Prop :=
  n ≤ 20 ∧ no ≤ 30 ∧ g ≤ 6 ∧ c ≤ 30 * j ∧ l ≤ j ∧ RS n sp mli ∧ OS n no ob od ∧ RV g mv c ∧ (∀ k, k < 4 → ins k = 0) ∧ OP n no ob dn lo
section INV
variable {j n no g c l b : Nat} {sp mli db ins mv ob od dn lo : Nat → Int32}
theorem OS.grow (h : OS n no ob od) : OS (n + 1) no ob od := fun i hi => by
  obtain ⟨⟨b, hb, e⟩, d⟩ := h i hi
  exact ⟨⟨b, by omega, e⟩, d⟩
theorem OP.grow (h : OP n no ob dn lo) (hn : n < 20) (ho : OS n no ob od) : OP (n + 1) no ob dn lo := by
  refine ⟨h.1, h.2.1, fun b hb => ?_, fun b hb => h.2.2.2 b (by omega)⟩
  by_cases e : b = n
  · subst e
    refine ⟨fun _ i hi _ z => ?_, fun _ => h.2.2.2 b (Nat.le_refl b)⟩
    obtain ⟨⟨b2, hb2, e2⟩, -⟩ := ho i hi
    have := (nI_eq (by omega) (by omega)).mp (e2.symm.trans z)
    omega
  · exact h.2.2.1 b (by omega)
theorem OS.order {d : Nat} (h : OS n no ob od) (hb : b < n) (hd : d ≤ 10000) : OS n (no + 1) (upd ob no (nI b)) (upd od no (nI d)) := fun i hi => by
  by_cases e : i = no
  · rw [e, pk_us, pk_us]; exact ⟨⟨b, hb, rfl⟩, d, hd, rfl⟩
  · rw [pk_un e, pk_un e]; exact h i (by omega)
theorem OP.order (h : OP n no ob dn lo) (hn : n ≤ 20) (hb : b < n) (hl : lo b = 0) : OP n (no + 1) (upd ob no (nI b)) dn (upd lo b 1) := by
  have hz := (h.2.2.1 b hb).mp hl
  refine ⟨fun i hi => h.1 i (by omega), fun i k hi hk di dk he => ?_, fun b2 hb2 => ?_, fun b2 hb2 => ?_⟩
  · by_cases ei : i = no
    · by_cases ek : k = no
      · omega
      · rw [ei, pk_us, pk_un ek] at he
        exact absurd he.symm (hz k (by omega) dk)
    · by_cases ek : k = no
      · rw [ek, pk_us, pk_un ei] at he
        exact absurd he (hz i (by omega) di)
      · rw [pk_un ei, pk_un ek] at he
        exact h.2.1 i k (by omega) (by omega) di dk he
  · by_cases e : b2 = b
    · subst e
      rw [pk_us]
      refine ⟨fun z => absurd z (by decide), fun z => ?_⟩
      have := z no (by omega) (h.1 no (Nat.le_refl no))
      rw [pk_us] at this
      exact absurd rfl this
    · rw [pk_un e, h.2.2.1 b2 hb2]
      refine ⟨fun z i hi di => ?_, fun z i hi di => ?_⟩
      · by_cases ei : i = no
        · rw [ei, pk_us]
          intro q
          exact e ((nI_eq (by omega) (by omega)).mp q).symm
        · rw [pk_un ei]; exact z i (by omega) di
      · have := z i (by omega) di
        rw [pk_un (by omega)] at this
        exact this
  · rw [pk_un (by omega)]; exact h.2.2.2 b2 hb2
theorem OP.done {i : Nat} (h : OP n no ob dn lo) (hn : n ≤ 20) (hi : i < no) (hd : dn i = 0) (hb : b < n) (eb : ob i = nI b) : OP n no ob (upd dn i 1) (upd lo b 0) := by
  refine ⟨fun k hk => ?_, fun k q hk hq dk dq he => ?_, fun b2 hb2 => ?_, fun b2 hb2 => ?_⟩
  · rw [pk_un (by omega)]; exact h.1 k hk
  · by_cases e1 : k = i
    · rw [e1, pk_us] at dk; exact absurd dk (by decide)
    · by_cases e2 : q = i
      · rw [e2, pk_us] at dq; exact absurd dq (by decide)
      · rw [pk_un e1] at dk
        rw [pk_un e2] at dq
        exact h.2.1 k q hk hq dk dq he
  · by_cases e : b2 = b
    · subst e
      rw [pk_us]
      refine ⟨fun _ k hk dk z => ?_, fun _ => rfl⟩
      by_cases e1 : k = i
      · rw [e1, pk_us] at dk; exact absurd dk (by decide)
      · rw [pk_un e1] at dk
        exact e1 (h.2.1 k i hk hi dk hd (z.trans eb.symm))
    · rw [pk_un e, h.2.2.1 b2 hb2]
      refine ⟨fun z k hk dk => ?_, fun z k hk dk => ?_⟩
      · by_cases e1 : k = i
        · rw [e1, pk_us] at dk; exact absurd dk (by decide)
        · rw [pk_un e1] at dk; exact z k hk dk
      · by_cases e1 : k = i
        · subst e1
          rw [eb]
          intro q
          exact e ((nI_eq (by omega) (by omega)).mp q).symm
        · exact z k hk (by rw [pk_un e1]; exact dk)
  · rw [pk_un (by omega)]; exact h.2.2.2 b2 hb2
theorem IV.same (h : IV j n no g c l sp mli ob od dn mv ins lo) : IV (j + 1) n no g c l sp mli ob od dn mv ins lo := by
  obtain ⟨h1, h2, h3, h4, h5, h6⟩ := h
  exact ⟨h1, h2, h3, by omega, by omega, h6⟩
theorem IV.addBox (h : IV j n no g c l sp mli ob od dn mv ins lo) (hn : n < 20) : IV (j + 1) (n + 1) no g c l (upd sp n (-1)) mli ob od dn mv ins lo := by
  obtain ⟨h1, h2, h3, h4, h5, hR, hO, hV, hI, hP⟩ := h
  exact ⟨by omega, h2, h3, by omega, by omega, hR.grow hn, hO.grow, hV, hI, hP.grow hn hO⟩
theorem IV.lay {k : Nat} (h : IV j n no g c l sp mli ob od dn mv ins lo) (hb : b < n) (hs : sp b = -1) (hk : k < 36) (hm : mli k = 0) : IV (j + 1) n no g c l (upd sp b (nI (TT k))) (upd mli k (nI (b + 1))) ob od dn mv ins lo := by
  obtain ⟨h1, h2, h3, h4, h5, hR, hO, hV, hI, hP⟩ := h
  exact ⟨h1, h2, h3, by omega, by omega, hR.put h1 hb hs hk hm, hO, hV, hI, hP⟩
theorem IV.order {d : Nat} (h : IV j n no g c l sp mli ob od dn mv ins lo) (hno : no < 30) (hb : b < n) (hl : lo b = 0) (hd : d ≤ 10000) : IV (j + 1) n (no + 1) g c l sp mli (upd ob no (nI b)) (upd od no (nI d)) dn mv ins (upd lo b 1) := by
  obtain ⟨h1, h2, h3, h4, h5, hR, hO, hV, hI, hP⟩ := h
  exact ⟨h1, by omega, h3, by omega, by omega, hR, hO.order hb hd, hV, hI, hP.order h1 hb hl⟩
theorem IV.done {i k l' : Nat} {ins' : Nat → Int32} (h : IV j n no g c l sp mli ob od dn mv ins lo) (hi : i < no) (hd : dn i = 0) (hb : b < n) (eb : ob i = nI b) (hk : k < 36) (hs : sp b = nI (TT k)) (hl : l' = l ∨ l' = l + 1) (hins : ∀ k, k < 4 → ins' k = 0) :
    IV (j + 1) n no g c l' (upd sp b (-1)) (upd mli k 0) ob od (upd dn i 1) mv ins' (upd lo b 0) := by
  obtain ⟨h1, h2, h3, h4, h5, hR, hO, hV, hI, hP⟩ := h
  exact ⟨h1, h2, h3, by omega, by omega, hR.out h1 hb hk hs, hO, hV, hins, hP.done h1 hi hd hb eb⟩
theorem IV.inz {ins' : Nat → Int32} (h : IV j n no g c l sp mli ob od dn mv ins lo) (hins : ∀ k, k < 4 → ins' k = 0) : IV (j + 1) n no g c l sp mli ob od dn mv ins' lo := by
  obtain ⟨h1, h2, h3, h4, h5, hR, hO, hV, -, hP⟩ := h
  exact ⟨h1, h2, h3, by omega, by omega, hR, hO, hV, hins, hP⟩
theorem IV.pass {t q : Nat} {mv' : Nat → Int32} (h : IV j n no g c l sp mli ob od dn mv ins lo) (ht : t ≤ 6) (hq : q ≤ 30) (hV' : RV t mv' (c + q)) : IV (j + 1) n no t (c + q) l sp mli ob od dn mv' ins lo := by
  obtain ⟨h1, h2, h3, h4, h5, hR, hO, hV, hI, hP⟩ := h
  exact ⟨h1, h2, ht, by omega, by omega, hR, hO, hV', hI, hP⟩
theorem IV.at {t : Nat} (h : IV j n no g c l sp mli ob od dn mv ins lo) (ht : g = t) : IV (j + 1) n no t c l sp mli ob od dn mv ins lo := by subst ht; exact h.same
theorem IV0 : IV 0 0 0 0 0 0 (fun _ => 0) (fun _ => 0) (fun _ => 0) (fun _ => 0) (fun _ => 0) (fun _ => 0) (fun _ => 0) (fun _ => 0) :=
  ⟨by omega, by omega, by omega, by omega, by omega, ⟨fun b hb => by omega, fun k _ => Or.inl rfl, fun k b _ hb => by omega⟩, fun j hj => by omega, fun s _ => ⟨0, by omega, rfl, by omega⟩, fun _ _ => rfl, fun _ _ => rfl, fun i j hi => by omega, fun b hb => by omega, fun _ _ => rfl⟩
end INV
/-! the law's numbers -/
/-- low(v, N) -/
def lowN (v : Int32) (N : Nat) : Nat := v.toBitVec.toNat % 2 ^ 31 % N
theorem lowN_lt (v : Int32) {N : Nat} (h : 0 < N) : lowN v N < N := Nat.mod_lt _ h
theorem low_eq (v : Int32) {N : Nat} (h : 0 < N) (hN : N < 2 ^ 31) : (v &&& 2147483647) - (v &&& 2147483647) / nI N * nI N = nI (lowN v N) := by
  rw [pk_and v (m := 2147483647) 31 (by decide)]
  exact pk_rem (Nat.mod_lt _ (Nat.two_pow_pos 31)) h hN
theorem sub_sub1 (x y z : Int32) : x - y - z = x - (y + z) := by
  rw [Int32.sub_eq_add_neg, Int32.sub_eq_add_neg, Int32.sub_eq_add_neg, Int32.neg_add, Int32.sub_eq_add_neg, Int32.add_assoc]
