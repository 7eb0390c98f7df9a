/-! what the law counts over the spots, what the best spot is, what the orders say -/
/-- what lies in row k: its weight, whether it lies wrong, whether anything lies there -/
def qW (mli wt : Nat → Int32) (k : Nat) : Int32 := if mli k = 0 then 0 else wt (mli k - 1).toNatClampNeg
def qC (mli cl sc : Nat → Int32) (k : Nat) : Int32 := if mli k = 0 then 0 else if cl (mli k - 1).toNatClampNeg = sc (k / 6) then 0 else 1
def qL (mli : Nat → Int32) (k : Nat) : Int32 := if mli k = 0 then 0 else 1
section ROWS
variable {n : Nat} {sp mli : Nat → Int32}
theorem qW_0 {wt : Nat → Int32} {k : Nat} (e : mli k = nI 0) : qW mli wt k = 0 := by
  unfold qW; exact if_pos e
theorem qC_0 {cl sc : Nat → Int32} {k : Nat} (e : mli k = nI 0) : qC mli cl sc k = 0 := by
  unfold qC; exact if_pos e
theorem qL_0 {k : Nat} (e : mli k = nI 0) : qL mli k = 0 := by
  unfold qL; exact if_pos e
theorem li_ne {k b : Nat} (hb : b < 20) (e : mli k = nI (b + 1)) : ¬ mli k = 0 := by rw [e]; exact nI_ne0 (by omega) (by omega)
theorem qW_1 {wt : Nat → Int32} {k b : Nat} (hb : b < 20) (e : mli k = nI (b + 1)) : qW mli wt k = wt b := by
  unfold qW; rw [if_neg (li_ne hb e), e, nI_pred, nI_clamp (by omega)]
theorem qC_1 {cl sc : Nat → Int32} {k b : Nat} (hb : b < 20) (e : mli k = nI (b + 1)) : qC mli cl sc k = if cl b = sc (k / 6) then 0 else 1 := by
  unfold qC; rw [if_neg (li_ne hb e), e, nI_pred, nI_clamp (by omega)]
theorem qL_1 {k b : Nat} (hb : b < 20) (e : mli k = nI (b + 1)) : qL mli k = 1 := by
  unfold qL; rw [if_neg (li_ne hb e)]
theorem weight_rows (h : RS n sp mli) (hn : n ≤ 20) {s : Nat} (hs : s < 6) (wt : Nat → Int32) : f_X2_weightOn (nI n) wt sp (nI s) = sumN (fun i => qW mli wt (6 * s + i)) 6 := by
  rw [f_X2_weightOn, nI_clamp (by omega), weightOn_sum wt (nI s) n 0 0 (by omega) rfl, Nat.zero_add]
  refine sum_both h hn (6 * s) 6 (by omega) (fun b _ => wt b) (fun b hb => ?_) (fun i hi => ?_)
  · rcases lies_cases h hn hb hs with ⟨a, c⟩ | ⟨a, i, hi, e⟩
    · exact Or.inl ⟨if_pos a, c⟩
    · exact Or.inr ⟨i, hi, e, if_neg a⟩
  · rcases h.2.1 (6 * s + i) (by omega) with e | ⟨b, hb, e⟩
    · exact Or.inl ⟨qW_0 e, e⟩
    · exact Or.inr ⟨b, hb, e, qW_1 (by omega) e⟩
theorem wrong_rows (h : RS n sp mli) (hn : n ≤ 20) (sc cl : Nat → Int32) : f_X2_countWrong (nI n) sc cl sp = sumN (qC mli cl sc) 36 := by
  rw [f_X2_countWrong, nI_clamp (by omega), countWrong_sum sc cl n 0 0 rfl, Nat.zero_add]
  refine sum_both h hn 0 36 (by omega) (fun b k => if cl b = sc (k / 6) then 0 else 1) (fun b hb => ?_) (fun i hi => ?_)
  · rcases h.1 b hb with e | ⟨k, hk, e⟩
    · refine Or.inl ⟨if_pos (by rw [isWrong_eq hn hb, if_pos e]), fun i hi q => TT_nm1 (k := 0 + i) (by omega) (q.symm.trans e)⟩
    · refine Or.inr ⟨k, hk, by rw [Nat.zero_add]; exact e, ?_⟩
      show (if f_X2_isWrong (nI n) sc cl sp (nI b) = 0 then (0 : Int32) else 1) = (if cl b = sc ((0 + k) / 6) then 0 else 1)
      rw [isWrong_T hn hb hk e, Nat.zero_add]
      by_cases c : cl b = sc (k / 6)
      · rw [if_pos c, if_pos rfl]
      · rw [if_neg c, if_neg (by decide)]
  · rw [Nat.zero_add]
    rcases h.2.1 i hi with e | ⟨b, hb, e⟩
    · exact Or.inl ⟨qC_0 e, e⟩
    · exact Or.inr ⟨b, hb, e, qC_1 (by omega) e⟩
theorem lies_rows (h : RS n sp mli) (hn : n ≤ 20) : sumN (fun b => if sp b = -1 then 0 else 1) n = sumN (qL mli) 36 := by
  refine sum_both h hn 0 36 (by omega) (fun _ _ => 1) (fun b hb => ?_) (fun i hi => ?_)
  · rcases h.1 b hb with e | ⟨k, hk, e⟩
    · exact Or.inl ⟨if_pos e, fun i hi q => TT_nm1 (k := 0 + i) (by omega) (q.symm.trans e)⟩
    · exact Or.inr ⟨k, hk, by rw [Nat.zero_add]; exact e, if_neg (by rw [e]; exact TT_nm1 hk)⟩
  · rw [Nat.zero_add]
    rcases h.2.1 i hi with e | ⟨b, hb, e⟩
    · exact Or.inl ⟨qL_0 e, e⟩
    · exact Or.inr ⟨b, hb, e, qL_1 (by omega) e⟩
/-- a spot is -1 or not negative -/
theorem sp_neg (h : RS n sp mli) {b : Nat} (hb : b < n) : (sp b = -1 ∧ sp b < 0) ∨ ∃ k, k < 36 ∧ sp b = nI (TT k) ∧ ¬ sp b < 0 := by
  rcases h.1 b hb with e | ⟨k, hk, e⟩
  · exact Or.inl ⟨e, by rw [e]; decide⟩
  · refine Or.inr ⟨k, hk, e, ?_⟩
    have := TT_lt hk
    rw [e]; exact nI_pos (by omega)
-- the best spot
theorem free_first (h : RS n sp mli) (hn : n ≤ 20) {s : Nat} (hs : s < 6) : f_X2_firstFreeSpot (nI n) sp (nI s) = -1 ∨ ∃ q, q < 6 ∧ f_X2_firstFreeSpot (nI n) sp (nI s) = nI (TT (6 * s + q)) ∧ mli (6 * s + q) = 0 := by
  obtain ⟨f1, f2⟩ := first_free h hn hs
  by_cases hx : ∃ q, q < 6 ∧ mli (6 * s + q) = 0
  · obtain ⟨q, ⟨hq, e⟩, hl⟩ := pk_least (fun q => q < 6 ∧ mli (6 * s + q) = 0) hx
    exact Or.inr ⟨q, hq, f2 q hq e (fun q2 h2 z => hl q2 h2 ⟨by omega, z⟩), e⟩
  · exact Or.inl (f1 fun q hq z => hx ⟨q, hq, z⟩)
/-- a spot that suits a box -/
def BO (n : Nat) (sp mli sc cl wt : Nat → Int32) (x z : Int32) : Prop := ∃ k, k < 36 ∧ z = nI (TT k) ∧ mli k = 0 ∧ sc (k / 6) = cl x.toNatClampNeg ∧ ¬ 100 < f_X2_weightOn (nI n) wt sp (nI (k / 6)) + wt x.toNatClampNeg
theorem best_L_ok (h : RS n sp mli) (hn : n ≤ 20) (sc cl wt kn : Nat → Int32) (x : Int32) : ∀ (r s : Nat) (bst mok : Int32), s + r = 6 → (bst = -1 ∨ BO n sp mli sc cl wt x bst) →
    (f_X2_bestSpotFor_L (nI n) sc cl wt kn sp x r s bst mok = -1 ∨ BO n sp mli sc cl wt x (f_X2_bestSpotFor_L (nI n) sc cl wt kn sp x r s bst mok)) := by
  intro r
  induction r with
  | zero => intro s bst mok _ h; rw [f_X2_bestSpotFor_L]; exact h
  | succ r ih =>
    intro s bst mok hs hB
    have hs6 : s < 6 := by omega
    rw [f_X2_bestSpotFor_L, nI_clamp (by omega)]
    by_cases c1 : sc s = cl x.toNatClampNeg
    · rw [if_pos c1]
      by_cases c2 : 100 < f_X2_weightOn (nI n) wt sp (nI s) + wt x.toNatClampNeg
      · rw [if_pos c2]; exact ih _ _ _ (by omega) hB
      · rw [if_neg c2]
        rcases free_first h hn hs6 with e | ⟨q, hq, e, hm⟩
        · rw [if_pos e]; exact ih _ _ _ (by omega) hB
        · rw [if_neg (by rw [e]; exact TT_nm1 (by omega))]
          by_cases c4 : f_X2_countKin (nI n) kn sp (nI s) (kn x.toNatClampNeg) ≤ mok
          · rw [if_pos c4]; exact ih _ _ _ (by omega) hB
          · rw [if_neg c4]
            have e6 : (6 * s + q) / 6 = s := by omega
            exact ih _ _ _ (by omega) (Or.inr ⟨6 * s + q, by omega, e, hm, by rw [e6]; exact c1, by rw [e6]; exact c2⟩)
    · rw [if_neg c1]; exact ih _ _ _ (by omega) hB
theorem best_ok (h : RS n sp mli) (hn : n ≤ 20) (sc cl wt kn : Nat → Int32) {b : Nat} (hb : b < n) : f_X2_bestSpotFor (nI n) sc cl wt kn sp (nI b) = -1 ∨
    ∃ k, k < 36 ∧ f_X2_bestSpotFor (nI n) sc cl wt kn sp (nI b) = nI (TT k) ∧ mli k = 0 ∧ sc (k / 6) = cl b ∧ ¬ 100 < f_X2_weightOn (nI n) wt sp (nI (k / 6)) + wt b := by
  rw [f_X2_bestSpotFor, if_neg (fun z => (has_iff hn).mp z (vp_in_nI hb (by omega)))]
  rcases best_L_ok h hn sc cl wt kn (nI b) 6 0 (-1) (-1) (by omega) (Or.inl rfl) with a | ⟨k, hk, e, hm, e1, e2⟩
  · exact Or.inl a
  · rw [nI_clamp (by omega)] at e1 e2
    exact Or.inr ⟨k, hk, e, hm, e1, e2⟩
-- the orders
variable {ob od dn : Nat → Int32}
theorem aisle2 (h : RS n sp mli) (hn : n ≤ 20) {b : Nat} (hb : b < n) :
    (sp b = -1 ∧ f_X2_aisleOfBox (nI n) sp (nI b) = -1) ∨ ∃ k, k < 36 ∧ sp b = nI (TT k) ∧ f_X2_aisleOfBox (nI n) sp (nI b) = nI (k / 6 + k / 3 % 2) := by
  rw [f_X2_aisleOfBox, whereIs_eq hn hb]
  rcases h.1 b hb with e | ⟨k, hk, e⟩
  · exact Or.inl ⟨e, if_pos e⟩
  · refine Or.inr ⟨k, hk, e, ?_⟩
    rw [if_neg (by rw [e]; exact TT_nm1 hk), e]
    exact aisleT hk
/-- an undone order whose box one reaches -/
def EO (cn : Int32) (sp ob dn : Nat → Int32) (pX : Int32) (i : Nat) : Prop := dn i = 0 ∧ ¬ f_X2_aisleOfBox cn sp (ob i) = -1 ∧ (pX = -2 ∨ f_X2_aisleOfBox cn sp (ob i) = pX)
theorem earl_L {no : Nat} (hno : no ≤ 30) {cn pX : Int32} : ∀ (r j : Nat) (bst bdl : Int32), j + r = no → (bst = -1 ∨ ∃ i, i < no ∧ bst = nI i ∧ EO cn sp ob dn pX i) →
    (f_X0_earliest_L ob od dn cn sp pX r j bst bdl = -1 ∨ ∃ i, i < no ∧ f_X0_earliest_L ob od dn cn sp pX r j bst bdl = nI i ∧ EO cn sp ob dn pX i) := by
  intro r
  induction r with
  | zero => intro j bst bdl _ h; rw [f_X0_earliest_L]; exact h
  | succ r ih =>
    intro j bst bdl hj h
    rw [eX_step, nI_clamp (by omega)]
    by_cases c : dn j = 0 ∧ (¬ f_X2_aisleOfBox cn sp (ob j) = -1 ∧ (pX = -2 ∨ f_X2_aisleOfBox cn sp (ob j) = pX)) ∧ ¬ bdl ≤ od j
    · rw [if_pos c]
      exact ih _ _ _ (by omega) (Or.inr ⟨j, by omega, rfl, c.1, c.2.1.1, c.2.1.2⟩)
    · rw [if_neg c]; exact ih _ _ _ (by omega) h
theorem earl_some {no : Nat} (hno : no ≤ 30) {cn pX : Int32} (ho : ∀ i, i < no → ∃ d, d ≤ 10000 ∧ od i = nI d) : ∀ (r j : Nat) (bst bdl : Int32), j + r = no →
    ((bst = -1 ∧ bdl = 10001 ∧ ∃ i, j ≤ i ∧ i < no ∧ EO cn sp ob dn pX i) ∨ ¬ bst = -1) → ¬ f_X0_earliest_L ob od dn cn sp pX r j bst bdl = -1 := by
  intro r
  induction r with
  | zero =>
    intro j bst bdl hj h
    rw [f_X0_earliest_L]
    rcases h with ⟨-, -, i, h1, h2, -⟩ | h
    · omega
    · exact h
  | succ r ih =>
    intro j bst bdl hj h
    rw [eX_step, nI_clamp (by omega)]
    by_cases c : dn j = 0 ∧ (¬ f_X2_aisleOfBox cn sp (ob j) = -1 ∧ (pX = -2 ∨ f_X2_aisleOfBox cn sp (ob j) = pX)) ∧ ¬ bdl ≤ od j
    · rw [if_pos c]
      exact ih _ _ _ (by omega) (Or.inr (nI_nm1 (by omega)))
    · rw [if_neg c]
      refine ih _ _ _ (by omega) ?_
      rcases h with ⟨e1, e2, i, h1, h2, h3⟩ | h
      · refine Or.inl ⟨e1, e2, i, ?_, h2, h3⟩
        rcases Nat.lt_or_ge j i with q | q
        · omega
        · have : i = j := by omega
          subst this
          obtain ⟨d, hd, ed⟩ := ho i h2
          refine absurd ⟨h3.1, h3.2, ?_⟩ c
          rw [e2, ed]
          exact nI_ge (b := 10001) (by omega) (by decide)
      · exact Or.inr h
theorem earl_cases {no : Nat} (hno : no ≤ 30) (cn pX : Int32) : f_X0_earliest (nI no) ob od dn cn sp pX = -1 ∨ ∃ i, i < no ∧ f_X0_earliest (nI no) ob od dn cn sp pX = nI i ∧ EO cn sp ob dn pX i := by
  rw [f_X0_earliest, nI_clamp (by omega)]
  exact earl_L hno no 0 _ _ (by omega) (Or.inl rfl)
theorem earl_ex {no : Nat} (hno : no ≤ 30) {cn pX : Int32} (ho : OS n no ob od) {i : Nat} (hi : i < no) (h : EO cn sp ob dn pX i) : ¬ f_X0_earliest (nI no) ob od dn cn sp pX = -1 := by
  rw [f_X0_earliest, nI_clamp (by omega)]
  exact earl_some hno (fun j hj => (ho j hj).2) no 0 _ _ (by omega) (Or.inl ⟨rfl, rfl, i, Nat.zero_le i, hi, h⟩)
theorem boxOf_eq {no i : Nat} (hno : no ≤ 30) (hi : i < no) : f_X0_boxOf (nI no) ob (nI i) = ob i := by
  rw [f_X0_boxOf, if_neg (fun z => (below_iff rfl (by omega)).mp z (vp_in_nI hi (by omega))), nI_clamp (by omega)]
/-- the next aisle: none, or that of an undone order -/
theorem next_cases {no : Nat} (h : RS n sp mli) (hn : n ≤ 20) (hno : no ≤ 30) (ho : OS n no ob od) : f_X3_nextAisle (nI n) sp (nI no) ob od dn = -1 ∨
    ∃ t i, t ≤ 6 ∧ f_X3_nextAisle (nI n) sp (nI no) ob od dn = nI t ∧ i < no ∧ dn i = 0 ∧ f_X2_aisleOfBox (nI n) sp (ob i) = nI t := by
  rw [f_X3_nextAisle]
  rcases earl_cases (sp := sp) (ob := ob) (od := od) (dn := dn) hno (nI n) (-2) with e | ⟨i, hi, e, h1, h2, -⟩
  · rw [e]
    have e2 : f_X0_boxOf (nI no) ob (-1) = -1 := by
      rw [f_X0_boxOf, if_pos]
      rw [f_X3_isBelow, if_pos (by decide)]
    rw [e2]
    have e3 : f_X2_whereIs (nI n) sp (-1) = -1 := by
      rw [f_X2_whereIs, if_pos]
      rw [f_X2_has, f_X3_isBelow, if_pos (by decide)]
    exact Or.inl (by rw [f_X2_aisleOfBox, if_pos e3])
  · rw [e, boxOf_eq hno hi]
    obtain ⟨⟨b, hb, eb⟩, -⟩ := ho i hi
    rcases aisle2 h hn hb with ⟨-, a⟩ | ⟨k, hk, -, a⟩
    · rw [eb] at h2; exact absurd a h2
    · refine Or.inr ⟨k / 6 + k / 3 % 2, i, by omega, by rw [eb]; exact a, hi, h1, by rw [eb]; exact a⟩
/-- the order that is fetched -/
theorem fetch_cases {no g i0 : Nat} (h : RS n sp mli) (hn : n ≤ 20) (hno : no ≤ 30) (hg : g ≤ 6) (ho : OS n no ob od) (hi0 : i0 < no) (hd : dn i0 = 0) (ha : f_X2_aisleOfBox (nI n) sp (ob i0) = nI g) :
    ∃ i b k, i < no ∧ dn i = 0 ∧ ob i = nI b ∧ b < n ∧ k < 36 ∧ sp b = nI (TT k) ∧ f_X0_earliest (nI no) ob od dn (nI n) sp (nI g) = nI i := by
  have hx := earl_ex (pX := nI g) hno ho hi0 ⟨hd, by rw [ha]; exact nI_nm1 (by omega), Or.inr ha⟩
  rcases earl_cases (sp := sp) (ob := ob) (od := od) (dn := dn) hno (nI n) (nI g) with e | ⟨i, hi, e, h1, h2, -⟩
  · exact absurd e hx
  · obtain ⟨⟨b, hb, eb⟩, -⟩ := ho i hi
    rw [eb] at h2
    rcases aisle2 h hn hb with ⟨-, a⟩ | ⟨k, hk, es, -⟩
    · exact absurd a h2
    · exact ⟨i, b, k, hi, h1, eb, hb, hk, es, e⟩
theorem isOpenFor_L {x : Int32} {no : Nat} (hno : no ≤ 30) (hz : ∀ i, i < no → dn i = 0 → ob i ≠ x) : ∀ (r j : Nat), j + r = no → f_X0_isOpenFor_L ob dn x r j = 0 := by
  intro r
  induction r with
  | zero => intro j _; rw [f_X0_isOpenFor_L]
  | succ r ih =>
    intro j hj
    rw [f_X0_isOpenFor_L, nI_clamp (by omega)]
    by_cases c : dn j = 0
    · rw [if_pos c, if_neg (hz j (by omega) c)]; exact ih _ (by omega)
    · rw [if_neg c]; exact ih _ (by omega)
theorem isOpenFor_no {x : Int32} {no : Nat} (hno : no ≤ 30) (hz : ∀ i, i < no → dn i = 0 → ob i ≠ x) : f_X0_isOpenFor (nI no) ob dn x = 0 := by
  rw [f_X0_isOpenFor, nI_clamp (by omega)]
  exact isOpenFor_L hno hz no 0 (by omega)
/-- how many orders are undone -/
def cntN (dn : Nat → Int32) : Nat → Nat
  | 0 => 0
  | m + 1 => cntN dn m + if dn m = 0 then 1 else 0
theorem cnt_congr {f g : Nat → Int32} : ∀ m : Nat, (∀ i, i < m → f i = g i) → cntN f m = cntN g m
  | 0, _ => rfl
  | m + 1, h => by
    show cntN f m + (if f m = 0 then 1 else 0) = cntN g m + (if g m = 0 then 1 else 0)
    rw [cnt_congr m (fun i hi => h i (by omega)), h m (by omega)]
theorem cnt_le (dn : Nat → Int32) : ∀ m : Nat, cntN dn m ≤ m
  | 0 => Nat.le_refl 0
  | m + 1 => by
    have := cnt_le dn m
    show cntN dn m + (if dn m = 0 then 1 else 0) ≤ m + 1
    split <;> omega
theorem cnt_pos : ∀ (m : Nat) {i : Nat}, i < m → dn i = 0 → 0 < cntN dn m
  | 0, _, h, _ => absurd h (by omega)
  | m + 1, i, h, e => by
    show 0 < cntN dn m + (if dn m = 0 then 1 else 0)
    by_cases c : i = m
    · rw [← c, if_pos e]; omega
    · have := cnt_pos m (show i < m by omega) e
      omega
theorem cnt_done : ∀ (m : Nat) {i : Nat}, i < m → dn i = 0 → cntN (upd dn i 1) m + 1 = cntN dn m
  | 0, _, h, _ => absurd h (by omega)
  | m + 1, i, h, e => by
    show cntN (upd dn i 1) m + (if upd dn i 1 m = 0 then 1 else 0) + 1 = cntN dn m + (if dn m = 0 then 1 else 0)
    by_cases c : i = m
    · subst c
      rw [pk_us, if_pos e, if_neg (by decide), cnt_congr i (fun j hj => pk_un (by omega))]
    · have := cnt_done m (show i < m by omega) e
      rw [pk_un (fun z => c z.symm)]
      omega
theorem countOpen_L {no : Nat} (hno : no ≤ 30) : ∀ (r j : Nat), j + r = no → f_X0_countOpen_L dn r j (nI (cntN dn j)) = nI (cntN dn no) := by
  intro r
  induction r with
  | zero => intro j hj; rw [f_X0_countOpen_L, show j = no by omega]
  | succ r ih =>
    intro j hj
    rw [f_X0_countOpen_L, nI_clamp (by omega)]
    have hs : cntN dn (j + 1) = cntN dn j + if dn j = 0 then 1 else 0 := rfl
    by_cases c : dn j = 0
    · rw [if_pos c] at hs
      rw [if_pos c, nI_1, ← hs]; exact ih _ (by omega)
    · rw [if_neg c] at hs
      rw [if_neg c, show cntN dn j = cntN dn (j + 1) by omega]; exact ih _ (by omega)
theorem waiting_cnt {no : Nat} (hno : no ≤ 30) : f_X3_waiting (nI no) dn = nI (cntN dn no) := by
  rw [f_X3_waiting, f_X0_countOpen, nI_clamp (by omega)]
  exact countOpen_L hno no 0 (by omega)
end ROWS
