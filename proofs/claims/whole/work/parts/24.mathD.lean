/-! the orders of both sides -/
section ORD
variable {n : Nat} {sp mli : Nat → Int32} {ob od dn : Nat → Int32}
theorem aisle_cases (h : RS n sp mli) (hn : n ≤ 20) {b : Nat} (hb : b < n) :
    (sp b = -1 ∧ f_X2_aisleOfBox (nI n) sp (nI b) = -1 ∧ f_X4_spot mli (nI b) = -1) ∨ ∃ k, k < 36 ∧ sp b = nI (TT k) ∧ mli k = nI (b + 1) ∧ f_X4_spot mli (nI b) = nI k ∧ f_X2_aisleOfBox (nI n) sp (nI b) = nI (k / 6 + k / 3 % 2) ∧ f_X4_aisleOf (f_X4_spot mli (nI b)) = nI (k / 6 + k / 3 % 2) := by
  rw [f_X2_aisleOfBox, whereIs_eq hn hb]
  rcases spot_cases h hn hb with ⟨a, c⟩ | ⟨k, hk, a, c, e⟩
  · exact Or.inl ⟨a, if_pos a, c⟩
  · refine Or.inr ⟨k, hk, a, c, e, ?_, by rw [e]; exact aisleOf_eq hk⟩
    rw [if_neg (by rw [a]; exact TT_nm1 hk), a]
    exact aisleT hk
theorem eX_step (cn pX : Int32) {r j : Nat} {bst bdl : Int32} : f_X0_earliest_L ob od dn cn sp pX (r + 1) j bst bdl =
    if dn (nI j).toNatClampNeg = 0 ∧ (¬ f_X2_aisleOfBox cn sp (ob (nI j).toNatClampNeg) = -1 ∧ (pX = -2 ∨ f_X2_aisleOfBox cn sp (ob (nI j).toNatClampNeg) = pX)) ∧ ¬ bdl ≤ od (nI j).toNatClampNeg
    then f_X0_earliest_L ob od dn cn sp pX r (j + 1) (nI j) (od (nI j).toNatClampNeg) else f_X0_earliest_L ob od dn cn sp pX r (j + 1) bst bdl := by
  rw [f_X0_earliest_L]
  generalize f_X2_aisleOfBox cn sp (ob (nI j).toNatClampNeg) = ai
  generalize dn (nI j).toNatClampNeg = d
  generalize od (nI j).toNatClampNeg = o
  by_cases c1 : ai = -1
  · rw [if_pos c1, ite_self, if_neg (fun z => z.2.1.1 c1)]
  · rw [if_neg c1]
    by_cases c2 : pX = -2
    · rw [if_pos c2]
      by_cases c4 : d = 0
      · rw [if_pos c4]
        by_cases c5 : bdl ≤ o
        · rw [if_pos c5, if_neg (fun z => z.2.2 c5)]
        · rw [if_neg c5, if_pos ⟨c4, ⟨c1, Or.inl c2⟩, c5⟩]
      · rw [if_neg c4, if_neg (fun z => c4 z.1)]
    · rw [if_neg c2]
      by_cases c3 : ai = pX
      · rw [if_pos c3]
        by_cases c4 : d = 0
        · rw [if_pos c4]
          by_cases c5 : bdl ≤ o
          · rw [if_pos c5, if_neg (fun z => z.2.2 c5)]
          · rw [if_neg c5, if_pos ⟨c4, ⟨c1, Or.inr c3⟩, c5⟩]
        · rw [if_neg c4, if_neg (fun z => c4 z.1)]
      · rw [if_neg c3, ite_self, if_neg (fun z => z.2.1.2.elim c2 c3)]
theorem eM_step (pM : Int32) {r j : Nat} {its : Int32} : f_X4_first_L mli ob od dn pM (r + 1) j its =
    if dn (nI j).toNatClampNeg = 0 ∧ (¬ f_X4_spot mli (ob (nI j).toNatClampNeg) = -1 ∧ (pM = -1 ∨ f_X4_aisleOf (f_X4_spot mli (ob (nI j).toNatClampNeg)) = pM)) ∧ (its = -1 ∨ ¬ od its.toNatClampNeg ≤ od (nI j).toNatClampNeg)
    then f_X4_first_L mli ob od dn pM r (j + 1) (nI j) else f_X4_first_L mli ob od dn pM r (j + 1) its := by
  rw [f_X4_first_L]
  generalize f_X4_spot mli (ob (nI j).toNatClampNeg) = ai
  generalize dn (nI j).toNatClampNeg = d
  generalize od (nI j).toNatClampNeg = o
  generalize od its.toNatClampNeg = o2
  by_cases c4 : d = 0
  · rw [if_pos c4]
    by_cases c1 : ai = -1
    · rw [if_pos c1, if_neg (fun z => z.2.1.1 c1)]
    · rw [if_neg c1]
      by_cases c2 : pM = -1
      · rw [if_pos c2]
        by_cases c5 : its = -1
        · rw [if_pos c5, if_pos ⟨c4, ⟨c1, Or.inl c2⟩, Or.inl c5⟩]
        · rw [if_neg c5]
          by_cases c6 : o2 ≤ o
          · rw [if_pos c6, if_neg (fun z => z.2.2.elim c5 (fun q => q c6))]
          · rw [if_neg c6, if_pos ⟨c4, ⟨c1, Or.inl c2⟩, Or.inr c6⟩]
      · rw [if_neg c2]
        by_cases c3 : f_X4_aisleOf ai = pM
        · rw [if_pos c3]
          by_cases c5 : its = -1
          · rw [if_pos c5, if_pos ⟨c4, ⟨c1, Or.inr c3⟩, Or.inl c5⟩]
          · rw [if_neg c5]
            by_cases c6 : o2 ≤ o
            · rw [if_pos c6, if_neg (fun z => z.2.2.elim c5 (fun q => q c6))]
            · rw [if_neg c6, if_pos ⟨c4, ⟨c1, Or.inr c3⟩, Or.inr c6⟩]
        · rw [if_neg c3, if_neg (fun z => z.2.1.2.elim c2 c3)]
  · rw [if_neg c4, if_neg (fun z => c4 z.1)]
/-- what the orders are: for boxes that there are, with deadlines up to 10000 -/
def OS (n no : Nat) (ob od : Nat → Int32) : Prop := ∀ j, j < no → (∃ b, b < n ∧ ob j = nI b) ∧ ∃ d, d ≤ 10000 ∧ od j = nI d
def PP (pX pM : Int32) : Prop := (pX = -2 ∧ pM = -1) ∨ ∃ t, t < 7 ∧ pX = nI t ∧ pM = nI t
theorem first_go {no : Nat} (h : RS n sp mli) (hn : n ≤ 20) (hno : no ≤ 30) (ho : OS n no ob od) {pX pM : Int32} (hp : PP pX pM) : ∀ (r j : Nat) (bst bdl its : Int32), j + r = no →
    ((bst = -1 ∧ bdl = 10001 ∧ its = -1) ∨ ∃ i, i < no ∧ bst = nI i ∧ its = nI i ∧ bdl = od i) → f_X0_earliest_L ob od dn (nI n) sp pX r j bst bdl = f_X4_first_L mli ob od dn pM r j its := by
  intro r
  induction r with
  | zero =>
    intro j bst bdl its hj hi
    rw [f_X0_earliest_L, f_X4_first_L]
    rcases hi with ⟨a, -, c⟩ | ⟨i, -, a, c, -⟩
    · rw [a, c]
    · rw [a, c]
  | succ r ih =>
    intro j bst bdl its hj hi
    have hcl : (nI j).toNatClampNeg = j := nI_clamp (by omega)
    obtain ⟨⟨b, hb, eb⟩, d, hd, ed⟩ := ho j (by omega)
    rw [eX_step, eM_step, hcl, eb]
    -- the two conditions are the same
    have hr : (¬ f_X2_aisleOfBox (nI n) sp (nI b) = -1 ∧ (pX = -2 ∨ f_X2_aisleOfBox (nI n) sp (nI b) = pX)) ↔ (¬ f_X4_spot mli (nI b) = -1 ∧ (pM = -1 ∨ f_X4_aisleOf (f_X4_spot mli (nI b)) = pM)) := by
      rcases aisle_cases h hn hb with ⟨-, a, c⟩ | ⟨k, hk, -, -, a1, a2, a3⟩
      · exact ⟨fun z => absurd a z.1, fun z => absurd c z.1⟩
      · have n1 : ¬ f_X2_aisleOfBox (nI n) sp (nI b) = -1 := by rw [a2]; exact nI_nm1 (by omega)
        have n2 : ¬ f_X4_spot mli (nI b) = -1 := by rw [a1]; exact nI_nm1 (by omega)
        rcases hp with ⟨p1, p2⟩ | ⟨t, ht, p1, p2⟩
        · exact ⟨fun _ => ⟨n2, Or.inl p2⟩, fun _ => ⟨n1, Or.inl p1⟩⟩
        · have m1 : ¬ pX = -2 := by rw [p1]; exact nI_nm2 (by omega)
          have m2 : ¬ pM = -1 := by rw [p2]; exact nI_nm1 (by omega)
          refine ⟨fun z => ⟨n2, Or.inr ?_⟩, fun z => ⟨n1, Or.inr ?_⟩⟩
          · rw [a3, p2, ← p1, ← a2]; exact z.2.resolve_left m1
          · rw [a2, p1, ← p2, ← a3]; exact z.2.resolve_left m2
    have hc : (dn j = 0 ∧ (¬ f_X2_aisleOfBox (nI n) sp (nI b) = -1 ∧ (pX = -2 ∨ f_X2_aisleOfBox (nI n) sp (nI b) = pX)) ∧ ¬ bdl ≤ od j) ↔ (dn j = 0 ∧ (¬ f_X4_spot mli (nI b) = -1 ∧ (pM = -1 ∨ f_X4_aisleOf (f_X4_spot mli (nI b)) = pM)) ∧ (its = -1 ∨ ¬ od its.toNatClampNeg ≤ od j)) := by
      have hl : (¬ bdl ≤ od j) ↔ (its = -1 ∨ ¬ od its.toNatClampNeg ≤ od j) := by
        rcases hi with ⟨-, a, c⟩ | ⟨i, hi2, -, c, a⟩
        · refine ⟨fun _ => Or.inl c, fun _ => ?_⟩
          rw [a, ed]
          exact nI_ge (b := 10001) (by omega) (by decide)
        · rw [a, c, nI_clamp (by omega)]
          exact ⟨fun z => Or.inr z, fun z => z.resolve_left (nI_nm1 (by omega))⟩
      rw [hr, hl]
    by_cases c : dn j = 0 ∧ (¬ f_X2_aisleOfBox (nI n) sp (nI b) = -1 ∧ (pX = -2 ∨ f_X2_aisleOfBox (nI n) sp (nI b) = pX)) ∧ ¬ bdl ≤ od j
    · rw [if_pos c, if_pos (hc.mp c)]
      exact ih (j + 1) _ _ _ (by omega) (Or.inr ⟨j, by omega, rfl, rfl, rfl⟩)
    · rw [if_neg c, if_neg (fun z => c (hc.mpr z))]
      exact ih (j + 1) _ _ _ (by omega) hi
theorem first_eq {no : Nat} (h : RS n sp mli) (hn : n ≤ 20) (hno : no ≤ 30) (ho : OS n no ob od) {pX pM : Int32} (hp : PP pX pM) : f_X0_earliest (nI no) ob od dn (nI n) sp pX = f_X4_first (nI no) mli ob od dn pM := by
  rw [f_X0_earliest, f_X4_first, nI_clamp (by omega)]
  exact first_go h hn hno ho hp no 0 (-1) 10001 (-1) (by omega) (Or.inl ⟨rfl, rfl, rfl⟩)
/-- the model's order, if there is one: open, and its box lies somewhere -/
theorem first_cases {no : Nat} (hno : no ≤ 30) (pM : Int32) : f_X4_first (nI no) mli ob od dn pM = -1 ∨ ∃ i, i < no ∧ f_X4_first (nI no) mli ob od dn pM = nI i ∧ ¬ f_X4_spot mli (ob i) = -1 := by
  rw [f_X4_first, nI_clamp (by omega)]
  refine first_L (P := fun z => z = -1 ∨ ∃ i, i < no ∧ z = nI i ∧ ¬ f_X4_spot mli (ob i) = -1) (N := no) (fun j hj _ h2 => Or.inr ⟨j, hj, rfl, ?_⟩) no 0 (-1) (by omega) (Or.inl rfl)
  rw [nI_clamp (by omega)] at h2
  exact h2
theorem hasOpen_one {p0 : Int32} : ∀ (r j : Nat), f_X4_hasOpen_L ob dn p0 r j 1 = 1 := by
  intro r
  induction r with
  | zero => intro j; rw [f_X4_hasOpen_L]
  | succ r ih => intro j; rw [f_X4_hasOpen_L, if_neg (by decide)]; exact ih (j + 1)
theorem hasOpen_go {p0 : Int32} : ∀ (r j : Nat), f_X0_isOpenFor_L ob dn p0 r j = f_X4_hasOpen_L ob dn p0 r j 0 := by
  intro r
  induction r with
  | zero => intro j; rw [f_X0_isOpenFor_L, f_X4_hasOpen_L]
  | succ r ih =>
    intro j
    rw [f_X0_isOpenFor_L, f_X4_hasOpen_L, if_pos rfl]
    by_cases c1 : dn (nI j).toNatClampNeg = 0
    · rw [if_pos c1]
      by_cases c2 : ob (nI j).toNatClampNeg = p0
      · rw [if_pos c2, if_pos c2, if_pos c1, hasOpen_one]
      · rw [if_neg c2, if_neg c2]; exact ih (j + 1)
    · rw [if_neg c1, if_neg c1, ite_self]; exact ih (j + 1)
theorem hasOpen_eq (oc p0 : Int32) : f_X0_isOpenFor oc ob dn p0 = f_X4_hasOpen oc ob dn p0 := hasOpen_go _ _
theorem waiting_go : ∀ (r j : Nat) (c : Int32), f_X4_waiting_L dn r j c = (f_X0_countOpen_L dn r j c, 0) := by
  intro r
  induction r with
  | zero => intro j c; rw [f_X4_waiting_L, f_X0_countOpen_L]
  | succ r ih =>
    intro j c
    rw [f_X4_waiting_L, f_X0_countOpen_L, Int32.add_zero]
    by_cases c1 : dn (nI j).toNatClampNeg = 0
    · rw [if_pos c1, if_pos c1]; exact ih (j + 1) _
    · rw [if_neg c1, if_neg c1]; exact ih (j + 1) _
theorem waiting_eq (oc : Int32) : f_X4_waiting oc dn = (f_X0_countOpen oc dn, 0) := waiting_go _ _ _
end ORD
/-! the rail of both sides -/
section RAIL
theorem inside_go (ins : Nat → Int32) : ∀ (r j : Nat) (c : Int32), f_X4_inside_L ins r j c = f_X1_countInside_L ins r j c := by
  intro r
  induction r with
  | zero => intro j c; rw [f_X4_inside_L, f_X1_countInside_L]
  | succ r ih =>
    intro j c
    rw [f_X4_inside_L, f_X1_countInside_L, Int32.add_zero]
    by_cases c1 : ins (nI j).toNatClampNeg = 0
    · rw [if_pos c1, if_pos c1]; exact ih (j + 1) _
    · rw [if_neg c1, if_neg c1]; exact ih (j + 1) _
theorem inside_eq (ins : Nat → Int32) : f_X4_inside ins = f_X1_countInside ins := inside_go _ _ _ _
theorem count_go (ins : Nat → Int32) : ∀ (r j c : Nat), j + r = 4 → c ≤ j → ∃ d, c ≤ d ∧ d ≤ 4 ∧ f_X1_countInside_L ins r j (nI c) = nI d ∧ (d = c ↔ ∀ i, j ≤ i → i < 4 → ins i = 0) := by
  intro r
  induction r with
  | zero => intro j c hj hc; exact ⟨c, Nat.le_refl c, by omega, by rw [f_X1_countInside_L], fun _ i h1 h2 => by omega, fun _ => rfl⟩
  | succ r ih =>
    intro j c hj hc
    rw [f_X1_countInside_L, nI_clamp (by omega)]
    by_cases c1 : ins j = 0
    · rw [if_pos c1]
      obtain ⟨d, h1, h2, h3, h4⟩ := ih (j + 1) c (by omega) (by omega)
      refine ⟨d, h1, h2, h3, fun z i g1 g2 => ?_, fun z => h4.mpr fun i g1 g2 => z i (by omega) g2⟩
      by_cases e : i = j
      · rw [e]; exact c1
      · exact h4.mp z i (by omega) g2
    · rw [if_neg c1, nI_1]
      obtain ⟨d, h1, h2, h3, -⟩ := ih (j + 1) (c + 1) (by omega) (by omega)
      exact ⟨d, by omega, h2, h3, fun z => by omega, fun z => absurd (z j (Nat.le_refl j) (by omega)) c1⟩
/-- how many are inside -/
theorem count_cases (ins : Nat → Int32) : ∃ d : Nat, d ≤ 4 ∧ f_X1_countInside ins = nI d ∧ (d = 0 ↔ ∀ i, i < 4 → ins i = 0) := by
  obtain ⟨d, -, h2, h3, h4⟩ := count_go ins 4 0 0 (by omega) (Nat.le_refl 0)
  refine ⟨d, h2, h3, fun z i hi => h4.mp z i (Nat.zero_le i) hi, fun z => h4.mpr fun i _ hi => z i hi⟩
theorem upd_same {f : Nat → Int32} {k : Nat} {v : Int32} (h : f k = v) : upd f k v = f := by
  funext j
  by_cases e : j = k
  · rw [e, pk_us, h]
  · rw [pk_un e]
theorem smoke_out (p0 : Int32) (hp : ¬ p0 = 0) (ins : Nat → Int32) : ∀ (r j : Nat) (rn : Int32) (m1 : Nat → Int32), f_X4_smoke_L p0 r j rn m1 = (rn, 0, p0, (f_X1_sendAllOut_L ins r j m1).2) ∧ (f_X1_sendAllOut_L ins r j m1).1 = f_X1_countInside ins := by
  intro r
  induction r with
  | zero => intro j rn m1; rw [f_X4_smoke_L, f_X1_sendAllOut_L]; exact ⟨rfl, rfl⟩
  | succ r ih =>
    intro j rn m1
    rw [f_X4_smoke_L, f_X1_sendAllOut_L, if_neg hp, ite_self]
    exact ih (j + 1) rn _
theorem smoke_in : ∀ (r j : Nat) (rn : Int32) (m1 : Nat → Int32), j + r = 4 → (∀ k, k < 4 → m1 k = 0 ∨ m1 k = 1) → f_X4_smoke_L 0 r j rn m1 = (rn, 0, 0, m1) := by
  intro r
  induction r with
  | zero => intro j rn m1 _ _; rw [f_X4_smoke_L]
  | succ r ih =>
    intro j rn m1 hj h
    rw [f_X4_smoke_L, nI_clamp (by omega)]
    by_cases c : m1 j = 0
    · rw [if_pos c, upd_same c]; exact ih (j + 1) rn m1 (by omega) h
    · rw [if_neg c, if_pos rfl, upd_same ((h j (by omega)).resolve_left c)]; exact ih (j + 1) rn m1 (by omega) h
theorem out_go (ins : Nat → Int32) : ∀ (r j : Nat) (m1 : Nat → Int32), j + r = 4 → (∀ k, k < j → m1 k = 0) → ∀ k, k < 4 → (f_X1_sendAllOut_L ins r j m1).2 k = 0 := by
  intro r
  induction r with
  | zero => intro j m1 hj h k hk; rw [f_X1_sendAllOut_L]; exact h k (by omega)
  | succ r ih =>
    intro j m1 hj h k hk
    rw [f_X1_sendAllOut_L, nI_clamp (by omega)]
    refine ih (j + 1) _ (by omega) (fun q hq => ?_) k hk
    by_cases e : q = j
    · rw [e, pk_us]
    · rw [pk_un e]; exact h q (by omega)
/-- how far a is from b -/
def dst (a b : Nat) : Nat := (a - b) + (b - a)
theorem moves_eq {g t : Nat} (hg : g ≤ 6) (ht : t ≤ 6) : f_X1_movesToCome (nI g) (nI t) = nI (dst g t) := by
  rw [f_X1_movesToCome]
  rcases Nat.lt_or_ge t g with q | q
  · rw [if_neg (fun z => Int32.not_le.mpr (pk_sneg (by omega) q) z), Int32.zero_sub, Int32.neg_sub, pk_sub (by omega)]
    congr 1; unfold dst; omega
  · rw [pk_sub q, if_pos (nI_pos' (by omega))]
    congr 1; unfold dst; omega
/-- a shelf has moved an odd number of times if it stands at the left of the gap -/
def RV (g : Nat) (mv : Nat → Int32) (c : Nat) : Prop := ∀ s, s < 6 → ∃ q : Nat, q ≤ c ∧ mv s = nI q ∧ (q % 2 = 1 ↔ s < g)
theorem RV.mono {g c d : Nat} {mv : Nat → Int32} (h : RV g mv c) (hd : c ≤ d) : RV g mv d := fun s hs => by
  obtain ⟨q, h1, h2, h3⟩ := h s hs
  exact ⟨q, by omega, h2, h3⟩
theorem below6 {g : Nat} (h : g < 6) : ¬ f_X3_isBelow (nI g) 6 = 0 := fun z => (below_iff (N := 6) rfl (by decide)).mp z (vp_in_nI h (by decide))
theorem move_one {g t c : Nat} {mv : Nat → Int32} (hg : g ≤ 6) (ht : t ≤ 6) (hne : g ≠ t) (h : RV g mv c) :
    ∃ (g2 : Nat) (mv2 : Nat → Int32), f_X1_moveOne (nI g) (nI t) mv = (nI g2, mv2) ∧ g2 ≤ 6 ∧ dst g2 t + 1 = dst g t ∧ RV g2 mv2 (c + 1) := by
  rcases Nat.lt_or_ge g t with q | q
  · obtain ⟨w, h1, h2, h3⟩ := h g (by omega)
    refine ⟨g + 1, upd mv g (mv g + 1), ?_, by omega, by unfold dst; omega, fun s hs => ?_⟩
    · rw [f_X1_moveOne, if_neg (nI_ge q (by omega)), if_neg (below6 (by omega)), nI_clamp (by omega), nI_1]
    · by_cases e : s = g
      · rw [e, pk_us, h2, nI_1]
        exact ⟨w + 1, by omega, rfl, by omega⟩
      · rw [pk_un e]
        obtain ⟨q2, g1, g2, g3⟩ := h s hs
        exact ⟨q2, by omega, g2, by omega⟩
  · obtain ⟨w, h1, h2, h3⟩ := h (g - 1) (by omega)
    have e1 : nI g - 1 = nI (g - 1) := nI_sub1 (by omega)
    refine ⟨g - 1, upd mv (g - 1) (mv (g - 1) + 1), ?_, by omega, by unfold dst; omega, fun s hs => ?_⟩
    · rw [f_X1_moveOne, if_pos (nI_le q (by omega)), e1, if_neg (below6 (by omega)), nI_clamp (by omega)]
    · by_cases e : s = g - 1
      · rw [e, pk_us, h2, nI_1]
        exact ⟨w + 1, by omega, rfl, by omega⟩
      · rw [pk_un e]
        obtain ⟨q2, g1, g2, g3⟩ := h s hs
        exact ⟨q2, by omega, g2, by omega⟩
theorem move_go {t : Nat} (ht : t ≤ 6) : ∀ (r j g c : Nat) (mv : Nat → Int32), g ≤ 6 → r ≤ dst g t → RV g mv c →
    ∃ (g2 : Nat) (mv2 : Nat → Int32), f_X1_moveFor_L (nI t) r j (nI g) mv = (nI g2, mv2) ∧ g2 ≤ 6 ∧ dst g2 t + r = dst g t ∧ RV g2 mv2 (c + r) := by
  intro r
  induction r with
  | zero => intro j g c mv hg _ h; exact ⟨g, mv, by rw [f_X1_moveFor_L], hg, rfl, h⟩
  | succ r ih =>
    intro j g c mv hg hr h
    obtain ⟨g1, mv1, e1, h1, h2, h3⟩ := move_one hg ht (fun z => by rw [z] at hr; unfold dst at hr; omega) h
    obtain ⟨g2, mv2, e2, k1, k2, k3⟩ := ih (j + 1) g1 (c + 1) mv1 h1 (by omega) h3
    refine ⟨g2, mv2, ?_, k1, by omega, k3.mono (by omega)⟩
    rw [f_X1_moveFor_L, e1]
    exact e2
theorem odd_eq {q : Nat} (hq : q < 2 ^ 31) : (nI q - nI q / 2 * 2 = 1) ↔ q % 2 = 1 := by
  rw [show nI q - nI q / 2 * 2 = nI (q % 2) from pk_rem (d := 2) hq (by decide) (by decide)]
  exact nI_eq (b := 1) (by omega) (by decide)
theorem byMoves_go {g c : Nat} {mv : Nat → Int32} (hc : c < 2 ^ 31) (hg : g ≤ 6) (h : RV g mv c) (tg : Int32) : ∀ (r j a : Nat), j + r = 6 → (a = if j ≤ g then j else g) → f_X1_openAisleByMoves_L tg mv r j (nI a) = if nI g = tg then nI g else -1 := by
  intro r
  induction r with
  | zero =>
    intro j a hj ha
    have : a = g := by rw [ha]; split <;> omega
    rw [f_X1_openAisleByMoves_L, this]
  | succ r ih =>
    intro j a hj ha
    obtain ⟨q, h1, h2, h3⟩ := h j (by omega)
    rw [f_X1_openAisleByMoves_L, nI_clamp (by omega), h2, nI_1]
    by_cases c1 : nI q - nI q / 2 * 2 = 1
    · rw [if_pos c1]
      have := h3.mp ((odd_eq (by omega)).mp c1)
      exact ih (j + 1) (a + 1) (by omega) (by rw [ha, if_pos (by omega), if_pos (by omega)])
    · rw [if_neg c1]
      have : ¬ j < g := fun z => c1 ((odd_eq (by omega)).mpr (h3.mpr z))
      refine ih (j + 1) a (by omega) ?_
      rw [ha]
      split <;> split <;> omega
theorem byMoves_eq {g c : Nat} {mv : Nat → Int32} (hc : c < 2 ^ 31) (hg : g ≤ 6) (h : RV g mv c) (tg : Int32) : f_X1_openAisleByMoves tg mv = f_X1_openAisle (nI g) tg := by
  rw [f_X1_openAisleByMoves, f_X1_openAisle]
  exact byMoves_go hc hg h tg 6 0 0 (by omega) (by rw [if_pos (Nat.zero_le g)])
end RAIL
