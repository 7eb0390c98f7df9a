/-! the best spot of both sides -/
section BEST
variable {n : Nat} {sp mli : Nat → Int32} {sc cl wt kn : Nat → Int32} {x : Int32}
/-- a shelf of the box's climate that bears it -/
def suitM (mli sc cl wt : Nat → Int32) (x : Int32) (s : Nat) : Prop := sc s = cl x.toNatClampNeg ∧ ¬ 100 < f_X4_weighs wt mli (nI s) + wt x.toNatClampNeg
theorem div6 {k : Nat} (h : k < 36) : nI k / 6 = nI (k / 6) := pk_div (d := 6) (by omega) (by decide) (by decide)
theorem bM_full {r k : Nat} {its bm : Int32} (hk : k < 36) (h : ¬ mli k = 0) : f_X4_best_L sc cl wt kn mli x (r + 1) k its bm = f_X4_best_L sc cl wt kn mli x r (k + 1) its bm := by
  rw [f_X4_best_L, nI_clamp (by omega), if_neg h]
theorem bM_skip {r k : Nat} {its bm : Int32} (hk : k < 36) (h : ¬ suitM mli sc cl wt x (k / 6)) : f_X4_best_L sc cl wt kn mli x (r + 1) k its bm = f_X4_best_L sc cl wt kn mli x r (k + 1) its bm := by
  rw [f_X4_best_L, div6 hk, nI_clamp (n := k) (by omega), nI_clamp (n := k / 6) (by omega)]
  by_cases c1 : mli k = 0
  · rw [if_pos c1]
    by_cases c2 : sc (k / 6) = cl x.toNatClampNeg
    · rw [if_pos c2, if_pos]
      exact Decidable.byContradiction fun z => h ⟨c2, z⟩
    · rw [if_neg c2]
  · rw [if_neg c1]
theorem bM_worse {r k : Nat} {its bm : Int32} (hk : k < 36) (h1 : ¬ its = -1) (h2 : f_X4_kin kn mli (nI (k / 6)) (kn x.toNatClampNeg) ≤ bm) : f_X4_best_L sc cl wt kn mli x (r + 1) k its bm = f_X4_best_L sc cl wt kn mli x r (k + 1) its bm := by
  rw [f_X4_best_L, div6 hk, nI_clamp (n := k) (by omega), nI_clamp (n := k / 6) (by omega)]
  by_cases c1 : mli k = 0
  · rw [if_pos c1]
    by_cases c2 : sc (k / 6) = cl x.toNatClampNeg
    · rw [if_pos c2]
      by_cases c3 : 100 < f_X4_weighs wt mli (nI (k / 6)) + wt x.toNatClampNeg
      · rw [if_pos c3]
      · rw [if_neg c3, if_neg h1, if_pos h2]
    · rw [if_neg c2]
  · rw [if_neg c1]
theorem bM_take {r k : Nat} {its bm : Int32} (hk : k < 36) (c1 : mli k = 0) (hs : suitM mli sc cl wt x (k / 6)) (hb : its = -1 ∨ ¬ f_X4_kin kn mli (nI (k / 6)) (kn x.toNatClampNeg) ≤ bm) :
    f_X4_best_L sc cl wt kn mli x (r + 1) k its bm = f_X4_best_L sc cl wt kn mli x r (k + 1) (nI k) (f_X4_kin kn mli (nI (k / 6)) (kn x.toNatClampNeg)) := by
  rw [f_X4_best_L, div6 hk, nI_clamp (n := k) (by omega), nI_clamp (n := k / 6) (by omega), if_pos c1, if_pos hs.1, if_neg hs.2]
  by_cases c2 : its = -1
  · rw [if_pos c2]
  · rw [if_neg c2, if_neg (hb.resolve_left c2)]
/-- rows of one shelf that can't change what is held -/
theorem bM_rest {r s : Nat} {its bm : Int32} (hs : s < 6) (h : ¬ suitM mli sc cl wt x s ∨ (¬ its = -1 ∧ f_X4_kin kn mli (nI s) (kn x.toNatClampNeg) ≤ bm)) :
    ∀ (i p : Nat), p + i = 6 → f_X4_best_L sc cl wt kn mli x (r + i) (6 * s + p) its bm = f_X4_best_L sc cl wt kn mli x r (6 * s + 6) its bm := by
  intro i
  induction i with
  | zero => intro p hp; rw [show p = 6 by omega]; rfl
  | succ i ih =>
    intro p hp
    have e : (6 * s + p) / 6 = s := by omega
    rw [← ih (p + 1) (by omega), show r + (i + 1) = (r + i) + 1 by omega, show 6 * s + (p + 1) = (6 * s + p) + 1 by omega]
    rcases h with h | ⟨h1, h2⟩
    · exact bM_skip (by omega) (by rw [e]; exact h)
    · exact bM_worse (by omega) h1 (by rw [e]; exact h2)
/-- the rows of one shelf: its first free one is taken, if the shelf is better -/
theorem bM_shelf {r s : Nat} {its bm : Int32} (hs : s < 6) (hsu : suitM mli sc cl wt x s) (hb : its = -1 ∨ ¬ f_X4_kin kn mli (nI s) (kn x.toNatClampNeg) ≤ bm) :
    ∀ (i p : Nat), p + i = 6 →
      ((∀ q, p ≤ q → q < 6 → ¬ mli (6 * s + q) = 0) ∧ f_X4_best_L sc cl wt kn mli x (r + i) (6 * s + p) its bm = f_X4_best_L sc cl wt kn mli x r (6 * s + 6) its bm) ∨
      ∃ q, p ≤ q ∧ q < 6 ∧ mli (6 * s + q) = 0 ∧ (∀ q2, p ≤ q2 → q2 < q → ¬ mli (6 * s + q2) = 0) ∧ f_X4_best_L sc cl wt kn mli x (r + i) (6 * s + p) its bm = f_X4_best_L sc cl wt kn mli x r (6 * s + 6) (nI (6 * s + q)) (f_X4_kin kn mli (nI s) (kn x.toNatClampNeg)) := by
  intro i
  induction i with
  | zero => intro p hp; exact Or.inl ⟨fun q h1 h2 => by omega, by rw [show p = 6 by omega]; rfl⟩
  | succ i ih =>
    intro p hp
    have e : (6 * s + p) / 6 = s := by omega
    by_cases c : mli (6 * s + p) = 0
    · refine Or.inr ⟨p, Nat.le_refl p, by omega, c, fun q2 h1 h2 => by omega, ?_⟩
      rw [show r + (i + 1) = (r + i) + 1 by omega, bM_take (by omega) c (by rw [e]; exact hsu) (by rw [e]; exact hb), e]
      exact bM_rest hs (Or.inr ⟨nI_nm1 (by omega), Int32.le_refl _⟩) i (p + 1) (by omega)
    · have e2 : f_X4_best_L sc cl wt kn mli x (r + (i + 1)) (6 * s + p) its bm = f_X4_best_L sc cl wt kn mli x (r + i) (6 * s + (p + 1)) its bm := by
        rw [show r + (i + 1) = (r + i) + 1 by omega]
        exact bM_full (by omega) c
      rcases ih (p + 1) (by omega) with ⟨a, b⟩ | ⟨q, h1, h2, h3, h4, b⟩
      · refine Or.inl ⟨fun q h1 h2 => ?_, e2.trans b⟩
        by_cases z : q = p
        · rw [z]; exact c
        · exact a q (by omega) h2
      · refine Or.inr ⟨q, by omega, h2, h3, fun q2 g1 g2 => ?_, e2.trans b⟩
        by_cases z : q2 = p
        · rw [z]; exact c
        · exact h4 q2 (by omega) g2
theorem free_at (h : RS n sp mli) (hn : n ≤ 20) {s p : Nat} (hs : s < 6) (hp : p < 6) : f_X2_boxIn (nI n) sp (f_X3_spotAt (nI s) (nI (p / 3)) (nI (p % 3))) = -1 ↔ mli (6 * s + p) = 0 := by
  rw [spotAtT hs hp]; exact free_iff h hn (by omega)
/-- the class's first free spot of a shelf -/
theorem first_free (h : RS n sp mli) (hn : n ≤ 20) {s : Nat} (hs : s < 6) :
    ((∀ q, q < 6 → ¬ mli (6 * s + q) = 0) → f_X2_firstFreeSpot (nI n) sp (nI s) = -1) ∧ ∀ q, q < 6 → mli (6 * s + q) = 0 → (∀ q2, q2 < q → ¬ mli (6 * s + q2) = 0) → f_X2_firstFreeSpot (nI n) sp (nI s) = nI (TT (6 * s + q)) := by
  have f0 := free_at h hn hs (p := 0) (by decide)
  have f1 := free_at h hn hs (p := 1) (by decide)
  have f2 := free_at h hn hs (p := 2) (by decide)
  have f3 := free_at h hn hs (p := 3) (by decide)
  have f4 := free_at h hn hs (p := 4) (by decide)
  have f5 := free_at h hn hs (p := 5) (by decide)
  have g0 := spotAtT hs (p := 0) (by decide)
  have g1 := spotAtT hs (p := 1) (by decide)
  have g2 := spotAtT hs (p := 2) (by decide)
  have g3 := spotAtT hs (p := 3) (by decide)
  have g4 := spotAtT hs (p := 4) (by decide)
  have g5 := spotAtT hs (p := 5) (by decide)
  have e0 : f_X3_spotAt (nI s) (nI (0 / 3)) (nI (0 % 3)) = f_X3_spotAt (nI s) 0 0 := rfl
  have e1 : f_X3_spotAt (nI s) (nI (1 / 3)) (nI (1 % 3)) = f_X3_spotAt (nI s) 0 1 := rfl
  have e2 : f_X3_spotAt (nI s) (nI (2 / 3)) (nI (2 % 3)) = f_X3_spotAt (nI s) 0 2 := rfl
  have e3 : f_X3_spotAt (nI s) (nI (3 / 3)) (nI (3 % 3)) = f_X3_spotAt (nI s) 1 0 := rfl
  have e4 : f_X3_spotAt (nI s) (nI (4 / 3)) (nI (4 % 3)) = f_X3_spotAt (nI s) 1 1 := rfl
  have e5 : f_X3_spotAt (nI s) (nI (5 / 3)) (nI (5 % 3)) = f_X3_spotAt (nI s) 1 2 := rfl
  rw [e0] at f0 g0
  rw [e1] at f1 g1
  rw [e2] at f2 g2
  rw [e3] at f3 g3
  rw [e4] at f4 g4
  rw [e5] at f5 g5
  constructor
  · intro a
    rw [f_X2_firstFreeSpot, if_neg (fun z => a 0 (by decide) (f0.mp z)), if_neg (fun z => a 1 (by decide) (f1.mp z)), if_neg (fun z => a 2 (by decide) (f2.mp z)), if_neg (fun z => a 3 (by decide) (f3.mp z)), if_neg (fun z => a 4 (by decide) (f4.mp z)), if_neg (fun z => a 5 (by decide) (f5.mp z))]
  · intro q hq c a
    match q, hq, c, a with
    | 0, _, c, a => rw [f_X2_firstFreeSpot, if_pos (f0.mpr c)]; exact g0
    | 1, _, c, a => rw [f_X2_firstFreeSpot, if_neg (fun z => a 0 (by decide) (f0.mp z)), if_pos (f1.mpr c)]; exact g1
    | 2, _, c, a => rw [f_X2_firstFreeSpot, if_neg (fun z => a 0 (by decide) (f0.mp z)), if_neg (fun z => a 1 (by decide) (f1.mp z)), if_pos (f2.mpr c)]; exact g2
    | 3, _, c, a => rw [f_X2_firstFreeSpot, if_neg (fun z => a 0 (by decide) (f0.mp z)), if_neg (fun z => a 1 (by decide) (f1.mp z)), if_neg (fun z => a 2 (by decide) (f2.mp z)), if_pos (f3.mpr c)]; exact g3
    | 4, _, c, a => rw [f_X2_firstFreeSpot, if_neg (fun z => a 0 (by decide) (f0.mp z)), if_neg (fun z => a 1 (by decide) (f1.mp z)), if_neg (fun z => a 2 (by decide) (f2.mp z)), if_neg (fun z => a 3 (by decide) (f3.mp z)), if_pos (f4.mpr c)]; exact g4
    | 5, _, c, a => rw [f_X2_firstFreeSpot, if_neg (fun z => a 0 (by decide) (f0.mp z)), if_neg (fun z => a 1 (by decide) (f1.mp z)), if_neg (fun z => a 2 (by decide) (f2.mp z)), if_neg (fun z => a 3 (by decide) (f3.mp z)), if_neg (fun z => a 4 (by decide) (f4.mp z)), if_pos (f5.mpr c)]; exact g5
    | q + 6, h6, _, _ => omega
/-- what both hold between two shelves -/
def BR (bst mok its bm : Int32) : Prop := (bst = -1 ∧ mok = -1 ∧ its = -1 ∧ bm = 0) ∨ ∃ k, k < 36 ∧ its = nI k ∧ bst = nI (TT k) ∧ mok = bm
theorem best_go (h : RS n sp mli) (hn : n ≤ 20) (sc cl wt kn : Nat → Int32) (x : Int32) : ∀ (r s : Nat) (bst mok its bm : Int32), s + r = 6 → BR bst mok its bm →
    BR (f_X2_bestSpotFor_L (nI n) sc cl wt kn sp x r s bst mok) 0 (f_X4_best_L sc cl wt kn mli x (6 * r) (6 * s) its bm) 0 ∨ (f_X2_bestSpotFor_L (nI n) sc cl wt kn sp x r s bst mok = -1 ∧ f_X4_best_L sc cl wt kn mli x (6 * r) (6 * s) its bm = -1) := by
  intro r
  induction r with
  | zero =>
    intro s bst mok its bm hs hB
    rw [f_X2_bestSpotFor_L, show 6 * 0 = 0 from rfl, f_X4_best_L]
    rcases hB with ⟨a, b, c, d⟩ | ⟨k, hk, a, b, c⟩
    · exact Or.inr ⟨a, c⟩
    · exact Or.inl (Or.inr ⟨k, hk, a, b, rfl⟩)
  | succ r ih =>
    intro s bst mok its bm hs hB
    have hs6 : s < 6 := by omega
    have eM : 6 * (r + 1) = 6 * r + 6 := by omega
    have eS : 6 * (s + 1) = 6 * s + 6 := by omega
    have hk := kin_eq h hn hs6 kn (kn x.toNatClampNeg)
    have hw := weigh_eq h hn hs6 wt
    obtain ⟨c0, hc0, ec0⟩ := kin_nat (sp := sp) hn kn (nI s) (kn x.toNatClampNeg)
    rw [f_X2_bestSpotFor_L, nI_clamp (by omega), hk, hw, eM]
    rw [hk] at ec0
    by_cases c1 : sc s = cl x.toNatClampNeg
    · rw [if_pos c1]
      by_cases c2 : 100 < f_X4_weighs wt mli (nI s) + wt x.toNatClampNeg
      · rw [if_pos c2]
        have e := bM_rest (mli := mli) (sc := sc) (cl := cl) (wt := wt) (kn := kn) (x := x) (r := 6 * r) (its := its) (bm := bm) hs6 (Or.inl fun z => z.2 c2) 6 0 (by omega)
        simp only [Nat.add_zero] at e
        rw [e, ← eS]
        exact ih (s + 1) bst mok its bm (by omega) hB
      · rw [if_neg c2]
        have hsu : suitM mli sc cl wt x s := ⟨c1, c2⟩
        -- is the shelf better than what is held?
        by_cases c4 : f_X4_kin kn mli (nI s) (kn x.toNatClampNeg) ≤ mok
        · have hno : ¬ its = -1 ∧ f_X4_kin kn mli (nI s) (kn x.toNatClampNeg) ≤ bm := by
            rcases hB with ⟨a, b, c, d⟩ | ⟨k, hk2, a, b, c⟩
            · rw [b, ec0] at c4
              exact absurd c4 (by
                rw [Int32.le_iff_toInt_le, nI_toInt (by omega), show (-1 : Int32).toInt = -1 by decide]
                omega)
            · exact ⟨by rw [a]; exact nI_nm1 (by omega), by rw [← c]; exact c4⟩
          have e := bM_rest (mli := mli) (sc := sc) (cl := cl) (wt := wt) (kn := kn) (x := x) (r := 6 * r) (its := its) (bm := bm) hs6 (Or.inr hno) 6 0 (by omega)
          simp only [Nat.add_zero] at e
          rw [e, ← eS, if_pos c4, ite_self]
          exact ih (s + 1) bst mok its bm (by omega) hB
        · have hbt : its = -1 ∨ ¬ f_X4_kin kn mli (nI s) (kn x.toNatClampNeg) ≤ bm := by
            rcases hB with ⟨a, b, c, d⟩ | ⟨k, hk2, a, b, c⟩
            · exact Or.inl c
            · exact Or.inr (by rw [← c]; exact c4)
          rw [if_neg c4]
          obtain ⟨ff1, ff2⟩ := first_free h hn hs6
          rcases bM_shelf (r := 6 * r) (kn := kn) hs6 hsu hbt 6 0 (by omega) with ⟨a, e⟩ | ⟨q, -, h2, h3, h4, e⟩
          · simp only [Nat.add_zero] at e
            rw [ff1 (fun q hq => a q (Nat.zero_le q) hq), if_pos rfl, e, ← eS]
            exact ih (s + 1) bst mok its bm (by omega) hB
          · simp only [Nat.add_zero] at e
            rw [ff2 q h2 h3 (fun q2 g => h4 q2 (Nat.zero_le q2) g), if_neg (TT_nm1 (by omega)), e, ← eS]
            exact ih (s + 1) _ _ _ _ (by omega) (Or.inr ⟨6 * s + q, by omega, rfl, rfl, rfl⟩)
    · rw [if_neg c1]
      have e := bM_rest (mli := mli) (sc := sc) (cl := cl) (wt := wt) (kn := kn) (x := x) (r := 6 * r) (its := its) (bm := bm) hs6 (Or.inl fun z => c1 z.1) 6 0 (by omega)
      simp only [Nat.add_zero] at e
      rw [e, ← eS]
      exact ih (s + 1) bst mok its bm (by omega) hB
/-- both have no spot for the box, or the same -/
theorem best_cases (h : RS n sp mli) (hn : n ≤ 20) (sc cl wt kn : Nat → Int32) {b : Nat} (hb : b < n) :
    (f_X2_bestSpotFor (nI n) sc cl wt kn sp (nI b) = -1 ∧ f_X4_best sc cl wt kn mli (nI b) = -1) ∨ ∃ k, k < 36 ∧ f_X2_bestSpotFor (nI n) sc cl wt kn sp (nI b) = nI (TT k) ∧ f_X4_best sc cl wt kn mli (nI b) = nI k := by
  rw [f_X2_bestSpotFor, f_X4_best, if_neg (fun z => (has_iff hn).mp z (vp_in_nI hb (by omega)))]
  rcases best_go h hn sc cl wt kn (nI b) 6 0 (-1) (-1) (-1) 0 (by omega) (Or.inl ⟨rfl, rfl, rfl, rfl⟩) with (⟨a, -, c, -⟩ | ⟨k, hk, a, c, -⟩) | ⟨a, c⟩
  · exact Or.inl ⟨a, c⟩
  · exact Or.inr ⟨k, hk, c, a⟩
  · exact Or.inl ⟨a, c⟩
theorem best_L_free {msc mcl mwt mkn mli : Nat → Int32} {p0 : Int32} : ∀ (r j : Nat) (its mst : Int32), j + r = 36 → (its = -1 ∨ ∃ k, k < 36 ∧ its = nI k ∧ mli k = 0) → (f_X4_best_L msc mcl mwt mkn mli p0 r j its mst = -1 ∨ ∃ k, k < 36 ∧ f_X4_best_L msc mcl mwt mkn mli p0 r j its mst = nI k ∧ mli k = 0) := by
  intro r
  induction r with
  | zero => intro j its mst _ h; rw [f_X4_best_L]; exact h
  | succ r ih =>
    intro j its mst hj h
    rw [f_X4_best_L, nI_clamp (n := j) (by omega)]
    (repeat' split) <;> first | exact ih _ _ _ (by omega) h | exact ih _ _ _ (by omega) (Or.inr ⟨j, by omega, rfl, by assumption⟩)
theorem best_free {k : Nat} (hk : k < 36) (e : f_X4_best sc cl wt kn mli x = nI k) : mli k = 0 := by
  rcases best_L_free (msc := sc) (mcl := cl) (mwt := wt) (mkn := kn) (mli := mli) (p0 := x) 36 0 (-1) 0 (by omega) (Or.inl rfl) with a | ⟨j, hj, a, b⟩
  · exact absurd (e.symm.trans a) (nI_nm1 (by omega))
  · have := (nI_eq (by omega) (by omega)).mp (e.symm.trans a)
    rw [this]; exact b
end BEST
