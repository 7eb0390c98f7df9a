/-! numbers of the class (proved for the whole; the model left out) -/
theorem nI_nm1 {n : Nat} (h : n < 2 ^ 31) : ¬ nI n = -1 := by
  intro e
  have h1 := congrArg Int32.toInt e
  rw [nI_toInt h] at h1
  have h2 : (-1 : Int32).toInt = -1 := by decide
  rw [h2] at h1
  omega
theorem nI_nm2 {n : Nat} (h : n < 2 ^ 31) : ¬ nI n = -2 := by
  intro e
  have h1 := congrArg Int32.toInt e
  rw [nI_toInt h] at h1
  have h2 : (-2 : Int32).toInt = -2 := by decide
  rw [h2] at h1
  omega
theorem nI_sub1 {n : Nat} (h : 0 < n) : nI n - 1 = nI (n - 1) := by
  obtain ⟨q, rfl⟩ : ∃ q, n = q + 1 := ⟨n - 1, by omega⟩
  rw [nI_pred]; rfl
def sumN (f : Nat → Int32) : Nat → Int32
  | 0 => 0
  | m + 1 => sumN f m + f m
theorem sum_congr {f g : Nat → Int32} : ∀ m : Nat, (∀ i, i < m → f i = g i) → sumN f m = sumN g m
  | 0, _ => rfl
  | m + 1, h => by
    show sumN f m + f m = sumN g m + g m
    rw [sum_congr m (fun i hi => h i (by omega)), h m (by omega)]
theorem sum_zero {f : Nat → Int32} (m : Nat) (h : ∀ i, i < m → f i = 0) : sumN f m = 0 := by
  induction m with
  | zero => rfl
  | succ m ih =>
    show sumN f m + f m = 0
    rw [ih (fun i hi => h i (by omega)), h m (by omega)]; rfl
theorem sum_one {f : Nat → Int32} (m i0 : Nat) (h0 : i0 < m) (h : ∀ i, i < m → i ≠ i0 → f i = 0) : sumN f m = f i0 := by
  induction m with
  | zero => omega
  | succ m ih =>
    show sumN f m + f m = f i0
    by_cases e : i0 = m
    · subst e
      rw [sum_zero i0 (fun i hi => h i (by omega) (by omega))]
      exact Int32.zero_add _
    · rw [ih (by omega) (fun i hi => h i (by omega)), h m (by omega) (fun z => e z.symm)]
      exact Int32.add_zero _
theorem sum_add {f g : Nat → Int32} (m : Nat) : sumN (fun i => f i + g i) m = sumN f m + sumN g m := by
  induction m with
  | zero => rfl
  | succ m ih =>
    show sumN (fun i => f i + g i) m + (f m + g m) = (sumN f m + f m) + (sumN g m + g m)
    rw [ih]
    ac_rfl
theorem sum_swap {h : Nat → Nat → Int32} (n m : Nat) : sumN (fun b => sumN (fun i => h b i) m) n = sumN (fun i => sumN (fun b => h b i) n) m := by
  induction n with
  | zero =>
    exact (sum_zero m (fun i _ => rfl)).symm
  | succ n ih =>
    show sumN (fun b => sumN (fun i => h b i) m) n + sumN (fun i => h n i) m = sumN (fun i => sumN (fun b => h b i) n + h n i) m
    rw [ih, sum_add]
def TT (k : Nat) : Nat := 100 * (k / 6) + 10 * (k / 3 % 2) + k % 3
theorem TT_lt {k : Nat} (h : k < 36) : TT k < 600 := by unfold TT; omega
theorem TT_inj {k j : Nat} (hk : k < 36) (hj : j < 36) (h : TT k = TT j) : k = j := by unfold TT at h; omega
theorem TT_nI {k j : Nat} (hk : k < 36) (hj : j < 36) : nI (TT k) = nI (TT j) ↔ k = j :=
  ⟨fun h => TT_inj hk hj ((nI_eq (by have := TT_lt hk; omega) (by have := TT_lt hj; omega)).mp h), fun h => by rw [h]⟩
theorem TT_nm1 {k : Nat} (h : k < 36) : ¬ nI (TT k) = -1 := nI_nm1 (by have := TT_lt h; omega)
theorem shelfAt_eq {j : Nat} (h : j < 600) : f_X3_shelfAt (nI j) = nI (j / 100) := by
  rw [f_X3_shelfAt]; exact pk_div (d := 100) (by omega) (by decide) (by decide)
theorem sideAt_eq {j : Nat} (h : j < 2 ^ 31) : f_X3_sideAt (nI j) = nI (j / 10 % 10) := by
  have e1 : nI j / 10 = nI (j / 10) := pk_div (d := 10) h (by decide) (by decide)
  rw [f_X3_sideAt, e1]
  exact pk_rem (d := 10) (by omega) (by decide) (by decide)
theorem placeAt_eq {j : Nat} (h : j < 2 ^ 31) : f_X3_placeAt (nI j) = nI (j % 10) := by
  rw [f_X3_placeAt]
  exact pk_rem (d := 10) h (by decide) (by decide)
theorem shelfT {k : Nat} (h : k < 36) : f_X3_shelfAt (nI (TT k)) = nI (k / 6) := by
  rw [shelfAt_eq (TT_lt h)]
  congr 1
  unfold TT; omega
theorem aisleT {k : Nat} (h : k < 36) : f_X3_aisleAt (nI (TT k)) = nI (k / 6 + k / 3 % 2) := by
  have h2 := TT_lt h
  rw [f_X3_aisleAt, shelfT h, sideAt_eq (by omega), nI_add]
  congr 1
  unfold TT; omega
theorem spotAtT {s p : Nat} (hs : s < 6) (hp : p < 6) : f_X3_spotAt (nI s) (nI (p / 3)) (nI (p % 3)) = nI (TT (6 * s + p)) := by
  rw [f_X3_spotAt, show (100 : Int32) * nI s = nI (100 * s) from pk_mul 100 _, show (10 : Int32) * nI (p / 3) = nI (10 * (p / 3)) from pk_mul 10 _, nI_add, nI_add]
  congr 1
  unfold TT; omega
theorem below_iff {x : Int32} {N : Nat} {y : Int32} (hy : y = nI N) (hN : N < 2 ^ 31) : f_X3_isBelow x y = 0 ↔ ¬ vp_in x N := by
  constructor
  · intro h hin
    obtain ⟨j, hj, rfl⟩ := vp_in_of hin hN
    rw [f_X3_isBelow, if_neg (nI_pos (by omega)), if_neg (by rw [hy]; exact nI_ge hj hN)] at h
    exact absurd h (by decide)
  · intro h
    by_cases z : f_X3_isBelow x y = 0
    · exact z
    · exact absurd (in_below hy hN z) h
theorem vp_in0 {x : Int32} : ¬ vp_in x 0 := fun h => h (Or.inr (Nat.zero_le _))
theorem has_iff {x : Int32} {n : Nat} (hn : n ≤ 20) : f_X2_has (nI n) x = 0 ↔ ¬ vp_in x n := by
  rw [f_X2_has]; exact below_iff rfl (by omega)
theorem vp_dec {x : Int32} {n : Nat} (hn : n < 2 ^ 31) : (¬ vp_in x n) ∨ ∃ j : Nat, j < n ∧ x = nI j := by
  by_cases h : vp_in x n
  · exact Or.inr (vp_in_of h hn)
  · exact Or.inl h
def RS (n : Nat) (sp mli : Nat → Int32) : Prop :=
  (∀ b, b < n → sp b = -1 ∨ ∃ k, k < 36 ∧ sp b = nI (TT k)) ∧ (∀ k, k < 36 → mli k = nI 0 ∨ ∃ b, b < n ∧ mli k = nI (b + 1)) ∧ ∀ k b, k < 36 → b < n → (sp b = nI (TT k) ↔ mli k = nI (b + 1))
section PLACE
variable {n : Nat} {sp mli : Nat → Int32}
theorem whereIs_eq (hn : n ≤ 20) {b : Nat} (hb : b < n) : f_X2_whereIs (nI n) sp (nI b) = sp b := by
  rw [f_X2_whereIs, if_neg, nI_clamp (by omega)]
  rw [has_iff hn]
  exact fun z => z (vp_in_nI hb (by omega))
theorem boxIn_L (x : Int32) : ∀ (r j : Nat), j + r = n → n ≤ 20 → ((∀ b, j ≤ b → b < n → sp b ≠ x) ∧ f_X2_boxIn_L sp x r j = -1) ∨ ∃ b, j ≤ b ∧ b < n ∧ sp b = x ∧ f_X2_boxIn_L sp x r j = nI b := by
  intro r
  induction r with
  | zero => intro j hj _; exact Or.inl ⟨fun b h1 h2 => by omega, by rw [f_X2_boxIn_L]⟩
  | succ r ih =>
    intro j hj hn
    rw [f_X2_boxIn_L, nI_clamp (by omega)]
    by_cases c : sp j = x
    · rw [if_pos c]; exact Or.inr ⟨j, Nat.le_refl j, by omega, c, rfl⟩
    · rw [if_neg c]
      rcases ih (j + 1) (by omega) hn with ⟨a, e⟩ | ⟨b, h1, h2, h3, e⟩
      · refine Or.inl ⟨fun b h1 h2 => ?_, e⟩
        by_cases z : b = j
        · rw [z]; exact c
        · exact a b (by omega) h2
      · exact Or.inr ⟨b, by omega, h2, h3, e⟩
theorem boxIn_eq (h : RS n sp mli) (hn : n ≤ 20) {k : Nat} (hk : k < 36) : f_X2_boxIn (nI n) sp (nI (TT k)) = mli k - 1 := by
  rw [f_X2_boxIn, nI_clamp (by omega)]
  rcases boxIn_L (sp := sp) (nI (TT k)) n 0 (by omega) hn with ⟨a, e⟩ | ⟨b, -, h2, h3, e⟩
  · rw [e]
    rcases h.2.1 k hk with z | ⟨b, hb, z⟩
    · rw [z]; rfl
    · exact absurd ((h.2.2 k b hk hb).mpr z) (a b (Nat.zero_le b) hb)
  · rw [e, (h.2.2 k b hk h2).mp h3, nI_pred]
theorem free_iff (h : RS n sp mli) (hn : n ≤ 20) {k : Nat} (hk : k < 36) : f_X2_boxIn (nI n) sp (nI (TT k)) = -1 ↔ mli k = 0 := by
  rw [boxIn_eq h hn hk]
  rcases h.2.1 k hk with z | ⟨b, hb, z⟩
  · rw [z]; exact ⟨fun _ => rfl, fun _ => rfl⟩
  · rw [z, nI_pred]
    exact ⟨fun q => absurd q (nI_nm1 (by omega)), fun q => absurd q (nI_ne0 (by omega) (by omega))⟩
theorem sum_both (h : RS n sp mli) (hn : n ≤ 20) (lo m : Nat) (hm : lo + m ≤ 36) (F : Nat → Nat → Int32) {X M : Nat → Int32}
    (hX : ∀ b, b < n → (X b = 0 ∧ ∀ i, i < m → sp b ≠ nI (TT (lo + i))) ∨ ∃ i, i < m ∧ sp b = nI (TT (lo + i)) ∧ X b = F b (lo + i))
    (hM : ∀ i, i < m → (M i = 0 ∧ mli (lo + i) = nI 0) ∨ ∃ b, b < n ∧ mli (lo + i) = nI (b + 1) ∧ M i = F b (lo + i)) : sumN X n = sumN M m := by
  have e1 : sumN X n = sumN (fun b => sumN (fun i => if mli (lo + i) = nI (b + 1) then F b (lo + i) else 0) m) n := by
    refine sum_congr n (fun b hb => ?_)
    rcases hX b hb with ⟨z, a⟩ | ⟨i, hi, a, z⟩
    · rw [z]
      refine (sum_zero m (fun i hi => if_neg fun q => a i hi ((h.2.2 (lo + i) b (by omega) hb).mpr q))).symm
    · rw [z, sum_one m i hi]
      · rw [if_pos ((h.2.2 (lo + i) b (by omega) hb).mp a)]
      · intro i2 hi2 hne
        refine if_neg fun q => hne ?_
        have q2 := (h.2.2 (lo + i2) b (by omega) hb).mpr q
        rw [a] at q2
        have := (TT_nI (by omega) (by omega)).mp q2
        omega
  have e2 : sumN M m = sumN (fun i => sumN (fun b => if mli (lo + i) = nI (b + 1) then F b (lo + i) else 0) n) m := by
    refine sum_congr m (fun i hi => ?_)
    rcases hM i hi with ⟨z, a⟩ | ⟨b, hb, a, z⟩
    · rw [z]
      refine (sum_zero n (fun b hb => if_neg fun q => ?_)).symm
      rw [a] at q
      exact absurd q.symm (nI_ne0 (by omega) (by omega))
    · rw [z, sum_one n b hb]
      · rw [if_pos a]
      · intro b2 hb2 hne
        refine if_neg fun q => hne ?_
        rw [a] at q
        have := (nI_eq (by omega) (by omega)).mp q
        omega
  rw [e1, e2]
  exact sum_swap n m
theorem liesOn_eq (hn : n ≤ 20) {b : Nat} (hb : b < n) (x : Int32) : f_X2_liesOn (nI n) sp (nI b) x = if sp b = -1 then 0 else if f_X3_shelfAt (sp b) = x then 1 else 0 := by
  rw [f_X2_liesOn, whereIs_eq hn hb]
theorem lies_cases (h : RS n sp mli) (hn : n ≤ 20) {b s : Nat} (hb : b < n) (hs : s < 6) :
    (f_X2_liesOn (nI n) sp (nI b) (nI s) = 0 ∧ ∀ i, i < 6 → sp b ≠ nI (TT (6 * s + i))) ∨ (¬ f_X2_liesOn (nI n) sp (nI b) (nI s) = 0 ∧ ∃ i, i < 6 ∧ sp b = nI (TT (6 * s + i))) := by
  rw [liesOn_eq hn hb]
  rcases h.1 b hb with e | ⟨k, hk, e⟩
  · rw [if_pos e]
    exact Or.inl ⟨rfl, fun i hi q => TT_nm1 (k := 6 * s + i) (by omega) (q.symm.trans e)⟩
  · rw [if_neg (by rw [e]; exact TT_nm1 hk), e, shelfT hk]
    by_cases c : k / 6 = s
    · rw [if_pos (by rw [c])]
      exact Or.inr ⟨by decide, k - 6 * s, by omega, by congr 2; omega⟩
    · rw [if_neg (fun q => c ((nI_eq (by omega) (by omega)).mp q))]
      refine Or.inl ⟨rfl, fun i hi q => c ?_⟩
      have := (TT_nI hk (by omega)).mp q
      omega
theorem weightOn_sum (wt : Nat → Int32) (x : Int32) : ∀ (r j : Nat) (acc : Int32), j + r < 2 ^ 31 → acc = sumN (fun b => if f_X2_liesOn (nI n) sp (nI b) x = 0 then 0 else wt b) j →
    f_X2_weightOn_L (nI n) wt sp x r j acc = sumN (fun b => if f_X2_liesOn (nI n) sp (nI b) x = 0 then 0 else wt b) (j + r) := by
  intro r
  induction r with
  | zero => intro j acc _ h; rw [f_X2_weightOn_L]; exact h
  | succ r ih =>
    intro j acc hj h
    rw [f_X2_weightOn_L, nI_clamp (by omega), show j + (r + 1) = (j + 1) + r by omega]
    by_cases c : f_X2_liesOn (nI n) sp (nI j) x = 0
    · rw [if_pos c]
      refine ih (j + 1) acc (by omega) ?_
      show acc = sumN _ j + (if f_X2_liesOn (nI n) sp (nI j) x = 0 then 0 else wt j)
      rw [if_pos c, ← h]; exact (Int32.add_zero _).symm
    · rw [if_neg c]
      refine ih (j + 1) _ (by omega) ?_
      show acc + wt j = sumN _ j + (if f_X2_liesOn (nI n) sp (nI j) x = 0 then 0 else wt j)
      rw [if_neg c, ← h]
theorem climateOf_eq (sc : Nat → Int32) {s : Nat} (hs : s < 6) : f_X2_climateOf sc (nI s) = sc s := by
  rw [f_X2_climateOf, if_neg, nI_clamp (by omega)]
  exact fun z => (below_iff (N := 6) rfl (by decide)).mp z (vp_in_nI hs (by decide))
theorem isWrong_eq (hn : n ≤ 20) {b : Nat} (hb : b < n) (sc cl : Nat → Int32) : f_X2_isWrong (nI n) sc cl sp (nI b) = if sp b = -1 then 0 else if cl b = f_X2_climateOf sc (f_X3_shelfAt (sp b)) then 0 else 1 := by
  rw [f_X2_isWrong, whereIs_eq hn hb, nI_clamp (by omega)]
theorem isWrong_T (hn : n ≤ 20) {b k : Nat} (hb : b < n) (hk : k < 36) (e : sp b = nI (TT k)) (sc cl : Nat → Int32) : f_X2_isWrong (nI n) sc cl sp (nI b) = if cl b = sc (k / 6) then 0 else 1 := by
  rw [isWrong_eq hn hb, if_neg (by rw [e]; exact TT_nm1 hk), e, shelfT hk, climateOf_eq sc (by omega)]
theorem countWrong_sum (sc cl : Nat → Int32) : ∀ (r j : Nat) (acc : Int32), acc = sumN (fun b => if f_X2_isWrong (nI n) sc cl sp (nI b) = 0 then 0 else 1) j →
    f_X2_countWrong_L (nI n) sc cl sp r j acc = sumN (fun b => if f_X2_isWrong (nI n) sc cl sp (nI b) = 0 then 0 else 1) (j + r) := by
  intro r
  induction r with
  | zero => intro j acc h; rw [f_X2_countWrong_L]; exact h
  | succ r ih =>
    intro j acc h
    rw [f_X2_countWrong_L, show j + (r + 1) = (j + 1) + r by omega]
    by_cases c : f_X2_isWrong (nI n) sc cl sp (nI j) = 0
    · rw [if_pos c]
      refine ih (j + 1) acc ?_
      show acc = sumN _ j + (if f_X2_isWrong (nI n) sc cl sp (nI j) = 0 then 0 else 1)
      rw [if_pos c, ← h]; exact (Int32.add_zero _).symm
    · rw [if_neg c]
      refine ih (j + 1) _ ?_
      show acc + 1 = sumN _ j + (if f_X2_isWrong (nI n) sc cl sp (nI j) = 0 then 0 else 1)
      rw [if_neg c, ← h]
theorem free_at (h : RS n sp mli) (hn : n ≤ 20) {s p : Nat} (hs : s < 6) (hp : p < 6) : f_X2_boxIn (nI n) sp (f_X3_spotAt (nI s) (nI (p / 3)) (nI (p % 3))) = -1 ↔ mli (6 * s + p) = 0 := by
  rw [spotAtT hs hp]; exact free_iff h hn (by omega)
theorem first_free (h : RS n sp mli) (hn : n ≤ 20) {s : Nat} (hs : s < 6) :
    ((∀ q, q < 6 → ¬ mli (6 * s + q) = 0) → f_X2_firstFreeSpot (nI n) sp (nI s) = -1) ∧ ∀ q, q < 6 → mli (6 * s + q) = 0 → (∀ q2, q2 < q → ¬ mli (6 * s + q2) = 0) → f_X2_firstFreeSpot (nI n) sp (nI s) = nI (TT (6 * s + q)) := by
  have f0 := free_at h hn hs (p := 0) (by decide)
  have f1 := free_at h hn hs (p := 1) (by decide)
  have f2 := free_at h hn hs (p := 2) (by decide)
  have f3 := free_at h hn hs (p := 3) (by decide)
  have f4 := free_at h hn hs (p := 4) (by decide)
  have f5 := free_at h hn hs (p := 5) (by decide)
  have g0 := spotAtT hs (p := 0) (by decide)
  have g1 := spotAtT hs (p := 1) (by decide)
  have g2 := spotAtT hs (p := 2) (by decide)
  have g3 := spotAtT hs (p := 3) (by decide)
  have g4 := spotAtT hs (p := 4) (by decide)
  have g5 := spotAtT hs (p := 5) (by decide)
  have e0 : f_X3_spotAt (nI s) (nI (0 / 3)) (nI (0 % 3)) = f_X3_spotAt (nI s) 0 0 := rfl
  have e1 : f_X3_spotAt (nI s) (nI (1 / 3)) (nI (1 % 3)) = f_X3_spotAt (nI s) 0 1 := rfl
  have e2 : f_X3_spotAt (nI s) (nI (2 / 3)) (nI (2 % 3)) = f_X3_spotAt (nI s) 0 2 := rfl
  have e3 : f_X3_spotAt (nI s) (nI (3 / 3)) (nI (3 % 3)) = f_X3_spotAt (nI s) 1 0 := rfl
  have e4 : f_X3_spotAt (nI s) (nI (4 / 3)) (nI (4 % 3)) = f_X3_spotAt (nI s) 1 1 := rfl
  have e5 : f_X3_spotAt (nI s) (nI (5 / 3)) (nI (5 % 3)) = f_X3_spotAt (nI s) 1 2 := rfl
  rw [e0] at f0 g0
  rw [e1] at f1 g1
  rw [e2] at f2 g2
  rw [e3] at f3 g3
  rw [e4] at f4 g4
  rw [e5] at f5 g5
  constructor
  · intro a
    rw [f_X2_firstFreeSpot, if_neg (fun z => a 0 (by decide) (f0.mp z)), if_neg (fun z => a 1 (by decide) (f1.mp z)), if_neg (fun z => a 2 (by decide) (f2.mp z)), if_neg (fun z => a 3 (by decide) (f3.mp z)), if_neg (fun z => a 4 (by decide) (f4.mp z)), if_neg (fun z => a 5 (by decide) (f5.mp z))]
  · intro q hq c a
    match q, hq, c, a with
    | 0, _, c, a => rw [f_X2_firstFreeSpot, if_pos (f0.mpr c)]; exact g0
    | 1, _, c, a => rw [f_X2_firstFreeSpot, if_neg (fun z => a 0 (by decide) (f0.mp z)), if_pos (f1.mpr c)]; exact g1
    | 2, _, c, a => rw [f_X2_firstFreeSpot, if_neg (fun z => a 0 (by decide) (f0.mp z)), if_neg (fun z => a 1 (by decide) (f1.mp z)), if_pos (f2.mpr c)]; exact g2
    | 3, _, c, a => rw [f_X2_firstFreeSpot, if_neg (fun z => a 0 (by decide) (f0.mp z)), if_neg (fun z => a 1 (by decide) (f1.mp z)), if_neg (fun z => a 2 (by decide) (f2.mp z)), if_pos (f3.mpr c)]; exact g3
    | 4, _, c, a => rw [f_X2_firstFreeSpot, if_neg (fun z => a 0 (by decide) (f0.mp z)), if_neg (fun z => a 1 (by decide) (f1.mp z)), if_neg (fun z => a 2 (by decide) (f2.mp z)), if_neg (fun z => a 3 (by decide) (f3.mp z)), if_pos (f4.mpr c)]; exact g4
    | 5, _, c, a => rw [f_X2_firstFreeSpot, if_neg (fun z => a 0 (by decide) (f0.mp z)), if_neg (fun z => a 1 (by decide) (f1.mp z)), if_neg (fun z => a 2 (by decide) (f2.mp z)), if_neg (fun z => a 3 (by decide) (f3.mp z)), if_neg (fun z => a 4 (by decide) (f4.mp z)), if_pos (f5.mpr c)]; exact g5
    | q + 6, h6, _, _ => omega
end PLACE
theorem RS.put {n b k : Nat} {sp mli : Nat → Int32} (h : RS n sp mli) (hn : n ≤ 20) (hb : b < n) (hs : sp b = -1) (hk : k < 36) (hm : mli k = 0) : RS n (upd sp b (nI (TT k))) (upd mli k (nI (b + 1))) := by
  refine ⟨fun b2 hb2 => ?_, fun k2 hk2 => ?_, fun k2 b2 hk2 hb2 => ?_⟩
  · by_cases e : b2 = b
    · rw [e, pk_us]; exact Or.inr ⟨k, hk, rfl⟩
    · rw [pk_un e]; exact h.1 b2 hb2
  · by_cases e : k2 = k
    · rw [e, pk_us]; exact Or.inr ⟨b, hb, rfl⟩
    · rw [pk_un e]; exact h.2.1 k2 hk2
  · by_cases e : b2 = b
    · rw [e, pk_us]
      by_cases e2 : k2 = k
      · rw [e2, pk_us]; exact ⟨fun _ => rfl, fun _ => rfl⟩
      · rw [pk_un e2, TT_nI hk hk2, ← h.2.2 k2 b hk2 hb, hs]
        exact ⟨fun z => absurd z.symm e2, fun z => absurd z.symm (TT_nm1 hk2)⟩
    · rw [pk_un e]
      by_cases e2 : k2 = k
      · rw [e2, pk_us, h.2.2 k b2 hk hb2, hm]
        refine ⟨fun z => absurd z.symm (nI_ne0 (by omega) (by omega)), fun z => ?_⟩
        have := (nI_eq (by omega) (by omega)).mp z
        omega
      · rw [pk_un e2]; exact h.2.2 k2 b2 hk2 hb2
theorem RS.out {n b k : Nat} {sp mli : Nat → Int32} (h : RS n sp mli) (hn : n ≤ 20) (hb : b < n) (hk : k < 36) (hs : sp b = nI (TT k)) : RS n (upd sp b (-1)) (upd mli k 0) := by
  have hm := (h.2.2 k b hk hb).mp hs
  refine ⟨fun b2 hb2 => ?_, fun k2 hk2 => ?_, fun k2 b2 hk2 hb2 => ?_⟩
  · by_cases e : b2 = b
    · rw [e, pk_us]; exact Or.inl rfl
    · rw [pk_un e]; exact h.1 b2 hb2
  · by_cases e : k2 = k
    · rw [e, pk_us]; exact Or.inl rfl
    · rw [pk_un e]; exact h.2.1 k2 hk2
  · by_cases e : b2 = b
    · rw [e, pk_us]
      by_cases e2 : k2 = k
      · rw [e2, pk_us]
        exact ⟨fun z => absurd z.symm (TT_nm1 hk), fun z => absurd z.symm (nI_ne0 (by omega) (by omega))⟩
      · rw [pk_un e2, ← h.2.2 k2 b hk2 hb, hs, TT_nI hk hk2]
        exact ⟨fun z => absurd z.symm (TT_nm1 hk2), fun z => absurd z.symm e2⟩
    · rw [pk_un e]
      by_cases e2 : k2 = k
      · rw [e2, pk_us, h.2.2 k b2 hk hb2, hm]
        refine ⟨fun z => ?_, fun z => absurd z.symm (nI_ne0 (by omega) (by omega))⟩
        have := (nI_eq (by omega) (by omega)).mp z
        omega
      · rw [pk_un e2]; exact h.2.2 k2 b2 hk2 hb2
theorem RS.grow {n : Nat} {sp mli : Nat → Int32} (h : RS n sp mli) (hn : n < 20) : RS (n + 1) (upd sp n (-1)) mli := by
  refine ⟨fun b hb => ?_, fun k hk => ?_, fun k b hk hb => ?_⟩
  · by_cases e : b = n
    · rw [e, pk_us]; exact Or.inl rfl
    · rw [pk_un e]; exact h.1 b (by omega)
  · rcases h.2.1 k hk with a | ⟨b, hb, a⟩
    · exact Or.inl a
    · exact Or.inr ⟨b, by omega, a⟩
  · by_cases e : b = n
    · rw [e, pk_us]
      refine ⟨fun z => absurd z.symm (TT_nm1 hk), fun z => ?_⟩
      rcases h.2.1 k hk with a | ⟨b2, hb2, a⟩
      · rw [a] at z
        exact absurd z.symm (nI_ne0 (by omega) (by omega))
      · rw [a] at z
        have := (nI_eq (by omega) (by omega)).mp z
        omega
    · rw [pk_un e]; exact h.2.2 k b hk (by omega)
theorem isFull_iff {n : Nat} (hn : n ≤ 20) : f_X2_isFull (nI n) = 0 ↔ ¬ nI n = 20 := by
  rw [f_X2_isFull]
  rcases Nat.lt_or_ge n 20 with q | q
  · rw [if_pos (show nI n < 20 from nI_lt (b := 20) q (by decide))]
    exact ⟨fun _ z => by have := (nI_eq (b := 20) (by omega) (by decide)).mp z; omega, fun _ => rfl⟩
  · have : n = 20 := by omega
    subst this
    exact ⟨fun z => absurd z (by decide), fun z => absurd rfl z⟩
theorem TT_mk {A S P : Nat} (hS : S < 2) (hP : P < 3) : TT (6 * A + 3 * S + P) = 100 * A + 10 * S + P := by
  have e1 : (6 * A + 3 * S + P) / 6 = A := by omega
  have e2 : (6 * A + 3 * S + P) / 3 % 2 = S := by omega
  have e3 : (6 * A + 3 * S + P) % 3 = P := by omega
  unfold TT
  rw [e1, e2, e3]
section RAIL
theorem count_go (ins : Nat → Int32) : ∀ (r j c : Nat), j + r = 4 → c ≤ j → ∃ d, c ≤ d ∧ d ≤ 4 ∧ f_X1_countInside_L ins r j (nI c) = nI d ∧ (d = c ↔ ∀ i, j ≤ i → i < 4 → ins i = 0) := by
  intro r
  induction r with
  | zero => intro j c hj hc; exact ⟨c, Nat.le_refl c, by omega, by rw [f_X1_countInside_L], fun _ i h1 h2 => by omega, fun _ => rfl⟩
  | succ r ih =>
    intro j c hj hc
    rw [f_X1_countInside_L, nI_clamp (by omega)]
    by_cases c1 : ins j = 0
    · rw [if_pos c1]
      obtain ⟨d, h1, h2, h3, h4⟩ := ih (j + 1) c (by omega) (by omega)
      refine ⟨d, h1, h2, h3, fun z i g1 g2 => ?_, fun z => h4.mpr fun i g1 g2 => z i (by omega) g2⟩
      by_cases e : i = j
      · rw [e]; exact c1
      · exact h4.mp z i (by omega) g2
    · rw [if_neg c1, nI_1]
      obtain ⟨d, h1, h2, h3, -⟩ := ih (j + 1) (c + 1) (by omega) (by omega)
      exact ⟨d, by omega, h2, h3, fun z => by omega, fun z => absurd (z j (Nat.le_refl j) (by omega)) c1⟩
theorem count_cases (ins : Nat → Int32) : ∃ d : Nat, d ≤ 4 ∧ f_X1_countInside ins = nI d ∧ (d = 0 ↔ ∀ i, i < 4 → ins i = 0) := by
  obtain ⟨d, -, h2, h3, h4⟩ := count_go ins 4 0 0 (by omega) (Nat.le_refl 0)
  refine ⟨d, h2, h3, fun z i hi => h4.mp z i (Nat.zero_le i) hi, fun z => h4.mpr fun i _ hi => z i hi⟩
theorem upd_same {f : Nat → Int32} {k : Nat} {v : Int32} (h : f k = v) : upd f k v = f := by
  funext j
  by_cases e : j = k
  · rw [e, pk_us, h]
  · rw [pk_un e]
theorem out_go (ins : Nat → Int32) : ∀ (r j : Nat) (m1 : Nat → Int32), j + r = 4 → (∀ k, k < j → m1 k = 0) → ∀ k, k < 4 → (f_X1_sendAllOut_L ins r j m1).2 k = 0 := by
  intro r
  induction r with
  | zero => intro j m1 hj h k hk; rw [f_X1_sendAllOut_L]; exact h k (by omega)
  | succ r ih =>
    intro j m1 hj h k hk
    rw [f_X1_sendAllOut_L, nI_clamp (by omega)]
    refine ih (j + 1) _ (by omega) (fun q hq => ?_) k hk
    by_cases e : q = j
    · rw [e, pk_us]
    · rw [pk_un e]; exact h q (by omega)
def dst (a b : Nat) : Nat := (a - b) + (b - a)
theorem moves_eq {g t : Nat} (hg : g ≤ 6) (ht : t ≤ 6) : f_X1_movesToCome (nI g) (nI t) = nI (dst g t) := by
  rw [f_X1_movesToCome]
  rcases Nat.lt_or_ge t g with q | q
  · rw [if_neg (fun z => Int32.not_le.mpr (pk_sneg (by omega) q) z), Int32.zero_sub, Int32.neg_sub, pk_sub (by omega)]
    congr 1; unfold dst; omega
  · rw [pk_sub q, if_pos (nI_pos' (by omega))]
    congr 1; unfold dst; omega
def RV (g : Nat) (mv : Nat → Int32) (c : Nat) : Prop := ∀ s, s < 6 → ∃ q : Nat, q ≤ c ∧ mv s = nI q ∧ (q % 2 = 1 ↔ s < g)
theorem RV.mono {g c d : Nat} {mv : Nat → Int32} (h : RV g mv c) (hd : c ≤ d) : RV g mv d := fun s hs => by
  obtain ⟨q, h1, h2, h3⟩ := h s hs
  exact ⟨q, by omega, h2, h3⟩
theorem below6 {g : Nat} (h : g < 6) : ¬ f_X3_isBelow (nI g) 6 = 0 := fun z => (below_iff (N := 6) rfl (by decide)).mp z (vp_in_nI h (by decide))
theorem move_one {g t c : Nat} {mv : Nat → Int32} (hg : g ≤ 6) (ht : t ≤ 6) (hne : g ≠ t) (h : RV g mv c) :
    ∃ (g2 : Nat) (mv2 : Nat → Int32), f_X1_moveOne (nI g) (nI t) mv = (nI g2, mv2) ∧ g2 ≤ 6 ∧ dst g2 t + 1 = dst g t ∧ RV g2 mv2 (c + 1) := by
  rcases Nat.lt_or_ge g t with q | q
  · obtain ⟨w, h1, h2, h3⟩ := h g (by omega)
    refine ⟨g + 1, upd mv g (mv g + 1), ?_, by omega, by unfold dst; omega, fun s hs => ?_⟩
    · rw [f_X1_moveOne, if_neg (nI_ge q (by omega)), if_neg (below6 (by omega)), nI_clamp (by omega), nI_1]
    · by_cases e : s = g
      · rw [e, pk_us, h2, nI_1]
        exact ⟨w + 1, by omega, rfl, by omega⟩
      · rw [pk_un e]
        obtain ⟨q2, g1, g2, g3⟩ := h s hs
        exact ⟨q2, by omega, g2, by omega⟩
  · obtain ⟨w, h1, h2, h3⟩ := h (g - 1) (by omega)
    have e1 : nI g - 1 = nI (g - 1) := nI_sub1 (by omega)
    refine ⟨g - 1, upd mv (g - 1) (mv (g - 1) + 1), ?_, by omega, by unfold dst; omega, fun s hs => ?_⟩
    · rw [f_X1_moveOne, if_pos (nI_le q (by omega)), e1, if_neg (below6 (by omega)), nI_clamp (by omega)]
    · by_cases e : s = g - 1
      · rw [e, pk_us, h2, nI_1]
        exact ⟨w + 1, by omega, rfl, by omega⟩
      · rw [pk_un e]
        obtain ⟨q2, g1, g2, g3⟩ := h s hs
        exact ⟨q2, by omega, g2, by omega⟩
theorem move_go {t : Nat} (ht : t ≤ 6) : ∀ (r j g c : Nat) (mv : Nat → Int32), g ≤ 6 → r ≤ dst g t → RV g mv c →
    ∃ (g2 : Nat) (mv2 : Nat → Int32), f_X1_moveFor_L (nI t) r j (nI g) mv = (nI g2, mv2) ∧ g2 ≤ 6 ∧ dst g2 t + r = dst g t ∧ RV g2 mv2 (c + r) := by
  intro r
  induction r with
  | zero => intro j g c mv hg _ h; exact ⟨g, mv, by rw [f_X1_moveFor_L], hg, rfl, h⟩
  | succ r ih =>
    intro j g c mv hg hr h
    obtain ⟨g1, mv1, e1, h1, h2, h3⟩ := move_one hg ht (fun z => by rw [z] at hr; unfold dst at hr; omega) h
    obtain ⟨g2, mv2, e2, k1, k2, k3⟩ := ih (j + 1) g1 (c + 1) mv1 h1 (by omega) h3
    refine ⟨g2, mv2, ?_, k1, by omega, k3.mono (by omega)⟩
    rw [f_X1_moveFor_L, e1]
    exact e2
theorem odd_eq {q : Nat} (hq : q < 2 ^ 31) : (nI q - nI q / 2 * 2 = 1) ↔ q % 2 = 1 := by
  rw [show nI q - nI q / 2 * 2 = nI (q % 2) from pk_rem (d := 2) hq (by decide) (by decide)]
  exact nI_eq (b := 1) (by omega) (by decide)
theorem byMoves_go {g c : Nat} {mv : Nat → Int32} (hc : c < 2 ^ 31) (hg : g ≤ 6) (h : RV g mv c) (tg : Int32) : ∀ (r j a : Nat), j + r = 6 → (a = if j ≤ g then j else g) → f_X1_openAisleByMoves_L tg mv r j (nI a) = if nI g = tg then nI g else -1 := by
  intro r
  induction r with
  | zero =>
    intro j a hj ha
    have : a = g := by rw [ha]; split <;> omega
    rw [f_X1_openAisleByMoves_L, this]
  | succ r ih =>
    intro j a hj ha
    obtain ⟨q, h1, h2, h3⟩ := h j (by omega)
    rw [f_X1_openAisleByMoves_L, nI_clamp (by omega), h2, nI_1]
    by_cases c1 : nI q - nI q / 2 * 2 = 1
    · rw [if_pos c1]
      have := h3.mp ((odd_eq (by omega)).mp c1)
      exact ih (j + 1) (a + 1) (by omega) (by rw [ha, if_pos (by omega), if_pos (by omega)])
    · rw [if_neg c1]
      have : ¬ j < g := fun z => c1 ((odd_eq (by omega)).mpr (h3.mpr z))
      refine ih (j + 1) a (by omega) ?_
      rw [ha]
      split <;> split <;> omega
theorem byMoves_eq {g c : Nat} {mv : Nat → Int32} (hc : c < 2 ^ 31) (hg : g ≤ 6) (h : RV g mv c) (tg : Int32) : f_X1_openAisleByMoves tg mv = f_X1_openAisle (nI g) tg := by
  rw [f_X1_openAisleByMoves, f_X1_openAisle]
  exact byMoves_go hc hg h tg 6 0 0 (by omega) (by rw [if_pos (Nat.zero_le g)])
theorem open_eq {g t : Nat} (hg : g ≤ 6) (ht : t ≤ 6) : f_X1_openAisle (nI g) (nI t) = if g = t then nI t else -1 := by
  rw [f_X1_openAisle]
  by_cases e : g = t
  · rw [if_pos (by rw [e]), if_pos e, e]
  · rw [if_neg (fun z => e ((nI_eq (by omega) (by omega)).mp z)), if_neg e]
theorem dst_le {g t : Nat} (hg : g ≤ 6) (ht : t ≤ 6) : (nI (dst g t) ≤ 0 ↔ g = t) ∧ (0 < nI (dst g t) ↔ ¬ g = t) := by
  have h6 : dst g t ≤ 6 := by unfold dst; omega
  have h1 : nI (dst g t) ≤ 0 ↔ g = t := by
    rw [show (0 : Int32) = nI 0 from rfl, nI_leI (by omega) (by decide)]
    unfold dst; omega
  refine ⟨h1, ?_⟩
  rw [← h1, Int32.not_le]
theorem below7' {a : Nat} (h : a < 7) : ¬ f_X3_isBelow (nI a) 7 = 0 := fun z => (below_iff (N := 7) rfl (by decide)).mp z (vp_in_nI h (by decide))
theorem vp_nar1 : vp_nar .boolean 1 = 1 := rfl
theorem vp_nar0 : vp_nar .boolean 0 = 0 := rfl
def OS (n no : Nat) (ob od : Nat → Int32) : Prop := ∀ j, j < no → (∃ b, b < n ∧ ob j = nI b) ∧ ∃ d, d ≤ 10000 ∧ od j = nI d
theorem oFull_iff {n : Nat} (hn : n ≤ 30) : f_X0_isFull (nI n) = 0 ↔ ¬ nI n = 30 := by
  rw [f_X0_isFull]
  rcases Nat.lt_or_ge n 30 with q | q
  · rw [if_pos (show nI n < 30 from nI_lt (b := 30) q (by decide))]
    exact ⟨fun _ z => by have := (nI_eq (b := 30) (by omega) (by decide)).mp z; omega, fun _ => rfl⟩
  · have : n = 30 := by omega
    subst this
    exact ⟨fun z => absurd z (by decide), fun z => absurd rfl z⟩
end RAIL
section ORD
variable {n : Nat} {sp mli : Nat → Int32} {ob od dn : Nat → Int32}
theorem eX_step (cn pX : Int32) {r j : Nat} {bst bdl : Int32} : f_X0_earliest_L ob od dn cn sp pX (r + 1) j bst bdl =
    if dn (nI j).toNatClampNeg = 0 ∧ (¬ f_X2_aisleOfBox cn sp (ob (nI j).toNatClampNeg) = -1 ∧ (pX = -2 ∨ f_X2_aisleOfBox cn sp (ob (nI j).toNatClampNeg) = pX)) ∧ ¬ bdl ≤ od (nI j).toNatClampNeg
    then f_X0_earliest_L ob od dn cn sp pX r (j + 1) (nI j) (od (nI j).toNatClampNeg) else f_X0_earliest_L ob od dn cn sp pX r (j + 1) bst bdl := by
  rw [f_X0_earliest_L]
  generalize f_X2_aisleOfBox cn sp (ob (nI j).toNatClampNeg) = ai
  generalize dn (nI j).toNatClampNeg = d
  generalize od (nI j).toNatClampNeg = o
  by_cases c1 : ai = -1
  · rw [if_pos c1, ite_self, if_neg (fun z => z.2.1.1 c1)]
  · rw [if_neg c1]
    by_cases c2 : pX = -2
    · rw [if_pos c2]
      by_cases c4 : d = 0
      · rw [if_pos c4]
        by_cases c5 : bdl ≤ o
        · rw [if_pos c5, if_neg (fun z => z.2.2 c5)]
        · rw [if_neg c5, if_pos ⟨c4, ⟨c1, Or.inl c2⟩, c5⟩]
      · rw [if_neg c4, if_neg (fun z => c4 z.1)]
    · rw [if_neg c2]
      by_cases c3 : ai = pX
      · rw [if_pos c3]
        by_cases c4 : d = 0
        · rw [if_pos c4]
          by_cases c5 : bdl ≤ o
          · rw [if_pos c5, if_neg (fun z => z.2.2 c5)]
          · rw [if_neg c5, if_pos ⟨c4, ⟨c1, Or.inr c3⟩, c5⟩]
        · rw [if_neg c4, if_neg (fun z => c4 z.1)]
      · rw [if_neg c3, ite_self, if_neg (fun z => z.2.1.2.elim c2 c3)]
end ORD
