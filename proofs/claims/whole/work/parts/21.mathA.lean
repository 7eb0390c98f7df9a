/-! numbers: what the class and the model compute is the same -/
theorem nI_nm1 {n : Nat} (h : n < 2 ^ 31) : ¬ nI n = -1 := by
  intro e
  have h1 := congrArg Int32.toInt e
  rw [nI_toInt h] at h1
  have h2 : (-1 : Int32).toInt = -1 := by decide
  rw [h2] at h1
  omega
theorem nI_nm2 {n : Nat} (h : n < 2 ^ 31) : ¬ nI n = -2 := by
  intro e
  have h1 := congrArg Int32.toInt e
  rw [nI_toInt h] at h1
  have h2 : (-2 : Int32).toInt = -2 := by decide
  rw [h2] at h1
  omega
theorem nI_sub1 {n : Nat} (h : 0 < n) : nI n - 1 = nI (n - 1) := by
  obtain ⟨q, rfl⟩ : ∃ q, n = q + 1 := ⟨n - 1, by omega⟩
  rw [nI_pred]; rfl
-- finite sums
def sumN (f : Nat → Int32) : Nat → Int32
  | 0 => 0
  | m + 1 => sumN f m + f m
theorem sum_congr {f g : Nat → Int32} : ∀ m : Nat, (∀ i, i < m → f i = g i) → sumN f m = sumN g m
  | 0, _ => rfl
  | m + 1, h => by
    show sumN f m + f m = sumN g m + g m
    rw [sum_congr m (fun i hi => h i (by omega)), h m (by omega)]
theorem sum_zero {f : Nat → Int32} (m : Nat) (h : ∀ i, i < m → f i = 0) : sumN f m = 0 := by
  induction m with
  | zero => rfl
  | succ m ih =>
    show sumN f m + f m = 0
    rw [ih (fun i hi => h i (by omega)), h m (by omega)]; rfl
theorem sum_one {f : Nat → Int32} (m i0 : Nat) (h0 : i0 < m) (h : ∀ i, i < m → i ≠ i0 → f i = 0) : sumN f m = f i0 := by
  induction m with
  | zero => omega
  | succ m ih =>
    show sumN f m + f m = f i0
    by_cases e : i0 = m
    · subst e
      rw [sum_zero i0 (fun i hi => h i (by omega) (by omega))]
      exact Int32.zero_add _
    · rw [ih (by omega) (fun i hi => h i (by omega)), h m (by omega) (fun z => e z.symm)]
      exact Int32.add_zero _
theorem sum_add {f g : Nat → Int32} (m : Nat) : sumN (fun i => f i + g i) m = sumN f m + sumN g m := by
  induction m with
  | zero => rfl
  | succ m ih =>
    show sumN (fun i => f i + g i) m + (f m + g m) = (sumN f m + f m) + (sumN g m + g m)
    rw [ih]
    ac_rfl
theorem sum_swap {h : Nat → Nat → Int32} (n m : Nat) : sumN (fun b => sumN (fun i => h b i) m) n = sumN (fun i => sumN (fun b => h b i) n) m := by
  induction n with
  | zero =>
    exact (sum_zero m (fun i _ => rfl)).symm
  | succ n ih =>
    show sumN (fun b => sumN (fun i => h b i) m) n + sumN (fun i => h n i) m = sumN (fun i => sumN (fun b => h b i) n + h n i) m
    rw [ih, sum_add]
theorem sum_bits {f : Nat → Int32} (m : Nat) (h : ∀ i, i < m → f i = 0 ∨ f i = 1) : ∃ c : Nat, c ≤ m ∧ sumN f m = nI c := by
  induction m with
  | zero => exact ⟨0, Nat.le_refl 0, rfl⟩
  | succ m ih =>
    obtain ⟨c, hc, e⟩ := ih (fun i hi => h i (by omega))
    rcases h m (by omega) with z | z
    · exact ⟨c, by omega, by show sumN f m + f m = nI c; rw [e, z]; exact Int32.add_zero _⟩
    · exact ⟨c + 1, by omega, by show sumN f m + f m = nI (c + 1); rw [e, z]; exact nI_1 c⟩
-- the rows' numbers and the spots' numbers
def TT (k : Nat) : Nat := 100 * (k / 6) + 10 * (k / 3 % 2) + k % 3
theorem TT_lt {k : Nat} (h : k < 36) : TT k < 600 := by unfold TT; omega
theorem TT_inj {k j : Nat} (hk : k < 36) (hj : j < 36) (h : TT k = TT j) : k = j := by unfold TT at h; omega
theorem TT_nI {k j : Nat} (hk : k < 36) (hj : j < 36) : nI (TT k) = nI (TT j) ↔ k = j :=
  ⟨fun h => TT_inj hk hj ((nI_eq (by have := TT_lt hk; omega) (by have := TT_lt hj; omega)).mp h), fun h => by rw [h]⟩
theorem TT_nm1 {k : Nat} (h : k < 36) : ¬ nI (TT k) = -1 := nI_nm1 (by have := TT_lt h; omega)
theorem told_eq {k : Nat} (h : k < 36) : f_X4_told (nI k) = nI (TT k) := by
  have e1 : nI k / 6 = nI (k / 6) := pk_div (d := 6) (by omega) (by decide) (by decide)
  have e2 : nI k / 3 = nI (k / 3) := pk_div (d := 3) (by omega) (by decide) (by decide)
  have e3 : nI (k / 3) - nI (k / 3) / 2 * 2 = nI (k / 3 % 2) := pk_rem (d := 2) (by omega) (by decide) (by decide)
  have e4 : nI k - nI k / 3 * 3 = nI (k % 3) := pk_rem (d := 3) (by omega) (by decide) (by decide)
  rw [e2] at e4
  rw [f_X4_told, e1, e2, e3, e4]
  rw [show (100 : Int32) * nI (k / 6) = nI (100 * (k / 6)) from pk_mul 100 _, show (10 : Int32) * nI (k / 3 % 2) = nI (10 * (k / 3 % 2)) from pk_mul 10 _, nI_add, nI_add]
  rfl
theorem aisleOf_eq {k : Nat} (h : k < 36) : f_X4_aisleOf (nI k) = nI (k / 6 + k / 3 % 2) := by
  have e1 : nI k / 6 = nI (k / 6) := pk_div (d := 6) (by omega) (by decide) (by decide)
  have e2 : nI k / 3 = nI (k / 3) := pk_div (d := 3) (by omega) (by decide) (by decide)
  have e3 : nI (k / 3) - nI (k / 3) / 2 * 2 = nI (k / 3 % 2) := pk_rem (d := 2) (by omega) (by decide) (by decide)
  rw [f_X4_aisleOf, e1, e2, e3, nI_add]
theorem shelfAt_eq {j : Nat} (h : j < 600) : f_X3_shelfAt (nI j) = nI (j / 100) := by
  rw [f_X3_shelfAt]; exact pk_div (d := 100) (by omega) (by decide) (by decide)
theorem sideAt_eq {j : Nat} (h : j < 2 ^ 31) : f_X3_sideAt (nI j) = nI (j / 10 % 10) := by
  have e1 : nI j / 10 = nI (j / 10) := pk_div (d := 10) h (by decide) (by decide)
  rw [f_X3_sideAt, e1]
  exact pk_rem (d := 10) (by omega) (by decide) (by decide)
theorem placeAt_eq {j : Nat} (h : j < 2 ^ 31) : f_X3_placeAt (nI j) = nI (j % 10) := by
  rw [f_X3_placeAt]
  exact pk_rem (d := 10) h (by decide) (by decide)
theorem shelfT {k : Nat} (h : k < 36) : f_X3_shelfAt (nI (TT k)) = nI (k / 6) := by
  rw [shelfAt_eq (TT_lt h)]
  congr 1
  unfold TT; omega
theorem aisleT {k : Nat} (h : k < 36) : f_X3_aisleAt (nI (TT k)) = nI (k / 6 + k / 3 % 2) := by
  have h2 := TT_lt h
  rw [f_X3_aisleAt, shelfT h, sideAt_eq (by omega), nI_add]
  congr 1
  unfold TT; omega
theorem spotAtT {s p : Nat} (hs : s < 6) (hp : p < 6) : f_X3_spotAt (nI s) (nI (p / 3)) (nI (p % 3)) = nI (TT (6 * s + p)) := by
  rw [f_X3_spotAt, show (100 : Int32) * nI s = nI (100 * s) from pk_mul 100 _, show (10 : Int32) * nI (p / 3) = nI (10 * (p / 3)) from pk_mul 10 _, nI_add, nI_add]
  congr 1
  unfold TT; omega
theorem below_iff {x : Int32} {N : Nat} {y : Int32} (hy : y = nI N) (hN : N < 2 ^ 31) : f_X3_isBelow x y = 0 ↔ ¬ vp_in x N := by
  constructor
  · intro h hin
    obtain ⟨j, hj, rfl⟩ := vp_in_of hin hN
    rw [f_X3_isBelow, if_neg (nI_pos (by omega)), if_neg (by rw [hy]; exact nI_ge hj hN)] at h
    exact absurd h (by decide)
  · intro h
    by_cases z : f_X3_isBelow x y = 0
    · exact z
    · exact absurd (in_below hy hN z) h
theorem in_iff {x : Int32} {N : Nat} {y : Int32} (hy : y = nI N) (hN : N + 1 < 2 ^ 31) : f_X4_in x 0 y = 0 ↔ ¬ vp_in x (N + 1) := by
  constructor
  · intro h hin
    obtain ⟨j, hj, rfl⟩ := vp_in_of hin hN
    rw [f_X4_in, if_neg (nI_pos (by omega)), if_neg (by rw [hy]; exact nI_nlt (by omega) (by omega))] at h
    exact absurd h (by decide)
  · intro h
    by_cases z : f_X4_in x 0 y = 0
    · exact z
    · exact absurd (in_in hy hN z) h
theorem vp_in0 {x : Int32} : ¬ vp_in x 0 := fun h => h (Or.inr (Nat.zero_le _))
theorem isBox_iff {x : Int32} {n : Nat} (hn : n ≤ 20) : f_X4_isBox (nI n) x = 0 ↔ ¬ vp_in x n := by
  rw [f_X4_isBox]
  cases n with
  | zero =>
    refine ⟨fun _ => vp_in0, fun _ => ?_⟩
    by_cases h0 : x < 0
    · rw [f_X4_in, if_pos h0]
    · rw [f_X4_in, if_neg h0, if_pos]
      obtain ⟨j, hj, rfl⟩ := nI_of h0
      exact Int32.lt_of_lt_of_le (show nI 0 - 1 < 0 by decide) (nI_pos' hj)
  | succ q => rw [nI_pred]; exact in_iff rfl (by omega)
theorem has_iff {x : Int32} {n : Nat} (hn : n ≤ 20) : f_X2_has (nI n) x = 0 ↔ ¬ vp_in x n := by
  rw [f_X2_has]; exact below_iff rfl (by omega)
theorem vp_dec {x : Int32} {n : Nat} (hn : n < 2 ^ 31) : (¬ vp_in x n) ∨ ∃ j : Nat, j < n ∧ x = nI j := by
  by_cases h : vp_in x n
  · exact Or.inr (vp_in_of h hn)
  · exact Or.inl h
-- where the boxes lie: the class says for a box its spot, the model for a row its box
def RS (n : Nat) (sp mli : Nat → Int32) : Prop :=
  (∀ b, b < n → sp b = -1 ∨ ∃ k, k < 36 ∧ sp b = nI (TT k)) ∧ (∀ k, k < 36 → mli k = nI 0 ∨ ∃ b, b < n ∧ mli k = nI (b + 1)) ∧ ∀ k b, k < 36 → b < n → (sp b = nI (TT k) ↔ mli k = nI (b + 1))
section PLACE
variable {n : Nat} {sp mli : Nat → Int32}
theorem RS.okN (h : RS n sp mli) (hn : n ≤ 20) : ∀ k : Nat, k < 36 → okN 20 (mli k) := by
  intro k hk
  rcases h.2.1 k hk with e | ⟨b, hb, e⟩
  · exact ⟨0, by omega, e⟩
  · exact ⟨b + 1, by omega, e⟩
theorem spot_go {b k : Nat} (hk : k < 36) (hu : ∀ j, j < 36 → (mli j = nI (b + 1) ↔ j = k)) : ∀ (r j : Nat) (its : Int32), j + r = 36 → ((its = nI k ∧ k < j) ∨ j ≤ k) → f_X4_spot_L mli (nI b) r j its = nI k := by
  intro r
  induction r with
  | zero =>
    intro j its hj h
    rw [f_X4_spot_L]
    rcases h with h | h
    · exact h.1
    · omega
  | succ r ih =>
    intro j its hj h
    rw [f_X4_spot_L, nI_clamp (by omega), nI_1]
    by_cases c : mli j = nI (b + 1)
    · have hjk := (hu j (by omega)).mp c
      rw [if_pos c]
      exact ih (j + 1) _ (by omega) (Or.inl ⟨by rw [hjk], by omega⟩)
    · have hjk : j ≠ k := fun z => c ((hu j (by omega)).mpr z)
      rw [if_neg c]
      refine ih (j + 1) _ (by omega) ?_
      rcases h with h | h
      · exact Or.inl ⟨h.1, by omega⟩
      · exact Or.inr (by omega)
/-- a box is out for both, or lies for both in the same row -/
theorem spot_cases (h : RS n sp mli) (hn : n ≤ 20) {b : Nat} (hb : b < n) :
    (sp b = -1 ∧ f_X4_spot mli (nI b) = -1) ∨ ∃ k, k < 36 ∧ sp b = nI (TT k) ∧ mli k = nI (b + 1) ∧ f_X4_spot mli (nI b) = nI k := by
  rcases h.1 b hb with e | ⟨k, hk, e⟩
  · refine Or.inl ⟨e, ?_⟩
    refine spot_L (P := fun z => z = -1) (N := 36) (fun j hj hm => ?_) 36 0 (-1) (by omega) rfl
    rw [nI_clamp (by omega), nI_1] at hm
    have h2 := (h.2.2 j b hj hb).mpr hm
    rw [e] at h2
    exact absurd h2.symm (TT_nm1 hj)
  · refine Or.inr ⟨k, hk, e, (h.2.2 k b hk hb).mp e, ?_⟩
    refine spot_go hk (fun j hj => ?_) 36 0 (-1) (by omega) (Or.inr (Nat.zero_le k))
    rw [← h.2.2 j b hj hb, e, TT_nI hk hj]
    exact ⟨fun z => z.symm, fun z => z.symm⟩
theorem whereIs_eq (hn : n ≤ 20) {b : Nat} (hb : b < n) : f_X2_whereIs (nI n) sp (nI b) = sp b := by
  rw [f_X2_whereIs, if_neg, nI_clamp (by omega)]
  rw [has_iff hn]
  exact fun z => z (vp_in_nI hb (by omega))
theorem boxIn_L (x : Int32) : ∀ (r j : Nat), j + r = n → n ≤ 20 → ((∀ b, j ≤ b → b < n → sp b ≠ x) ∧ f_X2_boxIn_L sp x r j = -1) ∨ ∃ b, j ≤ b ∧ b < n ∧ sp b = x ∧ f_X2_boxIn_L sp x r j = nI b := by
  intro r
  induction r with
  | zero => intro j hj _; exact Or.inl ⟨fun b h1 h2 => by omega, by rw [f_X2_boxIn_L]⟩
  | succ r ih =>
    intro j hj hn
    rw [f_X2_boxIn_L, nI_clamp (by omega)]
    by_cases c : sp j = x
    · rw [if_pos c]; exact Or.inr ⟨j, Nat.le_refl j, by omega, c, rfl⟩
    · rw [if_neg c]
      rcases ih (j + 1) (by omega) hn with ⟨a, e⟩ | ⟨b, h1, h2, h3, e⟩
      · refine Or.inl ⟨fun b h1 h2 => ?_, e⟩
        by_cases z : b = j
        · rw [z]; exact c
        · exact a b (by omega) h2
      · exact Or.inr ⟨b, by omega, h2, h3, e⟩
theorem boxIn_eq (h : RS n sp mli) (hn : n ≤ 20) {k : Nat} (hk : k < 36) : f_X2_boxIn (nI n) sp (nI (TT k)) = mli k - 1 := by
  rw [f_X2_boxIn, nI_clamp (by omega)]
  rcases boxIn_L (sp := sp) (nI (TT k)) n 0 (by omega) hn with ⟨a, e⟩ | ⟨b, -, h2, h3, e⟩
  · rw [e]
    rcases h.2.1 k hk with z | ⟨b, hb, z⟩
    · rw [z]; rfl
    · exact absurd ((h.2.2 k b hk hb).mpr z) (a b (Nat.zero_le b) hb)
  · rw [e, (h.2.2 k b hk h2).mp h3, nI_pred]
theorem free_iff (h : RS n sp mli) (hn : n ≤ 20) {k : Nat} (hk : k < 36) : f_X2_boxIn (nI n) sp (nI (TT k)) = -1 ↔ mli k = 0 := by
  rw [boxIn_eq h hn hk]
  rcases h.2.1 k hk with z | ⟨b, hb, z⟩
  · rw [z]; exact ⟨fun _ => rfl, fun _ => rfl⟩
  · rw [z, nI_pred]
    exact ⟨fun q => absurd q (nI_nm1 (by omega)), fun q => absurd q (nI_ne0 (by omega) (by omega))⟩
/-- what is summed over the boxes that lie in m rows from lo on is what is summed over these rows -/
theorem sum_both (h : RS n sp mli) (hn : n ≤ 20) (lo m : Nat) (hm : lo + m ≤ 36) (F : Nat → Nat → Int32) {X M : Nat → Int32}
    (hX : ∀ b, b < n → (X b = 0 ∧ ∀ i, i < m → sp b ≠ nI (TT (lo + i))) ∨ ∃ i, i < m ∧ sp b = nI (TT (lo + i)) ∧ X b = F b (lo + i))
    (hM : ∀ i, i < m → (M i = 0 ∧ mli (lo + i) = nI 0) ∨ ∃ b, b < n ∧ mli (lo + i) = nI (b + 1) ∧ M i = F b (lo + i)) : sumN X n = sumN M m := by
  have e1 : sumN X n = sumN (fun b => sumN (fun i => if mli (lo + i) = nI (b + 1) then F b (lo + i) else 0) m) n := by
    refine sum_congr n (fun b hb => ?_)
    rcases hX b hb with ⟨z, a⟩ | ⟨i, hi, a, z⟩
    · rw [z]
      refine (sum_zero m (fun i hi => if_neg fun q => a i hi ((h.2.2 (lo + i) b (by omega) hb).mpr q))).symm
    · rw [z, sum_one m i hi]
      · rw [if_pos ((h.2.2 (lo + i) b (by omega) hb).mp a)]
      · intro i2 hi2 hne
        refine if_neg fun q => hne ?_
        have q2 := (h.2.2 (lo + i2) b (by omega) hb).mpr q
        rw [a] at q2
        have := (TT_nI (by omega) (by omega)).mp q2
        omega
  have e2 : sumN M m = sumN (fun i => sumN (fun b => if mli (lo + i) = nI (b + 1) then F b (lo + i) else 0) n) m := by
    refine sum_congr m (fun i hi => ?_)
    rcases hM i hi with ⟨z, a⟩ | ⟨b, hb, a, z⟩
    · rw [z]
      refine (sum_zero n (fun b hb => if_neg fun q => ?_)).symm
      rw [a] at q
      exact absurd q.symm (nI_ne0 (by omega) (by omega))
    · rw [z, sum_one n b hb]
      · rw [if_pos a]
      · intro b2 hb2 hne
        refine if_neg fun q => hne ?_
        rw [a] at q
        have := (nI_eq (by omega) (by omega)).mp q
        omega
  rw [e1, e2]
  exact sum_swap n m
end PLACE
