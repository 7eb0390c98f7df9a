/-! the sums of both sides -/
section SUMS
variable {n : Nat} {sp mli : Nat → Int32}
theorem liesOn_eq (hn : n ≤ 20) {b : Nat} (hb : b < n) (x : Int32) : f_X2_liesOn (nI n) sp (nI b) x = if sp b = -1 then 0 else if f_X3_shelfAt (sp b) = x then 1 else 0 := by
  rw [f_X2_liesOn, whereIs_eq hn hb]
theorem lies_cases (h : RS n sp mli) (hn : n ≤ 20) {b s : Nat} (hb : b < n) (hs : s < 6) :
    (f_X2_liesOn (nI n) sp (nI b) (nI s) = 0 ∧ ∀ i, i < 6 → sp b ≠ nI (TT (6 * s + i))) ∨ (¬ f_X2_liesOn (nI n) sp (nI b) (nI s) = 0 ∧ ∃ i, i < 6 ∧ sp b = nI (TT (6 * s + i))) := by
  rw [liesOn_eq hn hb]
  rcases h.1 b hb with e | ⟨k, hk, e⟩
  · rw [if_pos e]
    exact Or.inl ⟨rfl, fun i hi q => TT_nm1 (k := 6 * s + i) (by omega) (q.symm.trans e)⟩
  · rw [if_neg (by rw [e]; exact TT_nm1 hk), e, shelfT hk]
    by_cases c : k / 6 = s
    · rw [if_pos (by rw [c])]
      exact Or.inr ⟨by decide, k - 6 * s, by omega, by congr 2; omega⟩
    · rw [if_neg (fun q => c ((nI_eq (by omega) (by omega)).mp q))]
      refine Or.inl ⟨rfl, fun i hi q => c ?_⟩
      have := (TT_nI hk (by omega)).mp q
      omega
theorem weightOn_sum (wt : Nat → Int32) (x : Int32) : ∀ (r j : Nat) (acc : Int32), j + r < 2 ^ 31 → acc = sumN (fun b => if f_X2_liesOn (nI n) sp (nI b) x = 0 then 0 else wt b) j →
    f_X2_weightOn_L (nI n) wt sp x r j acc = sumN (fun b => if f_X2_liesOn (nI n) sp (nI b) x = 0 then 0 else wt b) (j + r) := by
  intro r
  induction r with
  | zero => intro j acc _ h; rw [f_X2_weightOn_L]; exact h
  | succ r ih =>
    intro j acc hj h
    rw [f_X2_weightOn_L, nI_clamp (by omega), show j + (r + 1) = (j + 1) + r by omega]
    by_cases c : f_X2_liesOn (nI n) sp (nI j) x = 0
    · rw [if_pos c]
      refine ih (j + 1) acc (by omega) ?_
      show acc = sumN _ j + (if f_X2_liesOn (nI n) sp (nI j) x = 0 then 0 else wt j)
      rw [if_pos c, ← h]; exact (Int32.add_zero _).symm
    · rw [if_neg c]
      refine ih (j + 1) _ (by omega) ?_
      show acc + wt j = sumN _ j + (if f_X2_liesOn (nI n) sp (nI j) x = 0 then 0 else wt j)
      rw [if_neg c, ← h]
theorem weighs_sum (mwt : Nat → Int32) {s : Nat} (hs : s < 6) : ∀ (r j : Nat) (acc : Int32), j + r ≤ 6 → acc = sumN (fun i => if mli (6 * s + i) ≤ 0 then 0 else mwt (mli (6 * s + i) - 1).toNatClampNeg) j →
    f_X4_weighs_L mwt mli (nI s) r j acc = sumN (fun i => if mli (6 * s + i) ≤ 0 then 0 else mwt (mli (6 * s + i) - 1).toNatClampNeg) (j + r) := by
  intro r
  induction r with
  | zero => intro j acc _ h; rw [f_X4_weighs_L]; exact h
  | succ r ih =>
    intro j acc hj h
    rw [f_X4_weighs_L, nI_clamp (n := s) (by omega), nI_clamp (by omega), show j + (r + 1) = (j + 1) + r by omega]
    by_cases c : mli (6 * s + j) ≤ 0
    · rw [if_pos c]
      refine ih (j + 1) _ (by omega) ?_
      show acc + 0 = sumN _ j + (if mli (6 * s + j) ≤ 0 then 0 else _)
      rw [if_pos c, ← h]
    · rw [if_neg c]
      refine ih (j + 1) _ (by omega) ?_
      show acc + _ = sumN _ j + (if mli (6 * s + j) ≤ 0 then 0 else _)
      rw [if_neg c, ← h]
theorem li_pos {b : Nat} (hb : b < 20) : ¬ nI (b + 1) ≤ 0 := nI_nle (by omega) (by omega)
theorem weigh_eq (h : RS n sp mli) (hn : n ≤ 20) {s : Nat} (hs : s < 6) (wt : Nat → Int32) : f_X2_weightOn (nI n) wt sp (nI s) = f_X4_weighs wt mli (nI s) := by
  rw [f_X2_weightOn, f_X4_weighs, nI_clamp (by omega), weightOn_sum wt (nI s) n 0 0 (by omega) rfl, weighs_sum wt hs 6 0 0 (by omega) rfl, Nat.zero_add, Nat.zero_add]
  refine sum_both h hn (6 * s) 6 (by omega) (fun b _ => wt b) (fun b hb => ?_) (fun i hi => ?_)
  · rcases lies_cases h hn hb hs with ⟨a, c⟩ | ⟨a, i, hi, e⟩
    · exact Or.inl ⟨if_pos a, c⟩
    · exact Or.inr ⟨i, hi, e, if_neg a⟩
  · rcases h.2.1 (6 * s + i) (by omega) with e | ⟨b, hb, e⟩
    · exact Or.inl ⟨if_pos (by rw [e]; decide), e⟩
    · refine Or.inr ⟨b, hb, e, ?_⟩
      rw [if_neg (by rw [e]; exact li_pos (by omega)), e, nI_pred, nI_clamp (by omega)]
theorem countKin_sum (kn : Nat → Int32) (x y : Int32) : ∀ (r j : Nat) (acc : Int32), j + r < 2 ^ 31 → acc = sumN (fun b => if kn b = y then (if f_X2_liesOn (nI n) sp (nI b) x = 0 then 0 else 1) else 0) j →
    f_X2_countKin_L (nI n) kn sp x y r j acc = sumN (fun b => if kn b = y then (if f_X2_liesOn (nI n) sp (nI b) x = 0 then 0 else 1) else 0) (j + r) := by
  intro r
  induction r with
  | zero => intro j acc _ h; rw [f_X2_countKin_L]; exact h
  | succ r ih =>
    intro j acc hj h
    rw [f_X2_countKin_L, nI_clamp (by omega), show j + (r + 1) = (j + 1) + r by omega]
    by_cases c : kn j = y
    · rw [if_pos c]
      by_cases c2 : f_X2_liesOn (nI n) sp (nI j) x = 0
      · rw [if_pos c2]
        refine ih (j + 1) acc (by omega) ?_
        show acc = sumN _ j + (if kn j = y then (if f_X2_liesOn (nI n) sp (nI j) x = 0 then 0 else 1) else 0)
        rw [if_pos c, if_pos c2, ← h]; exact (Int32.add_zero _).symm
      · rw [if_neg c2]
        refine ih (j + 1) _ (by omega) ?_
        show acc + 1 = sumN _ j + (if kn j = y then (if f_X2_liesOn (nI n) sp (nI j) x = 0 then 0 else 1) else 0)
        rw [if_pos c, if_neg c2, ← h]
    · rw [if_neg c]
      refine ih (j + 1) acc (by omega) ?_
      show acc = sumN _ j + (if kn j = y then (if f_X2_liesOn (nI n) sp (nI j) x = 0 then 0 else 1) else 0)
      rw [if_neg c, ← h]; exact (Int32.add_zero _).symm
theorem kin_sum (mkn : Nat → Int32) (y : Int32) {s : Nat} (hs : s < 6) : ∀ (r j : Nat) (acc : Int32), j + r ≤ 6 → acc = sumN (fun i => if mli (6 * s + i) ≤ 0 then 0 else if mkn (mli (6 * s + i) - 1).toNatClampNeg = y then 1 else 0) j →
    f_X4_kin_L mkn mli (nI s) y r j acc = sumN (fun i => if mli (6 * s + i) ≤ 0 then 0 else if mkn (mli (6 * s + i) - 1).toNatClampNeg = y then 1 else 0) (j + r) := by
  intro r
  induction r with
  | zero => intro j acc _ h; rw [f_X4_kin_L]; exact h
  | succ r ih =>
    intro j acc hj h
    rw [f_X4_kin_L, nI_clamp (n := s) (by omega), nI_clamp (by omega), show j + (r + 1) = (j + 1) + r by omega]
    by_cases c : mli (6 * s + j) ≤ 0
    · rw [if_pos c]
      refine ih (j + 1) _ (by omega) ?_
      show acc + 0 = sumN _ j + (if mli (6 * s + j) ≤ 0 then 0 else if mkn (mli (6 * s + j) - 1).toNatClampNeg = y then 1 else 0)
      rw [if_pos c, ← h]
    · rw [if_neg c]
      by_cases c2 : mkn (mli (6 * s + j) - 1).toNatClampNeg = y
      · rw [if_pos c2]
        refine ih (j + 1) _ (by omega) ?_
        show acc + 1 = sumN _ j + (if mli (6 * s + j) ≤ 0 then 0 else if mkn (mli (6 * s + j) - 1).toNatClampNeg = y then 1 else 0)
        rw [if_neg c, if_pos c2, ← h]
      · rw [if_neg c2]
        refine ih (j + 1) _ (by omega) ?_
        show acc + 0 = sumN _ j + (if mli (6 * s + j) ≤ 0 then 0 else if mkn (mli (6 * s + j) - 1).toNatClampNeg = y then 1 else 0)
        rw [if_neg c, if_neg c2, ← h]
theorem kin_eq (h : RS n sp mli) (hn : n ≤ 20) {s : Nat} (hs : s < 6) (kn : Nat → Int32) (y : Int32) : f_X2_countKin (nI n) kn sp (nI s) y = f_X4_kin kn mli (nI s) y := by
  rw [f_X2_countKin, f_X4_kin, nI_clamp (by omega), countKin_sum kn (nI s) y n 0 0 (by omega) rfl, kin_sum kn y hs 6 0 0 (by omega) rfl, Nat.zero_add, Nat.zero_add]
  refine sum_both h hn (6 * s) 6 (by omega) (fun b _ => if kn b = y then 1 else 0) (fun b hb => ?_) (fun i hi => ?_)
  · rcases lies_cases h hn hb hs with ⟨a, c⟩ | ⟨a, i, hi, e⟩
    · refine Or.inl ⟨?_, c⟩
      show (if kn b = y then (if f_X2_liesOn (nI n) sp (nI b) (nI s) = 0 then 0 else 1) else 0) = (0 : Int32)
      rw [if_pos a]; split <;> rfl
    · refine Or.inr ⟨i, hi, e, ?_⟩
      show (if kn b = y then (if f_X2_liesOn (nI n) sp (nI b) (nI s) = 0 then 0 else 1) else 0) = (if kn b = y then (1 : Int32) else 0)
      rw [if_neg a]
  · rcases h.2.1 (6 * s + i) (by omega) with e | ⟨b, hb, e⟩
    · exact Or.inl ⟨if_pos (by rw [e]; decide), e⟩
    · refine Or.inr ⟨b, hb, e, ?_⟩
      rw [if_neg (by rw [e]; exact li_pos (by omega)), e, nI_pred, nI_clamp (by omega)]
theorem kin_nat (hn : n ≤ 20) (kn : Nat → Int32) (x y : Int32) : ∃ c : Nat, c ≤ n ∧ f_X2_countKin (nI n) kn sp x y = nI c := by
  rw [f_X2_countKin, nI_clamp (by omega), countKin_sum kn x y n 0 0 (by omega) rfl, Nat.zero_add]
  refine sum_bits n (fun b hb => ?_)
  show (if kn b = y then (if f_X2_liesOn (nI n) sp (nI b) x = 0 then (0 : Int32) else 1) else 0) = 0 ∨ (if kn b = y then (if f_X2_liesOn (nI n) sp (nI b) x = 0 then (0 : Int32) else 1) else 0) = 1
  (repeat' split) <;> first | exact Or.inl rfl | exact Or.inr rfl
theorem climateOf_eq (sc : Nat → Int32) {s : Nat} (hs : s < 6) : f_X2_climateOf sc (nI s) = sc s := by
  rw [f_X2_climateOf, if_neg, nI_clamp (by omega)]
  exact fun z => (below_iff (N := 6) rfl (by decide)).mp z (vp_in_nI hs (by decide))
theorem isWrong_eq (hn : n ≤ 20) {b : Nat} (hb : b < n) (sc cl : Nat → Int32) : f_X2_isWrong (nI n) sc cl sp (nI b) = if sp b = -1 then 0 else if cl b = f_X2_climateOf sc (f_X3_shelfAt (sp b)) then 0 else 1 := by
  rw [f_X2_isWrong, whereIs_eq hn hb, nI_clamp (by omega)]
theorem isWrong_T (hn : n ≤ 20) {b k : Nat} (hb : b < n) (hk : k < 36) (e : sp b = nI (TT k)) (sc cl : Nat → Int32) : f_X2_isWrong (nI n) sc cl sp (nI b) = if cl b = sc (k / 6) then 0 else 1 := by
  rw [isWrong_eq hn hb, if_neg (by rw [e]; exact TT_nm1 hk), e, shelfT hk, climateOf_eq sc (by omega)]
theorem countWrong_sum (sc cl : Nat → Int32) : ∀ (r j : Nat) (acc : Int32), acc = sumN (fun b => if f_X2_isWrong (nI n) sc cl sp (nI b) = 0 then 0 else 1) j →
    f_X2_countWrong_L (nI n) sc cl sp r j acc = sumN (fun b => if f_X2_isWrong (nI n) sc cl sp (nI b) = 0 then 0 else 1) (j + r) := by
  intro r
  induction r with
  | zero => intro j acc h; rw [f_X2_countWrong_L]; exact h
  | succ r ih =>
    intro j acc h
    rw [f_X2_countWrong_L, show j + (r + 1) = (j + 1) + r by omega]
    by_cases c : f_X2_isWrong (nI n) sc cl sp (nI j) = 0
    · rw [if_pos c]
      refine ih (j + 1) acc ?_
      show acc = sumN _ j + (if f_X2_isWrong (nI n) sc cl sp (nI j) = 0 then 0 else 1)
      rw [if_pos c, ← h]; exact (Int32.add_zero _).symm
    · rw [if_neg c]
      refine ih (j + 1) _ ?_
      show acc + 1 = sumN _ j + (if f_X2_isWrong (nI n) sc cl sp (nI j) = 0 then 0 else 1)
      rw [if_neg c, ← h]
theorem wrong_sum (msc mcl : Nat → Int32) : ∀ (r j : Nat) (acc : Int32), j + r ≤ 36 → acc = sumN (fun i => if mli i ≤ 0 then 0 else if mcl (mli i - 1).toNatClampNeg = msc (i / 6) then 0 else 1) j →
    f_X4_wrong_L msc mcl mli r j acc = (sumN (fun i => if mli i ≤ 0 then 0 else if mcl (mli i - 1).toNatClampNeg = msc (i / 6) then 0 else 1) (j + r), 0) := by
  intro r
  induction r with
  | zero => intro j acc _ h; rw [f_X4_wrong_L]; rw [h]; rfl
  | succ r ih =>
    intro j acc hj h
    rw [f_X4_wrong_L, show nI j / 6 = nI (j / 6) from pk_div (d := 6) (by omega) (by decide) (by decide), nI_clamp (n := j) (by omega), nI_clamp (n := j / 6) (by omega), show j + (r + 1) = (j + 1) + r by omega]
    by_cases c : mli j ≤ 0
    · rw [if_pos c]
      refine ih (j + 1) _ (by omega) ?_
      show acc + 0 = sumN _ j + (if mli j ≤ 0 then 0 else if mcl (mli j - 1).toNatClampNeg = msc (j / 6) then 0 else 1)
      rw [if_pos c, ← h]
    · rw [if_neg c]
      by_cases c2 : mcl (mli j - 1).toNatClampNeg = msc (j / 6)
      · rw [if_pos c2]
        refine ih (j + 1) _ (by omega) ?_
        show acc + 0 = sumN _ j + (if mli j ≤ 0 then 0 else if mcl (mli j - 1).toNatClampNeg = msc (j / 6) then 0 else 1)
        rw [if_neg c, if_pos c2, ← h]
      · rw [if_neg c2]
        refine ih (j + 1) _ (by omega) ?_
        show acc + 1 = sumN _ j + (if mli j ≤ 0 then 0 else if mcl (mli j - 1).toNatClampNeg = msc (j / 6) then 0 else 1)
        rw [if_neg c, if_neg c2, ← h]
theorem wrong_eq (h : RS n sp mli) (hn : n ≤ 20) (sc cl : Nat → Int32) : f_X4_wrong sc cl mli = (f_X2_countWrong (nI n) sc cl sp, 0) := by
  rw [f_X2_countWrong, f_X4_wrong, nI_clamp (by omega), countWrong_sum sc cl n 0 0 rfl, wrong_sum sc cl 36 0 0 (by omega) rfl, Nat.zero_add, Nat.zero_add]
  congr 1
  refine (sum_both h hn 0 36 (by omega) (fun b k => if cl b = sc (k / 6) then 0 else 1) (fun b hb => ?_) (fun i hi => ?_)).symm
  · rcases h.1 b hb with e | ⟨k, hk, e⟩
    · refine Or.inl ⟨if_pos (by rw [isWrong_eq hn hb, if_pos e]), fun i hi q => TT_nm1 (k := 0 + i) (by omega) (q.symm.trans e)⟩
    · refine Or.inr ⟨k, hk, by rw [Nat.zero_add]; exact e, ?_⟩
      show (if f_X2_isWrong (nI n) sc cl sp (nI b) = 0 then (0 : Int32) else 1) = (if cl b = sc ((0 + k) / 6) then 0 else 1)
      rw [isWrong_T hn hb hk e, Nat.zero_add]
      by_cases c : cl b = sc (k / 6)
      · rw [if_pos c, if_pos rfl]
      · rw [if_neg c, if_neg (by decide)]
  · rw [Nat.zero_add]
    rcases h.2.1 i hi with e | ⟨b, hb, e⟩
    · exact Or.inl ⟨if_pos (by rw [e]; decide), e⟩
    · refine Or.inr ⟨b, hb, e, ?_⟩
      show (if mli i ≤ 0 then (0 : Int32) else if cl (mli i - 1).toNatClampNeg = sc (i / 6) then 0 else 1) = _
      rw [if_neg (by rw [e]; exact li_pos (by omega)), e, nI_pred, nI_clamp (by omega)]
end SUMS
