/-! the two states beside each other, and what each call does to both -/
def CI (ck cn : Int32) (sp mli : Nat → Int32) (gp tg mtm st sm : Int32) (db ins mv : Nat → Int32) (oc : Int32) (ob od : Nat → Int32) : Prop :=
  ∃ n no g t c : Nat, n ≤ 20 ∧ cn = nI n ∧ no ≤ 30 ∧ oc = nI no ∧ g ≤ 6 ∧ gp = nI g ∧ t ≤ 6 ∧ tg = nI t ∧ mtm = nI (dst g t) ∧ c ≤ 10000 ∧ ck = nI c ∧ RS n sp mli ∧ OS n no ob od ∧ RV g mv c ∧
    (st = 0 ∨ st = 1) ∧ (sm = 0 ∨ sm = 1) ∧ (∀ k, k < 7 → db k = 0 ∨ db k = 1) ∧ (∀ k, k < 4 → ins k = 0 ∨ ins k = 1) ∧ ((∀ k, k < 4 → ins k = 0) ∨ g = t)
section STEPS
theorem ov0 (ov : Nat → Int64) (v : Int64) : vp_updL ov (0 : Int32).toNatClampNeg v 0 = v := if_pos (by decide)
theorem ov0' (ov : Nat → Int64) (v : Int64) : vp_updL ov 0 v 0 = v := if_pos rfl
theorem iffs {a b : Prop} {c : Prop} (h1 : a ↔ c) (h2 : b ↔ c) : a ↔ b := h1.trans h2.symm
theorem shelf_iff (x : Int32) : f_X4_isShelf x = 0 ↔ f_X3_isBelow x 6 = 0 := iffs (in_iff (N := 5) rfl (by decide)) (below_iff (N := 6) rfl (by decide))
theorem person_iff (x : Int32) : f_X4_isPerson x = 0 ↔ f_X3_isBelow x 4 = 0 := iffs (in_iff (N := 3) rfl (by decide)) (below_iff (N := 4) rfl (by decide))
theorem aisle_iff (x : Int32) : f_X4_in x 0 6 = 0 ↔ f_X3_isBelow x 7 = 0 := iffs (in_iff (N := 6) rfl (by decide)) (below_iff (N := 7) rfl (by decide))
theorem climate_iff (x : Int32) : f_X4_in x 0 2 = 0 ↔ f_X3_isBelow x 3 = 0 := iffs (in_iff (N := 2) rfl (by decide)) (below_iff (N := 3) rfl (by decide))
theorem kin_iff (x : Int32) : f_X4_in x 0 9 = 0 ↔ f_X3_isBelow x 10 = 0 := iffs (in_iff (N := 9) rfl (by decide)) (below_iff (N := 10) rfl (by decide))
theorem box_iff {n : Nat} (hn : n ≤ 20) (x : Int32) : f_X4_isBox (nI n) x = 0 ↔ f_X2_has (nI n) x = 0 := iffs (isBox_iff hn) (has_iff hn)
theorem range_iff {x lo hi : Int32} : f_X4_in x lo hi = 0 ↔ (x < lo ∨ ¬ x ≤ hi) := by
  rw [f_X4_in]
  by_cases c1 : x < lo
  · rw [if_pos c1]; exact ⟨fun _ => Or.inl c1, fun _ => rfl⟩
  · rw [if_neg c1]
    by_cases c2 : hi < x
    · rw [if_pos c2]; exact ⟨fun _ => Or.inr (Int32.not_le.mpr c2), fun _ => rfl⟩
    · rw [if_neg c2]; exact ⟨fun z => absurd z (by decide), fun z => (z.elim c1 (fun q => c2 (Int32.not_le.mp q))).elim⟩
theorem TT_mk {A S P : Nat} (hS : S < 2) (hP : P < 3) : TT (6 * A + 3 * S + P) = 100 * A + 10 * S + P := by
  have e1 : (6 * A + 3 * S + P) / 6 = A := by omega
  have e2 : (6 * A + 3 * S + P) / 3 % 2 = S := by omega
  have e3 : (6 * A + 3 * S + P) % 3 = P := by omega
  unfold TT
  rw [e1, e2, e3]
/-- a number is no spot for both, or it is a row's -/
theorem spot_num (x : Int32) : (f_X3_isSpot x = 0 ∧ f_X4_row x = -1) ∨ ∃ k, k < 36 ∧ x = nI (TT k) ∧ ¬ f_X3_isSpot x = 0 ∧ f_X4_row x = nI k := by
  rcases row_cases x with a | ⟨j, h1, h2, h3, e, a⟩
  · refine Or.inl ⟨?_, a⟩
    by_cases z0 : x < 0
    · rw [f_X3_isSpot, if_pos z0]
    · obtain ⟨j, hj, rfl⟩ := nI_of z0
      rw [f_X3_isSpot, if_neg z0]
      by_cases c1 : 6 ≤ f_X3_shelfAt (nI j)
      · rw [if_pos c1]
      · rw [if_neg c1]
        by_cases c2 : 2 ≤ f_X3_sideAt (nI j)
        · rw [if_pos c2]
        · rw [if_neg c2]
          by_cases c3 : 3 ≤ f_X3_placeAt (nI j)
          · rw [if_pos c3]
          · exfalso
            have e4 : f_X3_shelfAt (nI j) = nI (j / 100) := by rw [f_X3_shelfAt]; exact pk_div (d := 100) hj (by decide) (by decide)
            rw [e4] at c1
            rw [sideAt_eq hj] at c2
            rw [placeAt_eq hj] at c3
            have d1 : j / 100 < 6 := by
              rcases Nat.lt_or_ge (j / 100) 6 with q | q
              · exact q
              · exact absurd (nI_le (a := 6) q (by omega)) c1
            have hr : f_X4_row (nI j) = nI (6 * (j / 100) + 3 * (j / 10 % 10) + j % 10) := by
              have e1 : nI j / 10 = nI (j / 10) := pk_div (d := 10) hj (by decide) (by decide)
              have e2 : nI (j / 10) - nI (j / 10) / 10 * 10 = nI (j / 10 % 10) := pk_rem (d := 10) (by omega) (by decide) (by decide)
              have e3 : nI j - nI j / 10 * 10 = nI (j % 10) := pk_rem (d := 10) hj (by decide) (by decide)
              have e5 : nI j / 100 = nI (j / 100) := pk_div (d := 100) hj (by decide) (by decide)
              rw [e1] at e3
              rw [f_X4_row, if_neg (fun z => (in_iff (y := 599) (N := 599) rfl (by decide)).mp z (vp_in_nI (by omega) (by decide))), e1, e2, e3, e5, if_neg c2, if_neg c3]
              rw [show (6 : Int32) * nI (j / 100) = nI (6 * (j / 100)) from pk_mul 6 _, show (3 : Int32) * nI (j / 10 % 10) = nI (3 * (j / 10 % 10)) from pk_mul 3 _, nI_add, nI_add]
            rw [hr] at a
            exact nI_nm1 (by omega) a
  · refine Or.inr ⟨6 * (j / 100) + 3 * (j / 10 % 10) + j % 10, by omega, ?_, ?_, a⟩
    · rw [e, TT_mk h2 h3]; congr 1; omega
    · rw [e, f_X3_isSpot, if_neg (nI_pos (by omega)), shelfAt_eq h1, sideAt_eq (by omega), placeAt_eq (by omega), if_neg (show ¬ 6 ≤ nI (j / 100) from nI_ge (b := 6) (by omega) (by decide)), if_neg (show ¬ 2 ≤ nI (j / 10 % 10) from nI_ge (b := 2) (by omega) (by decide)), if_neg (show ¬ 3 ≤ nI (j % 10) from nI_ge (b := 3) (by omega) (by decide))]
      decide
theorem RS.put {n b k : Nat} {sp mli : Nat → Int32} (h : RS n sp mli) (hn : n ≤ 20) (hb : b < n) (hs : sp b = -1) (hk : k < 36) (hm : mli k = 0) : RS n (upd sp b (nI (TT k))) (upd mli k (nI (b + 1))) := by
  refine ⟨fun b2 hb2 => ?_, fun k2 hk2 => ?_, fun k2 b2 hk2 hb2 => ?_⟩
  · by_cases e : b2 = b
    · rw [e, pk_us]; exact Or.inr ⟨k, hk, rfl⟩
    · rw [pk_un e]; exact h.1 b2 hb2
  · by_cases e : k2 = k
    · rw [e, pk_us]; exact Or.inr ⟨b, hb, rfl⟩
    · rw [pk_un e]; exact h.2.1 k2 hk2
  · by_cases e : b2 = b
    · rw [e, pk_us]
      by_cases e2 : k2 = k
      · rw [e2, pk_us]; exact ⟨fun _ => rfl, fun _ => rfl⟩
      · rw [pk_un e2, TT_nI hk hk2, ← h.2.2 k2 b hk2 hb, hs]
        exact ⟨fun z => absurd z.symm e2, fun z => absurd z.symm (TT_nm1 hk2)⟩
    · rw [pk_un e]
      by_cases e2 : k2 = k
      · rw [e2, pk_us, h.2.2 k b2 hk hb2, hm]
        refine ⟨fun z => absurd z.symm (nI_ne0 (by omega) (by omega)), fun z => ?_⟩
        have := (nI_eq (by omega) (by omega)).mp z
        omega
      · rw [pk_un e2]; exact h.2.2 k2 b2 hk2 hb2
theorem RS.out {n b k : Nat} {sp mli : Nat → Int32} (h : RS n sp mli) (hn : n ≤ 20) (hb : b < n) (hk : k < 36) (hs : sp b = nI (TT k)) : RS n (upd sp b (-1)) (upd mli k 0) := by
  have hm := (h.2.2 k b hk hb).mp hs
  refine ⟨fun b2 hb2 => ?_, fun k2 hk2 => ?_, fun k2 b2 hk2 hb2 => ?_⟩
  · by_cases e : b2 = b
    · rw [e, pk_us]; exact Or.inl rfl
    · rw [pk_un e]; exact h.1 b2 hb2
  · by_cases e : k2 = k
    · rw [e, pk_us]; exact Or.inl rfl
    · rw [pk_un e]; exact h.2.1 k2 hk2
  · by_cases e : b2 = b
    · rw [e, pk_us]
      by_cases e2 : k2 = k
      · rw [e2, pk_us]
        exact ⟨fun z => absurd z.symm (TT_nm1 hk), fun z => absurd z.symm (nI_ne0 (by omega) (by omega))⟩
      · rw [pk_un e2, ← h.2.2 k2 b hk2 hb, hs, TT_nI hk hk2]
        exact ⟨fun z => absurd z.symm (TT_nm1 hk2), fun z => absurd z.symm e2⟩
    · rw [pk_un e]
      by_cases e2 : k2 = k
      · rw [e2, pk_us, h.2.2 k b2 hk hb2, hm]
        refine ⟨fun z => ?_, fun z => absurd z.symm (nI_ne0 (by omega) (by omega))⟩
        have := (nI_eq (by omega) (by omega)).mp z
        omega
      · rw [pk_un e2]; exact h.2.2 k2 b2 hk2 hb2
theorem RS.grow {n : Nat} {sp mli : Nat → Int32} (h : RS n sp mli) (hn : n < 20) : RS (n + 1) (upd sp n (-1)) mli := by
  refine ⟨fun b hb => ?_, fun k hk => ?_, fun k b hk hb => ?_⟩
  · by_cases e : b = n
    · rw [e, pk_us]; exact Or.inl rfl
    · rw [pk_un e]; exact h.1 b (by omega)
  · rcases h.2.1 k hk with a | ⟨b, hb, a⟩
    · exact Or.inl a
    · exact Or.inr ⟨b, by omega, a⟩
  · by_cases e : b = n
    · rw [e, pk_us]
      refine ⟨fun z => absurd z.symm (TT_nm1 hk), fun z => ?_⟩
      rcases h.2.1 k hk with a | ⟨b2, hb2, a⟩
      · rw [a] at z
        exact absurd z.symm (nI_ne0 (by omega) (by omega))
      · rw [a] at z
        have := (nI_eq (by omega) (by omega)).mp z
        omega
    · rw [pk_un e]; exact h.2.2 k b hk (by omega)
variable {ck cn gp tg mtm st sm oc : Int32} {sp mli db ins mv ob od dn : Nat → Int32} {sc cl wt kn : Nat → Int32} {lt : Int32}
theorem S_setClimate (sc : Nat → Int32) (ov : Nat → Int64) (p0 p1 : Int32) : (f_X4_setClimate sc p0 p1).2.1 = (f_L_setClimate sc ov p0 p1).1 ∧ (f_X4_setClimate sc p0 p1).2.2 = (f_L_setClimate sc ov p0 p1).2.1 ∧ ((f_L_setClimate sc ov p0 p1).1 = 0 → (f_L_setClimate sc ov p0 p1).2.2 0 = (f_X4_setClimate sc p0 p1).1.toInt64) := by
  rw [f_L_setClimate, f_X4_setClimate, k_X3_setClimate, k_X3_requireShelf, f_X3_setClimate, k_X3_requireShelf]
  by_cases c1 : f_X3_isBelow p0 6 = 0
  · simp [c1, (shelf_iff p0).mpr c1]
  · have m1 : ¬ f_X4_isShelf p0 = 0 := fun z => c1 ((shelf_iff p0).mp z)
    by_cases c2 : f_X3_isBelow p1 3 = 0
    · simp [c1, m1, c2, (climate_iff p1).mpr c2]
    · have m2 : ¬ f_X4_in p1 0 2 = 0 := fun z => c2 ((climate_iff p1).mp z)
      simp [c1, m1, c2, m2, f_X2_changeClimate, f_X2_climateOf, ov0, ov0']
theorem isFull_iff {n : Nat} (hn : n ≤ 20) : f_X2_isFull (nI n) = 0 ↔ ¬ nI n = 20 := by
  rw [f_X2_isFull]
  rcases Nat.lt_or_ge n 20 with q | q
  · rw [if_pos (show nI n < 20 from nI_lt (b := 20) q (by decide))]
    exact ⟨fun _ z => by have := (nI_eq (b := 20) (by omega) (by decide)).mp z; omega, fun _ => rfl⟩
  · have : n = 20 := by omega
    subst this
    exact ⟨fun z => absurd z (by decide), fun z => absurd rfl z⟩
theorem S_addBox (h : CI ck cn sp mli gp tg mtm st sm db ins mv oc ob od) (cl wt kn : Nat → Int32) (ov : Nat → Int64) (p0 p1 p2 : Int32) :
    (f_X4_addBox cn cl wt kn p0 p1 p2).2.1 = (f_L_addBox cn cl wt kn sp ov p0 p1 p2).1 ∧ (f_X4_addBox cn cl wt kn p0 p1 p2).2.2.1 = (f_L_addBox cn cl wt kn sp ov p0 p1 p2).2.1 ∧ (f_X4_addBox cn cl wt kn p0 p1 p2).2.2.2.1 = (f_L_addBox cn cl wt kn sp ov p0 p1 p2).2.2.1 ∧
    (f_X4_addBox cn cl wt kn p0 p1 p2).2.2.2.2.1 = (f_L_addBox cn cl wt kn sp ov p0 p1 p2).2.2.2.1 ∧ (f_X4_addBox cn cl wt kn p0 p1 p2).2.2.2.2.2 = (f_L_addBox cn cl wt kn sp ov p0 p1 p2).2.2.2.2.1 ∧
    ((f_L_addBox cn cl wt kn sp ov p0 p1 p2).1 = 0 → (f_L_addBox cn cl wt kn sp ov p0 p1 p2).2.2.2.2.2.2 0 = (f_X4_addBox cn cl wt kn p0 p1 p2).1.toInt64) ∧
    CI ck (f_L_addBox cn cl wt kn sp ov p0 p1 p2).2.1 (f_L_addBox cn cl wt kn sp ov p0 p1 p2).2.2.2.2.2.1 mli gp tg mtm st sm db ins mv oc ob od := by
  have h0 := h
  obtain ⟨n, no, g, t, c, hn, rfl, hno, rfl, hg, rfl, ht, rfl, rfl, hc, rfl, hR, hO, hV, hst, hsm, hdb, hins, hin⟩ := h
  rw [f_L_addBox, f_X4_addBox, k_X3_addBox, f_X3_addBox]
  by_cases c1 : f_X3_isBelow p0 3 = 0
  · simp [c1, (climate_iff p0).mpr c1, h0]
  · have m1 : ¬ f_X4_in p0 0 2 = 0 := fun z => c1 ((climate_iff p0).mp z)
    by_cases c2 : p1 < 1
    · have m2 : f_X4_in p1 1 60 = 0 := range_iff.mpr (Or.inl c2)
      simp [c1, m1, c2, m2, h0]
    · by_cases c3 : p1 ≤ 60
      · have m2 : ¬ f_X4_in p1 1 60 = 0 := fun z => (range_iff.mp z).elim c2 (fun q => q c3)
        by_cases c4 : f_X3_isBelow p2 10 = 0
        · simp [c1, m1, c2, m2, c3, c4, (kin_iff p2).mpr c4, h0]
        · have m4 : ¬ f_X4_in p2 0 9 = 0 := fun z => c4 ((kin_iff p2).mp z)
          by_cases c5 : nI n = 20
          · have m5 : ¬ f_X2_isFull (nI n) = 0 := fun z => (isFull_iff hn).mp z c5
            simp [c1, m1, c2, m2, c3, c4, m4, c5, m5, h0]
            rw [c5] at m5 h0
            simp [m5, h0]
          · have m5 : f_X2_isFull (nI n) = 0 := (isFull_iff hn).mpr c5
            have hlt : n < 20 := by
              rcases Nat.lt_or_ge n 20 with q | q
              · exact q
              · exact absurd (by rw [show n = 20 by omega]; rfl) c5
            simp [c1, m1, c2, m2, c3, c4, m4, c5, m5, f_X2_enter, ov0, ov0', nI_1, nI_pred, nI_clamp (n := n) (by omega)]
            exact ⟨n + 1, no, g, t, c, by omega, rfl, hno, rfl, hg, rfl, ht, rfl, rfl, hc, rfl, hR.grow hlt, fun j hj => by
              obtain ⟨⟨b, hb, e⟩, d⟩ := hO j hj
              exact ⟨⟨b, by omega, e⟩, d⟩, hV, hst, hsm, hdb, hins, hin⟩
      · have m2 : f_X4_in p1 1 60 = 0 := range_iff.mpr (Or.inr c3)
        simp [c1, m1, c2, m2, c3, h0]
end STEPS
