/-! the law's turn: a theorem a case -/
/-- all cells: the object's, the law's five arrays -/
abbrev LW (G : GT) (a q : Nat → Nat) (n no g ct la : Nat) (sc cl wt kn sp db ins mv ob od dn lo : Nat → Int32) : va_W := [wcA a (nI ct), wcS a (nI n), wcI G (a 2) 6 sc, wcI G (a 3) 20 cl, wcI G (a 4) 20 wt, wcI G (a 5) 20 kn, wcI G (a 6) 20 sp, wcR a (nI g) (nI g) 0 0, wcZ G (a 8) 7 db, wcZ G (a 9) 4 ins, wcI G (a 10) 6 mv, wcO a (nI no) (nI la), wcI G (a 12) 30 ob, wcI G (a 13) 30 od, wcZ G (a 14) 30 dn, wcI G (q 0) 20 cl, wcI G (q 1) 20 wt, wcI G (q 2) 6 sc, wcI G (q 3) 20 lo, wcI G (q 4) 30 ob]
/-- behind a case: the invariant for the next turn, and 'is' true -/
def LK (p : Program) (l : Launch) (e : Env) (s : State) (m : MethodId) (below : List Frame) (meth : Method) (c : Code) (Q : State → Prop) (bs : Nat) (G : GT) (a q : Nat → Nat) (j : Nat) : Prop :=
  ∀ (n no g ct la : Nat) (sc cl wt kn sp db ins mv ob od dn lo mli : Nat → Int32) (H : Heap) (locs : List Loc) (ls : Array Slot), IV (j + 1) n no g ct la sp mli ob od dn mv ins lo → va_P G.1 vwCl (LW G a q n no g ct la sc cl wt kn sp db ins mv ob od dn lo) H → va_D (fun q : Nat => s.heap.size ≤ q) (LW G a q n no g ct la sc cl wt kn sp db ins mv ob od dn lo) → va_S (fun q : Nat => s.heap.size ≤ q) s.heap H locs →
    lv_has ls 21 [(17, .int 1), (12, .int (nI j)), (0, .ref bs), (1, .ref (a 0)), (2, .ref (q 0)), (3, .ref (q 1)), (4, .ref (q 2)), (5, .ref (q 3)), (6, .ref (q 4)), (7, .int (nI n)), (8, .int (nI no)), (9, .int (nI (cntN dn no))), (10, .int 0), (11, .int (nI ct))] → W p l e room_1 s m #[Value.ref bs] below meth c H locs 20 311 Q (F0 m 869 ls [])
theorem div100 {k : Nat} (hk : k < 36) : nI (TT k) / 100 = nI (k / 6) := by
  have h := shelfT hk
  rw [f_X3_shelfAt] at h
  exact h
theorem subL {g t : Nat} (hg : g ≤ 6) (ht : t ≤ 6) (h : nI g ≤ nI t) : nI t - nI g = nI (dst g t) := by
  have h2 := (nI_leI (by omega) (by omega)).mp h
  rw [pk_sub h2]
  congr 1
  unfold dst; omega
theorem subR {g t : Nat} (hg : g ≤ 6) (ht : t ≤ 6) (h : ¬ nI g ≤ nI t) : nI g - nI t = nI (dst g t) := by
  have h2 : t ≤ g := by
    rcases Nat.lt_or_ge g t with q | q
    · exact absurd (nI_le (by omega) (by omega)) h
    · exact q
  rw [pk_sub h2]
  congr 1
  unfold dst; omega
set_option maxHeartbeats 8000000 in
set_option maxRecDepth 100000 in
theorem law_addBox {p : Program} {l : Launch} {e : Env} {s : State} {m : MethodId} {below : List Frame} {meth : Method} {c : Code} {Q : State → Prop} {bs : Nat} {G : GT} {a q : Nat → Nat} {j : Nat} {H : Heap} {locs : List Loc} {ls : Array Slot} (n no g ct la : Nat) (sc cl wt kn sp db ins mv ob od dn lo mli : Nat → Int32) (w : Int32) (hn20 : n < 20)
    (hl9 : l.stackTraces = false) (hx : p.tables.exec = Jvm.exec) (hb : c.code = cL_law) (hml : c.maxLocals = 21) (hown : s.vm.findClass RL = some m.cls) (hts : ∀ w ∈ wsL_law, w.before #[Value.ref bs] s = true) (hE : Ev G s) (hj : j < 60) (hIV : IV j n no g ct la sp mli ob od dn mv ins lo)
    (hP : va_P G.1 vwCl (LW G a q n no g ct la sc cl wt kn sp db ins mv ob od dn lo) H) (hD : va_D (fun q : Nat => s.heap.size ≤ q) (LW G a q n no g ct la sc cl wt kn sp db ins mv ob od dn lo)) (hS : va_S (fun q : Nat => s.heap.size ≤ q) s.heap H locs) (hl : lv_has ls 21 [(14, .int w), (12, .int (nI j)), (0, .ref bs), (1, .ref (a 0)), (2, .ref (q 0)), (3, .ref (q 1)), (4, .ref (q 2)), (5, .ref (q 3)), (6, .ref (q 4)), (7, .int (nI n)), (8, .int (nI no)), (9, .int (nI (cntN dn no))), (10, .int 0), (11, .int (nI ct))]) (hk : LK p l e s m below meth c Q bs G a q j) : W p l e room_1 s m #[Value.ref bs] below meth c H locs 20 311 Q (F0 m 131 ls []) := by
  have hA : ∀ q : Nat, s.heap.size ≤ q → (fun q : Nat => s.heap.size ≤ q) q := fun _ h => h
  obtain ⟨hn, hno, hg, hct, hla, hR, hO, hV, hI, hOP⟩ := id hIV
  have hP : va_P G.1 vwCl [wcA a (nI ct), wcS a (nI n), wcI G (a 2) 6 sc, wcI G (a 3) 20 cl, wcI G (a 4) 20 wt, wcI G (a 5) 20 kn, wcI G (a 6) 20 sp, wcR a (nI g) (nI g) 0 0, wcZ G (a 8) 7 db, wcZ G (a 9) 4 ins, wcI G (a 10) 6 mv, wcO a (nI no) (nI la), wcI G (a 12) 30 ob, wcI G (a 13) 30 od, wcZ G (a 14) 30 dn, wcI G (q 0) 20 cl, wcI G (q 1) 20 wt, wcI G (q 2) 6 sc, wcI G (q 3) 20 lo, wcI G (q 4) 30 ob] H := hP
  have hD : va_D (fun q : Nat => s.heap.size ≤ q) [wcA a (nI ct), wcS a (nI n), wcI G (a 2) 6 sc, wcI G (a 3) 20 cl, wcI G (a 4) 20 wt, wcI G (a 5) 20 kn, wcI G (a 6) 20 sp, wcR a (nI g) (nI g) 0 0, wcZ G (a 8) 7 db, wcZ G (a 9) 4 ins, wcI G (a 10) 6 mv, wcO a (nI no) (nI la), wcI G (a 12) 30 ob, wcI G (a 13) 30 od, wcZ G (a 14) 30 dn, wcI G (q 0) 20 cl, wcI G (q 1) 20 wt, wcI G (q 2) 6 sc, wcI G (q 3) 20 lo, wcI G (q 4) 30 ob] := hD
  refine lv_aload_n hx hb dL_law_131 rfl (lv_at hl 4 rfl) ?_
  refine lv_iload hx hb dL_law_132 (lv_at hl 9 rfl) ?_
  refine lv_iload hx hb dL_law_134 (lv_at hl 0 rfl) ?_
  refine lv_iconst (v := 2) hx hb dL_law_136 (by decide) ?_
  refine k_pl (va_runS (As := [.int w, .int 2]) (rest := [.int (nI n), .ref (q 0)]) ⟨hx, hb, hml, hown, hts⟩ (c_L_low l G H.size w 2 2 rfl (by decide) (by decide)) (va_cwS 2 hts gL_law_L_low rfl rfl rfl ⟨by decide +kernel, by decide +kernel, by decide +kernel⟩ ⟨Nat.le_of_ble_eq_true rfl, Nat.le_of_ble_eq_true rfl⟩) ⟨GP.blind, GP.go (wc := []) hE hP hD hS hA [] rfl (by decide) [.int w, .int 2]⟩ rfl rfl hl.1 rfl (lv_room (Nat.le_of_ble_eq_true rfl)) dL_law_137 ⟨Nat.le_of_ble_eq_true rfl, Nat.le_of_ble_eq_true rfl⟩) (fun u1 hu1 => ?_)
  refine va_iast hx hb hE.1 hP hD hS 15 0 rfl rfl (vp_in_nI (n := n) (by omega) (by decide)) dL_law_140 (fun H locs hP hD hS => ?_)
  have hP : va_P G.1 vwCl [wcA a (nI ct), wcS a (nI n), wcI G (a 2) 6 sc, wcI G (a 3) 20 cl, wcI G (a 4) 20 wt, wcI G (a 5) 20 kn, wcI G (a 6) 20 sp, wcR a (nI g) (nI g) 0 0, wcZ G (a 8) 7 db, wcZ G (a 9) 4 ins, wcI G (a 10) 6 mv, wcO a (nI no) (nI la), wcI G (a 12) 30 ob, wcI G (a 13) 30 od, wcZ G (a 14) 30 dn, wcI G (q 0) 20 (upd cl (nI n).toNatClampNeg (nI u1)), wcI G (q 1) 20 wt, wcI G (q 2) 6 sc, wcI G (q 3) 20 lo, wcI G (q 4) 30 ob] H := hP
  have hD : va_D _ [wcA a (nI ct), wcS a (nI n), wcI G (a 2) 6 sc, wcI G (a 3) 20 cl, wcI G (a 4) 20 wt, wcI G (a 5) 20 kn, wcI G (a 6) 20 sp, wcR a (nI g) (nI g) 0 0, wcZ G (a 8) 7 db, wcZ G (a 9) 4 ins, wcI G (a 10) 6 mv, wcO a (nI no) (nI la), wcI G (a 12) 30 ob, wcI G (a 13) 30 od, wcZ G (a 14) 30 dn, wcI G (q 0) 20 (upd cl (nI n).toNatClampNeg (nI u1)), wcI G (q 1) 20 wt, wcI G (q 2) 6 sc, wcI G (q 3) 20 lo, wcI G (q 4) 30 ob] := hD
  rw [nI_clamp (n := n) (by omega)] at hP hD
  refine lv_aload_n hx hb dL_law_141 rfl (lv_at hl 5 rfl) ?_
  refine lv_iload hx hb dL_law_142 (lv_at hl 9 rfl) ?_
  refine lv_iconst (v := 1) hx hb dL_law_144 (by decide) ?_
  refine lv_iload hx hb dL_law_145 (lv_at hl 0 rfl) ?_
  refine lv_iconst (v := 1) hx hb dL_law_147 (by decide) ?_
  refine lv_ishr hx hb dL_law_148 ?_
  refine lv_topi (fun w148 _ => ?_)
  refine lv_bipush (v := 60) hx hb dL_law_149 (by decide) ?_
  refine k_pl (va_runS (As := [.int w148, .int 60]) (rest := [.int 1, .int (nI n), .ref (q 1)]) ⟨hx, hb, hml, hown, hts⟩ (c_L_low l G H.size w148 60 60 rfl (by decide) (by decide)) (va_cwS 2 hts gL_law_L_low rfl rfl rfl ⟨by decide +kernel, by decide +kernel, by decide +kernel⟩ ⟨Nat.le_of_ble_eq_true rfl, Nat.le_of_ble_eq_true rfl⟩) ⟨GP.blind, GP.go (wc := []) hE hP hD hS hA [] rfl (by decide) [.int w148, .int 60]⟩ rfl rfl hl.1 rfl (lv_room (Nat.le_of_ble_eq_true rfl)) dL_law_151 ⟨Nat.le_of_ble_eq_true rfl, Nat.le_of_ble_eq_true rfl⟩) (fun u2 hu2 => ?_)
  refine lv_iadd hx hb dL_law_154 ?_
  refine k_top (y := nI (u2 + 1)) ((Int32.add_comm _ _).trans (nI_1 u2)) ?_
  refine va_iast hx hb hE.1 hP hD hS 16 0 rfl rfl (vp_in_nI (n := n) (by omega) (by decide)) dL_law_155 (fun H locs hP hD hS => ?_)
  have hP : va_P G.1 vwCl [wcA a (nI ct), wcS a (nI n), wcI G (a 2) 6 sc, wcI G (a 3) 20 cl, wcI G (a 4) 20 wt, wcI G (a 5) 20 kn, wcI G (a 6) 20 sp, wcR a (nI g) (nI g) 0 0, wcZ G (a 8) 7 db, wcZ G (a 9) 4 ins, wcI G (a 10) 6 mv, wcO a (nI no) (nI la), wcI G (a 12) 30 ob, wcI G (a 13) 30 od, wcZ G (a 14) 30 dn, wcI G (q 0) 20 (upd cl n (nI u1)), wcI G (q 1) 20 (upd wt (nI n).toNatClampNeg (nI (u2 + 1))), wcI G (q 2) 6 sc, wcI G (q 3) 20 lo, wcI G (q 4) 30 ob] H := hP
  have hD : va_D _ [wcA a (nI ct), wcS a (nI n), wcI G (a 2) 6 sc, wcI G (a 3) 20 cl, wcI G (a 4) 20 wt, wcI G (a 5) 20 kn, wcI G (a 6) 20 sp, wcR a (nI g) (nI g) 0 0, wcZ G (a 8) 7 db, wcZ G (a 9) 4 ins, wcI G (a 10) 6 mv, wcO a (nI no) (nI la), wcI G (a 12) 30 ob, wcI G (a 13) 30 od, wcZ G (a 14) 30 dn, wcI G (q 0) 20 (upd cl n (nI u1)), wcI G (q 1) 20 (upd wt (nI n).toNatClampNeg (nI (u2 + 1))), wcI G (q 2) 6 sc, wcI G (q 3) 20 lo, wcI G (q 4) 30 ob] := hD
  rw [nI_clamp (n := n) (by omega)] at hP hD
  refine lv_aload_n hx hb dL_law_156 rfl (lv_at hl 3 rfl) ?_
  refine lv_aload_n hx hb dL_law_157 rfl (lv_at hl 4 rfl) ?_
  refine lv_iload hx hb dL_law_158 (lv_at hl 9 rfl) ?_
  refine va_iald hx hb hE.1 hP 15 0 rfl rfl (vp_in_nI (n := n) (by omega) (by decide)) dL_law_160 ?_
  refine k_top (y := (upd cl n (nI u1)) n) (congrArg (upd cl n (nI u1)) (nI_clamp (by omega))) ?_
  refine k_top (y := nI u1) pk_us ?_
  refine lv_aload_n hx hb dL_law_161 rfl (lv_at hl 5 rfl) ?_
  refine lv_iload hx hb dL_law_162 (lv_at hl 9 rfl) ?_
  refine va_iald hx hb hE.1 hP 16 0 rfl rfl (vp_in_nI (n := n) (by omega) (by decide)) dL_law_164 ?_
  refine k_top (y := (upd wt n (nI (u2 + 1))) n) (congrArg (upd wt n (nI (u2 + 1))) (nI_clamp (by omega))) ?_
  refine k_top (y := nI (u2 + 1)) pk_us ?_
  refine lv_iload hx hb dL_law_165 (lv_at hl 0 rfl) ?_
  refine lv_bipush (v := 7) hx hb dL_law_167 (by decide) ?_
  refine lv_ishr hx hb dL_law_169 ?_
  refine lv_topi (fun w169 _ => ?_)
  refine lv_iconst (v := 3) hx hb dL_law_170 (by decide) ?_
  refine k_pl (va_runS (As := [.int w169, .int 3]) (rest := [.int (nI (u2 + 1)), .int (nI u1), .ref (a 0)]) ⟨hx, hb, hml, hown, hts⟩ (c_L_low l G H.size w169 3 3 rfl (by decide) (by decide)) (va_cwS 2 hts gL_law_L_low rfl rfl rfl ⟨by decide +kernel, by decide +kernel, by decide +kernel⟩ ⟨Nat.le_of_ble_eq_true rfl, Nat.le_of_ble_eq_true rfl⟩) ⟨GP.blind, GP.go (wc := []) hE hP hD hS hA [] rfl (by decide) [.int w169, .int 3]⟩ rfl rfl hl.1 rfl (lv_room (Nat.le_of_ble_eq_true rfl)) dL_law_171 ⟨Nat.le_of_ble_eq_true rfl, Nat.le_of_ble_eq_true rfl⟩) (fun u3 hu3 => ?_)
  have kk_174 : k_X3_addBox (nI n) (nI u1) (nI (u2 + 1)) (nI u3) = 0 := k_addBox hn20 (by omega) (by omega) (by omega) (by omega)
  refine k_m (wc := [wcA a (nI ct), wcS a (nI n), wcI G (a 3) 20 cl, wcI G (a 4) 20 wt, wcI G (a 5) 20 kn, wcI G (a 6) 20 sp]) (w1 := [wcA a (nI ct), wcS a ((f_X3_addBox (nI n) cl wt kn sp (nI u1) (nI (u2 + 1)) (nI u3)).2.1), wcI G (a 3) 20 ((f_X3_addBox (nI n) cl wt kn sp (nI u1) (nI (u2 + 1)) (nI u3)).2.2.1), wcI G (a 4) 20 ((f_X3_addBox (nI n) cl wt kn sp (nI u1) (nI (u2 + 1)) (nI u3)).2.2.2.1), wcI G (a 5) 20 ((f_X3_addBox (nI n) cl wt kn sp (nI u1) (nI (u2 + 1)) (nI u3)).2.2.2.2.1), wcI G (a 6) 20 ((f_X3_addBox (nI n) cl wt kn sp (nI u1) (nI (u2 + 1)) (nI u3)).2.2.2.2.2)]) (wn := [wcA a (nI ct), wcS a ((f_X3_addBox (nI n) cl wt kn sp (nI u1) (nI (u2 + 1)) (nI u3)).2.1), wcI G (a 2) 6 sc, wcI G (a 3) 20 ((f_X3_addBox (nI n) cl wt kn sp (nI u1) (nI (u2 + 1)) (nI u3)).2.2.1), wcI G (a 4) 20 ((f_X3_addBox (nI n) cl wt kn sp (nI u1) (nI (u2 + 1)) (nI u3)).2.2.2.1), wcI G (a 5) 20 ((f_X3_addBox (nI n) cl wt kn sp (nI u1) (nI (u2 + 1)) (nI u3)).2.2.2.2.1), wcI G (a 6) 20 ((f_X3_addBox (nI n) cl wt kn sp (nI u1) (nI (u2 + 1)) (nI u3)).2.2.2.2.2), wcR a (nI g) (nI g) 0 0, wcZ G (a 8) 7 db, wcZ G (a 9) 4 ins, wcI G (a 10) 6 mv, wcO a (nI no) (nI la), wcI G (a 12) 30 ob, wcI G (a 13) 30 od, wcZ G (a 14) 30 dn, wcI G (q 0) 20 (upd cl n (nI u1)), wcI G (q 1) 20 (upd wt n (nI (u2 + 1))), wcI G (q 2) 6 sc, wcI G (q 3) 20 lo, wcI G (q 4) 30 ob]) (va_runV (As := [.int (nI u1), .int (nI (u2 + 1)), .int (nI u3)]) (rest := []) ⟨hx, hb, hml, hown, hts⟩ (c_X3_addBox l hl9 G a H.size (nI ct) (nI n) cl wt kn sp (nI u1) (nI (u2 + 1)) (nI u3) ⟨n, hn, rfl⟩ kk_174) (cwV 3 hts gL_law_X3_addBox rfl rfl rfl ⟨rfl, by decide +kernel, by decide +kernel, by decide +kernel⟩ ⟨Nat.le_of_ble_eq_true rfl, Nat.le_of_ble_eq_true rfl⟩) ⟨GP.blind, va_recv hE.1 hP (ci := 3) (q0 := 0) rfl rfl, GP.go (wc := [wcA a (nI ct), wcS a (nI n), wcI G (a 3) 20 cl, wcI G (a 4) 20 wt, wcI G (a 5) 20 kn, wcI G (a 6) 20 sp]) hE hP hD hS hA [0, 1, 3, 4, 5, 6] rfl (by decide) [.ref (a 0), .int (nI u1), .int (nI (u2 + 1)), .int (nI u3)]⟩ rfl rfl hl.1 rfl (lv_room (Nat.le_of_ble_eq_true rfl)) dL_law_174 ⟨Nat.le_of_ble_eq_true rfl, Nat.le_of_ble_eq_true rfl⟩) hP hD hS hA [0, 1, 3, 4, 5, 6] rfl rfl rfl rfl (fun H locs hP hD hS => ?_)
  have hq_174 : f_X3_addBox (nI n) cl wt kn sp (nI u1) (nI (u2 + 1)) (nI u3) = (nI n, nI (n + 1), upd cl n (nI u1), upd wt n (nI (u2 + 1)), upd kn n (nI u3), upd sp n (-1)) := addBox_eq hn20 (by omega) (by omega) (by omega) (by omega)
  rw [hq_174] at hP hD
  have hP : va_P G.1 vwCl [wcA a (nI ct), wcS a (nI (n + 1)), wcI G (a 2) 6 sc, wcI G (a 3) 20 (upd cl n (nI u1)), wcI G (a 4) 20 (upd wt n (nI (u2 + 1))), wcI G (a 5) 20 (upd kn n (nI u3)), wcI G (a 6) 20 (upd sp n (-1)), wcR a (nI g) (nI g) 0 0, wcZ G (a 8) 7 db, wcZ G (a 9) 4 ins, wcI G (a 10) 6 mv, wcO a (nI no) (nI la), wcI G (a 12) 30 ob, wcI G (a 13) 30 od, wcZ G (a 14) 30 dn, wcI G (q 0) 20 (upd cl n (nI u1)), wcI G (q 1) 20 (upd wt n (nI (u2 + 1))), wcI G (q 2) 6 sc, wcI G (q 3) 20 lo, wcI G (q 4) 30 ob] H := hP
  have hD : va_D _ [wcA a (nI ct), wcS a (nI (n + 1)), wcI G (a 2) 6 sc, wcI G (a 3) 20 (upd cl n (nI u1)), wcI G (a 4) 20 (upd wt n (nI (u2 + 1))), wcI G (a 5) 20 (upd kn n (nI u3)), wcI G (a 6) 20 (upd sp n (-1)), wcR a (nI g) (nI g) 0 0, wcZ G (a 8) 7 db, wcZ G (a 9) 4 ins, wcI G (a 10) 6 mv, wcO a (nI no) (nI la), wcI G (a 12) 30 ob, wcI G (a 13) 30 od, wcZ G (a 14) 30 dn, wcI G (q 0) 20 (upd cl n (nI u1)), wcI G (q 1) 20 (upd wt n (nI (u2 + 1))), wcI G (q 2) 6 sc, wcI G (q 3) 20 lo, wcI G (q 4) 30 ob] := hD
  refine k_top (y := nI n) (by rw [hq_174]) ?_
  refine lv_iload hx hb dL_law_177 (lv_at hl 9 rfl) ?_
  have k_179 : (nI n) = (nI n) := rfl
  refine lv_icmp_ne (tgt := 196) hx hb dL_law_179 (by decide) (fun c_179 => absurd k_179 c_179) (fun c_179 => ?_)
  refine lv_aload_n hx hb dL_law_182 rfl (lv_at hl 3 rfl) ?_
  refine lv_iload hx hb dL_law_183 (lv_at hl 9 rfl) ?_
  have kk_185 : k_X3_spotOf (nI (n + 1)) (nI n) = 0 := k_spotOf (n := n + 1) (by omega) (by omega)
  refine k_p (va_runV (As := [.int (nI n)]) (rest := []) ⟨hx, hb, hml, hown, hts⟩ (c_X3_spotOf l hl9 G a H.size (nI ct) (nI (n + 1)) (upd sp n (-1)) (nI n) (⟨n + 1, by omega, rfl⟩) kk_185) (cwV 1 hts gL_law_X3_spotOf rfl rfl rfl ⟨rfl, by decide +kernel, by decide +kernel, by decide +kernel⟩ ⟨Nat.le_of_ble_eq_true rfl, Nat.le_of_ble_eq_true rfl⟩) ⟨GP.blind, va_recv hE.1 hP (ci := 3) (q0 := 0) rfl rfl, GP.go (wc := [wcA a (nI ct), wcS a (nI (n + 1)), wcI G (a 6) 20 (upd sp n (-1))]) hE hP hD hS hA [0, 1, 6] rfl (by decide) [.ref (a 0), .int (nI n)]⟩ rfl rfl hl.1 rfl (lv_room (Nat.le_of_ble_eq_true rfl)) dL_law_185 ⟨Nat.le_of_ble_eq_true rfl, Nat.le_of_ble_eq_true rfl⟩) ?_
  refine k_top (y := (-1)) ((spotOf_eq (n := n + 1) (by omega) (by omega)).trans pk_us) ?_
  refine lv_iconst (v := (-1)) hx hb dL_law_188 (by decide) ?_
  have k_189 : ((-1) : Int32) = ((-1) : Int32) := by decide
  refine lv_icmp_ne (tgt := 196) hx hb dL_law_189 (by decide) (fun c_189 => absurd k_189 c_189) (fun c_189 => ?_)
  refine lv_iconst (v := 1) hx hb dL_law_192 (by decide) ?_
  refine lv_goto (tgt := 197) hx hb dL_law_193 (by decide) ?_
  refine lv_istore (lv' := [(17, .int 1), (14, .int w), (12, .int (nI j)), (0, .ref bs), (1, .ref (a 0)), (2, .ref (q 0)), (3, .ref (q 1)), (4, .ref (q 2)), (5, .ref (q 3)), (6, .ref (q 4)), (7, .int (nI n)), (8, .int (nI no)), (9, .int (nI (cntN dn no))), (10, .int 0), (11, .int (nI ct))]) hx hb dL_law_197 hl (by decide) rfl (fun ls hl => ?_)
  refine lv_iinc (v := nI (n + 1)) (lv' := [(7, .int (nI (n + 1))), (17, .int 1), (14, .int w), (12, .int (nI j)), (0, .ref bs), (1, .ref (a 0)), (2, .ref (q 0)), (3, .ref (q 1)), (4, .ref (q 2)), (5, .ref (q 3)), (6, .ref (q 4)), (8, .int (nI no)), (9, .int (nI (cntN dn no))), (10, .int 0), (11, .int (nI ct))]) hx hb dL_law_199 hl (k := 10) rfl (inc1 _) (by decide) rfl (fun ls hl => ?_)
  refine lv_goto (tgt := 869) hx hb dL_law_202 (by decide) ?_
  exact hk (n + 1) no g ct la sc (upd cl n (nI u1)) (upd wt n (nI (u2 + 1))) (upd kn n (nI u3)) (upd sp n (-1)) db ins mv ob od dn lo mli H _ ls (hIV.addBox hn20) hP hD hS (lv_sub hl [1, 3, 4, 5, 6, 7, 8, 9, 10, 0, 11, 12, 13, 14] rfl)
set_option maxHeartbeats 8000000 in
set_option maxRecDepth 100000 in
theorem law_lay {p : Program} {l : Launch} {e : Env} {s : State} {m : MethodId} {below : List Frame} {meth : Method} {c : Code} {Q : State → Prop} {bs : Nat} {G : GT} {a q : Nat → Nat} {j : Nat} {H : Heap} {locs : List Loc} {ls : Array Slot} (n no g ct la : Nat) (sc cl wt kn sp db ins mv ob od dn lo mli : Nat → Int32) (b : Nat) (hbn : b < n)
    (hl9 : l.stackTraces = false) (hx : p.tables.exec = Jvm.exec) (hb : c.code = cL_law) (hml : c.maxLocals = 21) (hown : s.vm.findClass RL = some m.cls) (hts : ∀ w ∈ wsL_law, w.before #[Value.ref bs] s = true) (hE : Ev G s) (hj : j < 60) (hIV : IV j n no g ct la sp mli ob od dn mv ins lo)
    (hP : va_P G.1 vwCl (LW G a q n no g ct la sc cl wt kn sp db ins mv ob od dn lo) H) (hD : va_D (fun q : Nat => s.heap.size ≤ q) (LW G a q n no g ct la sc cl wt kn sp db ins mv ob od dn lo)) (hS : va_S (fun q : Nat => s.heap.size ≤ q) s.heap H locs) (hl : lv_has ls 21 [(16, .int (nI b)), (12, .int (nI j)), (0, .ref bs), (1, .ref (a 0)), (2, .ref (q 0)), (3, .ref (q 1)), (4, .ref (q 2)), (5, .ref (q 3)), (6, .ref (q 4)), (7, .int (nI n)), (8, .int (nI no)), (9, .int (nI (cntN dn no))), (10, .int 0), (11, .int (nI ct))]) (hk : LK p l e s m below meth c Q bs G a q j) : W p l e room_1 s m #[Value.ref bs] below meth c H locs 20 311 Q (F0 m 211 ls []) := by
  have hA : ∀ q : Nat, s.heap.size ≤ q → (fun q : Nat => s.heap.size ≤ q) q := fun _ h => h
  obtain ⟨hn, hno, hg, hct, hla, hR, hO, hV, hI, hOP⟩ := id hIV
  have hP : va_P G.1 vwCl [wcA a (nI ct), wcS a (nI n), wcI G (a 2) 6 sc, wcI G (a 3) 20 cl, wcI G (a 4) 20 wt, wcI G (a 5) 20 kn, wcI G (a 6) 20 sp, wcR a (nI g) (nI g) 0 0, wcZ G (a 8) 7 db, wcZ G (a 9) 4 ins, wcI G (a 10) 6 mv, wcO a (nI no) (nI la), wcI G (a 12) 30 ob, wcI G (a 13) 30 od, wcZ G (a 14) 30 dn, wcI G (q 0) 20 cl, wcI G (q 1) 20 wt, wcI G (q 2) 6 sc, wcI G (q 3) 20 lo, wcI G (q 4) 30 ob] H := hP
  have hD : va_D (fun q : Nat => s.heap.size ≤ q) [wcA a (nI ct), wcS a (nI n), wcI G (a 2) 6 sc, wcI G (a 3) 20 cl, wcI G (a 4) 20 wt, wcI G (a 5) 20 kn, wcI G (a 6) 20 sp, wcR a (nI g) (nI g) 0 0, wcZ G (a 8) 7 db, wcZ G (a 9) 4 ins, wcI G (a 10) 6 mv, wcO a (nI no) (nI la), wcI G (a 12) 30 ob, wcI G (a 13) 30 od, wcZ G (a 14) 30 dn, wcI G (q 0) 20 cl, wcI G (q 1) 20 wt, wcI G (q 2) 6 sc, wcI G (q 3) 20 lo, wcI G (q 4) 30 ob] := hD
  refine lv_aload_n hx hb dL_law_211 rfl (lv_at hl 3 rfl) ?_
  refine lv_iload hx hb dL_law_212 (lv_at hl 0 rfl) ?_
  have kk_214 : k_X3_spotOf (nI n) (nI b) = 0 := k_spotOf hn hbn
  refine k_p (va_runV (As := [.int (nI b)]) (rest := []) ⟨hx, hb, hml, hown, hts⟩ (c_X3_spotOf l hl9 G a H.size (nI ct) (nI n) sp (nI b) ⟨n, hn, rfl⟩ kk_214) (cwV 1 hts gL_law_X3_spotOf rfl rfl rfl ⟨rfl, by decide +kernel, by decide +kernel, by decide +kernel⟩ ⟨Nat.le_of_ble_eq_true rfl, Nat.le_of_ble_eq_true rfl⟩) ⟨GP.blind, va_recv hE.1 hP (ci := 3) (q0 := 0) rfl rfl, GP.go (wc := [wcA a (nI ct), wcS a (nI n), wcI G (a 6) 20 sp]) hE hP hD hS hA [0, 1, 6] rfl (by decide) [.ref (a 0), .int (nI b)]⟩ rfl rfl hl.1 rfl (lv_room (Nat.le_of_ble_eq_true rfl)) dL_law_214 ⟨Nat.le_of_ble_eq_true rfl, Nat.le_of_ble_eq_true rfl⟩) ?_
  refine k_top (y := sp b) (spotOf_eq hn hbn) ?_
  rcases sp_neg hR hbn with ⟨es, el⟩ | ⟨k, hk36, es, el⟩
  · have k_217 : (sp b) < (0 : Int32) := el
    refine lv_if_lt (tgt := 224) hx hb dL_law_217 (by decide) (fun c_217 => ?_) (fun c_217 => absurd k_217 c_217)
    refine lv_aload_n hx hb dL_law_224 rfl (lv_at hl 3 rfl) ?_
    refine lv_iload hx hb dL_law_225 (lv_at hl 0 rfl) ?_
    have kk_227 : k_X3_bestSpot (nI n) sp (nI b) = 0 := k_bestSpot hn hbn es
    refine k_p (va_runV (As := [.int (nI b)]) (rest := []) ⟨hx, hb, hml, hown, hts⟩ (c_X3_bestSpot l hl9 G a H.size (nI ct) (nI n) sc cl wt kn sp (nI b) ⟨n, hn, rfl⟩ kk_227) (cwV 1 hts gL_law_X3_bestSpot rfl rfl rfl ⟨rfl, by decide +kernel, by decide +kernel, by decide +kernel⟩ ⟨Nat.le_of_ble_eq_true rfl, Nat.le_of_ble_eq_true rfl⟩) ⟨GP.blind, va_recv hE.1 hP (ci := 3) (q0 := 0) rfl rfl, GP.go (wc := [wcA a (nI ct), wcS a (nI n), wcI G (a 2) 6 sc, wcI G (a 3) 20 cl, wcI G (a 4) 20 wt, wcI G (a 5) 20 kn, wcI G (a 6) 20 sp]) hE hP hD hS hA [0, 1, 2, 3, 4, 5, 6] rfl (by decide) [.ref (a 0), .int (nI b)]⟩ rfl rfl hl.1 rfl (lv_room (Nat.le_of_ble_eq_true rfl)) dL_law_227 ⟨Nat.le_of_ble_eq_true rfl, Nat.le_of_ble_eq_true rfl⟩) ?_
    refine k_top (y := f_X2_bestSpotFor (nI n) sc cl wt kn sp (nI b)) (bestSpot_eq hn hbn es) ?_
    rcases best_ok hR hn sc cl wt kn hbn with ez | ⟨k, hk36, ez, hm, ec, ew⟩
    · refine k_top (y := (-1)) ez ?_
      refine lv_istore (lv' := [(18, .int (-1)), (16, .int (nI b)), (12, .int (nI j)), (0, .ref bs), (1, .ref (a 0)), (2, .ref (q 0)), (3, .ref (q 1)), (4, .ref (q 2)), (5, .ref (q 3)), (6, .ref (q 4)), (7, .int (nI n)), (8, .int (nI no)), (9, .int (nI (cntN dn no))), (10, .int 0), (11, .int (nI ct))]) hx hb dL_law_230 hl (by decide) rfl (fun ls hl => ?_)
      refine lv_iload hx hb dL_law_232 (lv_at hl 0 rfl) ?_
      have k_234 : ((-1) : Int32) < (0 : Int32) := by decide
      refine lv_if_lt (tgt := 282) hx hb dL_law_234 (by decide) (fun c_234 => ?_) (fun c_234 => absurd k_234 c_234)
      refine lv_iconst (v := 1) hx hb dL_law_282 (by decide) ?_
      refine lv_goto (tgt := 287) hx hb dL_law_283 (by decide) ?_
      refine lv_istore (lv' := [(17, .int 1), (18, .int (-1)), (16, .int (nI b)), (12, .int (nI j)), (0, .ref bs), (1, .ref (a 0)), (2, .ref (q 0)), (3, .ref (q 1)), (4, .ref (q 2)), (5, .ref (q 3)), (6, .ref (q 4)), (7, .int (nI n)), (8, .int (nI no)), (9, .int (nI (cntN dn no))), (10, .int 0), (11, .int (nI ct))]) hx hb dL_law_287 hl (by decide) rfl (fun ls hl => ?_)
      refine lv_goto (tgt := 869) hx hb dL_law_289 (by decide) ?_
      exact hk n no g ct la sc cl wt kn sp db ins mv ob od dn lo mli H _ ls hIV.same hP hD hS (lv_sub hl [0, 3, 4, 5, 6, 7, 8, 9, 10, 11, 12, 13, 14, 15] rfl)
    · refine k_top (y := nI (TT k)) ez ?_
      refine lv_istore (lv' := [(18, .int (nI (TT k))), (16, .int (nI b)), (12, .int (nI j)), (0, .ref bs), (1, .ref (a 0)), (2, .ref (q 0)), (3, .ref (q 1)), (4, .ref (q 2)), (5, .ref (q 3)), (6, .ref (q 4)), (7, .int (nI n)), (8, .int (nI no)), (9, .int (nI (cntN dn no))), (10, .int 0), (11, .int (nI ct))]) hx hb dL_law_230 hl (by decide) rfl (fun ls hl => ?_)
      refine lv_iload hx hb dL_law_232 (lv_at hl 0 rfl) ?_
      have k_234 : ¬ ((nI (TT k)) < (0 : Int32)) := nI_pos (by have := TT_lt hk36; omega)
      refine lv_if_lt (tgt := 282) hx hb dL_law_234 (by decide) (fun c_234 => absurd c_234 k_234) (fun c_234 => ?_)
      refine lv_aload_n hx hb dL_law_237 rfl (lv_at hl 4 rfl) ?_
      refine lv_iload hx hb dL_law_238 (lv_at hl 0 rfl) ?_
      refine lv_bipush (v := 100) hx hb dL_law_240 (by decide) ?_
      refine lv_idiv hx hb dL_law_242 (by decide) ?_
      refine k_top (y := nI (k / 6)) (div100 hk36) ?_
      have kk_243 : k_X3_weight (nI (k / 6)) = 0 := k_weight (by omega)
      refine k_p (va_runV (As := [.int (nI (k / 6))]) (rest := []) ⟨hx, hb, hml, hown, hts⟩ (c_X3_weight l hl9 G a H.size (nI ct) (nI n) wt sp (nI (k / 6)) ⟨n, hn, rfl⟩ kk_243) (cwV 1 hts gL_law_X3_weight rfl rfl rfl ⟨rfl, by decide +kernel, by decide +kernel, by decide +kernel⟩ ⟨Nat.le_of_ble_eq_true rfl, Nat.le_of_ble_eq_true rfl⟩) ⟨GP.blind, va_recv hE.1 hP (ci := 3) (q0 := 0) rfl rfl, GP.go (wc := [wcA a (nI ct), wcS a (nI n), wcI G (a 4) 20 wt, wcI G (a 6) 20 sp]) hE hP hD hS hA [0, 1, 4, 6] rfl (by decide) [.ref (a 0), .int (nI (k / 6))]⟩ rfl rfl hl.1 rfl (lv_room (Nat.le_of_ble_eq_true rfl)) dL_law_243 ⟨Nat.le_of_ble_eq_true rfl, Nat.le_of_ble_eq_true rfl⟩) ?_
      refine k_top (y := f_X2_weightOn (nI n) wt sp (nI (k / 6))) (weight_eq1 (by omega)) ?_
      refine lv_aload_n hx hb dL_law_246 rfl (lv_at hl 6 rfl) ?_
      refine lv_iload hx hb dL_law_247 (lv_at hl 1 rfl) ?_
      refine va_iald hx hb hE.1 hP 16 0 rfl rfl (vp_in_nI (n := b) (by omega) (by decide)) dL_law_249 ?_
      refine k_top (y := wt b) (congrArg wt (nI_clamp (by omega))) ?_
      refine lv_iadd hx hb dL_law_250 ?_
      refine lv_bipush (v := 100) hx hb dL_law_251 (by decide) ?_
      have k_253 : ¬ ((100 : Int32) < ((f_X2_weightOn (nI n) wt sp (nI (k / 6))) + (wt b))) := ew
      refine lv_icmp_gt (tgt := 286) hx hb dL_law_253 (by decide) (fun c_253 => absurd c_253 k_253) (fun c_253 => ?_)
      refine lv_aload hx hb dL_law_256 (lv_at hl 7 rfl) ?_
      refine lv_iload hx hb dL_law_258 (lv_at hl 0 rfl) ?_
      refine lv_bipush (v := 100) hx hb dL_law_260 (by decide) ?_
      refine lv_idiv hx hb dL_law_262 (by decide) ?_
      refine k_top (y := nI (k / 6)) (div100 hk36) ?_
      refine va_iald hx hb hE.1 hP 17 0 rfl rfl (vp_in_nI (n := (k / 6)) (by omega) (by decide)) dL_law_263 ?_
      refine k_top (y := sc (k / 6)) (congrArg sc (nI_clamp (by omega))) ?_
      refine lv_aload_n hx hb dL_law_264 rfl (lv_at hl 5 rfl) ?_
      refine lv_iload hx hb dL_law_265 (lv_at hl 1 rfl) ?_
      refine va_iald hx hb hE.1 hP 15 0 rfl rfl (vp_in_nI (n := b) (by omega) (by decide)) dL_law_267 ?_
      refine k_top (y := cl b) (congrArg cl (nI_clamp (by omega))) ?_
      have k_268 : (sc (k / 6)) = (cl b) := ec
      refine lv_icmp_ne (tgt := 286) hx hb dL_law_268 (by decide) (fun c_268 => absurd k_268 c_268) (fun c_268 => ?_)
      refine lv_aload_n hx hb dL_law_271 rfl (lv_at hl 4 rfl) ?_
      refine lv_iload hx hb dL_law_272 (lv_at hl 1 rfl) ?_
      have kk_274 : k_X3_lay (nI n) sc cl wt kn sp (nI b) = 0 := k_lay hn hbn hk36 es ez
      refine k_m (wc := [wcA a (nI ct), wcS a (nI n), wcI G (a 2) 6 sc, wcI G (a 3) 20 cl, wcI G (a 4) 20 wt, wcI G (a 5) 20 kn, wcI G (a 6) 20 sp]) (w1 := [wcA a (nI ct), wcS a (nI n), wcI G (a 2) 6 sc, wcI G (a 3) 20 cl, wcI G (a 4) 20 wt, wcI G (a 5) 20 kn, wcI G (a 6) 20 ((f_X3_lay (nI n) sc cl wt kn sp (nI b)).2)]) (wn := [wcA a (nI ct), wcS a (nI n), wcI G (a 2) 6 sc, wcI G (a 3) 20 cl, wcI G (a 4) 20 wt, wcI G (a 5) 20 kn, wcI G (a 6) 20 ((f_X3_lay (nI n) sc cl wt kn sp (nI b)).2), wcR a (nI g) (nI g) 0 0, wcZ G (a 8) 7 db, wcZ G (a 9) 4 ins, wcI G (a 10) 6 mv, wcO a (nI no) (nI la), wcI G (a 12) 30 ob, wcI G (a 13) 30 od, wcZ G (a 14) 30 dn, wcI G (q 0) 20 cl, wcI G (q 1) 20 wt, wcI G (q 2) 6 sc, wcI G (q 3) 20 lo, wcI G (q 4) 30 ob]) (va_runV (As := [.int (nI b)]) (rest := []) ⟨hx, hb, hml, hown, hts⟩ (c_X3_lay l hl9 G a H.size (nI ct) (nI n) sc cl wt kn sp (nI b) ⟨n, hn, rfl⟩ kk_274) (cwV 1 hts gL_law_X3_lay rfl rfl rfl ⟨rfl, by decide +kernel, by decide +kernel, by decide +kernel⟩ ⟨Nat.le_of_ble_eq_true rfl, Nat.le_of_ble_eq_true rfl⟩) ⟨GP.blind, va_recv hE.1 hP (ci := 3) (q0 := 0) rfl rfl, GP.go (wc := [wcA a (nI ct), wcS a (nI n), wcI G (a 2) 6 sc, wcI G (a 3) 20 cl, wcI G (a 4) 20 wt, wcI G (a 5) 20 kn, wcI G (a 6) 20 sp]) hE hP hD hS hA [0, 1, 2, 3, 4, 5, 6] rfl (by decide) [.ref (a 0), .int (nI b)]⟩ rfl rfl hl.1 rfl (lv_room (Nat.le_of_ble_eq_true rfl)) dL_law_274 ⟨Nat.le_of_ble_eq_true rfl, Nat.le_of_ble_eq_true rfl⟩) hP hD hS hA [0, 1, 2, 3, 4, 5, 6] rfl rfl rfl rfl (fun H locs hP hD hS => ?_)
      have hq_274 : f_X3_lay (nI n) sc cl wt kn sp (nI b) = (nI (TT k), upd sp b (nI (TT k))) := lay_eq hn hbn hk36 es ez
      rw [hq_274] at hP hD
      have hP : va_P G.1 vwCl [wcA a (nI ct), wcS a (nI n), wcI G (a 2) 6 sc, wcI G (a 3) 20 cl, wcI G (a 4) 20 wt, wcI G (a 5) 20 kn, wcI G (a 6) 20 (upd sp b (nI (TT k))), wcR a (nI g) (nI g) 0 0, wcZ G (a 8) 7 db, wcZ G (a 9) 4 ins, wcI G (a 10) 6 mv, wcO a (nI no) (nI la), wcI G (a 12) 30 ob, wcI G (a 13) 30 od, wcZ G (a 14) 30 dn, wcI G (q 0) 20 cl, wcI G (q 1) 20 wt, wcI G (q 2) 6 sc, wcI G (q 3) 20 lo, wcI G (q 4) 30 ob] H := hP
      have hD : va_D _ [wcA a (nI ct), wcS a (nI n), wcI G (a 2) 6 sc, wcI G (a 3) 20 cl, wcI G (a 4) 20 wt, wcI G (a 5) 20 kn, wcI G (a 6) 20 (upd sp b (nI (TT k))), wcR a (nI g) (nI g) 0 0, wcZ G (a 8) 7 db, wcZ G (a 9) 4 ins, wcI G (a 10) 6 mv, wcO a (nI no) (nI la), wcI G (a 12) 30 ob, wcI G (a 13) 30 od, wcZ G (a 14) 30 dn, wcI G (q 0) 20 cl, wcI G (q 1) 20 wt, wcI G (q 2) 6 sc, wcI G (q 3) 20 lo, wcI G (q 4) 30 ob] := hD
      refine k_top (y := nI (TT k)) (by rw [hq_274]) ?_
      refine lv_iload hx hb dL_law_277 (lv_at hl 0 rfl) ?_
      have k_279 : (nI (TT k)) = (nI (TT k)) := rfl
      refine lv_icmp_ne (tgt := 286) hx hb dL_law_279 (by decide) (fun c_279 => absurd k_279 c_279) (fun c_279 => ?_)
      refine lv_iconst (v := 1) hx hb dL_law_282 (by decide) ?_
      refine lv_goto (tgt := 287) hx hb dL_law_283 (by decide) ?_
      refine lv_istore (lv' := [(17, .int 1), (18, .int (nI (TT k))), (16, .int (nI b)), (12, .int (nI j)), (0, .ref bs), (1, .ref (a 0)), (2, .ref (q 0)), (3, .ref (q 1)), (4, .ref (q 2)), (5, .ref (q 3)), (6, .ref (q 4)), (7, .int (nI n)), (8, .int (nI no)), (9, .int (nI (cntN dn no))), (10, .int 0), (11, .int (nI ct))]) hx hb dL_law_287 hl (by decide) rfl (fun ls hl => ?_)
      refine lv_goto (tgt := 869) hx hb dL_law_289 (by decide) ?_
      exact hk n no g ct la sc cl wt kn (upd sp b (nI (TT k))) db ins mv ob od dn lo (upd mli k (nI (b + 1))) H _ ls (hIV.lay hbn es hk36 hm) hP hD hS (lv_sub hl [0, 3, 4, 5, 6, 7, 8, 9, 10, 11, 12, 13, 14, 15] rfl)
  · have k_217 : ¬ ((sp b) < (0 : Int32)) := el
    refine lv_if_lt (tgt := 224) hx hb dL_law_217 (by decide) (fun c_217 => absurd c_217 k_217) (fun c_217 => ?_)
    refine lv_iconst (v := (-1)) hx hb dL_law_220 (by decide) ?_
    refine lv_goto (tgt := 230) hx hb dL_law_221 (by decide) ?_
    refine lv_istore (lv' := [(18, .int (-1)), (16, .int (nI b)), (12, .int (nI j)), (0, .ref bs), (1, .ref (a 0)), (2, .ref (q 0)), (3, .ref (q 1)), (4, .ref (q 2)), (5, .ref (q 3)), (6, .ref (q 4)), (7, .int (nI n)), (8, .int (nI no)), (9, .int (nI (cntN dn no))), (10, .int 0), (11, .int (nI ct))]) hx hb dL_law_230 hl (by decide) rfl (fun ls hl => ?_)
    refine lv_iload hx hb dL_law_232 (lv_at hl 0 rfl) ?_
    have k_234 : ((-1) : Int32) < (0 : Int32) := by decide
    refine lv_if_lt (tgt := 282) hx hb dL_law_234 (by decide) (fun c_234 => ?_) (fun c_234 => absurd k_234 c_234)
    refine lv_iconst (v := 1) hx hb dL_law_282 (by decide) ?_
    refine lv_goto (tgt := 287) hx hb dL_law_283 (by decide) ?_
    refine lv_istore (lv' := [(17, .int 1), (18, .int (-1)), (16, .int (nI b)), (12, .int (nI j)), (0, .ref bs), (1, .ref (a 0)), (2, .ref (q 0)), (3, .ref (q 1)), (4, .ref (q 2)), (5, .ref (q 3)), (6, .ref (q 4)), (7, .int (nI n)), (8, .int (nI no)), (9, .int (nI (cntN dn no))), (10, .int 0), (11, .int (nI ct))]) hx hb dL_law_287 hl (by decide) rfl (fun ls hl => ?_)
    refine lv_goto (tgt := 869) hx hb dL_law_289 (by decide) ?_
    exact hk n no g ct la sc cl wt kn sp db ins mv ob od dn lo mli H _ ls hIV.same hP hD hS (lv_sub hl [0, 3, 4, 5, 6, 7, 8, 9, 10, 11, 12, 13, 14, 15] rfl)
set_option maxHeartbeats 8000000 in
set_option maxRecDepth 100000 in
theorem law_setClimate {p : Program} {l : Launch} {e : Env} {s : State} {m : MethodId} {below : List Frame} {meth : Method} {c : Code} {Q : State → Prop} {bs : Nat} {G : GT} {a q : Nat → Nat} {j : Nat} {H : Heap} {locs : List Loc} {ls : Array Slot} (n no g ct la : Nat) (sc cl wt kn sp db ins mv ob od dn lo mli : Nat → Int32) (w : Int32)
    (hl9 : l.stackTraces = false) (hx : p.tables.exec = Jvm.exec) (hb : c.code = cL_law) (hml : c.maxLocals = 21) (hown : s.vm.findClass RL = some m.cls) (hts : ∀ w ∈ wsL_law, w.before #[Value.ref bs] s = true) (hE : Ev G s) (hj : j < 60) (hIV : IV j n no g ct la sp mli ob od dn mv ins lo)
    (hP : va_P G.1 vwCl (LW G a q n no g ct la sc cl wt kn sp db ins mv ob od dn lo) H) (hD : va_D (fun q : Nat => s.heap.size ≤ q) (LW G a q n no g ct la sc cl wt kn sp db ins mv ob od dn lo)) (hS : va_S (fun q : Nat => s.heap.size ≤ q) s.heap H locs) (hl : lv_has ls 21 [(14, .int w), (12, .int (nI j)), (0, .ref bs), (1, .ref (a 0)), (2, .ref (q 0)), (3, .ref (q 1)), (4, .ref (q 2)), (5, .ref (q 3)), (6, .ref (q 4)), (7, .int (nI n)), (8, .int (nI no)), (9, .int (nI (cntN dn no))), (10, .int 0), (11, .int (nI ct))]) (hk : LK p l e s m below meth c Q bs G a q j) : W p l e room_1 s m #[Value.ref bs] below meth c H locs 20 311 Q (F0 m 298 ls []) := by
  have hA : ∀ q : Nat, s.heap.size ≤ q → (fun q : Nat => s.heap.size ≤ q) q := fun _ h => h
  obtain ⟨hn, hno, hg, hct, hla, hR, hO, hV, hI, hOP⟩ := id hIV
  have hP : va_P G.1 vwCl [wcA a (nI ct), wcS a (nI n), wcI G (a 2) 6 sc, wcI G (a 3) 20 cl, wcI G (a 4) 20 wt, wcI G (a 5) 20 kn, wcI G (a 6) 20 sp, wcR a (nI g) (nI g) 0 0, wcZ G (a 8) 7 db, wcZ G (a 9) 4 ins, wcI G (a 10) 6 mv, wcO a (nI no) (nI la), wcI G (a 12) 30 ob, wcI G (a 13) 30 od, wcZ G (a 14) 30 dn, wcI G (q 0) 20 cl, wcI G (q 1) 20 wt, wcI G (q 2) 6 sc, wcI G (q 3) 20 lo, wcI G (q 4) 30 ob] H := hP
  have hD : va_D (fun q : Nat => s.heap.size ≤ q) [wcA a (nI ct), wcS a (nI n), wcI G (a 2) 6 sc, wcI G (a 3) 20 cl, wcI G (a 4) 20 wt, wcI G (a 5) 20 kn, wcI G (a 6) 20 sp, wcR a (nI g) (nI g) 0 0, wcZ G (a 8) 7 db, wcZ G (a 9) 4 ins, wcI G (a 10) 6 mv, wcO a (nI no) (nI la), wcI G (a 12) 30 ob, wcI G (a 13) 30 od, wcZ G (a 14) 30 dn, wcI G (q 0) 20 cl, wcI G (q 1) 20 wt, wcI G (q 2) 6 sc, wcI G (q 3) 20 lo, wcI G (q 4) 30 ob] := hD
  refine lv_iload hx hb dL_law_298 (lv_at hl 0 rfl) ?_
  refine lv_bipush (v := 6) hx hb dL_law_300 (by decide) ?_
  refine k_pl (va_runS (As := [.int w, .int 6]) (rest := []) ⟨hx, hb, hml, hown, hts⟩ (c_L_low l G H.size w 6 6 rfl (by decide) (by decide)) (va_cwS 2 hts gL_law_L_low rfl rfl rfl ⟨by decide +kernel, by decide +kernel, by decide +kernel⟩ ⟨Nat.le_of_ble_eq_true rfl, Nat.le_of_ble_eq_true rfl⟩) ⟨GP.blind, GP.go (wc := []) hE hP hD hS hA [] rfl (by decide) [.int w, .int 6]⟩ rfl rfl hl.1 rfl (lv_room (Nat.le_of_ble_eq_true rfl)) dL_law_302 ⟨Nat.le_of_ble_eq_true rfl, Nat.le_of_ble_eq_true rfl⟩) (fun u1 hu1 => ?_)
  refine lv_istore (lv' := [(18, .int (nI u1)), (14, .int w), (12, .int (nI j)), (0, .ref bs), (1, .ref (a 0)), (2, .ref (q 0)), (3, .ref (q 1)), (4, .ref (q 2)), (5, .ref (q 3)), (6, .ref (q 4)), (7, .int (nI n)), (8, .int (nI no)), (9, .int (nI (cntN dn no))), (10, .int 0), (11, .int (nI ct))]) hx hb dL_law_305 hl (by decide) rfl (fun ls hl => ?_)
  refine lv_aload hx hb dL_law_307 (lv_at hl 7 rfl) ?_
  refine lv_iload hx hb dL_law_309 (lv_at hl 0 rfl) ?_
  refine va_iald hx hb hE.1 hP 17 0 rfl rfl (vp_in_nI (n := u1) (by omega) (by decide)) dL_law_311 ?_
  refine k_top (y := sc u1) (congrArg sc (nI_clamp (by omega))) ?_
  refine lv_istore (lv' := [(19, .int (sc u1)), (18, .int (nI u1)), (14, .int w), (12, .int (nI j)), (0, .ref bs), (1, .ref (a 0)), (2, .ref (q 0)), (3, .ref (q 1)), (4, .ref (q 2)), (5, .ref (q 3)), (6, .ref (q 4)), (7, .int (nI n)), (8, .int (nI no)), (9, .int (nI (cntN dn no))), (10, .int 0), (11, .int (nI ct))]) hx hb dL_law_312 hl (by decide) rfl (fun ls hl => ?_)
  refine lv_aload hx hb dL_law_314 (lv_at hl 8 rfl) ?_
  refine lv_iload hx hb dL_law_316 (lv_at hl 1 rfl) ?_
  refine lv_iload hx hb dL_law_318 (lv_at hl 2 rfl) ?_
  refine lv_iconst (v := 3) hx hb dL_law_320 (by decide) ?_
  refine lv_ishr hx hb dL_law_321 ?_
  refine lv_topi (fun w321 _ => ?_)
  refine lv_iconst (v := 4) hx hb dL_law_322 (by decide) ?_
  refine k_pl (va_runS (As := [.int w321, .int 4]) (rest := [.int (nI u1), .ref (q 2)]) ⟨hx, hb, hml, hown, hts⟩ (c_L_low l G H.size w321 4 4 rfl (by decide) (by decide)) (va_cwS 2 hts gL_law_L_low rfl rfl rfl ⟨by decide +kernel, by decide +kernel, by decide +kernel⟩ ⟨Nat.le_of_ble_eq_true rfl, Nat.le_of_ble_eq_true rfl⟩) ⟨GP.blind, GP.go (wc := []) hE hP hD hS hA [] rfl (by decide) [.int w321, .int 4]⟩ rfl rfl hl.1 rfl (lv_room (Nat.le_of_ble_eq_true rfl)) dL_law_323 ⟨Nat.le_of_ble_eq_true rfl, Nat.le_of_ble_eq_true rfl⟩) (fun u2 hu2 => ?_)
  refine lv_if_ne (tgt := 333) hx hb dL_law_326 (by decide) (fun c_326 => ?_) (fun c_326 => ?_)
  · refine lv_iconst (v := 0) hx hb dL_law_333 (by decide) ?_
    refine va_iast hx hb hE.1 hP hD hS 17 0 rfl rfl (vp_in_nI (n := u1) (by omega) (by decide)) dL_law_334 (fun H locs hP hD hS => ?_)
    have hP : va_P G.1 vwCl [wcA a (nI ct), wcS a (nI n), wcI G (a 2) 6 sc, wcI G (a 3) 20 cl, wcI G (a 4) 20 wt, wcI G (a 5) 20 kn, wcI G (a 6) 20 sp, wcR a (nI g) (nI g) 0 0, wcZ G (a 8) 7 db, wcZ G (a 9) 4 ins, wcI G (a 10) 6 mv, wcO a (nI no) (nI la), wcI G (a 12) 30 ob, wcI G (a 13) 30 od, wcZ G (a 14) 30 dn, wcI G (q 0) 20 cl, wcI G (q 1) 20 wt, wcI G (q 2) 6 (upd sc (nI u1).toNatClampNeg 0), wcI G (q 3) 20 lo, wcI G (q 4) 30 ob] H := hP
    have hD : va_D _ [wcA a (nI ct), wcS a (nI n), wcI G (a 2) 6 sc, wcI G (a 3) 20 cl, wcI G (a 4) 20 wt, wcI G (a 5) 20 kn, wcI G (a 6) 20 sp, wcR a (nI g) (nI g) 0 0, wcZ G (a 8) 7 db, wcZ G (a 9) 4 ins, wcI G (a 10) 6 mv, wcO a (nI no) (nI la), wcI G (a 12) 30 ob, wcI G (a 13) 30 od, wcZ G (a 14) 30 dn, wcI G (q 0) 20 cl, wcI G (q 1) 20 wt, wcI G (q 2) 6 (upd sc (nI u1).toNatClampNeg 0), wcI G (q 3) 20 lo, wcI G (q 4) 30 ob] := hD
    rw [nI_clamp (n := u1) (by omega)] at hP hD
    refine lv_aload_n hx hb dL_law_335 rfl (lv_at hl 5 rfl) ?_
    refine lv_iload hx hb dL_law_336 (lv_at hl 1 rfl) ?_
    refine lv_aload hx hb dL_law_338 (lv_at hl 8 rfl) ?_
    refine lv_iload hx hb dL_law_340 (lv_at hl 1 rfl) ?_
    refine va_iald hx hb hE.1 hP 17 0 rfl rfl (vp_in_nI (n := u1) (by omega) (by decide)) dL_law_342 ?_
    refine k_top (y := (upd sc u1 0) u1) (congrArg (upd sc u1 0) (nI_clamp (by omega))) ?_
    refine k_top (y := 0) pk_us ?_
    have kk_343 : k_X3_setClimate (nI u1) 0 = 0 := k_setClimate (v := 0) hu1 (by decide)
    refine k_m (wc := [wcA a (nI ct), wcS a (nI n), wcI G (a 2) 6 sc]) (w1 := [wcA a (nI ct), wcS a (nI n), wcI G (a 2) 6 ((f_X3_setClimate sc (nI u1) 0).2)]) (wn := [wcA a (nI ct), wcS a (nI n), wcI G (a 2) 6 ((f_X3_setClimate sc (nI u1) 0).2), wcI G (a 3) 20 cl, wcI G (a 4) 20 wt, wcI G (a 5) 20 kn, wcI G (a 6) 20 sp, wcR a (nI g) (nI g) 0 0, wcZ G (a 8) 7 db, wcZ G (a 9) 4 ins, wcI G (a 10) 6 mv, wcO a (nI no) (nI la), wcI G (a 12) 30 ob, wcI G (a 13) 30 od, wcZ G (a 14) 30 dn, wcI G (q 0) 20 cl, wcI G (q 1) 20 wt, wcI G (q 2) 6 (upd sc u1 0), wcI G (q 3) 20 lo, wcI G (q 4) 30 ob]) (va_runV (As := [.int (nI u1), .int 0]) (rest := []) ⟨hx, hb, hml, hown, hts⟩ (c_X3_setClimate l hl9 G a H.size (nI ct) (nI n) sc (nI u1) 0 kk_343) (cwV 2 hts gL_law_X3_setClimate rfl rfl rfl ⟨rfl, by decide +kernel, by decide +kernel, by decide +kernel⟩ ⟨Nat.le_of_ble_eq_true rfl, Nat.le_of_ble_eq_true rfl⟩) ⟨GP.blind, va_recv hE.1 hP (ci := 3) (q0 := 0) rfl rfl, GP.go (wc := [wcA a (nI ct), wcS a (nI n), wcI G (a 2) 6 sc]) hE hP hD hS hA [0, 1, 2] rfl (by decide) [.ref (a 0), .int (nI u1), .int 0]⟩ rfl rfl hl.1 rfl (lv_room (Nat.le_of_ble_eq_true rfl)) dL_law_343 ⟨Nat.le_of_ble_eq_true rfl, Nat.le_of_ble_eq_true rfl⟩) hP hD hS hA [0, 1, 2] rfl rfl rfl rfl (fun H locs hP hD hS => ?_)
    have hq_343 : f_X3_setClimate sc (nI u1) 0 = (sc u1, upd sc u1 0) := setClimate_eq (v := 0) hu1 (by decide)
    rw [hq_343] at hP hD
    have hP : va_P G.1 vwCl [wcA a (nI ct), wcS a (nI n), wcI G (a 2) 6 (upd sc u1 0), wcI G (a 3) 20 cl, wcI G (a 4) 20 wt, wcI G (a 5) 20 kn, wcI G (a 6) 20 sp, wcR a (nI g) (nI g) 0 0, wcZ G (a 8) 7 db, wcZ G (a 9) 4 ins, wcI G (a 10) 6 mv, wcO a (nI no) (nI la), wcI G (a 12) 30 ob, wcI G (a 13) 30 od, wcZ G (a 14) 30 dn, wcI G (q 0) 20 cl, wcI G (q 1) 20 wt, wcI G (q 2) 6 (upd sc u1 0), wcI G (q 3) 20 lo, wcI G (q 4) 30 ob] H := hP
    have hD : va_D _ [wcA a (nI ct), wcS a (nI n), wcI G (a 2) 6 (upd sc u1 0), wcI G (a 3) 20 cl, wcI G (a 4) 20 wt, wcI G (a 5) 20 kn, wcI G (a 6) 20 sp, wcR a (nI g) (nI g) 0 0, wcZ G (a 8) 7 db, wcZ G (a 9) 4 ins, wcI G (a 10) 6 mv, wcO a (nI no) (nI la), wcI G (a 12) 30 ob, wcI G (a 13) 30 od, wcZ G (a 14) 30 dn, wcI G (q 0) 20 cl, wcI G (q 1) 20 wt, wcI G (q 2) 6 (upd sc u1 0), wcI G (q 3) 20 lo, wcI G (q 4) 30 ob] := hD
    refine k_top (y := sc u1) (by rw [hq_343]) ?_
    refine lv_iload hx hb dL_law_346 (lv_at hl 0 rfl) ?_
    have k_348 : (sc u1) = (sc u1) := rfl
    refine lv_icmp_ne (tgt := 355) hx hb dL_law_348 (by decide) (fun c_348 => absurd k_348 c_348) (fun c_348 => ?_)
    refine lv_iconst (v := 1) hx hb dL_law_351 (by decide) ?_
    refine lv_goto (tgt := 356) hx hb dL_law_352 (by decide) ?_
    refine lv_istore (lv' := [(17, .int 1), (19, .int (sc u1)), (18, .int (nI u1)), (14, .int w), (12, .int (nI j)), (0, .ref bs), (1, .ref (a 0)), (2, .ref (q 0)), (3, .ref (q 1)), (4, .ref (q 2)), (5, .ref (q 3)), (6, .ref (q 4)), (7, .int (nI n)), (8, .int (nI no)), (9, .int (nI (cntN dn no))), (10, .int 0), (11, .int (nI ct))]) hx hb dL_law_356 hl (by decide) rfl (fun ls hl => ?_)
    refine lv_goto (tgt := 869) hx hb dL_law_358 (by decide) ?_
    exact hk n no g ct la (upd sc u1 0) cl wt kn sp db ins mv ob od dn lo mli H _ ls hIV.same hP hD hS (lv_sub hl [0, 4, 5, 6, 7, 8, 9, 10, 11, 12, 13, 14, 15, 16] rfl)
  · refine lv_iconst (v := 1) hx hb dL_law_329 (by decide) ?_
    refine lv_goto (tgt := 334) hx hb dL_law_330 (by decide) ?_
    refine va_iast hx hb hE.1 hP hD hS 17 0 rfl rfl (vp_in_nI (n := u1) (by omega) (by decide)) dL_law_334 (fun H locs hP hD hS => ?_)
    have hP : va_P G.1 vwCl [wcA a (nI ct), wcS a (nI n), wcI G (a 2) 6 sc, wcI G (a 3) 20 cl, wcI G (a 4) 20 wt, wcI G (a 5) 20 kn, wcI G (a 6) 20 sp, wcR a (nI g) (nI g) 0 0, wcZ G (a 8) 7 db, wcZ G (a 9) 4 ins, wcI G (a 10) 6 mv, wcO a (nI no) (nI la), wcI G (a 12) 30 ob, wcI G (a 13) 30 od, wcZ G (a 14) 30 dn, wcI G (q 0) 20 cl, wcI G (q 1) 20 wt, wcI G (q 2) 6 (upd sc (nI u1).toNatClampNeg 1), wcI G (q 3) 20 lo, wcI G (q 4) 30 ob] H := hP
    have hD : va_D _ [wcA a (nI ct), wcS a (nI n), wcI G (a 2) 6 sc, wcI G (a 3) 20 cl, wcI G (a 4) 20 wt, wcI G (a 5) 20 kn, wcI G (a 6) 20 sp, wcR a (nI g) (nI g) 0 0, wcZ G (a 8) 7 db, wcZ G (a 9) 4 ins, wcI G (a 10) 6 mv, wcO a (nI no) (nI la), wcI G (a 12) 30 ob, wcI G (a 13) 30 od, wcZ G (a 14) 30 dn, wcI G (q 0) 20 cl, wcI G (q 1) 20 wt, wcI G (q 2) 6 (upd sc (nI u1).toNatClampNeg 1), wcI G (q 3) 20 lo, wcI G (q 4) 30 ob] := hD
    rw [nI_clamp (n := u1) (by omega)] at hP hD
    refine lv_aload_n hx hb dL_law_335 rfl (lv_at hl 5 rfl) ?_
    refine lv_iload hx hb dL_law_336 (lv_at hl 1 rfl) ?_
    refine lv_aload hx hb dL_law_338 (lv_at hl 8 rfl) ?_
    refine lv_iload hx hb dL_law_340 (lv_at hl 1 rfl) ?_
    refine va_iald hx hb hE.1 hP 17 0 rfl rfl (vp_in_nI (n := u1) (by omega) (by decide)) dL_law_342 ?_
    refine k_top (y := (upd sc u1 1) u1) (congrArg (upd sc u1 1) (nI_clamp (by omega))) ?_
    refine k_top (y := 1) pk_us ?_
    have kk_343 : k_X3_setClimate (nI u1) 1 = 0 := k_setClimate (v := 1) hu1 (by decide)
    refine k_m (wc := [wcA a (nI ct), wcS a (nI n), wcI G (a 2) 6 sc]) (w1 := [wcA a (nI ct), wcS a (nI n), wcI G (a 2) 6 ((f_X3_setClimate sc (nI u1) 1).2)]) (wn := [wcA a (nI ct), wcS a (nI n), wcI G (a 2) 6 ((f_X3_setClimate sc (nI u1) 1).2), wcI G (a 3) 20 cl, wcI G (a 4) 20 wt, wcI G (a 5) 20 kn, wcI G (a 6) 20 sp, wcR a (nI g) (nI g) 0 0, wcZ G (a 8) 7 db, wcZ G (a 9) 4 ins, wcI G (a 10) 6 mv, wcO a (nI no) (nI la), wcI G (a 12) 30 ob, wcI G (a 13) 30 od, wcZ G (a 14) 30 dn, wcI G (q 0) 20 cl, wcI G (q 1) 20 wt, wcI G (q 2) 6 (upd sc u1 1), wcI G (q 3) 20 lo, wcI G (q 4) 30 ob]) (va_runV (As := [.int (nI u1), .int 1]) (rest := []) ⟨hx, hb, hml, hown, hts⟩ (c_X3_setClimate l hl9 G a H.size (nI ct) (nI n) sc (nI u1) 1 kk_343) (cwV 2 hts gL_law_X3_setClimate rfl rfl rfl ⟨rfl, by decide +kernel, by decide +kernel, by decide +kernel⟩ ⟨Nat.le_of_ble_eq_true rfl, Nat.le_of_ble_eq_true rfl⟩) ⟨GP.blind, va_recv hE.1 hP (ci := 3) (q0 := 0) rfl rfl, GP.go (wc := [wcA a (nI ct), wcS a (nI n), wcI G (a 2) 6 sc]) hE hP hD hS hA [0, 1, 2] rfl (by decide) [.ref (a 0), .int (nI u1), .int 1]⟩ rfl rfl hl.1 rfl (lv_room (Nat.le_of_ble_eq_true rfl)) dL_law_343 ⟨Nat.le_of_ble_eq_true rfl, Nat.le_of_ble_eq_true rfl⟩) hP hD hS hA [0, 1, 2] rfl rfl rfl rfl (fun H locs hP hD hS => ?_)
    have hq_343 : f_X3_setClimate sc (nI u1) 1 = (sc u1, upd sc u1 1) := setClimate_eq (v := 1) hu1 (by decide)
    rw [hq_343] at hP hD
    have hP : va_P G.1 vwCl [wcA a (nI ct), wcS a (nI n), wcI G (a 2) 6 (upd sc u1 1), wcI G (a 3) 20 cl, wcI G (a 4) 20 wt, wcI G (a 5) 20 kn, wcI G (a 6) 20 sp, wcR a (nI g) (nI g) 0 0, wcZ G (a 8) 7 db, wcZ G (a 9) 4 ins, wcI G (a 10) 6 mv, wcO a (nI no) (nI la), wcI G (a 12) 30 ob, wcI G (a 13) 30 od, wcZ G (a 14) 30 dn, wcI G (q 0) 20 cl, wcI G (q 1) 20 wt, wcI G (q 2) 6 (upd sc u1 1), wcI G (q 3) 20 lo, wcI G (q 4) 30 ob] H := hP
    have hD : va_D _ [wcA a (nI ct), wcS a (nI n), wcI G (a 2) 6 (upd sc u1 1), wcI G (a 3) 20 cl, wcI G (a 4) 20 wt, wcI G (a 5) 20 kn, wcI G (a 6) 20 sp, wcR a (nI g) (nI g) 0 0, wcZ G (a 8) 7 db, wcZ G (a 9) 4 ins, wcI G (a 10) 6 mv, wcO a (nI no) (nI la), wcI G (a 12) 30 ob, wcI G (a 13) 30 od, wcZ G (a 14) 30 dn, wcI G (q 0) 20 cl, wcI G (q 1) 20 wt, wcI G (q 2) 6 (upd sc u1 1), wcI G (q 3) 20 lo, wcI G (q 4) 30 ob] := hD
    refine k_top (y := sc u1) (by rw [hq_343]) ?_
    refine lv_iload hx hb dL_law_346 (lv_at hl 0 rfl) ?_
    have k_348 : (sc u1) = (sc u1) := rfl
    refine lv_icmp_ne (tgt := 355) hx hb dL_law_348 (by decide) (fun c_348 => absurd k_348 c_348) (fun c_348 => ?_)
    refine lv_iconst (v := 1) hx hb dL_law_351 (by decide) ?_
    refine lv_goto (tgt := 356) hx hb dL_law_352 (by decide) ?_
    refine lv_istore (lv' := [(17, .int 1), (19, .int (sc u1)), (18, .int (nI u1)), (14, .int w), (12, .int (nI j)), (0, .ref bs), (1, .ref (a 0)), (2, .ref (q 0)), (3, .ref (q 1)), (4, .ref (q 2)), (5, .ref (q 3)), (6, .ref (q 4)), (7, .int (nI n)), (8, .int (nI no)), (9, .int (nI (cntN dn no))), (10, .int 0), (11, .int (nI ct))]) hx hb dL_law_356 hl (by decide) rfl (fun ls hl => ?_)
    refine lv_goto (tgt := 869) hx hb dL_law_358 (by decide) ?_
    exact hk n no g ct la (upd sc u1 1) cl wt kn sp db ins mv ob od dn lo mli H _ ls hIV.same hP hD hS (lv_sub hl [0, 4, 5, 6, 7, 8, 9, 10, 11, 12, 13, 14, 15, 16] rfl)
set_option maxHeartbeats 8000000 in
set_option maxRecDepth 100000 in
theorem law_order {p : Program} {l : Launch} {e : Env} {s : State} {m : MethodId} {below : List Frame} {meth : Method} {c : Code} {Q : State → Prop} {bs : Nat} {G : GT} {a q : Nat → Nat} {j : Nat} {H : Heap} {locs : List Loc} {ls : Array Slot} (n no g ct la : Nat) (sc cl wt kn sp db ins mv ob od dn lo mli : Nat → Int32) (w : Int32) (b : Nat) (hbn : b < n) (hno30 : no < 30) (hlo : lo b = 0)
    (hl9 : l.stackTraces = false) (hx : p.tables.exec = Jvm.exec) (hb : c.code = cL_law) (hml : c.maxLocals = 21) (hown : s.vm.findClass RL = some m.cls) (hts : ∀ w ∈ wsL_law, w.before #[Value.ref bs] s = true) (hE : Ev G s) (hj : j < 60) (hIV : IV j n no g ct la sp mli ob od dn mv ins lo)
    (hP : va_P G.1 vwCl (LW G a q n no g ct la sc cl wt kn sp db ins mv ob od dn lo) H) (hD : va_D (fun q : Nat => s.heap.size ≤ q) (LW G a q n no g ct la sc cl wt kn sp db ins mv ob od dn lo)) (hS : va_S (fun q : Nat => s.heap.size ≤ q) s.heap H locs) (hl : lv_has ls 21 [(14, .int w), (16, .int (nI b)), (12, .int (nI j)), (0, .ref bs), (1, .ref (a 0)), (2, .ref (q 0)), (3, .ref (q 1)), (4, .ref (q 2)), (5, .ref (q 3)), (6, .ref (q 4)), (7, .int (nI n)), (8, .int (nI no)), (9, .int (nI (cntN dn no))), (10, .int 0), (11, .int (nI ct))]) (hk : LK p l e s m below meth c Q bs G a q j) : W p l e room_1 s m #[Value.ref bs] below meth c H locs 20 311 Q (F0 m 383 ls []) := by
  have hA : ∀ q : Nat, s.heap.size ≤ q → (fun q : Nat => s.heap.size ≤ q) q := fun _ h => h
  obtain ⟨hn, hno, hg, hct, hla, hR, hO, hV, hI, hOP⟩ := id hIV
  have hP : va_P G.1 vwCl [wcA a (nI ct), wcS a (nI n), wcI G (a 2) 6 sc, wcI G (a 3) 20 cl, wcI G (a 4) 20 wt, wcI G (a 5) 20 kn, wcI G (a 6) 20 sp, wcR a (nI g) (nI g) 0 0, wcZ G (a 8) 7 db, wcZ G (a 9) 4 ins, wcI G (a 10) 6 mv, wcO a (nI no) (nI la), wcI G (a 12) 30 ob, wcI G (a 13) 30 od, wcZ G (a 14) 30 dn, wcI G (q 0) 20 cl, wcI G (q 1) 20 wt, wcI G (q 2) 6 sc, wcI G (q 3) 20 lo, wcI G (q 4) 30 ob] H := hP
  have hD : va_D (fun q : Nat => s.heap.size ≤ q) [wcA a (nI ct), wcS a (nI n), wcI G (a 2) 6 sc, wcI G (a 3) 20 cl, wcI G (a 4) 20 wt, wcI G (a 5) 20 kn, wcI G (a 6) 20 sp, wcR a (nI g) (nI g) 0 0, wcZ G (a 8) 7 db, wcZ G (a 9) 4 ins, wcI G (a 10) 6 mv, wcO a (nI no) (nI la), wcI G (a 12) 30 ob, wcI G (a 13) 30 od, wcZ G (a 14) 30 dn, wcI G (q 0) 20 cl, wcI G (q 1) 20 wt, wcI G (q 2) 6 sc, wcI G (q 3) 20 lo, wcI G (q 4) 30 ob] := hD
  refine lv_aload hx hb dL_law_383 (lv_at hl 9 rfl) ?_
  refine lv_iload hx hb dL_law_385 (lv_at hl 11 rfl) ?_
  refine lv_iload hx hb dL_law_387 (lv_at hl 1 rfl) ?_
  refine va_iast hx hb hE.1 hP hD hS 19 0 rfl rfl (vp_in_nI (n := no) (by omega) (by decide)) dL_law_389 (fun H locs hP hD hS => ?_)
  have hP : va_P G.1 vwCl [wcA a (nI ct), wcS a (nI n), wcI G (a 2) 6 sc, wcI G (a 3) 20 cl, wcI G (a 4) 20 wt, wcI G (a 5) 20 kn, wcI G (a 6) 20 sp, wcR a (nI g) (nI g) 0 0, wcZ G (a 8) 7 db, wcZ G (a 9) 4 ins, wcI G (a 10) 6 mv, wcO a (nI no) (nI la), wcI G (a 12) 30 ob, wcI G (a 13) 30 od, wcZ G (a 14) 30 dn, wcI G (q 0) 20 cl, wcI G (q 1) 20 wt, wcI G (q 2) 6 sc, wcI G (q 3) 20 lo, wcI G (q 4) 30 (upd ob (nI no).toNatClampNeg (nI b))] H := hP
  have hD : va_D _ [wcA a (nI ct), wcS a (nI n), wcI G (a 2) 6 sc, wcI G (a 3) 20 cl, wcI G (a 4) 20 wt, wcI G (a 5) 20 kn, wcI G (a 6) 20 sp, wcR a (nI g) (nI g) 0 0, wcZ G (a 8) 7 db, wcZ G (a 9) 4 ins, wcI G (a 10) 6 mv, wcO a (nI no) (nI la), wcI G (a 12) 30 ob, wcI G (a 13) 30 od, wcZ G (a 14) 30 dn, wcI G (q 0) 20 cl, wcI G (q 1) 20 wt, wcI G (q 2) 6 sc, wcI G (q 3) 20 lo, wcI G (q 4) 30 (upd ob (nI no).toNatClampNeg (nI b))] := hD
  rw [nI_clamp (n := no) (by omega)] at hP hD
  refine lv_aload hx hb dL_law_390 (lv_at hl 8 rfl) ?_
  refine lv_iload hx hb dL_law_392 (lv_at hl 1 rfl) ?_
  refine lv_iconst (v := 1) hx hb dL_law_394 (by decide) ?_
  refine va_iast hx hb hE.1 hP hD hS 18 0 rfl rfl (vp_in_nI (n := b) (by omega) (by decide)) dL_law_395 (fun H locs hP hD hS => ?_)
  have hP : va_P G.1 vwCl [wcA a (nI ct), wcS a (nI n), wcI G (a 2) 6 sc, wcI G (a 3) 20 cl, wcI G (a 4) 20 wt, wcI G (a 5) 20 kn, wcI G (a 6) 20 sp, wcR a (nI g) (nI g) 0 0, wcZ G (a 8) 7 db, wcZ G (a 9) 4 ins, wcI G (a 10) 6 mv, wcO a (nI no) (nI la), wcI G (a 12) 30 ob, wcI G (a 13) 30 od, wcZ G (a 14) 30 dn, wcI G (q 0) 20 cl, wcI G (q 1) 20 wt, wcI G (q 2) 6 sc, wcI G (q 3) 20 (upd lo (nI b).toNatClampNeg 1), wcI G (q 4) 30 (upd ob no (nI b))] H := hP
  have hD : va_D _ [wcA a (nI ct), wcS a (nI n), wcI G (a 2) 6 sc, wcI G (a 3) 20 cl, wcI G (a 4) 20 wt, wcI G (a 5) 20 kn, wcI G (a 6) 20 sp, wcR a (nI g) (nI g) 0 0, wcZ G (a 8) 7 db, wcZ G (a 9) 4 ins, wcI G (a 10) 6 mv, wcO a (nI no) (nI la), wcI G (a 12) 30 ob, wcI G (a 13) 30 od, wcZ G (a 14) 30 dn, wcI G (q 0) 20 cl, wcI G (q 1) 20 wt, wcI G (q 2) 6 sc, wcI G (q 3) 20 (upd lo (nI b).toNatClampNeg 1), wcI G (q 4) 30 (upd ob no (nI b))] := hD
  rw [nI_clamp (n := b) (by omega)] at hP hD
  refine lv_aload_n hx hb dL_law_396 rfl (lv_at hl 4 rfl) ?_
  refine lv_iload hx hb dL_law_397 (lv_at hl 1 rfl) ?_
  refine lv_iload hx hb dL_law_399 (lv_at hl 0 rfl) ?_
  refine lv_iconst (v := 5) hx hb dL_law_401 (by decide) ?_
  refine lv_ishr hx hb dL_law_402 ?_
  refine lv_topi (fun w402 _ => ?_)
  refine lv_sipush (v := 200) hx hb dL_law_403 (by decide) ?_
  refine k_pl (va_runS (As := [.int w402, .int 200]) (rest := [.int (nI b), .ref (a 0)]) ⟨hx, hb, hml, hown, hts⟩ (c_L_low l G H.size w402 200 200 rfl (by decide) (by decide)) (va_cwS 2 hts gL_law_L_low rfl rfl rfl ⟨by decide +kernel, by decide +kernel, by decide +kernel⟩ ⟨Nat.le_of_ble_eq_true rfl, Nat.le_of_ble_eq_true rfl⟩) ⟨GP.blind, GP.go (wc := []) hE hP hD hS hA [] rfl (by decide) [.int w402, .int 200]⟩ rfl rfl hl.1 rfl (lv_room (Nat.le_of_ble_eq_true rfl)) dL_law_406 ⟨Nat.le_of_ble_eq_true rfl, Nat.le_of_ble_eq_true rfl⟩) (fun u1 hu1 => ?_)
  have kk_409 : k_X3_order (nI n) (nI no) ob dn (nI b) (nI u1) = 0 := k_order hn hbn hno30 (by omega) ((hOP.2.2.1 b hbn).mp hlo)
  refine k_m (wc := [wcA a (nI ct), wcS a (nI n), wcO a (nI no) (nI la), wcI G (a 12) 30 ob, wcI G (a 13) 30 od, wcZ G (a 14) 30 dn]) (w1 := [wcA a (nI ct), wcS a (nI n), wcO a ((f_X3_order (nI n) (nI no) ob od dn (nI b) (nI u1)).2.1) (nI la), wcI G (a 12) 30 ((f_X3_order (nI n) (nI no) ob od dn (nI b) (nI u1)).2.2.1), wcI G (a 13) 30 ((f_X3_order (nI n) (nI no) ob od dn (nI b) (nI u1)).2.2.2), wcZ G (a 14) 30 dn]) (wn := [wcA a (nI ct), wcS a (nI n), wcI G (a 2) 6 sc, wcI G (a 3) 20 cl, wcI G (a 4) 20 wt, wcI G (a 5) 20 kn, wcI G (a 6) 20 sp, wcR a (nI g) (nI g) 0 0, wcZ G (a 8) 7 db, wcZ G (a 9) 4 ins, wcI G (a 10) 6 mv, wcO a ((f_X3_order (nI n) (nI no) ob od dn (nI b) (nI u1)).2.1) (nI la), wcI G (a 12) 30 ((f_X3_order (nI n) (nI no) ob od dn (nI b) (nI u1)).2.2.1), wcI G (a 13) 30 ((f_X3_order (nI n) (nI no) ob od dn (nI b) (nI u1)).2.2.2), wcZ G (a 14) 30 dn, wcI G (q 0) 20 cl, wcI G (q 1) 20 wt, wcI G (q 2) 6 sc, wcI G (q 3) 20 (upd lo b 1), wcI G (q 4) 30 (upd ob no (nI b))]) (va_runV (As := [.int (nI b), .int (nI u1)]) (rest := []) ⟨hx, hb, hml, hown, hts⟩ (c_X3_order l hl9 G a H.size (nI ct) (nI n) (nI no) (nI la) ob od dn (nI b) (nI u1) ⟨no, hno, rfl⟩ kk_409) (cwV 2 hts gL_law_X3_order rfl rfl rfl ⟨rfl, by decide +kernel, by decide +kernel, by decide +kernel⟩ ⟨Nat.le_of_ble_eq_true rfl, Nat.le_of_ble_eq_true rfl⟩) ⟨GP.blind, va_recv hE.1 hP (ci := 3) (q0 := 0) rfl rfl, GP.go (wc := [wcA a (nI ct), wcS a (nI n), wcO a (nI no) (nI la), wcI G (a 12) 30 ob, wcI G (a 13) 30 od, wcZ G (a 14) 30 dn]) hE hP hD hS hA [0, 1, 11, 12, 13, 14] rfl (by decide) [.ref (a 0), .int (nI b), .int (nI u1)]⟩ rfl rfl hl.1 rfl (lv_room (Nat.le_of_ble_eq_true rfl)) dL_law_409 ⟨Nat.le_of_ble_eq_true rfl, Nat.le_of_ble_eq_true rfl⟩) hP hD hS hA [0, 1, 11, 12, 13, 14] rfl rfl rfl rfl (fun H locs hP hD hS => ?_)
  have hq_409 : f_X3_order (nI n) (nI no) ob od dn (nI b) (nI u1) = (nI no, nI (no + 1), upd ob no (nI b), upd od no (nI u1)) := order_eq hn hbn hno30 (by omega) ((hOP.2.2.1 b hbn).mp hlo)
  rw [hq_409] at hP hD
  have hP : va_P G.1 vwCl [wcA a (nI ct), wcS a (nI n), wcI G (a 2) 6 sc, wcI G (a 3) 20 cl, wcI G (a 4) 20 wt, wcI G (a 5) 20 kn, wcI G (a 6) 20 sp, wcR a (nI g) (nI g) 0 0, wcZ G (a 8) 7 db, wcZ G (a 9) 4 ins, wcI G (a 10) 6 mv, wcO a (nI (no + 1)) (nI la), wcI G (a 12) 30 (upd ob no (nI b)), wcI G (a 13) 30 (upd od no (nI u1)), wcZ G (a 14) 30 dn, wcI G (q 0) 20 cl, wcI G (q 1) 20 wt, wcI G (q 2) 6 sc, wcI G (q 3) 20 (upd lo b 1), wcI G (q 4) 30 (upd ob no (nI b))] H := hP
  have hD : va_D _ [wcA a (nI ct), wcS a (nI n), wcI G (a 2) 6 sc, wcI G (a 3) 20 cl, wcI G (a 4) 20 wt, wcI G (a 5) 20 kn, wcI G (a 6) 20 sp, wcR a (nI g) (nI g) 0 0, wcZ G (a 8) 7 db, wcZ G (a 9) 4 ins, wcI G (a 10) 6 mv, wcO a (nI (no + 1)) (nI la), wcI G (a 12) 30 (upd ob no (nI b)), wcI G (a 13) 30 (upd od no (nI u1)), wcZ G (a 14) 30 dn, wcI G (q 0) 20 cl, wcI G (q 1) 20 wt, wcI G (q 2) 6 sc, wcI G (q 3) 20 (upd lo b 1), wcI G (q 4) 30 (upd ob no (nI b))] := hD
  refine k_top (y := nI no) (by rw [hq_409]) ?_
  refine lv_iload hx hb dL_law_412 (lv_at hl 11 rfl) ?_
  have k_414 : (nI no) = (nI no) := rfl
  refine lv_icmp_ne (tgt := 421) hx hb dL_law_414 (by decide) (fun c_414 => absurd k_414 c_414) (fun c_414 => ?_)
  refine lv_iconst (v := 1) hx hb dL_law_417 (by decide) ?_
  refine lv_goto (tgt := 422) hx hb dL_law_418 (by decide) ?_
  refine lv_istore (lv' := [(17, .int 1), (14, .int w), (16, .int (nI b)), (12, .int (nI j)), (0, .ref bs), (1, .ref (a 0)), (2, .ref (q 0)), (3, .ref (q 1)), (4, .ref (q 2)), (5, .ref (q 3)), (6, .ref (q 4)), (7, .int (nI n)), (8, .int (nI no)), (9, .int (nI (cntN dn no))), (10, .int 0), (11, .int (nI ct))]) hx hb dL_law_422 hl (by decide) rfl (fun ls hl => ?_)
  refine lv_iinc (v := nI (no + 1)) (lv' := [(8, .int (nI (no + 1))), (17, .int 1), (14, .int w), (16, .int (nI b)), (12, .int (nI j)), (0, .ref bs), (1, .ref (a 0)), (2, .ref (q 0)), (3, .ref (q 1)), (4, .ref (q 2)), (5, .ref (q 3)), (6, .ref (q 4)), (7, .int (nI n)), (9, .int (nI (cntN dn no))), (10, .int 0), (11, .int (nI ct))]) hx hb dL_law_424 hl (k := 12) rfl (inc1 _) (by decide) rfl (fun ls hl => ?_)
  refine lv_iinc (v := nI ((cntN dn no) + 1)) (lv' := [(9, .int (nI ((cntN dn no) + 1))), (8, .int (nI (no + 1))), (17, .int 1), (14, .int w), (16, .int (nI b)), (12, .int (nI j)), (0, .ref bs), (1, .ref (a 0)), (2, .ref (q 0)), (3, .ref (q 1)), (4, .ref (q 2)), (5, .ref (q 3)), (6, .ref (q 4)), (7, .int (nI n)), (10, .int 0), (11, .int (nI ct))]) hx hb dL_law_427 hl (k := 13) rfl (inc1 _) (by decide) rfl (fun ls hl => ?_)
  refine lv_goto (tgt := 869) hx hb dL_law_430 (by decide) ?_
  have ecn : (cntN dn no) + 1 = cntN dn (no + 1) := by
    show _ = cntN dn no + (if dn no = 0 then 1 else 0)
    rw [if_pos (hOP.1 no (Nat.le_refl no))]
  rw [ecn] at hl
  exact hk n (no + 1) g ct la sc cl wt kn sp db ins mv (upd ob no (nI b)) (upd od no (nI u1)) dn (upd lo b 1) mli H _ ls (hIV.order hno30 hbn hlo (by omega)) hP hD hS (lv_sub hl [2, 5, 6, 7, 8, 9, 10, 11, 12, 13, 1, 0, 14, 15] rfl)
set_option maxHeartbeats 8000000 in
set_option maxRecDepth 100000 in
theorem law_open2 {p : Program} {l : Launch} {e : Env} {s : State} {m : MethodId} {below : List Frame} {meth : Method} {c : Code} {Q : State → Prop} {bs : Nat} {G : GT} {a q : Nat → Nat} {j : Nat} {H : Heap} {locs : List Loc} {ls : Array Slot} (n no g ct la : Nat) (sc cl wt kn sp db ins mv ob od dn lo mli : Nat → Int32) (t : Nat) (ht : t ≤ 6)
    (hl9 : l.stackTraces = false) (hx : p.tables.exec = Jvm.exec) (hb : c.code = cL_law) (hml : c.maxLocals = 21) (hown : s.vm.findClass RL = some m.cls) (hts : ∀ w ∈ wsL_law, w.before #[Value.ref bs] s = true) (hE : Ev G s) (hj : j < 60) (hIV : IV j n no g ct la sp mli ob od dn mv ins lo)
    (hP : va_P G.1 vwCl (LW G a q n no g ct la sc cl wt kn sp (upd db g 0) ins mv ob od dn lo) H) (hD : va_D (fun q : Nat => s.heap.size ≤ q) (LW G a q n no g ct la sc cl wt kn sp (upd db g 0) ins mv ob od dn lo)) (hS : va_S (fun q : Nat => s.heap.size ≤ q) s.heap H locs) (hl : lv_has ls 21 [(18, .int (nI t)), (17, .int 1), (12, .int (nI j)), (0, .ref bs), (1, .ref (a 0)), (2, .ref (q 0)), (3, .ref (q 1)), (4, .ref (q 2)), (5, .ref (q 3)), (6, .ref (q 4)), (7, .int (nI n)), (8, .int (nI no)), (9, .int (nI (cntN dn no))), (10, .int 0), (11, .int (nI ct))]) (hk : LK p l e s m below meth c Q bs G a q j) : W p l e room_1 s m #[Value.ref bs] below meth c H locs 20 311 Q (F0 m 494 ls [.int (nI (dst g t))]) := by
  have hA : ∀ q : Nat, s.heap.size ≤ q → (fun q : Nat => s.heap.size ≤ q) q := fun _ h => h
  obtain ⟨hn, hno, hg, hct, hla, hR, hO, hV, hI, hOP⟩ := id hIV
  have hP : va_P G.1 vwCl [wcA a (nI ct), wcS a (nI n), wcI G (a 2) 6 sc, wcI G (a 3) 20 cl, wcI G (a 4) 20 wt, wcI G (a 5) 20 kn, wcI G (a 6) 20 sp, wcR a (nI g) (nI g) 0 0, wcZ G (a 8) 7 (upd db g 0), wcZ G (a 9) 4 ins, wcI G (a 10) 6 mv, wcO a (nI no) (nI la), wcI G (a 12) 30 ob, wcI G (a 13) 30 od, wcZ G (a 14) 30 dn, wcI G (q 0) 20 cl, wcI G (q 1) 20 wt, wcI G (q 2) 6 sc, wcI G (q 3) 20 lo, wcI G (q 4) 30 ob] H := hP
  have hD : va_D (fun q : Nat => s.heap.size ≤ q) [wcA a (nI ct), wcS a (nI n), wcI G (a 2) 6 sc, wcI G (a 3) 20 cl, wcI G (a 4) 20 wt, wcI G (a 5) 20 kn, wcI G (a 6) 20 sp, wcR a (nI g) (nI g) 0 0, wcZ G (a 8) 7 (upd db g 0), wcZ G (a 9) 4 ins, wcI G (a 10) 6 mv, wcO a (nI no) (nI la), wcI G (a 12) 30 ob, wcI G (a 13) 30 od, wcZ G (a 14) 30 dn, wcI G (q 0) 20 cl, wcI G (q 1) 20 wt, wcI G (q 2) 6 sc, wcI G (q 3) 20 lo, wcI G (q 4) 30 ob] := hD
  have hd6 : dst g t ≤ 6 := by unfold dst; omega
  refine lv_istore (lv' := [(19, .int (nI (dst g t))), (18, .int (nI t)), (17, .int 1), (12, .int (nI j)), (0, .ref bs), (1, .ref (a 0)), (2, .ref (q 0)), (3, .ref (q 1)), (4, .ref (q 2)), (5, .ref (q 3)), (6, .ref (q 4)), (7, .int (nI n)), (8, .int (nI no)), (9, .int (nI (cntN dn no))), (10, .int 0), (11, .int (nI ct))]) hx hb dL_law_494 hl (by decide) rfl (fun ls hl => ?_)
  refine lv_aload_n hx hb dL_law_496 rfl (lv_at hl 5 rfl) ?_
  refine lv_iload hx hb dL_law_497 (lv_at hl 1 rfl) ?_
  have kk_499 : k_X3_open (nI g) (nI g) 0 0 (upd db g 0) ins (nI t) = 0 := k_open hg ht hI
  refine k_m (wc := [wcA a (nI ct), wcR a (nI g) (nI g) 0 0, wcZ G (a 8) 7 (upd db g 0), wcZ G (a 9) 4 ins]) (w1 := [wcA a (nI ct), wcR a (nI g) ((f_X3_open (nI g) (nI g) 0 0 (upd db g 0) ins (nI t)).2) 0 0, wcZ G (a 8) 7 (upd db g 0), wcZ G (a 9) 4 ins]) (wn := [wcA a (nI ct), wcS a (nI n), wcI G (a 2) 6 sc, wcI G (a 3) 20 cl, wcI G (a 4) 20 wt, wcI G (a 5) 20 kn, wcI G (a 6) 20 sp, wcR a (nI g) ((f_X3_open (nI g) (nI g) 0 0 (upd db g 0) ins (nI t)).2) 0 0, wcZ G (a 8) 7 (upd db g 0), wcZ G (a 9) 4 ins, wcI G (a 10) 6 mv, wcO a (nI no) (nI la), wcI G (a 12) 30 ob, wcI G (a 13) 30 od, wcZ G (a 14) 30 dn, wcI G (q 0) 20 cl, wcI G (q 1) 20 wt, wcI G (q 2) 6 sc, wcI G (q 3) 20 lo, wcI G (q 4) 30 ob]) (va_runV (As := [.int (nI t)]) (rest := []) ⟨hx, hb, hml, hown, hts⟩ (c_X3_open l hl9 G a H.size (nI ct) (nI g) (nI g) 0 0 (upd db g 0) ins (nI t) kk_499) (cwV 1 hts gL_law_X3_open rfl rfl rfl ⟨rfl, by decide +kernel, by decide +kernel, by decide +kernel⟩ ⟨Nat.le_of_ble_eq_true rfl, Nat.le_of_ble_eq_true rfl⟩) ⟨GP.blind, va_recv hE.1 hP (ci := 3) (q0 := 0) rfl rfl, GP.go (wc := [wcA a (nI ct), wcR a (nI g) (nI g) 0 0, wcZ G (a 8) 7 (upd db g 0), wcZ G (a 9) 4 ins]) hE hP hD hS hA [0, 7, 8, 9] rfl (by decide) [.ref (a 0), .int (nI t)]⟩ rfl rfl hl.1 rfl (lv_room (Nat.le_of_ble_eq_true rfl)) dL_law_499 ⟨Nat.le_of_ble_eq_true rfl, Nat.le_of_ble_eq_true rfl⟩) hP hD hS hA [0, 7, 8, 9] rfl rfl rfl rfl (fun H locs hP hD hS => ?_)
  have hq_499 : f_X3_open (nI g) (nI g) 0 0 (upd db g 0) ins (nI t) = (nI (dst g t), nI t) := openTo_eq hg ht hI
  rw [hq_499] at hP hD
  have hP : va_P G.1 vwCl [wcA a (nI ct), wcS a (nI n), wcI G (a 2) 6 sc, wcI G (a 3) 20 cl, wcI G (a 4) 20 wt, wcI G (a 5) 20 kn, wcI G (a 6) 20 sp, wcR a (nI g) (nI t) 0 0, wcZ G (a 8) 7 (upd db g 0), wcZ G (a 9) 4 ins, wcI G (a 10) 6 mv, wcO a (nI no) (nI la), wcI G (a 12) 30 ob, wcI G (a 13) 30 od, wcZ G (a 14) 30 dn, wcI G (q 0) 20 cl, wcI G (q 1) 20 wt, wcI G (q 2) 6 sc, wcI G (q 3) 20 lo, wcI G (q 4) 30 ob] H := hP
  have hD : va_D _ [wcA a (nI ct), wcS a (nI n), wcI G (a 2) 6 sc, wcI G (a 3) 20 cl, wcI G (a 4) 20 wt, wcI G (a 5) 20 kn, wcI G (a 6) 20 sp, wcR a (nI g) (nI t) 0 0, wcZ G (a 8) 7 (upd db g 0), wcZ G (a 9) 4 ins, wcI G (a 10) 6 mv, wcO a (nI no) (nI la), wcI G (a 12) 30 ob, wcI G (a 13) 30 od, wcZ G (a 14) 30 dn, wcI G (q 0) 20 cl, wcI G (q 1) 20 wt, wcI G (q 2) 6 sc, wcI G (q 3) 20 lo, wcI G (q 4) 30 ob] := hD
  refine k_top (y := nI (dst g t)) (by rw [hq_499]) ?_
  refine lv_iload hx hb dL_law_502 (lv_at hl 0 rfl) ?_
  have k_504 : (nI (dst g t)) = (nI (dst g t)) := rfl
  refine lv_icmp_ne (tgt := 529) hx hb dL_law_504 (by decide) (fun c_504 => absurd k_504 c_504) (fun c_504 => ?_)
  by_cases hgt : g = t
  · refine lv_aload_n hx hb dL_law_507 rfl (lv_at hl 5 rfl) ?_
    refine k_p (va_runV (As := []) (rest := []) ⟨hx, hb, hml, hown, hts⟩ (c_X3_opened l G a H.size (nI ct) (nI g) (nI t) 0 0) (cwV 0 hts gL_law_X3_opened rfl rfl rfl ⟨rfl, by decide +kernel, by decide +kernel, by decide +kernel⟩ ⟨Nat.le_of_ble_eq_true rfl, Nat.le_of_ble_eq_true rfl⟩) ⟨GP.blind, va_recv hE.1 hP (ci := 3) (q0 := 0) rfl rfl, GP.go (wc := [wcA a (nI ct), wcR a (nI g) (nI t) 0 0]) hE hP hD hS hA [0, 7] rfl (by decide) [.ref (a 0)]⟩ rfl rfl hl.1 rfl (lv_room (Nat.le_of_ble_eq_true rfl)) dL_law_508 ⟨Nat.le_of_ble_eq_true rfl, Nat.le_of_ble_eq_true rfl⟩) ?_
    refine k_top (y := nI t) (by rw [hgt]; exact opened_eq) ?_
    refine lv_iload hx hb dL_law_511 (lv_at hl 0 rfl) ?_
    have k_513 : (nI (dst g t)) = (0 : Int32) := by rw [show dst g t = 0 by unfold dst; omega]; rfl
    refine lv_if_ne (tgt := 521) hx hb dL_law_513 (by decide) (fun c_513 => absurd k_513 c_513) (fun c_513 => ?_)
    refine lv_iload hx hb dL_law_516 (lv_at hl 1 rfl) ?_
    refine lv_goto (tgt := 522) hx hb dL_law_518 (by decide) ?_
    have k_522 : (nI t) = (nI t) := rfl
    refine lv_icmp_ne (tgt := 529) hx hb dL_law_522 (by decide) (fun c_522 => absurd k_522 c_522) (fun c_522 => ?_)
    refine lv_iconst (v := 1) hx hb dL_law_525 (by decide) ?_
    refine lv_goto (tgt := 530) hx hb dL_law_526 (by decide) ?_
    refine lv_istore (lv' := [(17, .int 1), (19, .int (nI (dst g t))), (18, .int (nI t)), (12, .int (nI j)), (0, .ref bs), (1, .ref (a 0)), (2, .ref (q 0)), (3, .ref (q 1)), (4, .ref (q 2)), (5, .ref (q 3)), (6, .ref (q 4)), (7, .int (nI n)), (8, .int (nI no)), (9, .int (nI (cntN dn no))), (10, .int 0), (11, .int (nI ct))]) hx hb dL_law_530 hl (by decide) rfl (fun ls hl => ?_)
    refine lv_iload hx hb dL_law_532 (lv_at hl 1 rfl) ?_
    have k_534 : (nI (dst g t)) ≤ (0 : Int32) := by rw [show dst g t = 0 by unfold dst; omega]; decide
    refine lv_if_le (tgt := 576) hx hb dL_law_534 (by decide) (fun c_534 => ?_) (fun c_534 => absurd k_534 c_534)
    refine lv_goto (tgt := 869) hx hb dL_law_576 (by decide) ?_
    subst hgt
    exact hk n no g ct la sc cl wt kn sp (upd db g 0) ins mv ob od dn lo mli H _ ls hIV.same hP hD hS (lv_sub hl [0, 3, 4, 5, 6, 7, 8, 9, 10, 11, 12, 13, 14, 15] rfl)
  · have hd1 : 1 ≤ dst g t := by unfold dst; omega
    refine lv_aload_n hx hb dL_law_507 rfl (lv_at hl 5 rfl) ?_
    refine k_p (va_runV (As := []) (rest := []) ⟨hx, hb, hml, hown, hts⟩ (c_X3_opened l G a H.size (nI ct) (nI g) (nI t) 0 0) (cwV 0 hts gL_law_X3_opened rfl rfl rfl ⟨rfl, by decide +kernel, by decide +kernel, by decide +kernel⟩ ⟨Nat.le_of_ble_eq_true rfl, Nat.le_of_ble_eq_true rfl⟩) ⟨GP.blind, va_recv hE.1 hP (ci := 3) (q0 := 0) rfl rfl, GP.go (wc := [wcA a (nI ct), wcR a (nI g) (nI t) 0 0]) hE hP hD hS hA [0, 7] rfl (by decide) [.ref (a 0)]⟩ rfl rfl hl.1 rfl (lv_room (Nat.le_of_ble_eq_true rfl)) dL_law_508 ⟨Nat.le_of_ble_eq_true rfl, Nat.le_of_ble_eq_true rfl⟩) ?_
    refine k_top (y := (-1)) (opened_ne hg ht hgt) ?_
    refine lv_iload hx hb dL_law_511 (lv_at hl 0 rfl) ?_
    have k_513 : ¬ ((nI (dst g t)) = (0 : Int32)) := nI_ne0 (by unfold dst; omega) (by unfold dst; omega)
    refine lv_if_ne (tgt := 521) hx hb dL_law_513 (by decide) (fun c_513 => ?_) (fun c_513 => absurd c_513 k_513)
    refine lv_iconst (v := (-1)) hx hb dL_law_521 (by decide) ?_
    have k_522 : ((-1) : Int32) = ((-1) : Int32) := by decide
    refine lv_icmp_ne (tgt := 529) hx hb dL_law_522 (by decide) (fun c_522 => absurd k_522 c_522) (fun c_522 => ?_)
    refine lv_iconst (v := 1) hx hb dL_law_525 (by decide) ?_
    refine lv_goto (tgt := 530) hx hb dL_law_526 (by decide) ?_
    refine lv_istore (lv' := [(17, .int 1), (19, .int (nI (dst g t))), (18, .int (nI t)), (12, .int (nI j)), (0, .ref bs), (1, .ref (a 0)), (2, .ref (q 0)), (3, .ref (q 1)), (4, .ref (q 2)), (5, .ref (q 3)), (6, .ref (q 4)), (7, .int (nI n)), (8, .int (nI no)), (9, .int (nI (cntN dn no))), (10, .int 0), (11, .int (nI ct))]) hx hb dL_law_530 hl (by decide) rfl (fun ls hl => ?_)
    refine lv_iload hx hb dL_law_532 (lv_at hl 1 rfl) ?_
    have k_534 : ¬ ((nI (dst g t)) ≤ (0 : Int32)) := nI_nle (by unfold dst; omega) (by unfold dst; omega)
    refine lv_if_le (tgt := 576) hx hb dL_law_534 (by decide) (fun c_534 => absurd c_534 k_534) (fun c_534 => ?_)
    refine lv_iload hx hb dL_law_537 (lv_at hl 15 rfl) ?_
    refine lv_iload hx hb dL_law_539 (lv_at hl 1 rfl) ?_
    refine lv_iadd hx hb dL_law_541 ?_
    refine k_top (y := nI (ct + dst g t)) (nI_add _ _) ?_
    refine lv_istore (lv' := [(11, .int (nI (ct + dst g t))), (17, .int 1), (19, .int (nI (dst g t))), (18, .int (nI t)), (12, .int (nI j)), (0, .ref bs), (1, .ref (a 0)), (2, .ref (q 0)), (3, .ref (q 1)), (4, .ref (q 2)), (5, .ref (q 3)), (6, .ref (q 4)), (7, .int (nI n)), (8, .int (nI no)), (9, .int (nI (cntN dn no))), (10, .int 0)]) hx hb dL_law_542 hl (by decide) rfl (fun ls hl => ?_)
    refine lv_iload hx hb dL_law_544 (lv_at hl 1 rfl) ?_
    have k_546 : ¬ ((1 : Int32) = (0 : Int32)) := by decide
    refine lv_if_eq (tgt := 573) hx hb dL_law_546 (by decide) (fun c_546 => absurd c_546 k_546) (fun c_546 => ?_)
    obtain ⟨mv2, eP, hV2⟩ := pass_eq (c := ct) (mv := mv) (q := dst g t) hg ht hd1 (by omega) (by omega) (Nat.le_refl _) hV
    refine lv_aload_n hx hb dL_law_549 rfl (lv_at hl 6 rfl) ?_
    refine lv_iload hx hb dL_law_550 (lv_at hl 2 rfl) ?_
    have kk_552 : k_X3_pass (nI ct) (nI (dst g t)) = 0 := k_pass hd1 (by omega) (by omega)
    refine k_m (wc := [wcA a (nI ct), wcR a (nI g) (nI t) 0 0, wcI G (a 10) 6 mv]) (w1 := [wcA a ((f_X3_pass (nI ct) (nI g) (nI t) 0 0 mv (nI (dst g t))).2.1), wcR a ((f_X3_pass (nI ct) (nI g) (nI t) 0 0 mv (nI (dst g t))).2.2.1) (nI t) 0 0, wcI G (a 10) 6 ((f_X3_pass (nI ct) (nI g) (nI t) 0 0 mv (nI (dst g t))).2.2.2)]) (wn := [wcA a ((f_X3_pass (nI ct) (nI g) (nI t) 0 0 mv (nI (dst g t))).2.1), wcS a (nI n), wcI G (a 2) 6 sc, wcI G (a 3) 20 cl, wcI G (a 4) 20 wt, wcI G (a 5) 20 kn, wcI G (a 6) 20 sp, wcR a ((f_X3_pass (nI ct) (nI g) (nI t) 0 0 mv (nI (dst g t))).2.2.1) (nI t) 0 0, wcZ G (a 8) 7 (upd db g 0), wcZ G (a 9) 4 ins, wcI G (a 10) 6 ((f_X3_pass (nI ct) (nI g) (nI t) 0 0 mv (nI (dst g t))).2.2.2), wcO a (nI no) (nI la), wcI G (a 12) 30 ob, wcI G (a 13) 30 od, wcZ G (a 14) 30 dn, wcI G (q 0) 20 cl, wcI G (q 1) 20 wt, wcI G (q 2) 6 sc, wcI G (q 3) 20 lo, wcI G (q 4) 30 ob]) (va_runV (As := [.int (nI (dst g t))]) (rest := []) ⟨hx, hb, hml, hown, hts⟩ (c_X3_pass l hl9 G a H.size (nI ct) (nI g) (nI t) 0 0 mv (nI (dst g t)) (hmv_of hg ht) kk_552) (cwV 1 hts gL_law_X3_pass rfl rfl rfl ⟨rfl, by decide +kernel, by decide +kernel, by decide +kernel⟩ ⟨Nat.le_of_ble_eq_true rfl, Nat.le_of_ble_eq_true rfl⟩) ⟨GP.blind, va_recv hE.1 hP (ci := 3) (q0 := 0) rfl rfl, GP.go (wc := [wcA a (nI ct), wcR a (nI g) (nI t) 0 0, wcI G (a 10) 6 mv]) hE hP hD hS hA [0, 7, 10] rfl (by decide) [.ref (a 0), .int (nI (dst g t))]⟩ rfl rfl hl.1 rfl (lv_room (Nat.le_of_ble_eq_true rfl)) dL_law_552 ⟨Nat.le_of_ble_eq_true rfl, Nat.le_of_ble_eq_true rfl⟩) hP hD hS hA [0, 7, 10] rfl rfl rfl rfl (fun H locs hP hD hS => ?_)
    have hq_552 : f_X3_pass (nI ct) (nI g) (nI t) 0 0 mv (nI (dst g t)) = (nI (ct + dst g t), nI (ct + dst g t), nI t, mv2) := eP
    rw [hq_552] at hP hD
    have hP : va_P G.1 vwCl [wcA a (nI (ct + dst g t)), wcS a (nI n), wcI G (a 2) 6 sc, wcI G (a 3) 20 cl, wcI G (a 4) 20 wt, wcI G (a 5) 20 kn, wcI G (a 6) 20 sp, wcR a (nI t) (nI t) 0 0, wcZ G (a 8) 7 (upd db g 0), wcZ G (a 9) 4 ins, wcI G (a 10) 6 mv2, wcO a (nI no) (nI la), wcI G (a 12) 30 ob, wcI G (a 13) 30 od, wcZ G (a 14) 30 dn, wcI G (q 0) 20 cl, wcI G (q 1) 20 wt, wcI G (q 2) 6 sc, wcI G (q 3) 20 lo, wcI G (q 4) 30 ob] H := hP
    have hD : va_D _ [wcA a (nI (ct + dst g t)), wcS a (nI n), wcI G (a 2) 6 sc, wcI G (a 3) 20 cl, wcI G (a 4) 20 wt, wcI G (a 5) 20 kn, wcI G (a 6) 20 sp, wcR a (nI t) (nI t) 0 0, wcZ G (a 8) 7 (upd db g 0), wcZ G (a 9) 4 ins, wcI G (a 10) 6 mv2, wcO a (nI no) (nI la), wcI G (a 12) 30 ob, wcI G (a 13) 30 od, wcZ G (a 14) 30 dn, wcI G (q 0) 20 cl, wcI G (q 1) 20 wt, wcI G (q 2) 6 sc, wcI G (q 3) 20 lo, wcI G (q 4) 30 ob] := hD
    refine k_top (y := nI (ct + dst g t)) (by rw [hq_552]) ?_
    refine lv_iload hx hb dL_law_555 (lv_at hl 0 rfl) ?_
    have k_557 : (nI (ct + dst g t)) = (nI (ct + dst g t)) := rfl
    refine lv_icmp_ne (tgt := 573) hx hb dL_law_557 (by decide) (fun c_557 => absurd k_557 c_557) (fun c_557 => ?_)
    refine lv_aload_n hx hb dL_law_560 rfl (lv_at hl 6 rfl) ?_
    refine k_p (va_runV (As := []) (rest := []) ⟨hx, hb, hml, hown, hts⟩ (c_X3_opened l G a H.size (nI (ct + dst g t)) (nI t) (nI t) 0 0) (cwV 0 hts gL_law_X3_opened rfl rfl rfl ⟨rfl, by decide +kernel, by decide +kernel, by decide +kernel⟩ ⟨Nat.le_of_ble_eq_true rfl, Nat.le_of_ble_eq_true rfl⟩) ⟨GP.blind, va_recv hE.1 hP (ci := 3) (q0 := 0) rfl rfl, GP.go (wc := [wcA a (nI (ct + dst g t)), wcR a (nI t) (nI t) 0 0]) hE hP hD hS hA [0, 7] rfl (by decide) [.ref (a 0)]⟩ rfl rfl hl.1 rfl (lv_room (Nat.le_of_ble_eq_true rfl)) dL_law_561 ⟨Nat.le_of_ble_eq_true rfl, Nat.le_of_ble_eq_true rfl⟩) ?_
    refine k_top (y := nI t) opened_eq ?_
    refine lv_iload hx hb dL_law_564 (lv_at hl 3 rfl) ?_
    have k_566 : (nI t) = (nI t) := rfl
    refine lv_icmp_ne (tgt := 573) hx hb dL_law_566 (by decide) (fun c_566 => absurd k_566 c_566) (fun c_566 => ?_)
    refine lv_iconst (v := 1) hx hb dL_law_569 (by decide) ?_
    refine lv_goto (tgt := 574) hx hb dL_law_570 (by decide) ?_
    refine lv_istore (lv' := [(17, .int 1), (11, .int (nI (ct + dst g t))), (19, .int (nI (dst g t))), (18, .int (nI t)), (12, .int (nI j)), (0, .ref bs), (1, .ref (a 0)), (2, .ref (q 0)), (3, .ref (q 1)), (4, .ref (q 2)), (5, .ref (q 3)), (6, .ref (q 4)), (7, .int (nI n)), (8, .int (nI no)), (9, .int (nI (cntN dn no))), (10, .int 0)]) hx hb dL_law_574 hl (by decide) rfl (fun ls hl => ?_)
    refine lv_goto (tgt := 869) hx hb dL_law_576 (by decide) ?_
    exact hk n no t (ct + dst g t) la sc cl wt kn sp (upd db g 0) ins mv2 ob od dn lo mli H _ ls (hIV.pass ht (by omega) hV2) hP hD hS (lv_sub hl [0, 4, 5, 6, 7, 8, 9, 10, 11, 12, 13, 14, 15, 1] rfl)
set_option maxHeartbeats 8000000 in
set_option maxRecDepth 100000 in
theorem law_open {p : Program} {l : Launch} {e : Env} {s : State} {m : MethodId} {below : List Frame} {meth : Method} {c : Code} {Q : State → Prop} {bs : Nat} {G : GT} {a q : Nat → Nat} {j : Nat} {H : Heap} {locs : List Loc} {ls : Array Slot} (n no g ct la : Nat) (sc cl wt kn sp db ins mv ob od dn lo mli : Nat → Int32) 
    (hl9 : l.stackTraces = false) (hx : p.tables.exec = Jvm.exec) (hb : c.code = cL_law) (hml : c.maxLocals = 21) (hown : s.vm.findClass RL = some m.cls) (hts : ∀ w ∈ wsL_law, w.before #[Value.ref bs] s = true) (hE : Ev G s) (hj : j < 60) (hIV : IV j n no g ct la sp mli ob od dn mv ins lo)
    (hP : va_P G.1 vwCl (LW G a q n no g ct la sc cl wt kn sp db ins mv ob od dn lo) H) (hD : va_D (fun q : Nat => s.heap.size ≤ q) (LW G a q n no g ct la sc cl wt kn sp db ins mv ob od dn lo)) (hS : va_S (fun q : Nat => s.heap.size ≤ q) s.heap H locs) (hl : lv_has ls 21 [(17, .int 1), (12, .int (nI j)), (0, .ref bs), (1, .ref (a 0)), (2, .ref (q 0)), (3, .ref (q 1)), (4, .ref (q 2)), (5, .ref (q 3)), (6, .ref (q 4)), (7, .int (nI n)), (8, .int (nI no)), (9, .int (nI (cntN dn no))), (10, .int 0), (11, .int (nI ct))]) (hk : LK p l e s m below meth c Q bs G a q j) : W p l e room_1 s m #[Value.ref bs] below meth c H locs 20 311 Q (F0 m 445 ls []) := by
  have hA : ∀ q : Nat, s.heap.size ≤ q → (fun q : Nat => s.heap.size ≤ q) q := fun _ h => h
  obtain ⟨hn, hno, hg, hct, hla, hR, hO, hV, hI, hOP⟩ := id hIV
  have hP : va_P G.1 vwCl [wcA a (nI ct), wcS a (nI n), wcI G (a 2) 6 sc, wcI G (a 3) 20 cl, wcI G (a 4) 20 wt, wcI G (a 5) 20 kn, wcI G (a 6) 20 sp, wcR a (nI g) (nI g) 0 0, wcZ G (a 8) 7 db, wcZ G (a 9) 4 ins, wcI G (a 10) 6 mv, wcO a (nI no) (nI la), wcI G (a 12) 30 ob, wcI G (a 13) 30 od, wcZ G (a 14) 30 dn, wcI G (q 0) 20 cl, wcI G (q 1) 20 wt, wcI G (q 2) 6 sc, wcI G (q 3) 20 lo, wcI G (q 4) 30 ob] H := hP
  have hD : va_D (fun q : Nat => s.heap.size ≤ q) [wcA a (nI ct), wcS a (nI n), wcI G (a 2) 6 sc, wcI G (a 3) 20 cl, wcI G (a 4) 20 wt, wcI G (a 5) 20 kn, wcI G (a 6) 20 sp, wcR a (nI g) (nI g) 0 0, wcZ G (a 8) 7 db, wcZ G (a 9) 4 ins, wcI G (a 10) 6 mv, wcO a (nI no) (nI la), wcI G (a 12) 30 ob, wcI G (a 13) 30 od, wcZ G (a 14) 30 dn, wcI G (q 0) 20 cl, wcI G (q 1) 20 wt, wcI G (q 2) 6 sc, wcI G (q 3) 20 lo, wcI G (q 4) 30 ob] := hD
  refine lv_aload_n hx hb dL_law_445 rfl (lv_at hl 3 rfl) ?_
  refine k_p (va_runV (As := []) (rest := []) ⟨hx, hb, hml, hown, hts⟩ (c_X3_nextAisle l G a H.size (nI ct) (nI n) sp (nI no) (nI la) ob od dn ⟨n, hn, rfl⟩ ⟨no, hno, rfl⟩) (cwV 0 hts gL_law_X3_nextAisle rfl rfl rfl ⟨rfl, by decide +kernel, by decide +kernel, by decide +kernel⟩ ⟨Nat.le_of_ble_eq_true rfl, Nat.le_of_ble_eq_true rfl⟩) ⟨GP.blind, va_recv hE.1 hP (ci := 3) (q0 := 0) rfl rfl, GP.go (wc := [wcA a (nI ct), wcS a (nI n), wcI G (a 6) 20 sp, wcO a (nI no) (nI la), wcI G (a 12) 30 ob, wcI G (a 13) 30 od, wcZ G (a 14) 30 dn]) hE hP hD hS hA [0, 1, 6, 11, 12, 13, 14] rfl (by decide) [.ref (a 0)]⟩ rfl rfl hl.1 rfl (lv_room (Nat.le_of_ble_eq_true rfl)) dL_law_446 ⟨Nat.le_of_ble_eq_true rfl, Nat.le_of_ble_eq_true rfl⟩) ?_
  rcases next_cases (dn := dn) hR hn hno hO with ex | ⟨t, i0, ht, ex, hi0, hd0, ha0⟩
  · refine k_top (y := (-1)) ex ?_
    refine lv_istore (lv' := [(18, .int (-1)), (17, .int 1), (12, .int (nI j)), (0, .ref bs), (1, .ref (a 0)), (2, .ref (q 0)), (3, .ref (q 1)), (4, .ref (q 2)), (5, .ref (q 3)), (6, .ref (q 4)), (7, .int (nI n)), (8, .int (nI no)), (9, .int (nI (cntN dn no))), (10, .int 0), (11, .int (nI ct))]) hx hb dL_law_449 hl (by decide) rfl (fun ls hl => ?_)
    refine lv_aload_n hx hb dL_law_451 rfl (lv_at hl 4 rfl) ?_
    refine k_p (va_runV (As := []) (rest := []) ⟨hx, hb, hml, hown, hts⟩ (c_X3_opened l G a H.size (nI ct) (nI g) (nI g) 0 0) (cwV 0 hts gL_law_X3_opened rfl rfl rfl ⟨rfl, by decide +kernel, by decide +kernel, by decide +kernel⟩ ⟨Nat.le_of_ble_eq_true rfl, Nat.le_of_ble_eq_true rfl⟩) ⟨GP.blind, va_recv hE.1 hP (ci := 3) (q0 := 0) rfl rfl, GP.go (wc := [wcA a (nI ct), wcR a (nI g) (nI g) 0 0]) hE hP hD hS hA [0, 7] rfl (by decide) [.ref (a 0)]⟩ rfl rfl hl.1 rfl (lv_room (Nat.le_of_ble_eq_true rfl)) dL_law_452 ⟨Nat.le_of_ble_eq_true rfl, Nat.le_of_ble_eq_true rfl⟩) ?_
    refine k_top (y := nI g) opened_eq ?_
    have k_455 : ¬ ((nI g) < (0 : Int32)) := nI_pos (by omega)
    refine lv_if_lt (tgt := 576) hx hb dL_law_455 (by decide) (fun c_455 => absurd c_455 k_455) (fun c_455 => ?_)
    refine lv_iload hx hb dL_law_458 (lv_at hl 0 rfl) ?_
    have k_460 : ((-1) : Int32) < (0 : Int32) := by decide
    refine lv_if_lt (tgt := 576) hx hb dL_law_460 (by decide) (fun c_460 => ?_) (fun c_460 => absurd k_460 c_460)
    refine lv_goto (tgt := 869) hx hb dL_law_576 (by decide) ?_
    exact hk n no g ct la sc cl wt kn sp db ins mv ob od dn lo mli H _ ls hIV.same hP hD hS (lv_sub hl [1, 2, 3, 4, 5, 6, 7, 8, 9, 10, 11, 12, 13, 14] rfl)
  · refine k_top (y := nI t) ex ?_
    refine lv_istore (lv' := [(18, .int (nI t)), (17, .int 1), (12, .int (nI j)), (0, .ref bs), (1, .ref (a 0)), (2, .ref (q 0)), (3, .ref (q 1)), (4, .ref (q 2)), (5, .ref (q 3)), (6, .ref (q 4)), (7, .int (nI n)), (8, .int (nI no)), (9, .int (nI (cntN dn no))), (10, .int 0), (11, .int (nI ct))]) hx hb dL_law_449 hl (by decide) rfl (fun ls hl => ?_)
    refine lv_aload_n hx hb dL_law_451 rfl (lv_at hl 4 rfl) ?_
    refine k_p (va_runV (As := []) (rest := []) ⟨hx, hb, hml, hown, hts⟩ (c_X3_opened l G a H.size (nI ct) (nI g) (nI g) 0 0) (cwV 0 hts gL_law_X3_opened rfl rfl rfl ⟨rfl, by decide +kernel, by decide +kernel, by decide +kernel⟩ ⟨Nat.le_of_ble_eq_true rfl, Nat.le_of_ble_eq_true rfl⟩) ⟨GP.blind, va_recv hE.1 hP (ci := 3) (q0 := 0) rfl rfl, GP.go (wc := [wcA a (nI ct), wcR a (nI g) (nI g) 0 0]) hE hP hD hS hA [0, 7] rfl (by decide) [.ref (a 0)]⟩ rfl rfl hl.1 rfl (lv_room (Nat.le_of_ble_eq_true rfl)) dL_law_452 ⟨Nat.le_of_ble_eq_true rfl, Nat.le_of_ble_eq_true rfl⟩) ?_
    refine k_top (y := nI g) opened_eq ?_
    have k_455 : ¬ ((nI g) < (0 : Int32)) := nI_pos (by omega)
    refine lv_if_lt (tgt := 576) hx hb dL_law_455 (by decide) (fun c_455 => absurd c_455 k_455) (fun c_455 => ?_)
    refine lv_iload hx hb dL_law_458 (lv_at hl 0 rfl) ?_
    have k_460 : ¬ ((nI t) < (0 : Int32)) := nI_pos (by omega)
    refine lv_if_lt (tgt := 576) hx hb dL_law_460 (by decide) (fun c_460 => absurd c_460 k_460) (fun c_460 => ?_)
    refine lv_aload_n hx hb dL_law_463 rfl (lv_at hl 4 rfl) ?_
    have kk_464 : k_X3_look (nI g) (nI g) = 0 := k_look hg
    refine k_m (wc := [wcA a (nI ct), wcR a (nI g) (nI g) 0 0, wcZ G (a 8) 7 db]) (w1 := [wcA a (nI ct), wcR a (nI g) (nI g) 0 0, wcZ G (a 8) 7 ((f_X3_look (nI g) (nI g) db).2)]) (wn := [wcA a (nI ct), wcS a (nI n), wcI G (a 2) 6 sc, wcI G (a 3) 20 cl, wcI G (a 4) 20 wt, wcI G (a 5) 20 kn, wcI G (a 6) 20 sp, wcR a (nI g) (nI g) 0 0, wcZ G (a 8) 7 ((f_X3_look (nI g) (nI g) db).2), wcZ G (a 9) 4 ins, wcI G (a 10) 6 mv, wcO a (nI no) (nI la), wcI G (a 12) 30 ob, wcI G (a 13) 30 od, wcZ G (a 14) 30 dn, wcI G (q 0) 20 cl, wcI G (q 1) 20 wt, wcI G (q 2) 6 sc, wcI G (q 3) 20 lo, wcI G (q 4) 30 ob]) (va_runV (As := []) (rest := []) ⟨hx, hb, hml, hown, hts⟩ (c_X3_look l hl9 G a H.size (nI ct) (nI g) (nI g) 0 0 db kk_464) (cwV 0 hts gL_law_X3_look rfl rfl rfl ⟨rfl, by decide +kernel, by decide +kernel, by decide +kernel⟩ ⟨Nat.le_of_ble_eq_true rfl, Nat.le_of_ble_eq_true rfl⟩) ⟨GP.blind, va_recv hE.1 hP (ci := 3) (q0 := 0) rfl rfl, GP.go (wc := [wcA a (nI ct), wcR a (nI g) (nI g) 0 0, wcZ G (a 8) 7 db]) hE hP hD hS hA [0, 7, 8] rfl (by decide) [.ref (a 0)]⟩ rfl rfl hl.1 rfl (lv_room (Nat.le_of_ble_eq_true rfl)) dL_law_464 ⟨Nat.le_of_ble_eq_true rfl, Nat.le_of_ble_eq_true rfl⟩) hP hD hS hA [0, 7, 8] rfl rfl rfl rfl (fun H locs hP hD hS => ?_)
    have hq_464 : f_X3_look (nI g) (nI g) db = (f_X1_hasDoubt db (nI g), upd db g 0) := look_eq hg
    rw [hq_464] at hP hD
    have hP : va_P G.1 vwCl [wcA a (nI ct), wcS a (nI n), wcI G (a 2) 6 sc, wcI G (a 3) 20 cl, wcI G (a 4) 20 wt, wcI G (a 5) 20 kn, wcI G (a 6) 20 sp, wcR a (nI g) (nI g) 0 0, wcZ G (a 8) 7 (upd db g 0), wcZ G (a 9) 4 ins, wcI G (a 10) 6 mv, wcO a (nI no) (nI la), wcI G (a 12) 30 ob, wcI G (a 13) 30 od, wcZ G (a 14) 30 dn, wcI G (q 0) 20 cl, wcI G (q 1) 20 wt, wcI G (q 2) 6 sc, wcI G (q 3) 20 lo, wcI G (q 4) 30 ob] H := hP
    have hD : va_D _ [wcA a (nI ct), wcS a (nI n), wcI G (a 2) 6 sc, wcI G (a 3) 20 cl, wcI G (a 4) 20 wt, wcI G (a 5) 20 kn, wcI G (a 6) 20 sp, wcR a (nI g) (nI g) 0 0, wcZ G (a 8) 7 (upd db g 0), wcZ G (a 9) 4 ins, wcI G (a 10) 6 mv, wcO a (nI no) (nI la), wcI G (a 12) 30 ob, wcI G (a 13) 30 od, wcZ G (a 14) 30 dn, wcI G (q 0) 20 cl, wcI G (q 1) 20 wt, wcI G (q 2) 6 sc, wcI G (q 3) 20 lo, wcI G (q 4) 30 ob] := hD
    refine k_top (y := f_X1_hasDoubt db (nI g)) (by rw [hq_464]) ?_
    refine lv_pop hx hb dL_law_467 rfl ?_
    refine lv_aload_n hx hb dL_law_468 rfl (lv_at hl 4 rfl) ?_
    refine k_p (va_runV (As := []) (rest := []) ⟨hx, hb, hml, hown, hts⟩ (c_X3_opened l G a H.size (nI ct) (nI g) (nI g) 0 0) (cwV 0 hts gL_law_X3_opened rfl rfl rfl ⟨rfl, by decide +kernel, by decide +kernel, by decide +kernel⟩ ⟨Nat.le_of_ble_eq_true rfl, Nat.le_of_ble_eq_true rfl⟩) ⟨GP.blind, va_recv hE.1 hP (ci := 3) (q0 := 0) rfl rfl, GP.go (wc := [wcA a (nI ct), wcR a (nI g) (nI g) 0 0]) hE hP hD hS hA [0, 7] rfl (by decide) [.ref (a 0)]⟩ rfl rfl hl.1 rfl (lv_room (Nat.le_of_ble_eq_true rfl)) dL_law_469 ⟨Nat.le_of_ble_eq_true rfl, Nat.le_of_ble_eq_true rfl⟩) ?_
    refine k_top (y := nI g) opened_eq ?_
    refine lv_iload hx hb dL_law_472 (lv_at hl 0 rfl) ?_
    refine lv_icmp_le (tgt := 487) hx hb dL_law_474 (by decide) (fun c_474 => ?_) (fun c_474 => ?_)
    · refine lv_iload hx hb dL_law_487 (lv_at hl 0 rfl) ?_
      refine lv_aload_n hx hb dL_law_489 rfl (lv_at hl 4 rfl) ?_
      refine k_p (va_runV (As := []) (rest := [.int (nI t)]) ⟨hx, hb, hml, hown, hts⟩ (c_X3_opened l G a H.size (nI ct) (nI g) (nI g) 0 0) (cwV 0 hts gL_law_X3_opened rfl rfl rfl ⟨rfl, by decide +kernel, by decide +kernel, by decide +kernel⟩ ⟨Nat.le_of_ble_eq_true rfl, Nat.le_of_ble_eq_true rfl⟩) ⟨GP.blind, va_recv hE.1 hP (ci := 3) (q0 := 0) rfl rfl, GP.go (wc := [wcA a (nI ct), wcR a (nI g) (nI g) 0 0]) hE hP hD hS hA [0, 7] rfl (by decide) [.ref (a 0)]⟩ rfl rfl hl.1 rfl (lv_room (Nat.le_of_ble_eq_true rfl)) dL_law_490 ⟨Nat.le_of_ble_eq_true rfl, Nat.le_of_ble_eq_true rfl⟩) ?_
      refine k_top (y := nI g) opened_eq ?_
      refine lv_isub hx hb dL_law_493 ?_
      refine k_top (y := nI (dst g t)) (subL hg ht c_474) ?_
      exact law_open2 n no g ct la sc cl wt kn sp db ins mv ob od dn lo mli t ht hl9 hx hb hml hown hts hE hj hIV hP hD hS (lv_sub hl [0, 1, 2, 3, 4, 5, 6, 7, 8, 9, 10, 11, 12, 13, 14] rfl) hk
    · refine lv_aload_n hx hb dL_law_477 rfl (lv_at hl 4 rfl) ?_
      refine k_p (va_runV (As := []) (rest := []) ⟨hx, hb, hml, hown, hts⟩ (c_X3_opened l G a H.size (nI ct) (nI g) (nI g) 0 0) (cwV 0 hts gL_law_X3_opened rfl rfl rfl ⟨rfl, by decide +kernel, by decide +kernel, by decide +kernel⟩ ⟨Nat.le_of_ble_eq_true rfl, Nat.le_of_ble_eq_true rfl⟩) ⟨GP.blind, va_recv hE.1 hP (ci := 3) (q0 := 0) rfl rfl, GP.go (wc := [wcA a (nI ct), wcR a (nI g) (nI g) 0 0]) hE hP hD hS hA [0, 7] rfl (by decide) [.ref (a 0)]⟩ rfl rfl hl.1 rfl (lv_room (Nat.le_of_ble_eq_true rfl)) dL_law_478 ⟨Nat.le_of_ble_eq_true rfl, Nat.le_of_ble_eq_true rfl⟩) ?_
      refine k_top (y := nI g) opened_eq ?_
      refine lv_iload hx hb dL_law_481 (lv_at hl 0 rfl) ?_
      refine lv_isub hx hb dL_law_483 ?_
      refine k_top (y := nI (dst g t)) (subR hg ht c_474) ?_
      refine lv_goto (tgt := 494) hx hb dL_law_484 (by decide) ?_
      exact law_open2 n no g ct la sc cl wt kn sp db ins mv ob od dn lo mli t ht hl9 hx hb hml hown hts hE hj hIV hP hD hS (lv_sub hl [0, 1, 2, 3, 4, 5, 6, 7, 8, 9, 10, 11, 12, 13, 14] rfl) hk
set_option maxHeartbeats 8000000 in
set_option maxRecDepth 100000 in
theorem law_fetch {p : Program} {l : Launch} {e : Env} {s : State} {m : MethodId} {below : List Frame} {meth : Method} {c : Code} {Q : State → Prop} {bs : Nat} {G : GT} {a q : Nat → Nat} {j : Nat} {H : Heap} {locs : List Loc} {ls : Array Slot} (n no g ct la : Nat) (sc cl wt kn sp db ins mv ob od dn lo mli : Nat → Int32) 
    (hl9 : l.stackTraces = false) (hx : p.tables.exec = Jvm.exec) (hb : c.code = cL_law) (hml : c.maxLocals = 21) (hown : s.vm.findClass RL = some m.cls) (hts : ∀ w ∈ wsL_law, w.before #[Value.ref bs] s = true) (hE : Ev G s) (hj : j < 60) (hIV : IV j n no g ct la sp mli ob od dn mv ins lo)
    (hP : va_P G.1 vwCl (LW G a q n no g ct la sc cl wt kn sp db ins mv ob od dn lo) H) (hD : va_D (fun q : Nat => s.heap.size ≤ q) (LW G a q n no g ct la sc cl wt kn sp db ins mv ob od dn lo)) (hS : va_S (fun q : Nat => s.heap.size ≤ q) s.heap H locs) (hl : lv_has ls 21 [(12, .int (nI j)), (0, .ref bs), (1, .ref (a 0)), (2, .ref (q 0)), (3, .ref (q 1)), (4, .ref (q 2)), (5, .ref (q 3)), (6, .ref (q 4)), (7, .int (nI n)), (8, .int (nI no)), (9, .int (nI (cntN dn no))), (10, .int 0), (11, .int (nI ct))]) (hk : LK p l e s m below meth c Q bs G a q j) : W p l e room_1 s m #[Value.ref bs] below meth c H locs 20 311 Q (F0 m 593 ls []) := by
  have hA : ∀ q : Nat, s.heap.size ≤ q → (fun q : Nat => s.heap.size ≤ q) q := fun _ h => h
  obtain ⟨hn, hno, hg, hct, hla, hR, hO, hV, hI, hOP⟩ := id hIV
  have hP : va_P G.1 vwCl [wcA a (nI ct), wcS a (nI n), wcI G (a 2) 6 sc, wcI G (a 3) 20 cl, wcI G (a 4) 20 wt, wcI G (a 5) 20 kn, wcI G (a 6) 20 sp, wcR a (nI g) (nI g) 0 0, wcZ G (a 8) 7 db, wcZ G (a 9) 4 ins, wcI G (a 10) 6 mv, wcO a (nI no) (nI la), wcI G (a 12) 30 ob, wcI G (a 13) 30 od, wcZ G (a 14) 30 dn, wcI G (q 0) 20 cl, wcI G (q 1) 20 wt, wcI G (q 2) 6 sc, wcI G (q 3) 20 lo, wcI G (q 4) 30 ob] H := hP
  have hD : va_D (fun q : Nat => s.heap.size ≤ q) [wcA a (nI ct), wcS a (nI n), wcI G (a 2) 6 sc, wcI G (a 3) 20 cl, wcI G (a 4) 20 wt, wcI G (a 5) 20 kn, wcI G (a 6) 20 sp, wcR a (nI g) (nI g) 0 0, wcZ G (a 8) 7 db, wcZ G (a 9) 4 ins, wcI G (a 10) 6 mv, wcO a (nI no) (nI la), wcI G (a 12) 30 ob, wcI G (a 13) 30 od, wcZ G (a 14) 30 dn, wcI G (q 0) 20 cl, wcI G (q 1) 20 wt, wcI G (q 2) 6 sc, wcI G (q 3) 20 lo, wcI G (q 4) 30 ob] := hD
  refine lv_iload hx hb dL_law_593 (lv_at hl 11 rfl) ?_
  refine lv_iconst (v := 1) hx hb dL_law_595 (by decide) ?_
  have k_596 : ¬ ((0 : Int32) = (1 : Int32)) := by decide
  refine lv_icmp_eq (tgt := 608) hx hb dL_law_596 (by decide) (fun c_596 => absurd c_596 k_596) (fun c_596 => ?_)
  refine lv_aload_n hx hb dL_law_599 rfl (lv_at hl 2 rfl) ?_
  refine lv_iconst (v := 2) hx hb dL_law_600 (by decide) ?_
  have kk_601 : k_X3_goIn (nI g) (nI g) 0 ins 2 = 0 := k_goIn hg hI
  refine k_m (wc := [wcA a (nI ct), wcR a (nI g) (nI g) 0 0, wcZ G (a 9) 4 ins]) (w1 := [wcA a (nI ct), wcR a (nI g) (nI g) 0 0, wcZ G (a 9) 4 ((f_X3_goIn (nI g) (nI g) 0 ins 2).2)]) (wn := [wcA a (nI ct), wcS a (nI n), wcI G (a 2) 6 sc, wcI G (a 3) 20 cl, wcI G (a 4) 20 wt, wcI G (a 5) 20 kn, wcI G (a 6) 20 sp, wcR a (nI g) (nI g) 0 0, wcZ G (a 8) 7 db, wcZ G (a 9) 4 ((f_X3_goIn (nI g) (nI g) 0 ins 2).2), wcI G (a 10) 6 mv, wcO a (nI no) (nI la), wcI G (a 12) 30 ob, wcI G (a 13) 30 od, wcZ G (a 14) 30 dn, wcI G (q 0) 20 cl, wcI G (q 1) 20 wt, wcI G (q 2) 6 sc, wcI G (q 3) 20 lo, wcI G (q 4) 30 ob]) (va_runV (As := [.int 2]) (rest := []) ⟨hx, hb, hml, hown, hts⟩ (c_X3_goIn l hl9 G a H.size (nI ct) (nI g) (nI g) 0 0 ins 2 kk_601) (cwV 1 hts gL_law_X3_goIn rfl rfl rfl ⟨rfl, by decide +kernel, by decide +kernel, by decide +kernel⟩ ⟨Nat.le_of_ble_eq_true rfl, Nat.le_of_ble_eq_true rfl⟩) ⟨GP.blind, va_recv hE.1 hP (ci := 3) (q0 := 0) rfl rfl, GP.go (wc := [wcA a (nI ct), wcR a (nI g) (nI g) 0 0, wcZ G (a 9) 4 ins]) hE hP hD hS hA [0, 7, 9] rfl (by decide) [.ref (a 0), .int 2]⟩ rfl rfl hl.1 rfl (lv_room (Nat.le_of_ble_eq_true rfl)) dL_law_601 ⟨Nat.le_of_ble_eq_true rfl, Nat.le_of_ble_eq_true rfl⟩) hP hD hS hA [0, 7, 9] rfl rfl rfl rfl (fun H locs hP hD hS => ?_)
  have hq_601 : f_X3_goIn (nI g) (nI g) 0 ins 2 = (1, upd ins 2 1) := goIn_eq hg hI
  rw [hq_601] at hP hD
  have hP : va_P G.1 vwCl [wcA a (nI ct), wcS a (nI n), wcI G (a 2) 6 sc, wcI G (a 3) 20 cl, wcI G (a 4) 20 wt, wcI G (a 5) 20 kn, wcI G (a 6) 20 sp, wcR a (nI g) (nI g) 0 0, wcZ G (a 8) 7 db, wcZ G (a 9) 4 (upd ins 2 1), wcI G (a 10) 6 mv, wcO a (nI no) (nI la), wcI G (a 12) 30 ob, wcI G (a 13) 30 od, wcZ G (a 14) 30 dn, wcI G (q 0) 20 cl, wcI G (q 1) 20 wt, wcI G (q 2) 6 sc, wcI G (q 3) 20 lo, wcI G (q 4) 30 ob] H := hP
  have hD : va_D _ [wcA a (nI ct), wcS a (nI n), wcI G (a 2) 6 sc, wcI G (a 3) 20 cl, wcI G (a 4) 20 wt, wcI G (a 5) 20 kn, wcI G (a 6) 20 sp, wcR a (nI g) (nI g) 0 0, wcZ G (a 8) 7 db, wcZ G (a 9) 4 (upd ins 2 1), wcI G (a 10) 6 mv, wcO a (nI no) (nI la), wcI G (a 12) 30 ob, wcI G (a 13) 30 od, wcZ G (a 14) 30 dn, wcI G (q 0) 20 cl, wcI G (q 1) 20 wt, wcI G (q 2) 6 sc, wcI G (q 3) 20 lo, wcI G (q 4) 30 ob] := hD
  refine k_top (y := 1) (by rw [hq_601]) ?_
  refine lv_iconst (v := 1) hx hb dL_law_604 (by decide) ?_
  have k_605 : (1 : Int32) = (1 : Int32) := by decide
  refine lv_icmp_ne (tgt := 612) hx hb dL_law_605 (by decide) (fun c_605 => absurd k_605 c_605) (fun c_605 => ?_)
  refine lv_iconst (v := 1) hx hb dL_law_608 (by decide) ?_
  refine lv_goto (tgt := 613) hx hb dL_law_609 (by decide) ?_
  refine lv_istore (lv' := [(17, .int 1), (12, .int (nI j)), (0, .ref bs), (1, .ref (a 0)), (2, .ref (q 0)), (3, .ref (q 1)), (4, .ref (q 2)), (5, .ref (q 3)), (6, .ref (q 4)), (7, .int (nI n)), (8, .int (nI no)), (9, .int (nI (cntN dn no))), (10, .int 0), (11, .int (nI ct))]) hx hb dL_law_613 hl (by decide) rfl (fun ls hl => ?_)
  refine lv_aload_n hx hb dL_law_615 rfl (lv_at hl 3 rfl) ?_
  refine k_p (va_runV (As := []) (rest := []) ⟨hx, hb, hml, hown, hts⟩ (c_X3_nextAisle l G a H.size (nI ct) (nI n) sp (nI no) (nI la) ob od dn ⟨n, hn, rfl⟩ ⟨no, hno, rfl⟩) (cwV 0 hts gL_law_X3_nextAisle rfl rfl rfl ⟨rfl, by decide +kernel, by decide +kernel, by decide +kernel⟩ ⟨Nat.le_of_ble_eq_true rfl, Nat.le_of_ble_eq_true rfl⟩) ⟨GP.blind, va_recv hE.1 hP (ci := 3) (q0 := 0) rfl rfl, GP.go (wc := [wcA a (nI ct), wcS a (nI n), wcI G (a 6) 20 sp, wcO a (nI no) (nI la), wcI G (a 12) 30 ob, wcI G (a 13) 30 od, wcZ G (a 14) 30 dn]) hE hP hD hS hA [0, 1, 6, 11, 12, 13, 14] rfl (by decide) [.ref (a 0)]⟩ rfl rfl hl.1 rfl (lv_room (Nat.le_of_ble_eq_true rfl)) dL_law_616 ⟨Nat.le_of_ble_eq_true rfl, Nat.le_of_ble_eq_true rfl⟩) ?_
  rcases next_cases (dn := dn) hR hn hno hO with ex | ⟨t, i0, ht, ex, hi0, hd0, ha0⟩
  · refine k_top (y := (-1)) ex ?_
    refine lv_istore (lv' := [(18, .int (-1)), (17, .int 1), (12, .int (nI j)), (0, .ref bs), (1, .ref (a 0)), (2, .ref (q 0)), (3, .ref (q 1)), (4, .ref (q 2)), (5, .ref (q 3)), (6, .ref (q 4)), (7, .int (nI n)), (8, .int (nI no)), (9, .int (nI (cntN dn no))), (10, .int 0), (11, .int (nI ct))]) hx hb dL_law_619 hl (by decide) rfl (fun ls hl => ?_)
    refine lv_iload hx hb dL_law_621 (lv_at hl 0 rfl) ?_
    refine lv_aload_n hx hb dL_law_623 rfl (lv_at hl 4 rfl) ?_
    refine k_p (va_runV (As := []) (rest := [.int (-1)]) ⟨hx, hb, hml, hown, hts⟩ (c_X3_opened l G a H.size (nI ct) (nI g) (nI g) 0 0) (cwV 0 hts gL_law_X3_opened rfl rfl rfl ⟨rfl, by decide +kernel, by decide +kernel, by decide +kernel⟩ ⟨Nat.le_of_ble_eq_true rfl, Nat.le_of_ble_eq_true rfl⟩) ⟨GP.blind, va_recv hE.1 hP (ci := 3) (q0 := 0) rfl rfl, GP.go (wc := [wcA a (nI ct), wcR a (nI g) (nI g) 0 0]) hE hP hD hS hA [0, 7] rfl (by decide) [.ref (a 0)]⟩ rfl rfl hl.1 rfl (lv_room (Nat.le_of_ble_eq_true rfl)) dL_law_624 ⟨Nat.le_of_ble_eq_true rfl, Nat.le_of_ble_eq_true rfl⟩) ?_
    refine k_top (y := nI g) opened_eq ?_
    have k_627 : ¬ (((-1) : Int32) = (nI g)) := fun z => nI_nm1 (n := g) (by omega) z.symm
    refine lv_icmp_ne (tgt := 700) hx hb dL_law_627 (by decide) (fun c_627 => ?_) (fun c_627 => absurd c_627 k_627)
    refine lv_iload hx hb dL_law_700 (lv_at hl 1 rfl) ?_
    have k_702 : ¬ ((1 : Int32) = (0 : Int32)) := by decide
    refine lv_if_eq (tgt := 717) hx hb dL_law_702 (by decide) (fun c_702 => absurd c_702 k_702) (fun c_702 => ?_)
    refine lv_aload_n hx hb dL_law_705 rfl (lv_at hl 4 rfl) ?_
    refine lv_iconst (v := 2) hx hb dL_law_706 (by decide) ?_
    have kk_707 : k_X3_goOut (upd ins 2 1) 2 = 0 := k_goOut
    refine k_m (wc := [wcA a (nI ct), wcR a (nI g) (nI g) 0 0, wcZ G (a 9) 4 (upd ins 2 1)]) (w1 := [wcA a (nI ct), wcR a (nI g) (nI g) 0 0, wcZ G (a 9) 4 ((f_X3_goOut (upd ins 2 1) 2).2)]) (wn := [wcA a (nI ct), wcS a (nI n), wcI G (a 2) 6 sc, wcI G (a 3) 20 cl, wcI G (a 4) 20 wt, wcI G (a 5) 20 kn, wcI G (a 6) 20 sp, wcR a (nI g) (nI g) 0 0, wcZ G (a 8) 7 db, wcZ G (a 9) 4 ((f_X3_goOut (upd ins 2 1) 2).2), wcI G (a 10) 6 mv, wcO a (nI no) (nI la), wcI G (a 12) 30 ob, wcI G (a 13) 30 od, wcZ G (a 14) 30 dn, wcI G (q 0) 20 cl, wcI G (q 1) 20 wt, wcI G (q 2) 6 sc, wcI G (q 3) 20 lo, wcI G (q 4) 30 ob]) (va_runV (As := [.int 2]) (rest := []) ⟨hx, hb, hml, hown, hts⟩ (c_X3_goOut l hl9 G a H.size (nI ct) (nI g) (nI g) 0 0 (upd ins 2 1) 2 kk_707) (cwV 1 hts gL_law_X3_goOut rfl rfl rfl ⟨rfl, by decide +kernel, by decide +kernel, by decide +kernel⟩ ⟨Nat.le_of_ble_eq_true rfl, Nat.le_of_ble_eq_true rfl⟩) ⟨GP.blind, va_recv hE.1 hP (ci := 3) (q0 := 0) rfl rfl, GP.go (wc := [wcA a (nI ct), wcR a (nI g) (nI g) 0 0, wcZ G (a 9) 4 (upd ins 2 1)]) hE hP hD hS hA [0, 7, 9] rfl (by decide) [.ref (a 0), .int 2]⟩ rfl rfl hl.1 rfl (lv_room (Nat.le_of_ble_eq_true rfl)) dL_law_707 ⟨Nat.le_of_ble_eq_true rfl, Nat.le_of_ble_eq_true rfl⟩) hP hD hS hA [0, 7, 9] rfl rfl rfl rfl (fun H locs hP hD hS => ?_)
    have hq_707 : f_X3_goOut (upd ins 2 1) 2 = (0, upd (upd ins 2 1) 2 0) := goOut_eq hI
    rw [hq_707] at hP hD
    have hP : va_P G.1 vwCl [wcA a (nI ct), wcS a (nI n), wcI G (a 2) 6 sc, wcI G (a 3) 20 cl, wcI G (a 4) 20 wt, wcI G (a 5) 20 kn, wcI G (a 6) 20 sp, wcR a (nI g) (nI g) 0 0, wcZ G (a 8) 7 db, wcZ G (a 9) 4 (upd (upd ins 2 1) 2 0), wcI G (a 10) 6 mv, wcO a (nI no) (nI la), wcI G (a 12) 30 ob, wcI G (a 13) 30 od, wcZ G (a 14) 30 dn, wcI G (q 0) 20 cl, wcI G (q 1) 20 wt, wcI G (q 2) 6 sc, wcI G (q 3) 20 lo, wcI G (q 4) 30 ob] H := hP
    have hD : va_D _ [wcA a (nI ct), wcS a (nI n), wcI G (a 2) 6 sc, wcI G (a 3) 20 cl, wcI G (a 4) 20 wt, wcI G (a 5) 20 kn, wcI G (a 6) 20 sp, wcR a (nI g) (nI g) 0 0, wcZ G (a 8) 7 db, wcZ G (a 9) 4 (upd (upd ins 2 1) 2 0), wcI G (a 10) 6 mv, wcO a (nI no) (nI la), wcI G (a 12) 30 ob, wcI G (a 13) 30 od, wcZ G (a 14) 30 dn, wcI G (q 0) 20 cl, wcI G (q 1) 20 wt, wcI G (q 2) 6 sc, wcI G (q 3) 20 lo, wcI G (q 4) 30 ob] := hD
    refine k_top (y := 0) (by rw [hq_707]) ?_
    have k_710 : (0 : Int32) = (0 : Int32) := by decide
    refine lv_if_ne (tgt := 717) hx hb dL_law_710 (by decide) (fun c_710 => absurd k_710 c_710) (fun c_710 => ?_)
    refine lv_iconst (v := 1) hx hb dL_law_713 (by decide) ?_
    refine lv_goto (tgt := 718) hx hb dL_law_714 (by decide) ?_
    refine lv_istore (lv' := [(17, .int 1), (18, .int (-1)), (12, .int (nI j)), (0, .ref bs), (1, .ref (a 0)), (2, .ref (q 0)), (3, .ref (q 1)), (4, .ref (q 2)), (5, .ref (q 3)), (6, .ref (q 4)), (7, .int (nI n)), (8, .int (nI no)), (9, .int (nI (cntN dn no))), (10, .int 0), (11, .int (nI ct))]) hx hb dL_law_718 hl (by decide) rfl (fun ls hl => ?_)
    refine lv_iconst (v := 0) hx hb dL_law_720 (by decide) ?_
    refine lv_istore (lv' := [(10, .int 0), (17, .int 1), (18, .int (-1)), (12, .int (nI j)), (0, .ref bs), (1, .ref (a 0)), (2, .ref (q 0)), (3, .ref (q 1)), (4, .ref (q 2)), (5, .ref (q 3)), (6, .ref (q 4)), (7, .int (nI n)), (8, .int (nI no)), (9, .int (nI (cntN dn no))), (11, .int (nI ct))]) hx hb dL_law_721 hl (by decide) rfl (fun ls hl => ?_)
    refine lv_goto (tgt := 869) hx hb dL_law_723 (by decide) ?_
    exact hk n no g ct la sc cl wt kn sp db (upd (upd ins 2 1) 2 0) mv ob od dn lo mli H _ ls (hIV.inz (ins_back hI)) hP hD hS (lv_sub hl [1, 3, 4, 5, 6, 7, 8, 9, 10, 11, 12, 13, 0, 14] rfl)
  · refine k_top (y := nI t) ex ?_
    refine lv_istore (lv' := [(18, .int (nI t)), (17, .int 1), (12, .int (nI j)), (0, .ref bs), (1, .ref (a 0)), (2, .ref (q 0)), (3, .ref (q 1)), (4, .ref (q 2)), (5, .ref (q 3)), (6, .ref (q 4)), (7, .int (nI n)), (8, .int (nI no)), (9, .int (nI (cntN dn no))), (10, .int 0), (11, .int (nI ct))]) hx hb dL_law_619 hl (by decide) rfl (fun ls hl => ?_)
    by_cases hgt : t = g
    · refine lv_iload hx hb dL_law_621 (lv_at hl 0 rfl) ?_
      refine lv_aload_n hx hb dL_law_623 rfl (lv_at hl 4 rfl) ?_
      refine k_p (va_runV (As := []) (rest := [.int (nI t)]) ⟨hx, hb, hml, hown, hts⟩ (c_X3_opened l G a H.size (nI ct) (nI g) (nI g) 0 0) (cwV 0 hts gL_law_X3_opened rfl rfl rfl ⟨rfl, by decide +kernel, by decide +kernel, by decide +kernel⟩ ⟨Nat.le_of_ble_eq_true rfl, Nat.le_of_ble_eq_true rfl⟩) ⟨GP.blind, va_recv hE.1 hP (ci := 3) (q0 := 0) rfl rfl, GP.go (wc := [wcA a (nI ct), wcR a (nI g) (nI g) 0 0]) hE hP hD hS hA [0, 7] rfl (by decide) [.ref (a 0)]⟩ rfl rfl hl.1 rfl (lv_room (Nat.le_of_ble_eq_true rfl)) dL_law_624 ⟨Nat.le_of_ble_eq_true rfl, Nat.le_of_ble_eq_true rfl⟩) ?_
      refine k_top (y := nI g) opened_eq ?_
      have k_627 : (nI t) = (nI g) := by rw [hgt]
      refine lv_icmp_ne (tgt := 700) hx hb dL_law_627 (by decide) (fun c_627 => absurd k_627 c_627) (fun c_627 => ?_)
      refine lv_aload_n hx hb dL_law_630 rfl (lv_at hl 4 rfl) ?_
      refine k_p (va_runV (As := []) (rest := []) ⟨hx, hb, hml, hown, hts⟩ (c_X3_late l G a H.size (nI ct) (nI no) (nI la)) (cwV 0 hts gL_law_X3_late rfl rfl rfl ⟨rfl, by decide +kernel, by decide +kernel, by decide +kernel⟩ ⟨Nat.le_of_ble_eq_true rfl, Nat.le_of_ble_eq_true rfl⟩) ⟨GP.blind, va_recv hE.1 hP (ci := 3) (q0 := 0) rfl rfl, GP.go (wc := [wcA a (nI ct), wcO a (nI no) (nI la)]) hE hP hD hS hA [0, 11] rfl (by decide) [.ref (a 0)]⟩ rfl rfl hl.1 rfl (lv_room (Nat.le_of_ble_eq_true rfl)) dL_law_631 ⟨Nat.le_of_ble_eq_true rfl, Nat.le_of_ble_eq_true rfl⟩) ?_
      refine k_top (y := nI la) rfl ?_
      refine lv_istore (lv' := [(19, .int (nI la)), (18, .int (nI t)), (17, .int 1), (12, .int (nI j)), (0, .ref bs), (1, .ref (a 0)), (2, .ref (q 0)), (3, .ref (q 1)), (4, .ref (q 2)), (5, .ref (q 3)), (6, .ref (q 4)), (7, .int (nI n)), (8, .int (nI no)), (9, .int (nI (cntN dn no))), (10, .int 0), (11, .int (nI ct))]) hx hb dL_law_634 hl (by decide) rfl (fun ls hl => ?_)
      obtain ⟨i, b, k, hi, hd, eb, hbn, hk36, es, ef⟩ := fetch_cases hR hn hno hg hO hi0 hd0 (by rw [ha0, hgt])
      obtain ⟨la', hla', eF⟩ := fetch_eq (c := ct) (l := la) (sp := sp) (ins := ins) hn hno hi hbn eb ef
      refine lv_aload_n hx hb dL_law_636 rfl (lv_at hl 5 rfl) ?_
      refine lv_iconst (v := 2) hx hb dL_law_637 (by decide) ?_
      have kk_638 : k_X3_fetch (nI n) sp (nI g) (nI g) (upd ins 2 1) (nI no) ob od dn 2 = 0 := k_fetch hno hi ef
      refine k_m (wc := [wcA a (nI ct), wcS a (nI n), wcI G (a 6) 20 sp, wcR a (nI g) (nI g) 0 0, wcZ G (a 9) 4 (upd ins 2 1), wcO a (nI no) (nI la), wcI G (a 12) 30 ob, wcI G (a 13) 30 od, wcZ G (a 14) 30 dn]) (w1 := [wcA a (nI ct), wcS a (nI n), wcI G (a 6) 20 ((f_X3_fetch (nI ct) (nI n) sp (nI g) (nI g) (upd ins 2 1) (nI no) (nI la) ob od dn 2).2.1), wcR a (nI g) (nI g) 0 0, wcZ G (a 9) 4 (upd ins 2 1), wcO a (nI no) ((f_X3_fetch (nI ct) (nI n) sp (nI g) (nI g) (upd ins 2 1) (nI no) (nI la) ob od dn 2).2.2.1), wcI G (a 12) 30 ob, wcI G (a 13) 30 od, wcZ G (a 14) 30 ((f_X3_fetch (nI ct) (nI n) sp (nI g) (nI g) (upd ins 2 1) (nI no) (nI la) ob od dn 2).2.2.2)]) (wn := [wcA a (nI ct), wcS a (nI n), wcI G (a 2) 6 sc, wcI G (a 3) 20 cl, wcI G (a 4) 20 wt, wcI G (a 5) 20 kn, wcI G (a 6) 20 ((f_X3_fetch (nI ct) (nI n) sp (nI g) (nI g) (upd ins 2 1) (nI no) (nI la) ob od dn 2).2.1), wcR a (nI g) (nI g) 0 0, wcZ G (a 8) 7 db, wcZ G (a 9) 4 (upd ins 2 1), wcI G (a 10) 6 mv, wcO a (nI no) ((f_X3_fetch (nI ct) (nI n) sp (nI g) (nI g) (upd ins 2 1) (nI no) (nI la) ob od dn 2).2.2.1), wcI G (a 12) 30 ob, wcI G (a 13) 30 od, wcZ G (a 14) 30 ((f_X3_fetch (nI ct) (nI n) sp (nI g) (nI g) (upd ins 2 1) (nI no) (nI la) ob od dn 2).2.2.2), wcI G (q 0) 20 cl, wcI G (q 1) 20 wt, wcI G (q 2) 6 sc, wcI G (q 3) 20 lo, wcI G (q 4) 30 ob]) (va_runV (As := [.int 2]) (rest := []) ⟨hx, hb, hml, hown, hts⟩ (c_X3_fetch l hl9 G a H.size (nI ct) (nI n) sp (nI g) (nI g) 0 0 (upd ins 2 1) (nI no) (nI la) ob od dn 2 ⟨n, hn, rfl⟩ ⟨no, hno, rfl⟩ kk_638) (cwV 1 hts gL_law_X3_fetch rfl rfl rfl ⟨rfl, by decide +kernel, by decide +kernel, by decide +kernel⟩ ⟨Nat.le_of_ble_eq_true rfl, Nat.le_of_ble_eq_true rfl⟩) ⟨GP.blind, va_recv hE.1 hP (ci := 3) (q0 := 0) rfl rfl, GP.go (wc := [wcA a (nI ct), wcS a (nI n), wcI G (a 6) 20 sp, wcR a (nI g) (nI g) 0 0, wcZ G (a 9) 4 (upd ins 2 1), wcO a (nI no) (nI la), wcI G (a 12) 30 ob, wcI G (a 13) 30 od, wcZ G (a 14) 30 dn]) hE hP hD hS hA [0, 1, 6, 7, 9, 11, 12, 13, 14] rfl (by decide) [.ref (a 0), .int 2]⟩ rfl rfl hl.1 rfl (lv_room (Nat.le_of_ble_eq_true rfl)) dL_law_638 ⟨Nat.le_of_ble_eq_true rfl, Nat.le_of_ble_eq_true rfl⟩) hP hD hS hA [0, 1, 6, 7, 9, 11, 12, 13, 14] rfl rfl rfl rfl (fun H locs hP hD hS => ?_)
      have hq_638 : f_X3_fetch (nI ct) (nI n) sp (nI g) (nI g) (upd ins 2 1) (nI no) (nI la) ob od dn 2 = (nI i, upd sp b (-1), nI la', upd dn i 1) := eF
      rw [hq_638] at hP hD
      have hP : va_P G.1 vwCl [wcA a (nI ct), wcS a (nI n), wcI G (a 2) 6 sc, wcI G (a 3) 20 cl, wcI G (a 4) 20 wt, wcI G (a 5) 20 kn, wcI G (a 6) 20 (upd sp b (-1)), wcR a (nI g) (nI g) 0 0, wcZ G (a 8) 7 db, wcZ G (a 9) 4 (upd ins 2 1), wcI G (a 10) 6 mv, wcO a (nI no) (nI la'), wcI G (a 12) 30 ob, wcI G (a 13) 30 od, wcZ G (a 14) 30 (upd dn i 1), wcI G (q 0) 20 cl, wcI G (q 1) 20 wt, wcI G (q 2) 6 sc, wcI G (q 3) 20 lo, wcI G (q 4) 30 ob] H := hP
      have hD : va_D _ [wcA a (nI ct), wcS a (nI n), wcI G (a 2) 6 sc, wcI G (a 3) 20 cl, wcI G (a 4) 20 wt, wcI G (a 5) 20 kn, wcI G (a 6) 20 (upd sp b (-1)), wcR a (nI g) (nI g) 0 0, wcZ G (a 8) 7 db, wcZ G (a 9) 4 (upd ins 2 1), wcI G (a 10) 6 mv, wcO a (nI no) (nI la'), wcI G (a 12) 30 ob, wcI G (a 13) 30 od, wcZ G (a 14) 30 (upd dn i 1), wcI G (q 0) 20 cl, wcI G (q 1) 20 wt, wcI G (q 2) 6 sc, wcI G (q 3) 20 lo, wcI G (q 4) 30 ob] := hD
      refine k_top (y := nI i) (by rw [hq_638]) ?_
      refine lv_istore (lv' := [(20, .int (nI i)), (19, .int (nI la)), (18, .int (nI t)), (17, .int 1), (12, .int (nI j)), (0, .ref bs), (1, .ref (a 0)), (2, .ref (q 0)), (3, .ref (q 1)), (4, .ref (q 2)), (5, .ref (q 3)), (6, .ref (q 4)), (7, .int (nI n)), (8, .int (nI no)), (9, .int (nI (cntN dn no))), (10, .int 0), (11, .int (nI ct))]) hx hb dL_law_641 hl (by decide) rfl (fun ls hl => ?_)
      refine lv_iinc (v := nI (cntN (upd dn i 1) no)) (lv' := [(9, .int (nI (cntN (upd dn i 1) no))), (20, .int (nI i)), (19, .int (nI la)), (18, .int (nI t)), (17, .int 1), (12, .int (nI j)), (0, .ref bs), (1, .ref (a 0)), (2, .ref (q 0)), (3, .ref (q 1)), (4, .ref (q 2)), (5, .ref (q 3)), (6, .ref (q 4)), (7, .int (nI n)), (8, .int (nI no)), (10, .int 0), (11, .int (nI ct))]) hx hb dL_law_643 hl (k := 14) rfl (by rw [← cnt_done no hi hd, show Int32.ofInt (-1) = (-1 : Int32) from by decide]; exact pk_m1 _) (by decide) rfl (fun ls hl => ?_)
      refine lv_aload hx hb dL_law_646 (lv_at hl 11 rfl) ?_
      refine lv_aload hx hb dL_law_648 (lv_at hl 12 rfl) ?_
      refine lv_iload hx hb dL_law_650 (lv_at hl 1 rfl) ?_
      refine va_iald hx hb hE.1 hP 19 0 rfl rfl (vp_in_nI (n := i) (by omega) (by decide)) dL_law_652 ?_
      refine k_top (y := ob i) (congrArg ob (nI_clamp (by omega))) ?_
      refine k_top (y := nI b) eb ?_
      refine lv_iconst (v := 0) hx hb dL_law_653 (by decide) ?_
      refine va_iast hx hb hE.1 hP hD hS 18 0 rfl rfl (vp_in_nI (n := b) (by omega) (by decide)) dL_law_654 (fun H locs hP hD hS => ?_)
      have hP : va_P G.1 vwCl [wcA a (nI ct), wcS a (nI n), wcI G (a 2) 6 sc, wcI G (a 3) 20 cl, wcI G (a 4) 20 wt, wcI G (a 5) 20 kn, wcI G (a 6) 20 (upd sp b (-1)), wcR a (nI g) (nI g) 0 0, wcZ G (a 8) 7 db, wcZ G (a 9) 4 (upd ins 2 1), wcI G (a 10) 6 mv, wcO a (nI no) (nI la'), wcI G (a 12) 30 ob, wcI G (a 13) 30 od, wcZ G (a 14) 30 (upd dn i 1), wcI G (q 0) 20 cl, wcI G (q 1) 20 wt, wcI G (q 2) 6 sc, wcI G (q 3) 20 (upd lo (nI b).toNatClampNeg 0), wcI G (q 4) 30 ob] H := hP
      have hD : va_D _ [wcA a (nI ct), wcS a (nI n), wcI G (a 2) 6 sc, wcI G (a 3) 20 cl, wcI G (a 4) 20 wt, wcI G (a 5) 20 kn, wcI G (a 6) 20 (upd sp b (-1)), wcR a (nI g) (nI g) 0 0, wcZ G (a 8) 7 db, wcZ G (a 9) 4 (upd ins 2 1), wcI G (a 10) 6 mv, wcO a (nI no) (nI la'), wcI G (a 12) 30 ob, wcI G (a 13) 30 od, wcZ G (a 14) 30 (upd dn i 1), wcI G (q 0) 20 cl, wcI G (q 1) 20 wt, wcI G (q 2) 6 sc, wcI G (q 3) 20 (upd lo (nI b).toNatClampNeg 0), wcI G (q 4) 30 ob] := hD
      rw [nI_clamp (n := b) (by omega)] at hP hD
      refine lv_iload hx hb dL_law_655 (lv_at hl 4 rfl) ?_
      have k_657 : ¬ ((1 : Int32) = (0 : Int32)) := by decide
      refine lv_if_eq (tgt := 697) hx hb dL_law_657 (by decide) (fun c_657 => absurd c_657 k_657) (fun c_657 => ?_)
      refine lv_aload_n hx hb dL_law_660 rfl (lv_at hl 7 rfl) ?_
      refine lv_aload hx hb dL_law_661 (lv_at hl 12 rfl) ?_
      refine lv_iload hx hb dL_law_663 (lv_at hl 1 rfl) ?_
      refine va_iald hx hb hE.1 hP 19 0 rfl rfl (vp_in_nI (n := i) (by omega) (by decide)) dL_law_665 ?_
      refine k_top (y := ob i) (congrArg ob (nI_clamp (by omega))) ?_
      refine k_top (y := nI b) eb ?_
      have kk_666 : k_X3_spotOf (nI n) (nI b) = 0 := k_spotOf hn hbn
      refine k_p (va_runV (As := [.int (nI b)]) (rest := []) ⟨hx, hb, hml, hown, hts⟩ (c_X3_spotOf l hl9 G a H.size (nI ct) (nI n) (upd sp b (-1)) (nI b) ⟨n, hn, rfl⟩ kk_666) (cwV 1 hts gL_law_X3_spotOf rfl rfl rfl ⟨rfl, by decide +kernel, by decide +kernel, by decide +kernel⟩ ⟨Nat.le_of_ble_eq_true rfl, Nat.le_of_ble_eq_true rfl⟩) ⟨GP.blind, va_recv hE.1 hP (ci := 3) (q0 := 0) rfl rfl, GP.go (wc := [wcA a (nI ct), wcS a (nI n), wcI G (a 6) 20 (upd sp b (-1))]) hE hP hD hS hA [0, 1, 6] rfl (by decide) [.ref (a 0), .int (nI b)]⟩ rfl rfl hl.1 rfl (lv_room (Nat.le_of_ble_eq_true rfl)) dL_law_666 ⟨Nat.le_of_ble_eq_true rfl, Nat.le_of_ble_eq_true rfl⟩) ?_
      refine k_top (y := (-1)) ((spotOf_eq hn hbn).trans pk_us) ?_
      refine lv_iconst (v := (-1)) hx hb dL_law_669 (by decide) ?_
      have k_670 : ((-1) : Int32) = ((-1) : Int32) := by decide
      refine lv_icmp_ne (tgt := 697) hx hb dL_law_670 (by decide) (fun c_670 => absurd k_670 c_670) (fun c_670 => ?_)
      refine lv_aload_n hx hb dL_law_673 rfl (lv_at hl 7 rfl) ?_
      refine k_p (va_runV (As := []) (rest := []) ⟨hx, hb, hml, hown, hts⟩ (c_X3_late l G a H.size (nI ct) (nI no) (nI la')) (cwV 0 hts gL_law_X3_late rfl rfl rfl ⟨rfl, by decide +kernel, by decide +kernel, by decide +kernel⟩ ⟨Nat.le_of_ble_eq_true rfl, Nat.le_of_ble_eq_true rfl⟩) ⟨GP.blind, va_recv hE.1 hP (ci := 3) (q0 := 0) rfl rfl, GP.go (wc := [wcA a (nI ct), wcO a (nI no) (nI la')]) hE hP hD hS hA [0, 11] rfl (by decide) [.ref (a 0)]⟩ rfl rfl hl.1 rfl (lv_room (Nat.le_of_ble_eq_true rfl)) dL_law_674 ⟨Nat.le_of_ble_eq_true rfl, Nat.le_of_ble_eq_true rfl⟩) ?_
      refine k_top (y := nI la') rfl ?_
      refine lv_iload hx hb dL_law_677 (lv_at hl 2 rfl) ?_
      have k_679 : ¬ ((nI la') < (nI la)) := nI_nlt (by omega) (by omega)
      refine lv_icmp_lt (tgt := 697) hx hb dL_law_679 (by decide) (fun c_679 => absurd c_679 k_679) (fun c_679 => ?_)
      refine lv_aload_n hx hb dL_law_682 rfl (lv_at hl 7 rfl) ?_
      refine k_p (va_runV (As := []) (rest := []) ⟨hx, hb, hml, hown, hts⟩ (c_X3_late l G a H.size (nI ct) (nI no) (nI la')) (cwV 0 hts gL_law_X3_late rfl rfl rfl ⟨rfl, by decide +kernel, by decide +kernel, by decide +kernel⟩ ⟨Nat.le_of_ble_eq_true rfl, Nat.le_of_ble_eq_true rfl⟩) ⟨GP.blind, va_recv hE.1 hP (ci := 3) (q0 := 0) rfl rfl, GP.go (wc := [wcA a (nI ct), wcO a (nI no) (nI la')]) hE hP hD hS hA [0, 11] rfl (by decide) [.ref (a 0)]⟩ rfl rfl hl.1 rfl (lv_room (Nat.le_of_ble_eq_true rfl)) dL_law_683 ⟨Nat.le_of_ble_eq_true rfl, Nat.le_of_ble_eq_true rfl⟩) ?_
      refine k_top (y := nI la') rfl ?_
      refine lv_iload hx hb dL_law_686 (lv_at hl 2 rfl) ?_
      refine lv_iconst (v := 1) hx hb dL_law_688 (by decide) ?_
      refine lv_iadd hx hb dL_law_689 ?_
      refine k_top (y := nI (la + 1)) (nI_1 la) ?_
      have k_690 : ¬ ((nI (la + 1)) < (nI la')) := nI_nlt (by omega) (by omega)
      refine lv_icmp_gt (tgt := 697) hx hb dL_law_690 (by decide) (fun c_690 => absurd c_690 k_690) (fun c_690 => ?_)
      refine lv_iconst (v := 1) hx hb dL_law_693 (by decide) ?_
      refine lv_goto (tgt := 698) hx hb dL_law_694 (by decide) ?_
      refine lv_istore (lv' := [(17, .int 1), (9, .int (nI (cntN (upd dn i 1) no))), (20, .int (nI i)), (19, .int (nI la)), (18, .int (nI t)), (12, .int (nI j)), (0, .ref bs), (1, .ref (a 0)), (2, .ref (q 0)), (3, .ref (q 1)), (4, .ref (q 2)), (5, .ref (q 3)), (6, .ref (q 4)), (7, .int (nI n)), (8, .int (nI no)), (10, .int 0), (11, .int (nI ct))]) hx hb dL_law_698 hl (by decide) rfl (fun ls hl => ?_)
      refine lv_iload hx hb dL_law_700 (lv_at hl 0 rfl) ?_
      have k_702 : ¬ ((1 : Int32) = (0 : Int32)) := by decide
      refine lv_if_eq (tgt := 717) hx hb dL_law_702 (by decide) (fun c_702 => absurd c_702 k_702) (fun c_702 => ?_)
      refine lv_aload_n hx hb dL_law_705 rfl (lv_at hl 7 rfl) ?_
      refine lv_iconst (v := 2) hx hb dL_law_706 (by decide) ?_
      have kk_707 : k_X3_goOut (upd ins 2 1) 2 = 0 := k_goOut
      refine k_m (wc := [wcA a (nI ct), wcR a (nI g) (nI g) 0 0, wcZ G (a 9) 4 (upd ins 2 1)]) (w1 := [wcA a (nI ct), wcR a (nI g) (nI g) 0 0, wcZ G (a 9) 4 ((f_X3_goOut (upd ins 2 1) 2).2)]) (wn := [wcA a (nI ct), wcS a (nI n), wcI G (a 2) 6 sc, wcI G (a 3) 20 cl, wcI G (a 4) 20 wt, wcI G (a 5) 20 kn, wcI G (a 6) 20 (upd sp b (-1)), wcR a (nI g) (nI g) 0 0, wcZ G (a 8) 7 db, wcZ G (a 9) 4 ((f_X3_goOut (upd ins 2 1) 2).2), wcI G (a 10) 6 mv, wcO a (nI no) (nI la'), wcI G (a 12) 30 ob, wcI G (a 13) 30 od, wcZ G (a 14) 30 (upd dn i 1), wcI G (q 0) 20 cl, wcI G (q 1) 20 wt, wcI G (q 2) 6 sc, wcI G (q 3) 20 (upd lo b 0), wcI G (q 4) 30 ob]) (va_runV (As := [.int 2]) (rest := []) ⟨hx, hb, hml, hown, hts⟩ (c_X3_goOut l hl9 G a H.size (nI ct) (nI g) (nI g) 0 0 (upd ins 2 1) 2 kk_707) (cwV 1 hts gL_law_X3_goOut rfl rfl rfl ⟨rfl, by decide +kernel, by decide +kernel, by decide +kernel⟩ ⟨Nat.le_of_ble_eq_true rfl, Nat.le_of_ble_eq_true rfl⟩) ⟨GP.blind, va_recv hE.1 hP (ci := 3) (q0 := 0) rfl rfl, GP.go (wc := [wcA a (nI ct), wcR a (nI g) (nI g) 0 0, wcZ G (a 9) 4 (upd ins 2 1)]) hE hP hD hS hA [0, 7, 9] rfl (by decide) [.ref (a 0), .int 2]⟩ rfl rfl hl.1 rfl (lv_room (Nat.le_of_ble_eq_true rfl)) dL_law_707 ⟨Nat.le_of_ble_eq_true rfl, Nat.le_of_ble_eq_true rfl⟩) hP hD hS hA [0, 7, 9] rfl rfl rfl rfl (fun H locs hP hD hS => ?_)
      have hq_707 : f_X3_goOut (upd ins 2 1) 2 = (0, upd (upd ins 2 1) 2 0) := goOut_eq hI
      rw [hq_707] at hP hD
      have hP : va_P G.1 vwCl [wcA a (nI ct), wcS a (nI n), wcI G (a 2) 6 sc, wcI G (a 3) 20 cl, wcI G (a 4) 20 wt, wcI G (a 5) 20 kn, wcI G (a 6) 20 (upd sp b (-1)), wcR a (nI g) (nI g) 0 0, wcZ G (a 8) 7 db, wcZ G (a 9) 4 (upd (upd ins 2 1) 2 0), wcI G (a 10) 6 mv, wcO a (nI no) (nI la'), wcI G (a 12) 30 ob, wcI G (a 13) 30 od, wcZ G (a 14) 30 (upd dn i 1), wcI G (q 0) 20 cl, wcI G (q 1) 20 wt, wcI G (q 2) 6 sc, wcI G (q 3) 20 (upd lo b 0), wcI G (q 4) 30 ob] H := hP
      have hD : va_D _ [wcA a (nI ct), wcS a (nI n), wcI G (a 2) 6 sc, wcI G (a 3) 20 cl, wcI G (a 4) 20 wt, wcI G (a 5) 20 kn, wcI G (a 6) 20 (upd sp b (-1)), wcR a (nI g) (nI g) 0 0, wcZ G (a 8) 7 db, wcZ G (a 9) 4 (upd (upd ins 2 1) 2 0), wcI G (a 10) 6 mv, wcO a (nI no) (nI la'), wcI G (a 12) 30 ob, wcI G (a 13) 30 od, wcZ G (a 14) 30 (upd dn i 1), wcI G (q 0) 20 cl, wcI G (q 1) 20 wt, wcI G (q 2) 6 sc, wcI G (q 3) 20 (upd lo b 0), wcI G (q 4) 30 ob] := hD
      refine k_top (y := 0) (by rw [hq_707]) ?_
      have k_710 : (0 : Int32) = (0 : Int32) := by decide
      refine lv_if_ne (tgt := 717) hx hb dL_law_710 (by decide) (fun c_710 => absurd k_710 c_710) (fun c_710 => ?_)
      refine lv_iconst (v := 1) hx hb dL_law_713 (by decide) ?_
      refine lv_goto (tgt := 718) hx hb dL_law_714 (by decide) ?_
      refine lv_istore (lv' := [(17, .int 1), (9, .int (nI (cntN (upd dn i 1) no))), (20, .int (nI i)), (19, .int (nI la)), (18, .int (nI t)), (12, .int (nI j)), (0, .ref bs), (1, .ref (a 0)), (2, .ref (q 0)), (3, .ref (q 1)), (4, .ref (q 2)), (5, .ref (q 3)), (6, .ref (q 4)), (7, .int (nI n)), (8, .int (nI no)), (10, .int 0), (11, .int (nI ct))]) hx hb dL_law_718 hl (by decide) rfl (fun ls hl => ?_)
      refine lv_iconst (v := 0) hx hb dL_law_720 (by decide) ?_
      refine lv_istore (lv' := [(10, .int 0), (17, .int 1), (9, .int (nI (cntN (upd dn i 1) no))), (20, .int (nI i)), (19, .int (nI la)), (18, .int (nI t)), (12, .int (nI j)), (0, .ref bs), (1, .ref (a 0)), (2, .ref (q 0)), (3, .ref (q 1)), (4, .ref (q 2)), (5, .ref (q 3)), (6, .ref (q 4)), (7, .int (nI n)), (8, .int (nI no)), (11, .int (nI ct))]) hx hb dL_law_721 hl (by decide) rfl (fun ls hl => ?_)
      refine lv_goto (tgt := 869) hx hb dL_law_723 (by decide) ?_
      exact hk n no g ct la' sc cl wt kn (upd sp b (-1)) db (upd (upd ins 2 1) 2 0) mv ob od (upd dn i 1) (upd lo b 0) (upd mli k 0) H _ ls (hIV.done hi hd hbn eb hk36 es hla' (ins_back hI)) hP hD hS (lv_sub hl [1, 6, 7, 8, 9, 10, 11, 12, 13, 14, 15, 2, 0, 16] rfl)
    · refine lv_iload hx hb dL_law_621 (lv_at hl 0 rfl) ?_
      refine lv_aload_n hx hb dL_law_623 rfl (lv_at hl 4 rfl) ?_
      refine k_p (va_runV (As := []) (rest := [.int (nI t)]) ⟨hx, hb, hml, hown, hts⟩ (c_X3_opened l G a H.size (nI ct) (nI g) (nI g) 0 0) (cwV 0 hts gL_law_X3_opened rfl rfl rfl ⟨rfl, by decide +kernel, by decide +kernel, by decide +kernel⟩ ⟨Nat.le_of_ble_eq_true rfl, Nat.le_of_ble_eq_true rfl⟩) ⟨GP.blind, va_recv hE.1 hP (ci := 3) (q0 := 0) rfl rfl, GP.go (wc := [wcA a (nI ct), wcR a (nI g) (nI g) 0 0]) hE hP hD hS hA [0, 7] rfl (by decide) [.ref (a 0)]⟩ rfl rfl hl.1 rfl (lv_room (Nat.le_of_ble_eq_true rfl)) dL_law_624 ⟨Nat.le_of_ble_eq_true rfl, Nat.le_of_ble_eq_true rfl⟩) ?_
      refine k_top (y := nI g) opened_eq ?_
      have k_627 : ¬ ((nI t) = (nI g)) := fun z => hgt ((nI_eq (by omega) (by omega)).mp z)
      refine lv_icmp_ne (tgt := 700) hx hb dL_law_627 (by decide) (fun c_627 => ?_) (fun c_627 => absurd c_627 k_627)
      refine lv_iload hx hb dL_law_700 (lv_at hl 1 rfl) ?_
      have k_702 : ¬ ((1 : Int32) = (0 : Int32)) := by decide
      refine lv_if_eq (tgt := 717) hx hb dL_law_702 (by decide) (fun c_702 => absurd c_702 k_702) (fun c_702 => ?_)
      refine lv_aload_n hx hb dL_law_705 rfl (lv_at hl 4 rfl) ?_
      refine lv_iconst (v := 2) hx hb dL_law_706 (by decide) ?_
      have kk_707 : k_X3_goOut (upd ins 2 1) 2 = 0 := k_goOut
      refine k_m (wc := [wcA a (nI ct), wcR a (nI g) (nI g) 0 0, wcZ G (a 9) 4 (upd ins 2 1)]) (w1 := [wcA a (nI ct), wcR a (nI g) (nI g) 0 0, wcZ G (a 9) 4 ((f_X3_goOut (upd ins 2 1) 2).2)]) (wn := [wcA a (nI ct), wcS a (nI n), wcI G (a 2) 6 sc, wcI G (a 3) 20 cl, wcI G (a 4) 20 wt, wcI G (a 5) 20 kn, wcI G (a 6) 20 sp, wcR a (nI g) (nI g) 0 0, wcZ G (a 8) 7 db, wcZ G (a 9) 4 ((f_X3_goOut (upd ins 2 1) 2).2), wcI G (a 10) 6 mv, wcO a (nI no) (nI la), wcI G (a 12) 30 ob, wcI G (a 13) 30 od, wcZ G (a 14) 30 dn, wcI G (q 0) 20 cl, wcI G (q 1) 20 wt, wcI G (q 2) 6 sc, wcI G (q 3) 20 lo, wcI G (q 4) 30 ob]) (va_runV (As := [.int 2]) (rest := []) ⟨hx, hb, hml, hown, hts⟩ (c_X3_goOut l hl9 G a H.size (nI ct) (nI g) (nI g) 0 0 (upd ins 2 1) 2 kk_707) (cwV 1 hts gL_law_X3_goOut rfl rfl rfl ⟨rfl, by decide +kernel, by decide +kernel, by decide +kernel⟩ ⟨Nat.le_of_ble_eq_true rfl, Nat.le_of_ble_eq_true rfl⟩) ⟨GP.blind, va_recv hE.1 hP (ci := 3) (q0 := 0) rfl rfl, GP.go (wc := [wcA a (nI ct), wcR a (nI g) (nI g) 0 0, wcZ G (a 9) 4 (upd ins 2 1)]) hE hP hD hS hA [0, 7, 9] rfl (by decide) [.ref (a 0), .int 2]⟩ rfl rfl hl.1 rfl (lv_room (Nat.le_of_ble_eq_true rfl)) dL_law_707 ⟨Nat.le_of_ble_eq_true rfl, Nat.le_of_ble_eq_true rfl⟩) hP hD hS hA [0, 7, 9] rfl rfl rfl rfl (fun H locs hP hD hS => ?_)
      have hq_707 : f_X3_goOut (upd ins 2 1) 2 = (0, upd (upd ins 2 1) 2 0) := goOut_eq hI
      rw [hq_707] at hP hD
      have hP : va_P G.1 vwCl [wcA a (nI ct), wcS a (nI n), wcI G (a 2) 6 sc, wcI G (a 3) 20 cl, wcI G (a 4) 20 wt, wcI G (a 5) 20 kn, wcI G (a 6) 20 sp, wcR a (nI g) (nI g) 0 0, wcZ G (a 8) 7 db, wcZ G (a 9) 4 (upd (upd ins 2 1) 2 0), wcI G (a 10) 6 mv, wcO a (nI no) (nI la), wcI G (a 12) 30 ob, wcI G (a 13) 30 od, wcZ G (a 14) 30 dn, wcI G (q 0) 20 cl, wcI G (q 1) 20 wt, wcI G (q 2) 6 sc, wcI G (q 3) 20 lo, wcI G (q 4) 30 ob] H := hP
      have hD : va_D _ [wcA a (nI ct), wcS a (nI n), wcI G (a 2) 6 sc, wcI G (a 3) 20 cl, wcI G (a 4) 20 wt, wcI G (a 5) 20 kn, wcI G (a 6) 20 sp, wcR a (nI g) (nI g) 0 0, wcZ G (a 8) 7 db, wcZ G (a 9) 4 (upd (upd ins 2 1) 2 0), wcI G (a 10) 6 mv, wcO a (nI no) (nI la), wcI G (a 12) 30 ob, wcI G (a 13) 30 od, wcZ G (a 14) 30 dn, wcI G (q 0) 20 cl, wcI G (q 1) 20 wt, wcI G (q 2) 6 sc, wcI G (q 3) 20 lo, wcI G (q 4) 30 ob] := hD
      refine k_top (y := 0) (by rw [hq_707]) ?_
      have k_710 : (0 : Int32) = (0 : Int32) := by decide
      refine lv_if_ne (tgt := 717) hx hb dL_law_710 (by decide) (fun c_710 => absurd k_710 c_710) (fun c_710 => ?_)
      refine lv_iconst (v := 1) hx hb dL_law_713 (by decide) ?_
      refine lv_goto (tgt := 718) hx hb dL_law_714 (by decide) ?_
      refine lv_istore (lv' := [(17, .int 1), (18, .int (nI t)), (12, .int (nI j)), (0, .ref bs), (1, .ref (a 0)), (2, .ref (q 0)), (3, .ref (q 1)), (4, .ref (q 2)), (5, .ref (q 3)), (6, .ref (q 4)), (7, .int (nI n)), (8, .int (nI no)), (9, .int (nI (cntN dn no))), (10, .int 0), (11, .int (nI ct))]) hx hb dL_law_718 hl (by decide) rfl (fun ls hl => ?_)
      refine lv_iconst (v := 0) hx hb dL_law_720 (by decide) ?_
      refine lv_istore (lv' := [(10, .int 0), (17, .int 1), (18, .int (nI t)), (12, .int (nI j)), (0, .ref bs), (1, .ref (a 0)), (2, .ref (q 0)), (3, .ref (q 1)), (4, .ref (q 2)), (5, .ref (q 3)), (6, .ref (q 4)), (7, .int (nI n)), (8, .int (nI no)), (9, .int (nI (cntN dn no))), (11, .int (nI ct))]) hx hb dL_law_721 hl (by decide) rfl (fun ls hl => ?_)
      refine lv_goto (tgt := 869) hx hb dL_law_723 (by decide) ?_
      exact hk n no g ct la sc cl wt kn sp db (upd (upd ins 2 1) 2 0) mv ob od dn lo mli H _ ls (hIV.inz (ins_back hI)) hP hD hS (lv_sub hl [1, 3, 4, 5, 6, 7, 8, 9, 10, 11, 12, 13, 0, 14] rfl)
set_option maxHeartbeats 8000000 in
set_option maxRecDepth 100000 in
theorem law_doubt {p : Program} {l : Launch} {e : Env} {s : State} {m : MethodId} {below : List Frame} {meth : Method} {c : Code} {Q : State → Prop} {bs : Nat} {G : GT} {a q : Nat → Nat} {j : Nat} {H : Heap} {locs : List Loc} {ls : Array Slot} (n no g ct la : Nat) (sc cl wt kn sp db ins mv ob od dn lo mli : Nat → Int32) (w : Int32)
    (hl9 : l.stackTraces = false) (hx : p.tables.exec = Jvm.exec) (hb : c.code = cL_law) (hml : c.maxLocals = 21) (hown : s.vm.findClass RL = some m.cls) (hts : ∀ w ∈ wsL_law, w.before #[Value.ref bs] s = true) (hE : Ev G s) (hj : j < 60) (hIV : IV j n no g ct la sp mli ob od dn mv ins lo)
    (hP : va_P G.1 vwCl (LW G a q n no g ct la sc cl wt kn sp db ins mv ob od dn lo) H) (hD : va_D (fun q : Nat => s.heap.size ≤ q) (LW G a q n no g ct la sc cl wt kn sp db ins mv ob od dn lo)) (hS : va_S (fun q : Nat => s.heap.size ≤ q) s.heap H locs) (hl : lv_has ls 21 [(14, .int w), (12, .int (nI j)), (0, .ref bs), (1, .ref (a 0)), (2, .ref (q 0)), (3, .ref (q 1)), (4, .ref (q 2)), (5, .ref (q 3)), (6, .ref (q 4)), (7, .int (nI n)), (8, .int (nI no)), (9, .int (nI (cntN dn no))), (10, .int 0), (11, .int (nI ct))]) (hk : LK p l e s m below meth c Q bs G a q j) : W p l e room_1 s m #[Value.ref bs] below meth c H locs 20 311 Q (F0 m 733 ls []) := by
  have hA : ∀ q : Nat, s.heap.size ≤ q → (fun q : Nat => s.heap.size ≤ q) q := fun _ h => h
  obtain ⟨hn, hno, hg, hct, hla, hR, hO, hV, hI, hOP⟩ := id hIV
  have hP : va_P G.1 vwCl [wcA a (nI ct), wcS a (nI n), wcI G (a 2) 6 sc, wcI G (a 3) 20 cl, wcI G (a 4) 20 wt, wcI G (a 5) 20 kn, wcI G (a 6) 20 sp, wcR a (nI g) (nI g) 0 0, wcZ G (a 8) 7 db, wcZ G (a 9) 4 ins, wcI G (a 10) 6 mv, wcO a (nI no) (nI la), wcI G (a 12) 30 ob, wcI G (a 13) 30 od, wcZ G (a 14) 30 dn, wcI G (q 0) 20 cl, wcI G (q 1) 20 wt, wcI G (q 2) 6 sc, wcI G (q 3) 20 lo, wcI G (q 4) 30 ob] H := hP
  have hD : va_D (fun q : Nat => s.heap.size ≤ q) [wcA a (nI ct), wcS a (nI n), wcI G (a 2) 6 sc, wcI G (a 3) 20 cl, wcI G (a 4) 20 wt, wcI G (a 5) 20 kn, wcI G (a 6) 20 sp, wcR a (nI g) (nI g) 0 0, wcZ G (a 8) 7 db, wcZ G (a 9) 4 ins, wcI G (a 10) 6 mv, wcO a (nI no) (nI la), wcI G (a 12) 30 ob, wcI G (a 13) 30 od, wcZ G (a 14) 30 dn, wcI G (q 0) 20 cl, wcI G (q 1) 20 wt, wcI G (q 2) 6 sc, wcI G (q 3) 20 lo, wcI G (q 4) 30 ob] := hD
  refine lv_iload hx hb dL_law_733 (lv_at hl 0 rfl) ?_
  refine lv_bipush (v := 7) hx hb dL_law_735 (by decide) ?_
  refine k_pl (va_runS (As := [.int w, .int 7]) (rest := []) ⟨hx, hb, hml, hown, hts⟩ (c_L_low l G H.size w 7 7 rfl (by decide) (by decide)) (va_cwS 2 hts gL_law_L_low rfl rfl rfl ⟨by decide +kernel, by decide +kernel, by decide +kernel⟩ ⟨Nat.le_of_ble_eq_true rfl, Nat.le_of_ble_eq_true rfl⟩) ⟨GP.blind, GP.go (wc := []) hE hP hD hS hA [] rfl (by decide) [.int w, .int 7]⟩ rfl rfl hl.1 rfl (lv_room (Nat.le_of_ble_eq_true rfl)) dL_law_737 ⟨Nat.le_of_ble_eq_true rfl, Nat.le_of_ble_eq_true rfl⟩) (fun u1 hu1 => ?_)
  refine lv_istore (lv' := [(18, .int (nI u1)), (14, .int w), (12, .int (nI j)), (0, .ref bs), (1, .ref (a 0)), (2, .ref (q 0)), (3, .ref (q 1)), (4, .ref (q 2)), (5, .ref (q 3)), (6, .ref (q 4)), (7, .int (nI n)), (8, .int (nI no)), (9, .int (nI (cntN dn no))), (10, .int 0), (11, .int (nI ct))]) hx hb dL_law_740 hl (by decide) rfl (fun ls hl => ?_)
  by_cases hz : db u1 = 0
  · refine lv_aload_n hx hb dL_law_742 rfl (lv_at hl 4 rfl) ?_
    refine lv_iload hx hb dL_law_743 (lv_at hl 0 rfl) ?_
    have kk_745 : k_X3_doubt (nI u1) = 0 := k_doubt hu1
    refine k_m (wc := [wcA a (nI ct), wcR a (nI g) (nI g) 0 0, wcZ G (a 8) 7 db]) (w1 := [wcA a (nI ct), wcR a (nI g) (nI g) 0 0, wcZ G (a 8) 7 ((f_X3_doubt db (nI u1)).2)]) (wn := [wcA a (nI ct), wcS a (nI n), wcI G (a 2) 6 sc, wcI G (a 3) 20 cl, wcI G (a 4) 20 wt, wcI G (a 5) 20 kn, wcI G (a 6) 20 sp, wcR a (nI g) (nI g) 0 0, wcZ G (a 8) 7 ((f_X3_doubt db (nI u1)).2), wcZ G (a 9) 4 ins, wcI G (a 10) 6 mv, wcO a (nI no) (nI la), wcI G (a 12) 30 ob, wcI G (a 13) 30 od, wcZ G (a 14) 30 dn, wcI G (q 0) 20 cl, wcI G (q 1) 20 wt, wcI G (q 2) 6 sc, wcI G (q 3) 20 lo, wcI G (q 4) 30 ob]) (va_runV (As := [.int (nI u1)]) (rest := []) ⟨hx, hb, hml, hown, hts⟩ (c_X3_doubt l hl9 G a H.size (nI ct) (nI g) (nI g) 0 0 db (nI u1) kk_745) (cwV 1 hts gL_law_X3_doubt rfl rfl rfl ⟨rfl, by decide +kernel, by decide +kernel, by decide +kernel⟩ ⟨Nat.le_of_ble_eq_true rfl, Nat.le_of_ble_eq_true rfl⟩) ⟨GP.blind, va_recv hE.1 hP (ci := 3) (q0 := 0) rfl rfl, GP.go (wc := [wcA a (nI ct), wcR a (nI g) (nI g) 0 0, wcZ G (a 8) 7 db]) hE hP hD hS hA [0, 7, 8] rfl (by decide) [.ref (a 0), .int (nI u1)]⟩ rfl rfl hl.1 rfl (lv_room (Nat.le_of_ble_eq_true rfl)) dL_law_745 ⟨Nat.le_of_ble_eq_true rfl, Nat.le_of_ble_eq_true rfl⟩) hP hD hS hA [0, 7, 8] rfl rfl rfl rfl (fun H locs hP hD hS => ?_)
    have hq_745 : f_X3_doubt db (nI u1) = (1, upd db u1 1) := (by rw [doubt_eq hu1, if_pos hz])
    rw [hq_745] at hP hD
    have hP : va_P G.1 vwCl [wcA a (nI ct), wcS a (nI n), wcI G (a 2) 6 sc, wcI G (a 3) 20 cl, wcI G (a 4) 20 wt, wcI G (a 5) 20 kn, wcI G (a 6) 20 sp, wcR a (nI g) (nI g) 0 0, wcZ G (a 8) 7 (upd db u1 1), wcZ G (a 9) 4 ins, wcI G (a 10) 6 mv, wcO a (nI no) (nI la), wcI G (a 12) 30 ob, wcI G (a 13) 30 od, wcZ G (a 14) 30 dn, wcI G (q 0) 20 cl, wcI G (q 1) 20 wt, wcI G (q 2) 6 sc, wcI G (q 3) 20 lo, wcI G (q 4) 30 ob] H := hP
    have hD : va_D _ [wcA a (nI ct), wcS a (nI n), wcI G (a 2) 6 sc, wcI G (a 3) 20 cl, wcI G (a 4) 20 wt, wcI G (a 5) 20 kn, wcI G (a 6) 20 sp, wcR a (nI g) (nI g) 0 0, wcZ G (a 8) 7 (upd db u1 1), wcZ G (a 9) 4 ins, wcI G (a 10) 6 mv, wcO a (nI no) (nI la), wcI G (a 12) 30 ob, wcI G (a 13) 30 od, wcZ G (a 14) 30 dn, wcI G (q 0) 20 cl, wcI G (q 1) 20 wt, wcI G (q 2) 6 sc, wcI G (q 3) 20 lo, wcI G (q 4) 30 ob] := hD
    refine k_top (y := 1) (by rw [hq_745]) ?_
    refine lv_aload_n hx hb dL_law_748 rfl (lv_at hl 4 rfl) ?_
    refine lv_iload hx hb dL_law_749 (lv_at hl 0 rfl) ?_
    have kk_751 : k_X3_doubt (nI u1) = 0 := k_doubt hu1
    refine k_m (wc := [wcA a (nI ct), wcR a (nI g) (nI g) 0 0, wcZ G (a 8) 7 (upd db u1 1)]) (w1 := [wcA a (nI ct), wcR a (nI g) (nI g) 0 0, wcZ G (a 8) 7 ((f_X3_doubt (upd db u1 1) (nI u1)).2)]) (wn := [wcA a (nI ct), wcS a (nI n), wcI G (a 2) 6 sc, wcI G (a 3) 20 cl, wcI G (a 4) 20 wt, wcI G (a 5) 20 kn, wcI G (a 6) 20 sp, wcR a (nI g) (nI g) 0 0, wcZ G (a 8) 7 ((f_X3_doubt (upd db u1 1) (nI u1)).2), wcZ G (a 9) 4 ins, wcI G (a 10) 6 mv, wcO a (nI no) (nI la), wcI G (a 12) 30 ob, wcI G (a 13) 30 od, wcZ G (a 14) 30 dn, wcI G (q 0) 20 cl, wcI G (q 1) 20 wt, wcI G (q 2) 6 sc, wcI G (q 3) 20 lo, wcI G (q 4) 30 ob]) (va_runV (As := [.int (nI u1)]) (rest := [.int 1]) ⟨hx, hb, hml, hown, hts⟩ (c_X3_doubt l hl9 G a H.size (nI ct) (nI g) (nI g) 0 0 (upd db u1 1) (nI u1) kk_751) (cwV 1 hts gL_law_X3_doubt rfl rfl rfl ⟨rfl, by decide +kernel, by decide +kernel, by decide +kernel⟩ ⟨Nat.le_of_ble_eq_true rfl, Nat.le_of_ble_eq_true rfl⟩) ⟨GP.blind, va_recv hE.1 hP (ci := 3) (q0 := 0) rfl rfl, GP.go (wc := [wcA a (nI ct), wcR a (nI g) (nI g) 0 0, wcZ G (a 8) 7 (upd db u1 1)]) hE hP hD hS hA [0, 7, 8] rfl (by decide) [.ref (a 0), .int (nI u1)]⟩ rfl rfl hl.1 rfl (lv_room (Nat.le_of_ble_eq_true rfl)) dL_law_751 ⟨Nat.le_of_ble_eq_true rfl, Nat.le_of_ble_eq_true rfl⟩) hP hD hS hA [0, 7, 8] rfl rfl rfl rfl (fun H locs hP hD hS => ?_)
    have hq_751 : f_X3_doubt (upd db u1 1) (nI u1) = (0, upd (upd db u1 1) u1 1) := (by rw [doubt_eq hu1, pk_us, if_neg (by decide)])
    rw [hq_751] at hP hD
    have hP : va_P G.1 vwCl [wcA a (nI ct), wcS a (nI n), wcI G (a 2) 6 sc, wcI G (a 3) 20 cl, wcI G (a 4) 20 wt, wcI G (a 5) 20 kn, wcI G (a 6) 20 sp, wcR a (nI g) (nI g) 0 0, wcZ G (a 8) 7 (upd (upd db u1 1) u1 1), wcZ G (a 9) 4 ins, wcI G (a 10) 6 mv, wcO a (nI no) (nI la), wcI G (a 12) 30 ob, wcI G (a 13) 30 od, wcZ G (a 14) 30 dn, wcI G (q 0) 20 cl, wcI G (q 1) 20 wt, wcI G (q 2) 6 sc, wcI G (q 3) 20 lo, wcI G (q 4) 30 ob] H := hP
    have hD : va_D _ [wcA a (nI ct), wcS a (nI n), wcI G (a 2) 6 sc, wcI G (a 3) 20 cl, wcI G (a 4) 20 wt, wcI G (a 5) 20 kn, wcI G (a 6) 20 sp, wcR a (nI g) (nI g) 0 0, wcZ G (a 8) 7 (upd (upd db u1 1) u1 1), wcZ G (a 9) 4 ins, wcI G (a 10) 6 mv, wcO a (nI no) (nI la), wcI G (a 12) 30 ob, wcI G (a 13) 30 od, wcZ G (a 14) 30 dn, wcI G (q 0) 20 cl, wcI G (q 1) 20 wt, wcI G (q 2) 6 sc, wcI G (q 3) 20 lo, wcI G (q 4) 30 ob] := hD
    refine k_top (y := 0) (by rw [hq_751]) ?_
    have k_754 : ¬ ((1 : Int32) = (0 : Int32)) := by decide
    refine lv_icmp_ne (tgt := 766) hx hb dL_law_754 (by decide) (fun c_754 => ?_) (fun c_754 => absurd c_754 k_754)
    refine lv_iconst (v := 1) hx hb dL_law_766 (by decide) ?_
    refine lv_goto (tgt := 771) hx hb dL_law_767 (by decide) ?_
    refine lv_istore (lv' := [(17, .int 1), (18, .int (nI u1)), (14, .int w), (12, .int (nI j)), (0, .ref bs), (1, .ref (a 0)), (2, .ref (q 0)), (3, .ref (q 1)), (4, .ref (q 2)), (5, .ref (q 3)), (6, .ref (q 4)), (7, .int (nI n)), (8, .int (nI no)), (9, .int (nI (cntN dn no))), (10, .int 0), (11, .int (nI ct))]) hx hb dL_law_771 hl (by decide) rfl (fun ls hl => ?_)
    refine lv_goto (tgt := 869) hx hb dL_law_773 (by decide) ?_
    exact hk n no g ct la sc cl wt kn sp (upd (upd db u1 1) u1 1) ins mv ob od dn lo mli H _ ls hIV.same hP hD hS (lv_sub hl [0, 3, 4, 5, 6, 7, 8, 9, 10, 11, 12, 13, 14, 15] rfl)
  · refine lv_aload_n hx hb dL_law_742 rfl (lv_at hl 4 rfl) ?_
    refine lv_iload hx hb dL_law_743 (lv_at hl 0 rfl) ?_
    have kk_745 : k_X3_doubt (nI u1) = 0 := k_doubt hu1
    refine k_m (wc := [wcA a (nI ct), wcR a (nI g) (nI g) 0 0, wcZ G (a 8) 7 db]) (w1 := [wcA a (nI ct), wcR a (nI g) (nI g) 0 0, wcZ G (a 8) 7 ((f_X3_doubt db (nI u1)).2)]) (wn := [wcA a (nI ct), wcS a (nI n), wcI G (a 2) 6 sc, wcI G (a 3) 20 cl, wcI G (a 4) 20 wt, wcI G (a 5) 20 kn, wcI G (a 6) 20 sp, wcR a (nI g) (nI g) 0 0, wcZ G (a 8) 7 ((f_X3_doubt db (nI u1)).2), wcZ G (a 9) 4 ins, wcI G (a 10) 6 mv, wcO a (nI no) (nI la), wcI G (a 12) 30 ob, wcI G (a 13) 30 od, wcZ G (a 14) 30 dn, wcI G (q 0) 20 cl, wcI G (q 1) 20 wt, wcI G (q 2) 6 sc, wcI G (q 3) 20 lo, wcI G (q 4) 30 ob]) (va_runV (As := [.int (nI u1)]) (rest := []) ⟨hx, hb, hml, hown, hts⟩ (c_X3_doubt l hl9 G a H.size (nI ct) (nI g) (nI g) 0 0 db (nI u1) kk_745) (cwV 1 hts gL_law_X3_doubt rfl rfl rfl ⟨rfl, by decide +kernel, by decide +kernel, by decide +kernel⟩ ⟨Nat.le_of_ble_eq_true rfl, Nat.le_of_ble_eq_true rfl⟩) ⟨GP.blind, va_recv hE.1 hP (ci := 3) (q0 := 0) rfl rfl, GP.go (wc := [wcA a (nI ct), wcR a (nI g) (nI g) 0 0, wcZ G (a 8) 7 db]) hE hP hD hS hA [0, 7, 8] rfl (by decide) [.ref (a 0), .int (nI u1)]⟩ rfl rfl hl.1 rfl (lv_room (Nat.le_of_ble_eq_true rfl)) dL_law_745 ⟨Nat.le_of_ble_eq_true rfl, Nat.le_of_ble_eq_true rfl⟩) hP hD hS hA [0, 7, 8] rfl rfl rfl rfl (fun H locs hP hD hS => ?_)
    have hq_745 : f_X3_doubt db (nI u1) = (0, upd db u1 1) := (by rw [doubt_eq hu1, if_neg hz])
    rw [hq_745] at hP hD
    have hP : va_P G.1 vwCl [wcA a (nI ct), wcS a (nI n), wcI G (a 2) 6 sc, wcI G (a 3) 20 cl, wcI G (a 4) 20 wt, wcI G (a 5) 20 kn, wcI G (a 6) 20 sp, wcR a (nI g) (nI g) 0 0, wcZ G (a 8) 7 (upd db u1 1), wcZ G (a 9) 4 ins, wcI G (a 10) 6 mv, wcO a (nI no) (nI la), wcI G (a 12) 30 ob, wcI G (a 13) 30 od, wcZ G (a 14) 30 dn, wcI G (q 0) 20 cl, wcI G (q 1) 20 wt, wcI G (q 2) 6 sc, wcI G (q 3) 20 lo, wcI G (q 4) 30 ob] H := hP
    have hD : va_D _ [wcA a (nI ct), wcS a (nI n), wcI G (a 2) 6 sc, wcI G (a 3) 20 cl, wcI G (a 4) 20 wt, wcI G (a 5) 20 kn, wcI G (a 6) 20 sp, wcR a (nI g) (nI g) 0 0, wcZ G (a 8) 7 (upd db u1 1), wcZ G (a 9) 4 ins, wcI G (a 10) 6 mv, wcO a (nI no) (nI la), wcI G (a 12) 30 ob, wcI G (a 13) 30 od, wcZ G (a 14) 30 dn, wcI G (q 0) 20 cl, wcI G (q 1) 20 wt, wcI G (q 2) 6 sc, wcI G (q 3) 20 lo, wcI G (q 4) 30 ob] := hD
    refine k_top (y := 0) (by rw [hq_745]) ?_
    refine lv_aload_n hx hb dL_law_748 rfl (lv_at hl 4 rfl) ?_
    refine lv_iload hx hb dL_law_749 (lv_at hl 0 rfl) ?_
    have kk_751 : k_X3_doubt (nI u1) = 0 := k_doubt hu1
    refine k_m (wc := [wcA a (nI ct), wcR a (nI g) (nI g) 0 0, wcZ G (a 8) 7 (upd db u1 1)]) (w1 := [wcA a (nI ct), wcR a (nI g) (nI g) 0 0, wcZ G (a 8) 7 ((f_X3_doubt (upd db u1 1) (nI u1)).2)]) (wn := [wcA a (nI ct), wcS a (nI n), wcI G (a 2) 6 sc, wcI G (a 3) 20 cl, wcI G (a 4) 20 wt, wcI G (a 5) 20 kn, wcI G (a 6) 20 sp, wcR a (nI g) (nI g) 0 0, wcZ G (a 8) 7 ((f_X3_doubt (upd db u1 1) (nI u1)).2), wcZ G (a 9) 4 ins, wcI G (a 10) 6 mv, wcO a (nI no) (nI la), wcI G (a 12) 30 ob, wcI G (a 13) 30 od, wcZ G (a 14) 30 dn, wcI G (q 0) 20 cl, wcI G (q 1) 20 wt, wcI G (q 2) 6 sc, wcI G (q 3) 20 lo, wcI G (q 4) 30 ob]) (va_runV (As := [.int (nI u1)]) (rest := [.int 0]) ⟨hx, hb, hml, hown, hts⟩ (c_X3_doubt l hl9 G a H.size (nI ct) (nI g) (nI g) 0 0 (upd db u1 1) (nI u1) kk_751) (cwV 1 hts gL_law_X3_doubt rfl rfl rfl ⟨rfl, by decide +kernel, by decide +kernel, by decide +kernel⟩ ⟨Nat.le_of_ble_eq_true rfl, Nat.le_of_ble_eq_true rfl⟩) ⟨GP.blind, va_recv hE.1 hP (ci := 3) (q0 := 0) rfl rfl, GP.go (wc := [wcA a (nI ct), wcR a (nI g) (nI g) 0 0, wcZ G (a 8) 7 (upd db u1 1)]) hE hP hD hS hA [0, 7, 8] rfl (by decide) [.ref (a 0), .int (nI u1)]⟩ rfl rfl hl.1 rfl (lv_room (Nat.le_of_ble_eq_true rfl)) dL_law_751 ⟨Nat.le_of_ble_eq_true rfl, Nat.le_of_ble_eq_true rfl⟩) hP hD hS hA [0, 7, 8] rfl rfl rfl rfl (fun H locs hP hD hS => ?_)
    have hq_751 : f_X3_doubt (upd db u1 1) (nI u1) = (0, upd (upd db u1 1) u1 1) := (by rw [doubt_eq hu1, pk_us, if_neg (by decide)])
    rw [hq_751] at hP hD
    have hP : va_P G.1 vwCl [wcA a (nI ct), wcS a (nI n), wcI G (a 2) 6 sc, wcI G (a 3) 20 cl, wcI G (a 4) 20 wt, wcI G (a 5) 20 kn, wcI G (a 6) 20 sp, wcR a (nI g) (nI g) 0 0, wcZ G (a 8) 7 (upd (upd db u1 1) u1 1), wcZ G (a 9) 4 ins, wcI G (a 10) 6 mv, wcO a (nI no) (nI la), wcI G (a 12) 30 ob, wcI G (a 13) 30 od, wcZ G (a 14) 30 dn, wcI G (q 0) 20 cl, wcI G (q 1) 20 wt, wcI G (q 2) 6 sc, wcI G (q 3) 20 lo, wcI G (q 4) 30 ob] H := hP
    have hD : va_D _ [wcA a (nI ct), wcS a (nI n), wcI G (a 2) 6 sc, wcI G (a 3) 20 cl, wcI G (a 4) 20 wt, wcI G (a 5) 20 kn, wcI G (a 6) 20 sp, wcR a (nI g) (nI g) 0 0, wcZ G (a 8) 7 (upd (upd db u1 1) u1 1), wcZ G (a 9) 4 ins, wcI G (a 10) 6 mv, wcO a (nI no) (nI la), wcI G (a 12) 30 ob, wcI G (a 13) 30 od, wcZ G (a 14) 30 dn, wcI G (q 0) 20 cl, wcI G (q 1) 20 wt, wcI G (q 2) 6 sc, wcI G (q 3) 20 lo, wcI G (q 4) 30 ob] := hD
    refine k_top (y := 0) (by rw [hq_751]) ?_
    have k_754 : (0 : Int32) = (0 : Int32) := by decide
    refine lv_icmp_ne (tgt := 766) hx hb dL_law_754 (by decide) (fun c_754 => absurd k_754 c_754) (fun c_754 => ?_)
    refine lv_aload_n hx hb dL_law_757 rfl (lv_at hl 4 rfl) ?_
    refine lv_iload hx hb dL_law_758 (lv_at hl 0 rfl) ?_
    have kk_760 : k_X3_doubt (nI u1) = 0 := k_doubt hu1
    refine k_m (wc := [wcA a (nI ct), wcR a (nI g) (nI g) 0 0, wcZ G (a 8) 7 (upd (upd db u1 1) u1 1)]) (w1 := [wcA a (nI ct), wcR a (nI g) (nI g) 0 0, wcZ G (a 8) 7 ((f_X3_doubt (upd (upd db u1 1) u1 1) (nI u1)).2)]) (wn := [wcA a (nI ct), wcS a (nI n), wcI G (a 2) 6 sc, wcI G (a 3) 20 cl, wcI G (a 4) 20 wt, wcI G (a 5) 20 kn, wcI G (a 6) 20 sp, wcR a (nI g) (nI g) 0 0, wcZ G (a 8) 7 ((f_X3_doubt (upd (upd db u1 1) u1 1) (nI u1)).2), wcZ G (a 9) 4 ins, wcI G (a 10) 6 mv, wcO a (nI no) (nI la), wcI G (a 12) 30 ob, wcI G (a 13) 30 od, wcZ G (a 14) 30 dn, wcI G (q 0) 20 cl, wcI G (q 1) 20 wt, wcI G (q 2) 6 sc, wcI G (q 3) 20 lo, wcI G (q 4) 30 ob]) (va_runV (As := [.int (nI u1)]) (rest := []) ⟨hx, hb, hml, hown, hts⟩ (c_X3_doubt l hl9 G a H.size (nI ct) (nI g) (nI g) 0 0 (upd (upd db u1 1) u1 1) (nI u1) kk_760) (cwV 1 hts gL_law_X3_doubt rfl rfl rfl ⟨rfl, by decide +kernel, by decide +kernel, by decide +kernel⟩ ⟨Nat.le_of_ble_eq_true rfl, Nat.le_of_ble_eq_true rfl⟩) ⟨GP.blind, va_recv hE.1 hP (ci := 3) (q0 := 0) rfl rfl, GP.go (wc := [wcA a (nI ct), wcR a (nI g) (nI g) 0 0, wcZ G (a 8) 7 (upd (upd db u1 1) u1 1)]) hE hP hD hS hA [0, 7, 8] rfl (by decide) [.ref (a 0), .int (nI u1)]⟩ rfl rfl hl.1 rfl (lv_room (Nat.le_of_ble_eq_true rfl)) dL_law_760 ⟨Nat.le_of_ble_eq_true rfl, Nat.le_of_ble_eq_true rfl⟩) hP hD hS hA [0, 7, 8] rfl rfl rfl rfl (fun H locs hP hD hS => ?_)
    have hq_760 : f_X3_doubt (upd (upd db u1 1) u1 1) (nI u1) = (0, upd (upd (upd db u1 1) u1 1) u1 1) := (by rw [doubt_eq hu1, pk_us, if_neg (by decide)])
    rw [hq_760] at hP hD
    have hP : va_P G.1 vwCl [wcA a (nI ct), wcS a (nI n), wcI G (a 2) 6 sc, wcI G (a 3) 20 cl, wcI G (a 4) 20 wt, wcI G (a 5) 20 kn, wcI G (a 6) 20 sp, wcR a (nI g) (nI g) 0 0, wcZ G (a 8) 7 (upd (upd (upd db u1 1) u1 1) u1 1), wcZ G (a 9) 4 ins, wcI G (a 10) 6 mv, wcO a (nI no) (nI la), wcI G (a 12) 30 ob, wcI G (a 13) 30 od, wcZ G (a 14) 30 dn, wcI G (q 0) 20 cl, wcI G (q 1) 20 wt, wcI G (q 2) 6 sc, wcI G (q 3) 20 lo, wcI G (q 4) 30 ob] H := hP
    have hD : va_D _ [wcA a (nI ct), wcS a (nI n), wcI G (a 2) 6 sc, wcI G (a 3) 20 cl, wcI G (a 4) 20 wt, wcI G (a 5) 20 kn, wcI G (a 6) 20 sp, wcR a (nI g) (nI g) 0 0, wcZ G (a 8) 7 (upd (upd (upd db u1 1) u1 1) u1 1), wcZ G (a 9) 4 ins, wcI G (a 10) 6 mv, wcO a (nI no) (nI la), wcI G (a 12) 30 ob, wcI G (a 13) 30 od, wcZ G (a 14) 30 dn, wcI G (q 0) 20 cl, wcI G (q 1) 20 wt, wcI G (q 2) 6 sc, wcI G (q 3) 20 lo, wcI G (q 4) 30 ob] := hD
    refine k_top (y := 0) (by rw [hq_760]) ?_
    have k_763 : (0 : Int32) = (0 : Int32) := by decide
    refine lv_if_ne (tgt := 770) hx hb dL_law_763 (by decide) (fun c_763 => absurd k_763 c_763) (fun c_763 => ?_)
    refine lv_iconst (v := 1) hx hb dL_law_766 (by decide) ?_
    refine lv_goto (tgt := 771) hx hb dL_law_767 (by decide) ?_
    refine lv_istore (lv' := [(17, .int 1), (18, .int (nI u1)), (14, .int w), (12, .int (nI j)), (0, .ref bs), (1, .ref (a 0)), (2, .ref (q 0)), (3, .ref (q 1)), (4, .ref (q 2)), (5, .ref (q 3)), (6, .ref (q 4)), (7, .int (nI n)), (8, .int (nI no)), (9, .int (nI (cntN dn no))), (10, .int 0), (11, .int (nI ct))]) hx hb dL_law_771 hl (by decide) rfl (fun ls hl => ?_)
    refine lv_goto (tgt := 869) hx hb dL_law_773 (by decide) ?_
    exact hk n no g ct la sc cl wt kn sp (upd (upd (upd db u1 1) u1 1) u1 1) ins mv ob od dn lo mli H _ ls hIV.same hP hD hS (lv_sub hl [0, 3, 4, 5, 6, 7, 8, 9, 10, 11, 12, 13, 14, 15] rfl)
set_option maxHeartbeats 8000000 in
set_option maxRecDepth 100000 in
theorem law_stall {p : Program} {l : Launch} {e : Env} {s : State} {m : MethodId} {below : List Frame} {meth : Method} {c : Code} {Q : State → Prop} {bs : Nat} {G : GT} {a q : Nat → Nat} {j : Nat} {H : Heap} {locs : List Loc} {ls : Array Slot} (n no g ct la : Nat) (sc cl wt kn sp db ins mv ob od dn lo mli : Nat → Int32) 
    (hl9 : l.stackTraces = false) (hx : p.tables.exec = Jvm.exec) (hb : c.code = cL_law) (hml : c.maxLocals = 21) (hown : s.vm.findClass RL = some m.cls) (hts : ∀ w ∈ wsL_law, w.before #[Value.ref bs] s = true) (hE : Ev G s) (hj : j < 60) (hIV : IV j n no g ct la sp mli ob od dn mv ins lo)
    (hP : va_P G.1 vwCl (LW G a q n no g ct la sc cl wt kn sp db ins mv ob od dn lo) H) (hD : va_D (fun q : Nat => s.heap.size ≤ q) (LW G a q n no g ct la sc cl wt kn sp db ins mv ob od dn lo)) (hS : va_S (fun q : Nat => s.heap.size ≤ q) s.heap H locs) (hl : lv_has ls 21 [(12, .int (nI j)), (0, .ref bs), (1, .ref (a 0)), (2, .ref (q 0)), (3, .ref (q 1)), (4, .ref (q 2)), (5, .ref (q 3)), (6, .ref (q 4)), (7, .int (nI n)), (8, .int (nI no)), (9, .int (nI (cntN dn no))), (10, .int 0), (11, .int (nI ct))]) (hk : LK p l e s m below meth c Q bs G a q j) : W p l e room_1 s m #[Value.ref bs] below meth c H locs 20 311 Q (F0 m 783 ls []) := by
  have hA : ∀ q : Nat, s.heap.size ≤ q → (fun q : Nat => s.heap.size ≤ q) q := fun _ h => h
  obtain ⟨hn, hno, hg, hct, hla, hR, hO, hV, hI, hOP⟩ := id hIV
  have hP : va_P G.1 vwCl [wcA a (nI ct), wcS a (nI n), wcI G (a 2) 6 sc, wcI G (a 3) 20 cl, wcI G (a 4) 20 wt, wcI G (a 5) 20 kn, wcI G (a 6) 20 sp, wcR a (nI g) (nI g) 0 0, wcZ G (a 8) 7 db, wcZ G (a 9) 4 ins, wcI G (a 10) 6 mv, wcO a (nI no) (nI la), wcI G (a 12) 30 ob, wcI G (a 13) 30 od, wcZ G (a 14) 30 dn, wcI G (q 0) 20 cl, wcI G (q 1) 20 wt, wcI G (q 2) 6 sc, wcI G (q 3) 20 lo, wcI G (q 4) 30 ob] H := hP
  have hD : va_D (fun q : Nat => s.heap.size ≤ q) [wcA a (nI ct), wcS a (nI n), wcI G (a 2) 6 sc, wcI G (a 3) 20 cl, wcI G (a 4) 20 wt, wcI G (a 5) 20 kn, wcI G (a 6) 20 sp, wcR a (nI g) (nI g) 0 0, wcZ G (a 8) 7 db, wcZ G (a 9) 4 ins, wcI G (a 10) 6 mv, wcO a (nI no) (nI la), wcI G (a 12) 30 ob, wcI G (a 13) 30 od, wcZ G (a 14) 30 dn, wcI G (q 0) 20 cl, wcI G (q 1) 20 wt, wcI G (q 2) 6 sc, wcI G (q 3) 20 lo, wcI G (q 4) 30 ob] := hD
  refine lv_aload_n hx hb dL_law_783 rfl (lv_at hl 2 rfl) ?_
  refine lv_iconst (v := 1) hx hb dL_law_784 (by decide) ?_
  refine k_m (wc := [wcA a (nI ct), wcR a (nI g) (nI g) 0 0]) (w1 := [wcA a (nI ct), wcR a (nI g) (nI g) ((f_X3_stall 0 1).2) 0]) (wn := [wcA a (nI ct), wcS a (nI n), wcI G (a 2) 6 sc, wcI G (a 3) 20 cl, wcI G (a 4) 20 wt, wcI G (a 5) 20 kn, wcI G (a 6) 20 sp, wcR a (nI g) (nI g) ((f_X3_stall 0 1).2) 0, wcZ G (a 8) 7 db, wcZ G (a 9) 4 ins, wcI G (a 10) 6 mv, wcO a (nI no) (nI la), wcI G (a 12) 30 ob, wcI G (a 13) 30 od, wcZ G (a 14) 30 dn, wcI G (q 0) 20 cl, wcI G (q 1) 20 wt, wcI G (q 2) 6 sc, wcI G (q 3) 20 lo, wcI G (q 4) 30 ob]) (va_runV (As := [.int 1]) (rest := []) ⟨hx, hb, hml, hown, hts⟩ (c_X3_stall l G a H.size (nI ct) (nI g) (nI g) 0 0 1 (Or.inr rfl)) (cwV 1 hts gL_law_X3_stall rfl rfl rfl ⟨rfl, by decide +kernel, by decide +kernel, by decide +kernel⟩ ⟨Nat.le_of_ble_eq_true rfl, Nat.le_of_ble_eq_true rfl⟩) ⟨GP.blind, va_recv hE.1 hP (ci := 3) (q0 := 0) rfl rfl, GP.go (wc := [wcA a (nI ct), wcR a (nI g) (nI g) 0 0]) hE hP hD hS hA [0, 7] rfl (by decide) [.ref (a 0), .int 1]⟩ rfl rfl hl.1 rfl (lv_room (Nat.le_of_ble_eq_true rfl)) dL_law_785 ⟨Nat.le_of_ble_eq_true rfl, Nat.le_of_ble_eq_true rfl⟩) hP hD hS hA [0, 7] rfl rfl rfl rfl (fun H locs hP hD hS => ?_)
  have hq_785 : f_X3_stall 0 1 = (1, 1) := stall01
  rw [hq_785] at hP hD
  have hP : va_P G.1 vwCl [wcA a (nI ct), wcS a (nI n), wcI G (a 2) 6 sc, wcI G (a 3) 20 cl, wcI G (a 4) 20 wt, wcI G (a 5) 20 kn, wcI G (a 6) 20 sp, wcR a (nI g) (nI g) 1 0, wcZ G (a 8) 7 db, wcZ G (a 9) 4 ins, wcI G (a 10) 6 mv, wcO a (nI no) (nI la), wcI G (a 12) 30 ob, wcI G (a 13) 30 od, wcZ G (a 14) 30 dn, wcI G (q 0) 20 cl, wcI G (q 1) 20 wt, wcI G (q 2) 6 sc, wcI G (q 3) 20 lo, wcI G (q 4) 30 ob] H := hP
  have hD : va_D _ [wcA a (nI ct), wcS a (nI n), wcI G (a 2) 6 sc, wcI G (a 3) 20 cl, wcI G (a 4) 20 wt, wcI G (a 5) 20 kn, wcI G (a 6) 20 sp, wcR a (nI g) (nI g) 1 0, wcZ G (a 8) 7 db, wcZ G (a 9) 4 ins, wcI G (a 10) 6 mv, wcO a (nI no) (nI la), wcI G (a 12) 30 ob, wcI G (a 13) 30 od, wcZ G (a 14) 30 dn, wcI G (q 0) 20 cl, wcI G (q 1) 20 wt, wcI G (q 2) 6 sc, wcI G (q 3) 20 lo, wcI G (q 4) 30 ob] := hD
  refine k_top (y := 1) (by rw [hq_785]) ?_
  have k_788 : ¬ ((1 : Int32) = (0 : Int32)) := by decide
  refine lv_if_eq (tgt := 827) hx hb dL_law_788 (by decide) (fun c_788 => absurd c_788 k_788) (fun c_788 => ?_)
  refine lv_aload_n hx hb dL_law_791 rfl (lv_at hl 2 rfl) ?_
  refine lv_iconst (v := 1) hx hb dL_law_792 (by decide) ?_
  refine k_m (wc := [wcA a (nI ct), wcR a (nI g) (nI g) 1 0]) (w1 := [wcA a (nI ct), wcR a (nI g) (nI g) ((f_X3_stall 1 1).2) 0]) (wn := [wcA a (nI ct), wcS a (nI n), wcI G (a 2) 6 sc, wcI G (a 3) 20 cl, wcI G (a 4) 20 wt, wcI G (a 5) 20 kn, wcI G (a 6) 20 sp, wcR a (nI g) (nI g) ((f_X3_stall 1 1).2) 0, wcZ G (a 8) 7 db, wcZ G (a 9) 4 ins, wcI G (a 10) 6 mv, wcO a (nI no) (nI la), wcI G (a 12) 30 ob, wcI G (a 13) 30 od, wcZ G (a 14) 30 dn, wcI G (q 0) 20 cl, wcI G (q 1) 20 wt, wcI G (q 2) 6 sc, wcI G (q 3) 20 lo, wcI G (q 4) 30 ob]) (va_runV (As := [.int 1]) (rest := []) ⟨hx, hb, hml, hown, hts⟩ (c_X3_stall l G a H.size (nI ct) (nI g) (nI g) 1 0 1 (Or.inr rfl)) (cwV 1 hts gL_law_X3_stall rfl rfl rfl ⟨rfl, by decide +kernel, by decide +kernel, by decide +kernel⟩ ⟨Nat.le_of_ble_eq_true rfl, Nat.le_of_ble_eq_true rfl⟩) ⟨GP.blind, va_recv hE.1 hP (ci := 3) (q0 := 0) rfl rfl, GP.go (wc := [wcA a (nI ct), wcR a (nI g) (nI g) 1 0]) hE hP hD hS hA [0, 7] rfl (by decide) [.ref (a 0), .int 1]⟩ rfl rfl hl.1 rfl (lv_room (Nat.le_of_ble_eq_true rfl)) dL_law_793 ⟨Nat.le_of_ble_eq_true rfl, Nat.le_of_ble_eq_true rfl⟩) hP hD hS hA [0, 7] rfl rfl rfl rfl (fun H locs hP hD hS => ?_)
  have hq_793 : f_X3_stall 1 1 = (0, 1) := stall11
  rw [hq_793] at hP hD
  have hP : va_P G.1 vwCl [wcA a (nI ct), wcS a (nI n), wcI G (a 2) 6 sc, wcI G (a 3) 20 cl, wcI G (a 4) 20 wt, wcI G (a 5) 20 kn, wcI G (a 6) 20 sp, wcR a (nI g) (nI g) 1 0, wcZ G (a 8) 7 db, wcZ G (a 9) 4 ins, wcI G (a 10) 6 mv, wcO a (nI no) (nI la), wcI G (a 12) 30 ob, wcI G (a 13) 30 od, wcZ G (a 14) 30 dn, wcI G (q 0) 20 cl, wcI G (q 1) 20 wt, wcI G (q 2) 6 sc, wcI G (q 3) 20 lo, wcI G (q 4) 30 ob] H := hP
  have hD : va_D _ [wcA a (nI ct), wcS a (nI n), wcI G (a 2) 6 sc, wcI G (a 3) 20 cl, wcI G (a 4) 20 wt, wcI G (a 5) 20 kn, wcI G (a 6) 20 sp, wcR a (nI g) (nI g) 1 0, wcZ G (a 8) 7 db, wcZ G (a 9) 4 ins, wcI G (a 10) 6 mv, wcO a (nI no) (nI la), wcI G (a 12) 30 ob, wcI G (a 13) 30 od, wcZ G (a 14) 30 dn, wcI G (q 0) 20 cl, wcI G (q 1) 20 wt, wcI G (q 2) 6 sc, wcI G (q 3) 20 lo, wcI G (q 4) 30 ob] := hD
  refine k_top (y := 0) (by rw [hq_793]) ?_
  have k_796 : (0 : Int32) = (0 : Int32) := by decide
  refine lv_if_ne (tgt := 827) hx hb dL_law_796 (by decide) (fun c_796 => absurd k_796 c_796) (fun c_796 => ?_)
  refine lv_aload_n hx hb dL_law_799 rfl (lv_at hl 2 rfl) ?_
  refine lv_iconst (v := 0) hx hb dL_law_800 (by decide) ?_
  refine k_m (wc := [wcA a (nI ct), wcR a (nI g) (nI g) 1 0]) (w1 := [wcA a (nI ct), wcR a (nI g) (nI g) ((f_X3_stall 1 0).2) 0]) (wn := [wcA a (nI ct), wcS a (nI n), wcI G (a 2) 6 sc, wcI G (a 3) 20 cl, wcI G (a 4) 20 wt, wcI G (a 5) 20 kn, wcI G (a 6) 20 sp, wcR a (nI g) (nI g) ((f_X3_stall 1 0).2) 0, wcZ G (a 8) 7 db, wcZ G (a 9) 4 ins, wcI G (a 10) 6 mv, wcO a (nI no) (nI la), wcI G (a 12) 30 ob, wcI G (a 13) 30 od, wcZ G (a 14) 30 dn, wcI G (q 0) 20 cl, wcI G (q 1) 20 wt, wcI G (q 2) 6 sc, wcI G (q 3) 20 lo, wcI G (q 4) 30 ob]) (va_runV (As := [.int 0]) (rest := []) ⟨hx, hb, hml, hown, hts⟩ (c_X3_stall l G a H.size (nI ct) (nI g) (nI g) 1 0 0 (Or.inl rfl)) (cwV 1 hts gL_law_X3_stall rfl rfl rfl ⟨rfl, by decide +kernel, by decide +kernel, by decide +kernel⟩ ⟨Nat.le_of_ble_eq_true rfl, Nat.le_of_ble_eq_true rfl⟩) ⟨GP.blind, va_recv hE.1 hP (ci := 3) (q0 := 0) rfl rfl, GP.go (wc := [wcA a (nI ct), wcR a (nI g) (nI g) 1 0]) hE hP hD hS hA [0, 7] rfl (by decide) [.ref (a 0), .int 0]⟩ rfl rfl hl.1 rfl (lv_room (Nat.le_of_ble_eq_true rfl)) dL_law_801 ⟨Nat.le_of_ble_eq_true rfl, Nat.le_of_ble_eq_true rfl⟩) hP hD hS hA [0, 7] rfl rfl rfl rfl (fun H locs hP hD hS => ?_)
  have hq_801 : f_X3_stall 1 0 = (1, 0) := stall10
  rw [hq_801] at hP hD
  have hP : va_P G.1 vwCl [wcA a (nI ct), wcS a (nI n), wcI G (a 2) 6 sc, wcI G (a 3) 20 cl, wcI G (a 4) 20 wt, wcI G (a 5) 20 kn, wcI G (a 6) 20 sp, wcR a (nI g) (nI g) 0 0, wcZ G (a 8) 7 db, wcZ G (a 9) 4 ins, wcI G (a 10) 6 mv, wcO a (nI no) (nI la), wcI G (a 12) 30 ob, wcI G (a 13) 30 od, wcZ G (a 14) 30 dn, wcI G (q 0) 20 cl, wcI G (q 1) 20 wt, wcI G (q 2) 6 sc, wcI G (q 3) 20 lo, wcI G (q 4) 30 ob] H := hP
  have hD : va_D _ [wcA a (nI ct), wcS a (nI n), wcI G (a 2) 6 sc, wcI G (a 3) 20 cl, wcI G (a 4) 20 wt, wcI G (a 5) 20 kn, wcI G (a 6) 20 sp, wcR a (nI g) (nI g) 0 0, wcZ G (a 8) 7 db, wcZ G (a 9) 4 ins, wcI G (a 10) 6 mv, wcO a (nI no) (nI la), wcI G (a 12) 30 ob, wcI G (a 13) 30 od, wcZ G (a 14) 30 dn, wcI G (q 0) 20 cl, wcI G (q 1) 20 wt, wcI G (q 2) 6 sc, wcI G (q 3) 20 lo, wcI G (q 4) 30 ob] := hD
  refine k_top (y := 1) (by rw [hq_801]) ?_
  have k_804 : ¬ ((1 : Int32) = (0 : Int32)) := by decide
  refine lv_if_eq (tgt := 827) hx hb dL_law_804 (by decide) (fun c_804 => absurd c_804 k_804) (fun c_804 => ?_)
  refine lv_aload_n hx hb dL_law_807 rfl (lv_at hl 2 rfl) ?_
  refine lv_iconst (v := 1) hx hb dL_law_808 (by decide) ?_
  refine k_m (wc := [wcA a (nI ct), wcR a (nI g) (nI g) 0 0, wcZ G (a 9) 4 ins]) (w1 := [wcA a (nI ct), wcR a (nI g) (nI g) 0 ((f_X3_smoke ins 1).2.1), wcZ G (a 9) 4 ((f_X3_smoke ins 1).2.2)]) (wn := [wcA a (nI ct), wcS a (nI n), wcI G (a 2) 6 sc, wcI G (a 3) 20 cl, wcI G (a 4) 20 wt, wcI G (a 5) 20 kn, wcI G (a 6) 20 sp, wcR a (nI g) (nI g) 0 ((f_X3_smoke ins 1).2.1), wcZ G (a 8) 7 db, wcZ G (a 9) 4 ((f_X3_smoke ins 1).2.2), wcI G (a 10) 6 mv, wcO a (nI no) (nI la), wcI G (a 12) 30 ob, wcI G (a 13) 30 od, wcZ G (a 14) 30 dn, wcI G (q 0) 20 cl, wcI G (q 1) 20 wt, wcI G (q 2) 6 sc, wcI G (q 3) 20 lo, wcI G (q 4) 30 ob]) (va_runV (As := [.int 1]) (rest := []) ⟨hx, hb, hml, hown, hts⟩ (c_X3_smoke l G a H.size (nI ct) (nI g) (nI g) 0 0 ins 1 (Or.inr rfl)) (cwV 1 hts gL_law_X3_smoke rfl rfl rfl ⟨rfl, by decide +kernel, by decide +kernel, by decide +kernel⟩ ⟨Nat.le_of_ble_eq_true rfl, Nat.le_of_ble_eq_true rfl⟩) ⟨GP.blind, va_recv hE.1 hP (ci := 3) (q0 := 0) rfl rfl, GP.go (wc := [wcA a (nI ct), wcR a (nI g) (nI g) 0 0, wcZ G (a 9) 4 ins]) hE hP hD hS hA [0, 7, 9] rfl (by decide) [.ref (a 0), .int 1]⟩ rfl rfl hl.1 rfl (lv_room (Nat.le_of_ble_eq_true rfl)) dL_law_809 ⟨Nat.le_of_ble_eq_true rfl, Nat.le_of_ble_eq_true rfl⟩) hP hD hS hA [0, 7, 9] rfl rfl rfl rfl (fun H locs hP hD hS => ?_)
  have hq_809 : f_X3_smoke ins 1 = (0, 1, (f_X1_sendAllOut ins).2) := smoke1_eq hI
  rw [hq_809] at hP hD
  have hP : va_P G.1 vwCl [wcA a (nI ct), wcS a (nI n), wcI G (a 2) 6 sc, wcI G (a 3) 20 cl, wcI G (a 4) 20 wt, wcI G (a 5) 20 kn, wcI G (a 6) 20 sp, wcR a (nI g) (nI g) 0 1, wcZ G (a 8) 7 db, wcZ G (a 9) 4 ((f_X1_sendAllOut ins).2), wcI G (a 10) 6 mv, wcO a (nI no) (nI la), wcI G (a 12) 30 ob, wcI G (a 13) 30 od, wcZ G (a 14) 30 dn, wcI G (q 0) 20 cl, wcI G (q 1) 20 wt, wcI G (q 2) 6 sc, wcI G (q 3) 20 lo, wcI G (q 4) 30 ob] H := hP
  have hD : va_D _ [wcA a (nI ct), wcS a (nI n), wcI G (a 2) 6 sc, wcI G (a 3) 20 cl, wcI G (a 4) 20 wt, wcI G (a 5) 20 kn, wcI G (a 6) 20 sp, wcR a (nI g) (nI g) 0 1, wcZ G (a 8) 7 db, wcZ G (a 9) 4 ((f_X1_sendAllOut ins).2), wcI G (a 10) 6 mv, wcO a (nI no) (nI la), wcI G (a 12) 30 ob, wcI G (a 13) 30 od, wcZ G (a 14) 30 dn, wcI G (q 0) 20 cl, wcI G (q 1) 20 wt, wcI G (q 2) 6 sc, wcI G (q 3) 20 lo, wcI G (q 4) 30 ob] := hD
  refine k_top (y := 0) (by rw [hq_809]) ?_
  have k_812 : (0 : Int32) = (0 : Int32) := by decide
  refine lv_if_ne (tgt := 827) hx hb dL_law_812 (by decide) (fun c_812 => absurd k_812 c_812) (fun c_812 => ?_)
  refine lv_aload_n hx hb dL_law_815 rfl (lv_at hl 2 rfl) ?_
  refine lv_iconst (v := 0) hx hb dL_law_816 (by decide) ?_
  refine k_m (wc := [wcA a (nI ct), wcR a (nI g) (nI g) 0 1, wcZ G (a 9) 4 ((f_X1_sendAllOut ins).2)]) (w1 := [wcA a (nI ct), wcR a (nI g) (nI g) 0 ((f_X3_smoke ((f_X1_sendAllOut ins).2) 0).2.1), wcZ G (a 9) 4 ((f_X3_smoke ((f_X1_sendAllOut ins).2) 0).2.2)]) (wn := [wcA a (nI ct), wcS a (nI n), wcI G (a 2) 6 sc, wcI G (a 3) 20 cl, wcI G (a 4) 20 wt, wcI G (a 5) 20 kn, wcI G (a 6) 20 sp, wcR a (nI g) (nI g) 0 ((f_X3_smoke ((f_X1_sendAllOut ins).2) 0).2.1), wcZ G (a 8) 7 db, wcZ G (a 9) 4 ((f_X3_smoke ((f_X1_sendAllOut ins).2) 0).2.2), wcI G (a 10) 6 mv, wcO a (nI no) (nI la), wcI G (a 12) 30 ob, wcI G (a 13) 30 od, wcZ G (a 14) 30 dn, wcI G (q 0) 20 cl, wcI G (q 1) 20 wt, wcI G (q 2) 6 sc, wcI G (q 3) 20 lo, wcI G (q 4) 30 ob]) (va_runV (As := [.int 0]) (rest := []) ⟨hx, hb, hml, hown, hts⟩ (c_X3_smoke l G a H.size (nI ct) (nI g) (nI g) 0 1 ((f_X1_sendAllOut ins).2) 0 (Or.inl rfl)) (cwV 1 hts gL_law_X3_smoke rfl rfl rfl ⟨rfl, by decide +kernel, by decide +kernel, by decide +kernel⟩ ⟨Nat.le_of_ble_eq_true rfl, Nat.le_of_ble_eq_true rfl⟩) ⟨GP.blind, va_recv hE.1 hP (ci := 3) (q0 := 0) rfl rfl, GP.go (wc := [wcA a (nI ct), wcR a (nI g) (nI g) 0 1, wcZ G (a 9) 4 ((f_X1_sendAllOut ins).2)]) hE hP hD hS hA [0, 7, 9] rfl (by decide) [.ref (a 0), .int 0]⟩ rfl rfl hl.1 rfl (lv_room (Nat.le_of_ble_eq_true rfl)) dL_law_817 ⟨Nat.le_of_ble_eq_true rfl, Nat.le_of_ble_eq_true rfl⟩) hP hD hS hA [0, 7, 9] rfl rfl rfl rfl (fun H locs hP hD hS => ?_)
  have hq_817 : f_X3_smoke ((f_X1_sendAllOut ins).2) 0 = (0, 0, (f_X1_sendAllOut ins).2) := smoke0_eq
  rw [hq_817] at hP hD
  have hP : va_P G.1 vwCl [wcA a (nI ct), wcS a (nI n), wcI G (a 2) 6 sc, wcI G (a 3) 20 cl, wcI G (a 4) 20 wt, wcI G (a 5) 20 kn, wcI G (a 6) 20 sp, wcR a (nI g) (nI g) 0 0, wcZ G (a 8) 7 db, wcZ G (a 9) 4 ((f_X1_sendAllOut ins).2), wcI G (a 10) 6 mv, wcO a (nI no) (nI la), wcI G (a 12) 30 ob, wcI G (a 13) 30 od, wcZ G (a 14) 30 dn, wcI G (q 0) 20 cl, wcI G (q 1) 20 wt, wcI G (q 2) 6 sc, wcI G (q 3) 20 lo, wcI G (q 4) 30 ob] H := hP
  have hD : va_D _ [wcA a (nI ct), wcS a (nI n), wcI G (a 2) 6 sc, wcI G (a 3) 20 cl, wcI G (a 4) 20 wt, wcI G (a 5) 20 kn, wcI G (a 6) 20 sp, wcR a (nI g) (nI g) 0 0, wcZ G (a 8) 7 db, wcZ G (a 9) 4 ((f_X1_sendAllOut ins).2), wcI G (a 10) 6 mv, wcO a (nI no) (nI la), wcI G (a 12) 30 ob, wcI G (a 13) 30 od, wcZ G (a 14) 30 dn, wcI G (q 0) 20 cl, wcI G (q 1) 20 wt, wcI G (q 2) 6 sc, wcI G (q 3) 20 lo, wcI G (q 4) 30 ob] := hD
  refine k_top (y := 0) (by rw [hq_817]) ?_
  have k_820 : (0 : Int32) = (0 : Int32) := by decide
  refine lv_if_ne (tgt := 827) hx hb dL_law_820 (by decide) (fun c_820 => absurd k_820 c_820) (fun c_820 => ?_)
  refine lv_iconst (v := 1) hx hb dL_law_823 (by decide) ?_
  refine lv_goto (tgt := 828) hx hb dL_law_824 (by decide) ?_
  refine lv_istore (lv' := [(17, .int 1), (12, .int (nI j)), (0, .ref bs), (1, .ref (a 0)), (2, .ref (q 0)), (3, .ref (q 1)), (4, .ref (q 2)), (5, .ref (q 3)), (6, .ref (q 4)), (7, .int (nI n)), (8, .int (nI no)), (9, .int (nI (cntN dn no))), (10, .int 0), (11, .int (nI ct))]) hx hb dL_law_828 hl (by decide) rfl (fun ls hl => ?_)
  refine lv_goto (tgt := 869) hx hb dL_law_830 (by decide) ?_
  exact hk n no g ct la sc cl wt kn sp db ((f_X1_sendAllOut ins).2) mv ob od dn lo mli H _ ls (hIV.inz out_all) hP hD hS (lv_sub hl [0, 1, 2, 3, 4, 5, 6, 7, 8, 9, 10, 11, 12, 13] rfl)
set_option maxHeartbeats 8000000 in
set_option maxRecDepth 100000 in
theorem law_pass {p : Program} {l : Launch} {e : Env} {s : State} {m : MethodId} {below : List Frame} {meth : Method} {c : Code} {Q : State → Prop} {bs : Nat} {G : GT} {a q : Nat → Nat} {j : Nat} {H : Heap} {locs : List Loc} {ls : Array Slot} (n no g ct la : Nat) (sc cl wt kn sp db ins mv ob od dn lo mli : Nat → Int32) (w : Int32)
    (hl9 : l.stackTraces = false) (hx : p.tables.exec = Jvm.exec) (hb : c.code = cL_law) (hml : c.maxLocals = 21) (hown : s.vm.findClass RL = some m.cls) (hts : ∀ w ∈ wsL_law, w.before #[Value.ref bs] s = true) (hE : Ev G s) (hj : j < 60) (hIV : IV j n no g ct la sp mli ob od dn mv ins lo)
    (hP : va_P G.1 vwCl (LW G a q n no g ct la sc cl wt kn sp db ins mv ob od dn lo) H) (hD : va_D (fun q : Nat => s.heap.size ≤ q) (LW G a q n no g ct la sc cl wt kn sp db ins mv ob od dn lo)) (hS : va_S (fun q : Nat => s.heap.size ≤ q) s.heap H locs) (hl : lv_has ls 21 [(14, .int w), (12, .int (nI j)), (0, .ref bs), (1, .ref (a 0)), (2, .ref (q 0)), (3, .ref (q 1)), (4, .ref (q 2)), (5, .ref (q 3)), (6, .ref (q 4)), (7, .int (nI n)), (8, .int (nI no)), (9, .int (nI (cntN dn no))), (10, .int 0), (11, .int (nI ct))]) (hk : LK p l e s m below meth c Q bs G a q j) : W p l e room_1 s m #[Value.ref bs] below meth c H locs 20 311 Q (F0 m 833 ls []) := by
  have hA : ∀ q : Nat, s.heap.size ≤ q → (fun q : Nat => s.heap.size ≤ q) q := fun _ h => h
  obtain ⟨hn, hno, hg, hct, hla, hR, hO, hV, hI, hOP⟩ := id hIV
  have hP : va_P G.1 vwCl [wcA a (nI ct), wcS a (nI n), wcI G (a 2) 6 sc, wcI G (a 3) 20 cl, wcI G (a 4) 20 wt, wcI G (a 5) 20 kn, wcI G (a 6) 20 sp, wcR a (nI g) (nI g) 0 0, wcZ G (a 8) 7 db, wcZ G (a 9) 4 ins, wcI G (a 10) 6 mv, wcO a (nI no) (nI la), wcI G (a 12) 30 ob, wcI G (a 13) 30 od, wcZ G (a 14) 30 dn, wcI G (q 0) 20 cl, wcI G (q 1) 20 wt, wcI G (q 2) 6 sc, wcI G (q 3) 20 lo, wcI G (q 4) 30 ob] H := hP
  have hD : va_D (fun q : Nat => s.heap.size ≤ q) [wcA a (nI ct), wcS a (nI n), wcI G (a 2) 6 sc, wcI G (a 3) 20 cl, wcI G (a 4) 20 wt, wcI G (a 5) 20 kn, wcI G (a 6) 20 sp, wcR a (nI g) (nI g) 0 0, wcZ G (a 8) 7 db, wcZ G (a 9) 4 ins, wcI G (a 10) 6 mv, wcO a (nI no) (nI la), wcI G (a 12) 30 ob, wcI G (a 13) 30 od, wcZ G (a 14) 30 dn, wcI G (q 0) 20 cl, wcI G (q 1) 20 wt, wcI G (q 2) 6 sc, wcI G (q 3) 20 lo, wcI G (q 4) 30 ob] := hD
  refine lv_iconst (v := 1) hx hb dL_law_833 (by decide) ?_
  refine lv_iload hx hb dL_law_834 (lv_at hl 0 rfl) ?_
  refine lv_bipush (v := 30) hx hb dL_law_836 (by decide) ?_
  refine k_pl (va_runS (As := [.int w, .int 30]) (rest := [.int 1]) ⟨hx, hb, hml, hown, hts⟩ (c_L_low l G H.size w 30 30 rfl (by decide) (by decide)) (va_cwS 2 hts gL_law_L_low rfl rfl rfl ⟨by decide +kernel, by decide +kernel, by decide +kernel⟩ ⟨Nat.le_of_ble_eq_true rfl, Nat.le_of_ble_eq_true rfl⟩) ⟨GP.blind, GP.go (wc := []) hE hP hD hS hA [] rfl (by decide) [.int w, .int 30]⟩ rfl rfl hl.1 rfl (lv_room (Nat.le_of_ble_eq_true rfl)) dL_law_838 ⟨Nat.le_of_ble_eq_true rfl, Nat.le_of_ble_eq_true rfl⟩) (fun u1 hu1 => ?_)
  refine lv_iadd hx hb dL_law_841 ?_
  refine k_top (y := nI (u1 + 1)) ((Int32.add_comm _ _).trans (nI_1 u1)) ?_
  refine lv_istore (lv' := [(18, .int (nI (u1 + 1))), (14, .int w), (12, .int (nI j)), (0, .ref bs), (1, .ref (a 0)), (2, .ref (q 0)), (3, .ref (q 1)), (4, .ref (q 2)), (5, .ref (q 3)), (6, .ref (q 4)), (7, .int (nI n)), (8, .int (nI no)), (9, .int (nI (cntN dn no))), (10, .int 0), (11, .int (nI ct))]) hx hb dL_law_842 hl (by decide) rfl (fun ls hl => ?_)
  refine lv_iload hx hb dL_law_844 (lv_at hl 14 rfl) ?_
  refine lv_iload hx hb dL_law_846 (lv_at hl 0 rfl) ?_
  refine lv_iadd hx hb dL_law_848 ?_
  refine k_top (y := nI (ct + (u1 + 1))) (nI_add _ _) ?_
  refine lv_istore (lv' := [(11, .int (nI (ct + (u1 + 1)))), (18, .int (nI (u1 + 1))), (14, .int w), (12, .int (nI j)), (0, .ref bs), (1, .ref (a 0)), (2, .ref (q 0)), (3, .ref (q 1)), (4, .ref (q 2)), (5, .ref (q 3)), (6, .ref (q 4)), (7, .int (nI n)), (8, .int (nI no)), (9, .int (nI (cntN dn no))), (10, .int 0)]) hx hb dL_law_849 hl (by decide) rfl (fun ls hl => ?_)
  obtain ⟨mv2, eP, hV2⟩ := pass_eq (c := ct) (mv := mv) (q := u1 + 1) hg hg (by omega) (by omega) (by omega) (by unfold dst; omega) hV
  refine lv_aload_n hx hb dL_law_851 rfl (lv_at hl 5 rfl) ?_
  refine lv_iload hx hb dL_law_852 (lv_at hl 1 rfl) ?_
  have kk_854 : k_X3_pass (nI ct) (nI (u1 + 1)) = 0 := k_pass (by omega) (by omega) (by omega)
  refine k_m (wc := [wcA a (nI ct), wcR a (nI g) (nI g) 0 0, wcI G (a 10) 6 mv]) (w1 := [wcA a ((f_X3_pass (nI ct) (nI g) (nI g) 0 0 mv (nI (u1 + 1))).2.1), wcR a ((f_X3_pass (nI ct) (nI g) (nI g) 0 0 mv (nI (u1 + 1))).2.2.1) (nI g) 0 0, wcI G (a 10) 6 ((f_X3_pass (nI ct) (nI g) (nI g) 0 0 mv (nI (u1 + 1))).2.2.2)]) (wn := [wcA a ((f_X3_pass (nI ct) (nI g) (nI g) 0 0 mv (nI (u1 + 1))).2.1), wcS a (nI n), wcI G (a 2) 6 sc, wcI G (a 3) 20 cl, wcI G (a 4) 20 wt, wcI G (a 5) 20 kn, wcI G (a 6) 20 sp, wcR a ((f_X3_pass (nI ct) (nI g) (nI g) 0 0 mv (nI (u1 + 1))).2.2.1) (nI g) 0 0, wcZ G (a 8) 7 db, wcZ G (a 9) 4 ins, wcI G (a 10) 6 ((f_X3_pass (nI ct) (nI g) (nI g) 0 0 mv (nI (u1 + 1))).2.2.2), wcO a (nI no) (nI la), wcI G (a 12) 30 ob, wcI G (a 13) 30 od, wcZ G (a 14) 30 dn, wcI G (q 0) 20 cl, wcI G (q 1) 20 wt, wcI G (q 2) 6 sc, wcI G (q 3) 20 lo, wcI G (q 4) 30 ob]) (va_runV (As := [.int (nI (u1 + 1))]) (rest := []) ⟨hx, hb, hml, hown, hts⟩ (c_X3_pass l hl9 G a H.size (nI ct) (nI g) (nI g) 0 0 mv (nI (u1 + 1)) (hmv_of hg hg) kk_854) (cwV 1 hts gL_law_X3_pass rfl rfl rfl ⟨rfl, by decide +kernel, by decide +kernel, by decide +kernel⟩ ⟨Nat.le_of_ble_eq_true rfl, Nat.le_of_ble_eq_true rfl⟩) ⟨GP.blind, va_recv hE.1 hP (ci := 3) (q0 := 0) rfl rfl, GP.go (wc := [wcA a (nI ct), wcR a (nI g) (nI g) 0 0, wcI G (a 10) 6 mv]) hE hP hD hS hA [0, 7, 10] rfl (by decide) [.ref (a 0), .int (nI (u1 + 1))]⟩ rfl rfl hl.1 rfl (lv_room (Nat.le_of_ble_eq_true rfl)) dL_law_854 ⟨Nat.le_of_ble_eq_true rfl, Nat.le_of_ble_eq_true rfl⟩) hP hD hS hA [0, 7, 10] rfl rfl rfl rfl (fun H locs hP hD hS => ?_)
  have hq_854 : f_X3_pass (nI ct) (nI g) (nI g) 0 0 mv (nI (u1 + 1)) = (nI (ct + (u1 + 1)), nI (ct + (u1 + 1)), nI g, mv2) := eP
  rw [hq_854] at hP hD
  have hP : va_P G.1 vwCl [wcA a (nI (ct + (u1 + 1))), wcS a (nI n), wcI G (a 2) 6 sc, wcI G (a 3) 20 cl, wcI G (a 4) 20 wt, wcI G (a 5) 20 kn, wcI G (a 6) 20 sp, wcR a (nI g) (nI g) 0 0, wcZ G (a 8) 7 db, wcZ G (a 9) 4 ins, wcI G (a 10) 6 mv2, wcO a (nI no) (nI la), wcI G (a 12) 30 ob, wcI G (a 13) 30 od, wcZ G (a 14) 30 dn, wcI G (q 0) 20 cl, wcI G (q 1) 20 wt, wcI G (q 2) 6 sc, wcI G (q 3) 20 lo, wcI G (q 4) 30 ob] H := hP
  have hD : va_D _ [wcA a (nI (ct + (u1 + 1))), wcS a (nI n), wcI G (a 2) 6 sc, wcI G (a 3) 20 cl, wcI G (a 4) 20 wt, wcI G (a 5) 20 kn, wcI G (a 6) 20 sp, wcR a (nI g) (nI g) 0 0, wcZ G (a 8) 7 db, wcZ G (a 9) 4 ins, wcI G (a 10) 6 mv2, wcO a (nI no) (nI la), wcI G (a 12) 30 ob, wcI G (a 13) 30 od, wcZ G (a 14) 30 dn, wcI G (q 0) 20 cl, wcI G (q 1) 20 wt, wcI G (q 2) 6 sc, wcI G (q 3) 20 lo, wcI G (q 4) 30 ob] := hD
  refine k_top (y := nI (ct + (u1 + 1))) (by rw [hq_854]) ?_
  refine lv_iload hx hb dL_law_857 (lv_at hl 0 rfl) ?_
  have k_859 : (nI (ct + (u1 + 1))) = (nI (ct + (u1 + 1))) := rfl
  refine lv_icmp_ne (tgt := 866) hx hb dL_law_859 (by decide) (fun c_859 => absurd k_859 c_859) (fun c_859 => ?_)
  refine lv_iconst (v := 1) hx hb dL_law_862 (by decide) ?_
  refine lv_goto (tgt := 867) hx hb dL_law_863 (by decide) ?_
  refine lv_istore (lv' := [(17, .int 1), (11, .int (nI (ct + (u1 + 1)))), (18, .int (nI (u1 + 1))), (14, .int w), (12, .int (nI j)), (0, .ref bs), (1, .ref (a 0)), (2, .ref (q 0)), (3, .ref (q 1)), (4, .ref (q 2)), (5, .ref (q 3)), (6, .ref (q 4)), (7, .int (nI n)), (8, .int (nI no)), (9, .int (nI (cntN dn no))), (10, .int 0)]) hx hb dL_law_867 hl (by decide) rfl (fun ls hl => ?_)
  exact hk n no g (ct + (u1 + 1)) la sc cl wt kn sp db ins mv2 ob od dn lo mli H _ ls (hIV.pass hg (by omega) hV2) hP hD hS (lv_sub hl [0, 4, 5, 6, 7, 8, 9, 10, 11, 12, 13, 14, 15, 1] rfl)
