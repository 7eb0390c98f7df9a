/-! the turn: which case it is, the check behind it, the loop -/
set_option maxHeartbeats 8000000 in
set_option maxRecDepth 100000 in
theorem law_disp2 {p : Program} {l : Launch} {e : Env} {s : State} {m : MethodId} {below : List Frame} {meth : Method} {c : Code} {Q : State → Prop} {bs : Nat} {G : GT} {a q : Nat → Nat} {j : Nat} {H : Heap} {locs : List Loc} {ls : Array Slot} (n no g ct la : Nat) (sc cl wt kn sp db ins mv ob od dn lo mli : Nat → Int32) (w : Int32) (d : Nat) (hd : d < 13) (b : Nat) (hbn : b < n)
    (hl9 : l.stackTraces = false) (hx : p.tables.exec = Jvm.exec) (hb : c.code = cL_law) (hml : c.maxLocals = 21) (hown : s.vm.findClass RL = some m.cls) (hts : ∀ w ∈ wsL_law, w.before #[Value.ref bs] s = true) (hE : Ev G s) (hj : j < 60) (hIV : IV j n no g ct la sp mli ob od dn mv ins lo)
    (hP : va_P G.1 vwCl (LW G a q n no g ct la sc cl wt kn sp db ins mv ob od dn lo) H) (hD : va_D (fun q : Nat => s.heap.size ≤ q) (LW G a q n no g ct la sc cl wt kn sp db ins mv ob od dn lo)) (hS : va_S (fun q : Nat => s.heap.size ≤ q) s.heap H locs) (hl : lv_has ls 21 [(17, .int 1), (16, .int (nI b)), (15, .int (nI d)), (14, .int w), (12, .int (nI j)), (0, .ref bs), (1, .ref (a 0)), (2, .ref (q 0)), (3, .ref (q 1)), (4, .ref (q 2)), (5, .ref (q 3)), (6, .ref (q 4)), (7, .int (nI n)), (8, .int (nI no)), (9, .int (nI (cntN dn no))), (10, .int 0), (11, .int (nI ct))]) (hk : LK p l e s m below meth c Q bs G a q j) : W p l e room_1 s m #[Value.ref bs] below meth c H locs 20 311 Q (F0 m 433 ls []) := by
  have hA : ∀ q : Nat, s.heap.size ≤ q → (fun q : Nat => s.heap.size ≤ q) q := fun _ h => h
  obtain ⟨hn, hno, hg, hct, hla, hR, hO, hV, hI, hOP⟩ := id hIV
  have hP : va_P G.1 vwCl [wcA a (nI ct), wcS a (nI n), wcI G (a 2) 6 sc, wcI G (a 3) 20 cl, wcI G (a 4) 20 wt, wcI G (a 5) 20 kn, wcI G (a 6) 20 sp, wcR a (nI g) (nI g) 0 0, wcZ G (a 8) 7 db, wcZ G (a 9) 4 ins, wcI G (a 10) 6 mv, wcO a (nI no) (nI la), wcI G (a 12) 30 ob, wcI G (a 13) 30 od, wcZ G (a 14) 30 dn, wcI G (q 0) 20 cl, wcI G (q 1) 20 wt, wcI G (q 2) 6 sc, wcI G (q 3) 20 lo, wcI G (q 4) 30 ob] H := hP
  have hD : va_D (fun q : Nat => s.heap.size ≤ q) [wcA a (nI ct), wcS a (nI n), wcI G (a 2) 6 sc, wcI G (a 3) 20 cl, wcI G (a 4) 20 wt, wcI G (a 5) 20 kn, wcI G (a 6) 20 sp, wcR a (nI g) (nI g) 0 0, wcZ G (a 8) 7 db, wcZ G (a 9) 4 ins, wcI G (a 10) 6 mv, wcO a (nI no) (nI la), wcI G (a 12) 30 ob, wcI G (a 13) 30 od, wcZ G (a 14) 30 dn, wcI G (q 0) 20 cl, wcI G (q 1) 20 wt, wcI G (q 2) 6 sc, wcI G (q 3) 20 lo, wcI G (q 4) 30 ob] := hD
  by_cases h7 : d = 7
  · refine lv_iload hx hb dL_law_433 (lv_at hl 2 rfl) ?_
    refine lv_bipush (v := 7) hx hb dL_law_435 (by decide) ?_
    have k_437 : (nI d) = (7 : Int32) := by rw [h7]; rfl
    refine lv_icmp_ne (tgt := 579) hx hb dL_law_437 (by decide) (fun c_437 => absurd k_437 c_437) (fun c_437 => ?_)
    refine lv_iload hx hb dL_law_440 (lv_at hl 15 rfl) ?_
    have k_442 : (0 : Int32) = (0 : Int32) := by decide
    refine lv_if_ne (tgt := 579) hx hb dL_law_442 (by decide) (fun c_442 => absurd k_442 c_442) (fun c_442 => ?_)
    exact law_open n no g ct la sc cl wt kn sp db ins mv ob od dn lo mli  hl9 hx hb hml hown hts hE hj hIV hP hD hS (lv_sub hl [0, 4, 5, 6, 7, 8, 9, 10, 11, 12, 13, 14, 15, 16] rfl) hk
  · refine lv_iload hx hb dL_law_433 (lv_at hl 2 rfl) ?_
    refine lv_bipush (v := 7) hx hb dL_law_435 (by decide) ?_
    have k_437 : ¬ ((nI d) = (7 : Int32)) := fun z => h7 ((nI_eq (b := 7) (by omega) (by decide)).mp z)
    refine lv_icmp_ne (tgt := 579) hx hb dL_law_437 (by decide) (fun c_437 => ?_) (fun c_437 => absurd c_437 k_437)
    by_cases h10 : d < 10
    · refine lv_iload hx hb dL_law_579 (lv_at hl 2 rfl) ?_
      refine lv_bipush (v := 10) hx hb dL_law_581 (by decide) ?_
      have k_583 : ¬ ((10 : Int32) ≤ (nI d)) := nI_ge (b := 10) h10 (by decide)
      refine lv_icmp_ge (tgt := 726) hx hb dL_law_583 (by decide) (fun c_583 => absurd c_583 k_583) (fun c_583 => ?_)
      refine lv_aload_n hx hb dL_law_586 rfl (lv_at hl 6 rfl) ?_
      refine k_p (va_runV (As := []) (rest := []) ⟨hx, hb, hml, hown, hts⟩ (c_X3_opened l G a H.size (nI ct) (nI g) (nI g) 0 0) (cwV 0 hts gL_law_X3_opened rfl rfl rfl ⟨rfl, by decide +kernel, by decide +kernel, by decide +kernel⟩ ⟨Nat.le_of_ble_eq_true rfl, Nat.le_of_ble_eq_true rfl⟩) ⟨GP.blind, va_recv hE.1 hP (ci := 3) (q0 := 0) rfl rfl, GP.go (wc := [wcA a (nI ct), wcR a (nI g) (nI g) 0 0]) hE hP hD hS hA [0, 7] rfl (by decide) [.ref (a 0)]⟩ rfl rfl hl.1 rfl (lv_room (Nat.le_of_ble_eq_true rfl)) dL_law_587 ⟨Nat.le_of_ble_eq_true rfl, Nat.le_of_ble_eq_true rfl⟩) ?_
      refine k_top (y := nI g) opened_eq ?_
      have k_590 : ¬ ((nI g) < (0 : Int32)) := nI_pos (by omega)
      refine lv_if_lt (tgt := 726) hx hb dL_law_590 (by decide) (fun c_590 => absurd c_590 k_590) (fun c_590 => ?_)
      exact law_fetch n no g ct la sc cl wt kn sp db ins mv ob od dn lo mli  hl9 hx hb hml hown hts hE hj hIV hP hD hS (lv_sub hl [4, 5, 6, 7, 8, 9, 10, 11, 12, 13, 14, 15, 16] rfl) hk
    · refine lv_iload hx hb dL_law_579 (lv_at hl 2 rfl) ?_
      refine lv_bipush (v := 10) hx hb dL_law_581 (by decide) ?_
      have k_583 : (10 : Int32) ≤ (nI d) := nI_le (a := 10) (by omega) (by omega)
      refine lv_icmp_ge (tgt := 726) hx hb dL_law_583 (by decide) (fun c_583 => ?_) (fun c_583 => absurd k_583 c_583)
      by_cases h10e : d = 10
      · refine lv_iload hx hb dL_law_726 (lv_at hl 2 rfl) ?_
        refine lv_bipush (v := 10) hx hb dL_law_728 (by decide) ?_
        have k_730 : (nI d) = (10 : Int32) := by rw [h10e]; rfl
        refine lv_icmp_ne (tgt := 776) hx hb dL_law_730 (by decide) (fun c_730 => absurd k_730 c_730) (fun c_730 => ?_)
        exact law_doubt n no g ct la sc cl wt kn sp db ins mv ob od dn lo mli w hl9 hx hb hml hown hts hE hj hIV hP hD hS (lv_sub hl [3, 4, 5, 6, 7, 8, 9, 10, 11, 12, 13, 14, 15, 16] rfl) hk
      · refine lv_iload hx hb dL_law_726 (lv_at hl 2 rfl) ?_
        refine lv_bipush (v := 10) hx hb dL_law_728 (by decide) ?_
        have k_730 : ¬ ((nI d) = (10 : Int32)) := fun z => h10e ((nI_eq (b := 10) (by omega) (by decide)).mp z)
        refine lv_icmp_ne (tgt := 776) hx hb dL_law_730 (by decide) (fun c_730 => ?_) (fun c_730 => absurd c_730 k_730)
        by_cases h11 : d = 11
        · refine lv_iload hx hb dL_law_776 (lv_at hl 2 rfl) ?_
          refine lv_bipush (v := 11) hx hb dL_law_778 (by decide) ?_
          have k_780 : (nI d) = (11 : Int32) := by rw [h11]; rfl
          refine lv_icmp_ne (tgt := 833) hx hb dL_law_780 (by decide) (fun c_780 => absurd k_780 c_780) (fun c_780 => ?_)
          exact law_stall n no g ct la sc cl wt kn sp db ins mv ob od dn lo mli  hl9 hx hb hml hown hts hE hj hIV hP hD hS (lv_sub hl [4, 5, 6, 7, 8, 9, 10, 11, 12, 13, 14, 15, 16] rfl) hk
        · refine lv_iload hx hb dL_law_776 (lv_at hl 2 rfl) ?_
          refine lv_bipush (v := 11) hx hb dL_law_778 (by decide) ?_
          have k_780 : ¬ ((nI d) = (11 : Int32)) := fun z => h11 ((nI_eq (b := 11) (by omega) (by decide)).mp z)
          refine lv_icmp_ne (tgt := 833) hx hb dL_law_780 (by decide) (fun c_780 => ?_) (fun c_780 => absurd c_780 k_780)
          exact law_pass n no g ct la sc cl wt kn sp db ins mv ob od dn lo mli w hl9 hx hb hml hown hts hE hj hIV hP hD hS (lv_sub hl [3, 4, 5, 6, 7, 8, 9, 10, 11, 12, 13, 14, 15, 16] rfl) hk
set_option maxHeartbeats 8000000 in
set_option maxRecDepth 100000 in
theorem law_disp {p : Program} {l : Launch} {e : Env} {s : State} {m : MethodId} {below : List Frame} {meth : Method} {c : Code} {Q : State → Prop} {bs : Nat} {G : GT} {a q : Nat → Nat} {j : Nat} {H : Heap} {locs : List Loc} {ls : Array Slot} (n no g ct la : Nat) (sc cl wt kn sp db ins mv ob od dn lo mli : Nat → Int32) (w : Int32) (d : Nat) (hd : d < 13) (b : Nat) (hbn : b < n)
    (hl9 : l.stackTraces = false) (hx : p.tables.exec = Jvm.exec) (hb : c.code = cL_law) (hml : c.maxLocals = 21) (hown : s.vm.findClass RL = some m.cls) (hts : ∀ w ∈ wsL_law, w.before #[Value.ref bs] s = true) (hE : Ev G s) (hj : j < 60) (hIV : IV j n no g ct la sp mli ob od dn mv ins lo)
    (hP : va_P G.1 vwCl (LW G a q n no g ct la sc cl wt kn sp db ins mv ob od dn lo) H) (hD : va_D (fun q : Nat => s.heap.size ≤ q) (LW G a q n no g ct la sc cl wt kn sp db ins mv ob od dn lo)) (hS : va_S (fun q : Nat => s.heap.size ≤ q) s.heap H locs) (hl : lv_has ls 21 [(17, .int 1), (16, .int (nI b)), (15, .int (nI d)), (14, .int w), (12, .int (nI j)), (0, .ref bs), (1, .ref (a 0)), (2, .ref (q 0)), (3, .ref (q 1)), (4, .ref (q 2)), (5, .ref (q 3)), (6, .ref (q 4)), (7, .int (nI n)), (8, .int (nI no)), (9, .int (nI (cntN dn no))), (10, .int 0), (11, .int (nI ct))]) (hk : LK p l e s m below meth c Q bs G a q j) : W p l e room_1 s m #[Value.ref bs] below meth c H locs 20 311 Q (F0 m 205 ls []) := by
  have hA : ∀ q : Nat, s.heap.size ≤ q → (fun q : Nat => s.heap.size ≤ q) q := fun _ h => h
  obtain ⟨hn, hno, hg, hct, hla, hR, hO, hV, hI, hOP⟩ := id hIV
  have hP : va_P G.1 vwCl [wcA a (nI ct), wcS a (nI n), wcI G (a 2) 6 sc, wcI G (a 3) 20 cl, wcI G (a 4) 20 wt, wcI G (a 5) 20 kn, wcI G (a 6) 20 sp, wcR a (nI g) (nI g) 0 0, wcZ G (a 8) 7 db, wcZ G (a 9) 4 ins, wcI G (a 10) 6 mv, wcO a (nI no) (nI la), wcI G (a 12) 30 ob, wcI G (a 13) 30 od, wcZ G (a 14) 30 dn, wcI G (q 0) 20 cl, wcI G (q 1) 20 wt, wcI G (q 2) 6 sc, wcI G (q 3) 20 lo, wcI G (q 4) 30 ob] H := hP
  have hD : va_D (fun q : Nat => s.heap.size ≤ q) [wcA a (nI ct), wcS a (nI n), wcI G (a 2) 6 sc, wcI G (a 3) 20 cl, wcI G (a 4) 20 wt, wcI G (a 5) 20 kn, wcI G (a 6) 20 sp, wcR a (nI g) (nI g) 0 0, wcZ G (a 8) 7 db, wcZ G (a 9) 4 ins, wcI G (a 10) 6 mv, wcO a (nI no) (nI la), wcI G (a 12) 30 ob, wcI G (a 13) 30 od, wcZ G (a 14) 30 dn, wcI G (q 0) 20 cl, wcI G (q 1) 20 wt, wcI G (q 2) 6 sc, wcI G (q 3) 20 lo, wcI G (q 4) 30 ob] := hD
  by_cases h4 : d < 4
  · refine lv_iload hx hb dL_law_205 (lv_at hl 2 rfl) ?_
    refine lv_iconst (v := 4) hx hb dL_law_207 (by decide) ?_
    have k_208 : ¬ ((4 : Int32) ≤ (nI d)) := nI_ge (b := 4) h4 (by decide)
    refine lv_icmp_ge (tgt := 292) hx hb dL_law_208 (by decide) (fun c_208 => absurd c_208 k_208) (fun c_208 => ?_)
    exact law_lay n no g ct la sc cl wt kn sp db ins mv ob od dn lo mli b hbn hl9 hx hb hml hown hts hE hj hIV hP hD hS (lv_sub hl [1, 4, 5, 6, 7, 8, 9, 10, 11, 12, 13, 14, 15, 16] rfl) hk
  · refine lv_iload hx hb dL_law_205 (lv_at hl 2 rfl) ?_
    refine lv_iconst (v := 4) hx hb dL_law_207 (by decide) ?_
    have k_208 : (4 : Int32) ≤ (nI d) := nI_le (a := 4) (by omega) (by omega)
    refine lv_icmp_ge (tgt := 292) hx hb dL_law_208 (by decide) (fun c_208 => ?_) (fun c_208 => absurd k_208 c_208)
    by_cases h4e : d = 4
    · refine lv_iload hx hb dL_law_292 (lv_at hl 2 rfl) ?_
      refine lv_iconst (v := 4) hx hb dL_law_294 (by decide) ?_
      have k_295 : (nI d) = (4 : Int32) := by rw [h4e]; rfl
      refine lv_icmp_ne (tgt := 361) hx hb dL_law_295 (by decide) (fun c_295 => absurd k_295 c_295) (fun c_295 => ?_)
      exact law_setClimate n no g ct la sc cl wt kn sp db ins mv ob od dn lo mli w hl9 hx hb hml hown hts hE hj hIV hP hD hS (lv_sub hl [3, 4, 5, 6, 7, 8, 9, 10, 11, 12, 13, 14, 15, 16] rfl) hk
    · refine lv_iload hx hb dL_law_292 (lv_at hl 2 rfl) ?_
      refine lv_iconst (v := 4) hx hb dL_law_294 (by decide) ?_
      have k_295 : ¬ ((nI d) = (4 : Int32)) := fun z => h4e ((nI_eq (b := 4) (by omega) (by decide)).mp z)
      refine lv_icmp_ne (tgt := 361) hx hb dL_law_295 (by decide) (fun c_295 => ?_) (fun c_295 => absurd c_295 k_295)
      by_cases h7 : d < 7
      · refine lv_iload hx hb dL_law_361 (lv_at hl 2 rfl) ?_
        refine lv_bipush (v := 7) hx hb dL_law_363 (by decide) ?_
        have k_365 : ¬ ((7 : Int32) ≤ (nI d)) := nI_ge (b := 7) h7 (by decide)
        refine lv_icmp_ge (tgt := 433) hx hb dL_law_365 (by decide) (fun c_365 => absurd c_365 k_365) (fun c_365 => ?_)
        by_cases h30 : no < 30
        · refine lv_iload hx hb dL_law_368 (lv_at hl 13 rfl) ?_
          refine lv_bipush (v := 30) hx hb dL_law_370 (by decide) ?_
          have k_372 : ¬ ((30 : Int32) ≤ (nI no)) := nI_ge (b := 30) h30 (by decide)
          refine lv_icmp_ge (tgt := 433) hx hb dL_law_372 (by decide) (fun c_372 => absurd c_372 k_372) (fun c_372 => ?_)
          refine lv_aload hx hb dL_law_375 (lv_at hl 10 rfl) ?_
          refine lv_iload hx hb dL_law_377 (lv_at hl 1 rfl) ?_
          refine va_iald hx hb hE.1 hP 18 0 rfl rfl (vp_in_nI (n := b) (by omega) (by decide)) dL_law_379 ?_
          refine k_top (y := lo b) (congrArg lo (nI_clamp (by omega))) ?_
          refine lv_if_ne (tgt := 433) hx hb dL_law_380 (by decide) (fun c_380 => ?_) (fun c_380 => ?_)
          · exact law_disp2 n no g ct la sc cl wt kn sp db ins mv ob od dn lo mli w d hd b hbn hl9 hx hb hml hown hts hE hj hIV hP hD hS (lv_sub hl [0, 1, 2, 3, 4, 5, 6, 7, 8, 9, 10, 11, 12, 13, 14, 15, 16] rfl) hk
          · exact law_order n no g ct la sc cl wt kn sp db ins mv ob od dn lo mli w b hbn h30 c_380 hl9 hx hb hml hown hts hE hj hIV hP hD hS (lv_sub hl [3, 1, 4, 5, 6, 7, 8, 9, 10, 11, 12, 13, 14, 15, 16] rfl) hk
        · refine lv_iload hx hb dL_law_368 (lv_at hl 13 rfl) ?_
          refine lv_bipush (v := 30) hx hb dL_law_370 (by decide) ?_
          have k_372 : (30 : Int32) ≤ (nI no) := nI_le (a := 30) (by omega) (by omega)
          refine lv_icmp_ge (tgt := 433) hx hb dL_law_372 (by decide) (fun c_372 => ?_) (fun c_372 => absurd k_372 c_372)
          exact law_disp2 n no g ct la sc cl wt kn sp db ins mv ob od dn lo mli w d hd b hbn hl9 hx hb hml hown hts hE hj hIV hP hD hS (lv_sub hl [0, 1, 2, 3, 4, 5, 6, 7, 8, 9, 10, 11, 12, 13, 14, 15, 16] rfl) hk
      · refine lv_iload hx hb dL_law_361 (lv_at hl 2 rfl) ?_
        refine lv_bipush (v := 7) hx hb dL_law_363 (by decide) ?_
        have k_365 : (7 : Int32) ≤ (nI d) := nI_le (a := 7) (by omega) (by omega)
        refine lv_icmp_ge (tgt := 433) hx hb dL_law_365 (by decide) (fun c_365 => ?_) (fun c_365 => absurd k_365 c_365)
        exact law_disp2 n no g ct la sc cl wt kn sp db ins mv ob od dn lo mli w d hd b hbn hl9 hx hb hml hown hts hE hj hIV hP hD hS (lv_sub hl [0, 1, 2, 3, 4, 5, 6, 7, 8, 9, 10, 11, 12, 13, 14, 15, 16] rfl) hk
set_option maxHeartbeats 8000000 in
set_option maxRecDepth 100000 in
theorem law_turn {p : Program} {l : Launch} {e : Env} {s : State} {m : MethodId} {below : List Frame} {meth : Method} {c : Code} {Q : State → Prop} {bs : Nat} {G : GT} {a q : Nat → Nat} {j : Nat} {H : Heap} {locs : List Loc} {ls : Array Slot} (n no g ct la : Nat) (sc cl wt kn sp db ins mv ob od dn lo mli : Nat → Int32) {len : Nat} {xs : Nat → Int32} (hX : va_X bs len xs s s.heap) (hbl : bs < s.heap.size) (hlen : len ≤ 260)
    (hl9 : l.stackTraces = false) (hx : p.tables.exec = Jvm.exec) (hb : c.code = cL_law) (hml : c.maxLocals = 21) (hown : s.vm.findClass RL = some m.cls) (hts : ∀ w ∈ wsL_law, w.before #[Value.ref bs] s = true) (hE : Ev G s) (hj : j < 60) (hIV : IV j n no g ct la sp mli ob od dn mv ins lo)
    (hP : va_P G.1 vwCl (LW G a q n no g ct la sc cl wt kn sp db ins mv ob od dn lo) H) (hD : va_D (fun q : Nat => s.heap.size ≤ q) (LW G a q n no g ct la sc cl wt kn sp db ins mv ob od dn lo)) (hS : va_S (fun q : Nat => s.heap.size ≤ q) s.heap H locs) (hl : lv_has ls 21 [(12, .int (nI j)), (0, .ref bs), (1, .ref (a 0)), (2, .ref (q 0)), (3, .ref (q 1)), (4, .ref (q 2)), (5, .ref (q 3)), (6, .ref (q 4)), (7, .int (nI n)), (8, .int (nI no)), (9, .int (nI (cntN dn no))), (10, .int 0), (11, .int (nI ct))]) (hk : LK p l e s m below meth c Q bs G a q j) : W p l e room_1 s m #[Value.ref bs] below meth c H locs 20 311 Q (F0 m 61 ls []) := by
  have hA : ∀ q : Nat, s.heap.size ≤ q → (fun q : Nat => s.heap.size ≤ q) q := fun _ h => h
  obtain ⟨hn, hno, hg, hct, hla, hR, hO, hV, hI, hOP⟩ := id hIV
  have hP : va_P G.1 vwCl [wcA a (nI ct), wcS a (nI n), wcI G (a 2) 6 sc, wcI G (a 3) 20 cl, wcI G (a 4) 20 wt, wcI G (a 5) 20 kn, wcI G (a 6) 20 sp, wcR a (nI g) (nI g) 0 0, wcZ G (a 8) 7 db, wcZ G (a 9) 4 ins, wcI G (a 10) 6 mv, wcO a (nI no) (nI la), wcI G (a 12) 30 ob, wcI G (a 13) 30 od, wcZ G (a 14) 30 dn, wcI G (q 0) 20 cl, wcI G (q 1) 20 wt, wcI G (q 2) 6 sc, wcI G (q 3) 20 lo, wcI G (q 4) 30 ob] H := hP
  have hD : va_D (fun q : Nat => s.heap.size ≤ q) [wcA a (nI ct), wcS a (nI n), wcI G (a 2) 6 sc, wcI G (a 3) 20 cl, wcI G (a 4) 20 wt, wcI G (a 5) 20 kn, wcI G (a 6) 20 sp, wcR a (nI g) (nI g) 0 0, wcZ G (a 8) 7 db, wcZ G (a 9) 4 ins, wcI G (a 10) 6 mv, wcO a (nI no) (nI la), wcI G (a 12) 30 ob, wcI G (a 13) 30 od, wcZ G (a 14) 30 dn, wcI G (q 0) 20 cl, wcI G (q 1) 20 wt, wcI G (q 2) 6 sc, wcI G (q 3) 20 lo, wcI G (q 4) 30 ob] := hD
  have hbA : ¬ (fun q : Nat => s.heap.size ≤ q) bs := Nat.not_le.mpr hbl
  refine lv_aload_n hx hb dL_law_61 rfl (lv_at hl 1 rfl) ?_
  refine lv_iconst (v := 2) hx hb dL_law_62 (by decide) ?_
  refine lv_iload hx hb dL_law_63 (lv_at hl 0 rfl) ?_
  refine lv_imul hx hb dL_law_65 ?_
  refine k_top (y := nI (2 * j)) (pk_mul 2 j) ?_
  refine k_pe (va_runS (As := [.ref bs, .int (nI (2 * j))]) (rest := []) ⟨hx, hb, hml, hown, hts⟩ (c_L_cell l G bs (2 * j) len xs H.size hlen (by omega)) (va_cwS 2 hts gL_law_L_cell rfl rfl rfl ⟨by decide +kernel, by decide +kernel, by decide +kernel⟩ ⟨Nat.le_of_ble_eq_true rfl, Nat.le_of_ble_eq_true rfl⟩) ⟨GPX.blind, GPX.go hE hX hbl hbA hP hD hS hA [.ref bs, .int (nI (2 * j))]⟩ rfl rfl hl.1 rfl (lv_room (Nat.le_of_ble_eq_true rfl)) dL_law_66 ⟨Nat.le_of_ble_eq_true rfl, Nat.le_of_ble_eq_true rfl⟩) (fun v => ?_)
  refine lv_istore (lv' := [(13, .int v), (12, .int (nI j)), (0, .ref bs), (1, .ref (a 0)), (2, .ref (q 0)), (3, .ref (q 1)), (4, .ref (q 2)), (5, .ref (q 3)), (6, .ref (q 4)), (7, .int (nI n)), (8, .int (nI no)), (9, .int (nI (cntN dn no))), (10, .int 0), (11, .int (nI ct))]) hx hb dL_law_69 hl (by decide) rfl (fun ls hl => ?_)
  refine lv_aload_n hx hb dL_law_71 rfl (lv_at hl 2 rfl) ?_
  refine lv_iconst (v := 2) hx hb dL_law_72 (by decide) ?_
  refine lv_iload hx hb dL_law_73 (lv_at hl 1 rfl) ?_
  refine lv_imul hx hb dL_law_75 ?_
  refine k_top (y := nI (2 * j)) (pk_mul 2 j) ?_
  refine lv_iconst (v := 1) hx hb dL_law_76 (by decide) ?_
  refine lv_iadd hx hb dL_law_77 ?_
  refine k_top (y := nI (2 * j + 1)) (nI_1 _) ?_
  refine k_pe (va_runS (As := [.ref bs, .int (nI (2 * j + 1))]) (rest := []) ⟨hx, hb, hml, hown, hts⟩ (c_L_cell l G bs (2 * j + 1) len xs H.size hlen (by omega)) (va_cwS 2 hts gL_law_L_cell rfl rfl rfl ⟨by decide +kernel, by decide +kernel, by decide +kernel⟩ ⟨Nat.le_of_ble_eq_true rfl, Nat.le_of_ble_eq_true rfl⟩) ⟨GPX.blind, GPX.go hE hX hbl hbA hP hD hS hA [.ref bs, .int (nI (2 * j + 1))]⟩ rfl rfl hl.1 rfl (lv_room (Nat.le_of_ble_eq_true rfl)) dL_law_78 ⟨Nat.le_of_ble_eq_true rfl, Nat.le_of_ble_eq_true rfl⟩) (fun w => ?_)
  refine lv_istore (lv' := [(14, .int w), (13, .int v), (12, .int (nI j)), (0, .ref bs), (1, .ref (a 0)), (2, .ref (q 0)), (3, .ref (q 1)), (4, .ref (q 2)), (5, .ref (q 3)), (6, .ref (q 4)), (7, .int (nI n)), (8, .int (nI no)), (9, .int (nI (cntN dn no))), (10, .int 0), (11, .int (nI ct))]) hx hb dL_law_81 hl (by decide) rfl (fun ls hl => ?_)
  refine lv_iload hx hb dL_law_83 (lv_at hl 1 rfl) ?_
  refine lv_bipush (v := 13) hx hb dL_law_85 (by decide) ?_
  refine k_pl (va_runS (As := [.int v, .int 13]) (rest := []) ⟨hx, hb, hml, hown, hts⟩ (c_L_low l G H.size v 13 13 rfl (by decide) (by decide)) (va_cwS 2 hts gL_law_L_low rfl rfl rfl ⟨by decide +kernel, by decide +kernel, by decide +kernel⟩ ⟨Nat.le_of_ble_eq_true rfl, Nat.le_of_ble_eq_true rfl⟩) ⟨GP.blind, GP.go (wc := []) hE hP hD hS hA [] rfl (by decide) [.int v, .int 13]⟩ rfl rfl hl.1 rfl (lv_room (Nat.le_of_ble_eq_true rfl)) dL_law_87 ⟨Nat.le_of_ble_eq_true rfl, Nat.le_of_ble_eq_true rfl⟩) (fun d hd => ?_)
  refine lv_istore (lv' := [(15, .int (nI d)), (14, .int w), (13, .int v), (12, .int (nI j)), (0, .ref bs), (1, .ref (a 0)), (2, .ref (q 0)), (3, .ref (q 1)), (4, .ref (q 2)), (5, .ref (q 3)), (6, .ref (q 4)), (7, .int (nI n)), (8, .int (nI no)), (9, .int (nI (cntN dn no))), (10, .int 0), (11, .int (nI ct))]) hx hb dL_law_90 hl (by decide) rfl (fun ls hl => ?_)
  rcases Nat.eq_zero_or_pos n with hn0 | hn0
  · refine lv_iload hx hb dL_law_92 (lv_at hl 11 rfl) ?_
    have k_94 : (nI n) = (0 : Int32) := by rw [hn0]; rfl
    refine lv_if_ne (tgt := 101) hx hb dL_law_94 (by decide) (fun c_94 => absurd k_94 c_94) (fun c_94 => ?_)
    refine lv_iconst (v := 0) hx hb dL_law_97 (by decide) ?_
    refine lv_goto (tgt := 108) hx hb dL_law_98 (by decide) ?_
    refine lv_istore (lv' := [(16, .int 0), (15, .int (nI d)), (14, .int w), (13, .int v), (12, .int (nI j)), (0, .ref bs), (1, .ref (a 0)), (2, .ref (q 0)), (3, .ref (q 1)), (4, .ref (q 2)), (5, .ref (q 3)), (6, .ref (q 4)), (7, .int (nI n)), (8, .int (nI no)), (9, .int (nI (cntN dn no))), (10, .int 0), (11, .int (nI ct))]) hx hb dL_law_108 hl (by decide) rfl (fun ls hl => ?_)
    refine lv_iconst (v := 1) hx hb dL_law_110 (by decide) ?_
    refine lv_istore (lv' := [(17, .int 1), (16, .int 0), (15, .int (nI d)), (14, .int w), (13, .int v), (12, .int (nI j)), (0, .ref bs), (1, .ref (a 0)), (2, .ref (q 0)), (3, .ref (q 1)), (4, .ref (q 2)), (5, .ref (q 3)), (6, .ref (q 4)), (7, .int (nI n)), (8, .int (nI no)), (9, .int (nI (cntN dn no))), (10, .int 0), (11, .int (nI ct))]) hx hb dL_law_111 hl (by decide) rfl (fun ls hl => ?_)
    refine lv_iload hx hb dL_law_113 (lv_at hl 13 rfl) ?_
    refine lv_iconst (v := 2) hx hb dL_law_115 (by decide) ?_
    have k_116 : (nI n) < (2 : Int32) := nI_lt (b := 2) (by omega) (by decide)
    refine lv_icmp_lt (tgt := 131) hx hb dL_law_116 (by decide) (fun c_116 => ?_) (fun c_116 => absurd k_116 c_116)
    exact law_addBox n no g ct la sc cl wt kn sp db ins mv ob od dn lo mli w (by omega) hl9 hx hb hml hown hts hE hj hIV hP hD hS (lv_sub hl [3, 5, 6, 7, 8, 9, 10, 11, 12, 13, 14, 15, 16, 17] rfl) hk
  · refine lv_iload hx hb dL_law_92 (lv_at hl 11 rfl) ?_
    have k_94 : ¬ ((nI n) = (0 : Int32)) := nI_ne0 hn0 (by omega)
    refine lv_if_ne (tgt := 101) hx hb dL_law_94 (by decide) (fun c_94 => ?_) (fun c_94 => absurd c_94 k_94)
    refine lv_iload hx hb dL_law_101 (lv_at hl 1 rfl) ?_
    refine lv_iload hx hb dL_law_103 (lv_at hl 11 rfl) ?_
    refine k_pl (va_runS (As := [.int w, .int (nI n)]) (rest := []) ⟨hx, hb, hml, hown, hts⟩ (c_L_low l G H.size w (nI n) n rfl hn0 (by omega)) (va_cwS 2 hts gL_law_L_low rfl rfl rfl ⟨by decide +kernel, by decide +kernel, by decide +kernel⟩ ⟨Nat.le_of_ble_eq_true rfl, Nat.le_of_ble_eq_true rfl⟩) ⟨GP.blind, GP.go (wc := []) hE hP hD hS hA [] rfl (by decide) [.int w, .int (nI n)]⟩ rfl rfl hl.1 rfl (lv_room (Nat.le_of_ble_eq_true rfl)) dL_law_105 ⟨Nat.le_of_ble_eq_true rfl, Nat.le_of_ble_eq_true rfl⟩) (fun b1 hb1 => ?_)
    refine lv_istore (lv' := [(16, .int (nI b1)), (15, .int (nI d)), (14, .int w), (13, .int v), (12, .int (nI j)), (0, .ref bs), (1, .ref (a 0)), (2, .ref (q 0)), (3, .ref (q 1)), (4, .ref (q 2)), (5, .ref (q 3)), (6, .ref (q 4)), (7, .int (nI n)), (8, .int (nI no)), (9, .int (nI (cntN dn no))), (10, .int 0), (11, .int (nI ct))]) hx hb dL_law_108 hl (by decide) rfl (fun ls hl => ?_)
    refine lv_iconst (v := 1) hx hb dL_law_110 (by decide) ?_
    refine lv_istore (lv' := [(17, .int 1), (16, .int (nI b1)), (15, .int (nI d)), (14, .int w), (13, .int v), (12, .int (nI j)), (0, .ref bs), (1, .ref (a 0)), (2, .ref (q 0)), (3, .ref (q 1)), (4, .ref (q 2)), (5, .ref (q 3)), (6, .ref (q 4)), (7, .int (nI n)), (8, .int (nI no)), (9, .int (nI (cntN dn no))), (10, .int 0), (11, .int (nI ct))]) hx hb dL_law_111 hl (by decide) rfl (fun ls hl => ?_)
    by_cases h2 : n < 2
    · refine lv_iload hx hb dL_law_113 (lv_at hl 13 rfl) ?_
      refine lv_iconst (v := 2) hx hb dL_law_115 (by decide) ?_
      have k_116 : (nI n) < (2 : Int32) := nI_lt (b := 2) h2 (by decide)
      refine lv_icmp_lt (tgt := 131) hx hb dL_law_116 (by decide) (fun c_116 => ?_) (fun c_116 => absurd k_116 c_116)
      exact law_addBox n no g ct la sc cl wt kn sp db ins mv ob od dn lo mli w (by omega) hl9 hx hb hml hown hts hE hj hIV hP hD hS (lv_sub hl [3, 5, 6, 7, 8, 9, 10, 11, 12, 13, 14, 15, 16, 17] rfl) hk
    · refine lv_iload hx hb dL_law_113 (lv_at hl 13 rfl) ?_
      refine lv_iconst (v := 2) hx hb dL_law_115 (by decide) ?_
      have k_116 : ¬ ((nI n) < (2 : Int32)) := nI_nlt (a := n) (b := 2) (by omega) (by omega)
      refine lv_icmp_lt (tgt := 131) hx hb dL_law_116 (by decide) (fun c_116 => absurd c_116 k_116) (fun c_116 => ?_)
      by_cases hd0 : d = 0
      · refine lv_iload hx hb dL_law_119 (lv_at hl 2 rfl) ?_
        have k_121 : (nI d) = (0 : Int32) := by rw [hd0]; rfl
        refine lv_if_ne (tgt := 205) hx hb dL_law_121 (by decide) (fun c_121 => absurd k_121 c_121) (fun c_121 => ?_)
        by_cases h20 : n < 20
        · refine lv_iload hx hb dL_law_124 (lv_at hl 13 rfl) ?_
          refine lv_bipush (v := 20) hx hb dL_law_126 (by decide) ?_
          have k_128 : ¬ ((20 : Int32) ≤ (nI n)) := nI_ge (b := 20) h20 (by decide)
          refine lv_icmp_ge (tgt := 205) hx hb dL_law_128 (by decide) (fun c_128 => absurd c_128 k_128) (fun c_128 => ?_)
          exact law_addBox n no g ct la sc cl wt kn sp db ins mv ob od dn lo mli w h20 hl9 hx hb hml hown hts hE hj hIV hP hD hS (lv_sub hl [3, 5, 6, 7, 8, 9, 10, 11, 12, 13, 14, 15, 16, 17] rfl) hk
        · refine lv_iload hx hb dL_law_124 (lv_at hl 13 rfl) ?_
          refine lv_bipush (v := 20) hx hb dL_law_126 (by decide) ?_
          have k_128 : (20 : Int32) ≤ (nI n) := nI_le (a := 20) (by omega) (by omega)
          refine lv_icmp_ge (tgt := 205) hx hb dL_law_128 (by decide) (fun c_128 => ?_) (fun c_128 => absurd k_128 c_128)
          exact law_disp n no g ct la sc cl wt kn sp db ins mv ob od dn lo mli w d hd b1 hb1 hl9 hx hb hml hown hts hE hj hIV hP hD hS (lv_sub hl [0, 1, 2, 3, 5, 6, 7, 8, 9, 10, 11, 12, 13, 14, 15, 16, 17] rfl) hk
      · refine lv_iload hx hb dL_law_119 (lv_at hl 2 rfl) ?_
        have k_121 : ¬ ((nI d) = (0 : Int32)) := nI_ne0 (by omega) (by omega)
        refine lv_if_ne (tgt := 205) hx hb dL_law_121 (by decide) (fun c_121 => ?_) (fun c_121 => absurd c_121 k_121)
        exact law_disp n no g ct la sc cl wt kn sp db ins mv ob od dn lo mli w d hd b1 hb1 hl9 hx hb hml hown hts hE hj hIV hP hD hS (lv_sub hl [0, 1, 2, 3, 5, 6, 7, 8, 9, 10, 11, 12, 13, 14, 15, 16, 17] rfl) hk
set_option maxHeartbeats 8000000 in
set_option maxRecDepth 100000 in
/-- behind a turn: the check, and on to the next -/
theorem law_check {p : Program} {l : Launch} {e : Env} {s : State} {m : MethodId} {below : List Frame} {meth : Method} {c : Code} {Q : State → Prop} {bs : Nat} {G : GT} {a q : Nat → Nat} {j : Nat}
    (hl9 : l.stackTraces = false) (hx : p.tables.exec = Jvm.exec) (hb : c.code = cL_law) (hml : c.maxLocals = 21) (hown : s.vm.findClass RL = some m.cls) (hts : ∀ w ∈ wsL_law, w.before #[Value.ref bs] s = true) (hE : Ev G s) (hj : j < 60)
    (kk : ∀ (n no g ct la : Nat) (sc cl wt kn sp db ins mv ob od dn lo mli : Nat → Int32) (H : Heap) (locs : List Loc) (ls : Array Slot), IV (j + 1) n no g ct la sp mli ob od dn mv ins lo → va_P G.1 vwCl (LW G a q n no g ct la sc cl wt kn sp db ins mv ob od dn lo) H → va_D (fun q : Nat => s.heap.size ≤ q) (LW G a q n no g ct la sc cl wt kn sp db ins mv ob od dn lo) → va_S (fun q : Nat => s.heap.size ≤ q) s.heap H locs → lv_has ls 21 [(12, .int (nI (j + 1))), (0, .ref bs), (1, .ref (a 0)), (2, .ref (q 0)), (3, .ref (q 1)), (4, .ref (q 2)), (5, .ref (q 3)), (6, .ref (q 4)), (7, .int (nI n)), (8, .int (nI no)), (9, .int (nI (cntN dn no))), (10, .int 0), (11, .int (nI ct))] → W p l e room_1 s m #[Value.ref bs] below meth c H locs 20 311 Q (F0 m 54 ls [])) : LK p l e s m below meth c Q bs G a q j := by
  intro n no g ct la sc cl wt kn sp db ins mv ob od dn lo mli H locs ls hIV hP hD hS hl
  have hA : ∀ q : Nat, s.heap.size ≤ q → (fun q : Nat => s.heap.size ≤ q) q := fun _ h => h
  obtain ⟨hn, hno, hg, hct, hla, hR, hO, hV, hI, hOP⟩ := id hIV
  have hP : va_P G.1 vwCl [wcA a (nI ct), wcS a (nI n), wcI G (a 2) 6 sc, wcI G (a 3) 20 cl, wcI G (a 4) 20 wt, wcI G (a 5) 20 kn, wcI G (a 6) 20 sp, wcR a (nI g) (nI g) 0 0, wcZ G (a 8) 7 db, wcZ G (a 9) 4 ins, wcI G (a 10) 6 mv, wcO a (nI no) (nI la), wcI G (a 12) 30 ob, wcI G (a 13) 30 od, wcZ G (a 14) 30 dn, wcI G (q 0) 20 cl, wcI G (q 1) 20 wt, wcI G (q 2) 6 sc, wcI G (q 3) 20 lo, wcI G (q 4) 30 ob] H := hP
  have hD : va_D (fun q : Nat => s.heap.size ≤ q) [wcA a (nI ct), wcS a (nI n), wcI G (a 2) 6 sc, wcI G (a 3) 20 cl, wcI G (a 4) 20 wt, wcI G (a 5) 20 kn, wcI G (a 6) 20 sp, wcR a (nI g) (nI g) 0 0, wcZ G (a 8) 7 db, wcZ G (a 9) 4 ins, wcI G (a 10) 6 mv, wcO a (nI no) (nI la), wcI G (a 12) 30 ob, wcI G (a 13) 30 od, wcZ G (a 14) 30 dn, wcI G (q 0) 20 cl, wcI G (q 1) 20 wt, wcI G (q 2) 6 sc, wcI G (q 3) 20 lo, wcI G (q 4) 30 ob] := hD
  refine lv_iload hx hb dL_law_869 (lv_at hl 0 rfl) ?_
  have k_871 : ¬ ((1 : Int32) = (0 : Int32)) := by decide
  refine lv_if_eq (tgt := 896) hx hb dL_law_871 (by decide) (fun c_871 => absurd c_871 k_871) (fun c_871 => ?_)
  refine lv_aload_n hx hb dL_law_874 rfl (lv_at hl 3 rfl) ?_
  refine lv_aload_n hx hb dL_law_875 rfl (lv_at hl 4 rfl) ?_
  refine lv_aload_n hx hb dL_law_876 rfl (lv_at hl 5 rfl) ?_
  refine lv_aload hx hb dL_law_877 (lv_at hl 6 rfl) ?_
  refine lv_iload hx hb dL_law_879 (lv_at hl 9 rfl) ?_
  refine k_p (rv := some (.int 1)) (va_runS (As := [.ref (a 0), .ref (q 0), .ref (q 1), .ref (q 2), .int (nI n)]) (rest := []) ⟨hx, hb, hml, hown, hts⟩ (c_L_areBoxes l hl9 G a q H.size (nI ct) n sc cl wt sp mli hn hR) (va_cwS 5 hts gL_law_L_areBoxes rfl rfl rfl ⟨by decide +kernel, by decide +kernel, by decide +kernel⟩ ⟨Nat.le_of_ble_eq_true rfl, Nat.le_of_ble_eq_true rfl⟩) ⟨GP.blind, GP.go (wc := [wcA a (nI ct), wcS a (nI n), wcI G (a 2) 6 sc, wcI G (a 3) 20 cl, wcI G (a 4) 20 wt, wcI G (a 6) 20 sp, wcI G (q 0) 20 cl, wcI G (q 1) 20 wt, wcI G (q 2) 6 sc]) hE hP hD hS hA [0, 1, 2, 3, 4, 6, 15, 16, 17] rfl (by decide) [.ref (a 0), .ref (q 0), .ref (q 1), .ref (q 2), .int (nI n)]⟩ rfl rfl hl.1 rfl (lv_room (Nat.le_of_ble_eq_true rfl)) dL_law_881 ⟨Nat.le_of_ble_eq_true rfl, Nat.le_of_ble_eq_true rfl⟩) ?_
  have k_884 : ¬ ((1 : Int32) = (0 : Int32)) := by decide
  refine lv_if_eq (tgt := 896) hx hb dL_law_884 (by decide) (fun c_884 => absurd c_884 k_884) (fun c_884 => ?_)
  refine lv_aload_n hx hb dL_law_887 rfl (lv_at hl 3 rfl) ?_
  refine lv_iload hx hb dL_law_888 (lv_at hl 11 rfl) ?_
  refine k_p (rv := some (.int 1)) (va_runS (As := [.ref (a 0), .int (nI (cntN dn no))]) (rest := []) ⟨hx, hb, hml, hown, hts⟩ (c_L_isOpen l hl9 G a H.size (nI ct) 0 0 (nI la) n no g ct sp mli mv ob od dn hn hno hg (by omega) hR hO hV) (va_cwS 2 hts gL_law_L_isOpen rfl rfl rfl ⟨by decide +kernel, by decide +kernel, by decide +kernel⟩ ⟨Nat.le_of_ble_eq_true rfl, Nat.le_of_ble_eq_true rfl⟩) ⟨GP.blind, GP.go (wc := [wcA a (nI ct), wcS a (nI n), wcI G (a 6) 20 sp, wcR a (nI g) (nI g) 0 0, wcI G (a 10) 6 mv, wcO a (nI no) (nI la), wcI G (a 12) 30 ob, wcI G (a 13) 30 od, wcZ G (a 14) 30 dn]) hE hP hD hS hA [0, 1, 6, 7, 10, 11, 12, 13, 14] rfl (by decide) [.ref (a 0), .int (nI (cntN dn no))]⟩ rfl rfl hl.1 rfl (lv_room (Nat.le_of_ble_eq_true rfl)) dL_law_890 ⟨Nat.le_of_ble_eq_true rfl, Nat.le_of_ble_eq_true rfl⟩) ?_
  have k_893 : ¬ ((1 : Int32) = (0 : Int32)) := by decide
  refine lv_if_ne (tgt := 898) hx hb dL_law_893 (by decide) (fun c_893 => ?_) (fun c_893 => absurd c_893 k_893)
  refine lv_iinc (v := nI (j + 1)) (lv' := [(12, .int (nI (j + 1))), (17, .int 1), (0, .ref bs), (1, .ref (a 0)), (2, .ref (q 0)), (3, .ref (q 1)), (4, .ref (q 2)), (5, .ref (q 3)), (6, .ref (q 4)), (7, .int (nI n)), (8, .int (nI no)), (9, .int (nI (cntN dn no))), (10, .int 0), (11, .int (nI ct))]) hx hb dL_law_898 hl (k := 1) rfl (inc1 _) (by decide) rfl (fun ls hl => ?_)
  refine lv_goto (tgt := 54) hx hb dL_law_901 (by decide) ?_
  exact kk n no g ct la sc cl wt kn sp db ins mv ob od dn lo mli H _ ls hIV hP hD hS (lv_sub hl [0, 2, 3, 4, 5, 6, 7, 8, 9, 10, 11, 12, 13] rfl)
